/-! 56.kX7 (by gen_safe.py) -/
set_option maxHeartbeats 4000000 in
theorem k_X7_hasPlace {ad : List Nat} {h : hp} (L : Lay TLx ad h) {δ0 : dp} {N : Nat} (hN : 10000000 ≤ N) {a0 : Nat} (k_a0 : q_K h.1 a0 = 7) {δ : dp} (I : CI ad h.1 δ0 δ) : ok (D_X7_hasPlace N h.1 a0 δ) (fun r => r.2 = δ ∧ bo (r.1) ∧ ((r.1).toInt = 0 ∨ (q_I δ 7 1 a0).toInt + 20 ≤ 500) ∧ ((r.1).toInt = 1 ∨ 500 < (q_I δ 7 1 a0).toInt + 20)) := by
  unfold D_X7_hasPlace
  have f1 := cb_7_1 I k_a0
  first | (have q3 := te_addc (c := 20) (n := 20) rfl (q_I δ 7 1 a0) (by omega) (by omega); obtain ⟨f4, f5, f6⟩ := q3) | (obtain ⟨q3, f4, f5, f6⟩ := ti_addc (c := 20) (n := 20) rfl (q_I δ 7 1 a0))
  refine ok_ite (fun h7 => ?_) (fun h7 => ?_)
  · have c8 : (500 : Int) < ((q_I δ 7 1 a0) + (20 : Int32)).toInt := o_lt h7
    unfold J_X7_hasPlace_18
    refine ok_gp (by decide) ?_
    exact ok_some (show δ = δ ∧ bo ((0 : Int32)) ∧ ((0 : Int) = 0 ∨ (q_I δ 7 1 a0).toInt + 20 ≤ 500) ∧ ((0 : Int) = 1 ∨ 500 < (q_I δ 7 1 a0).toInt + 20) from ⟨rfl, bo_0, by first | assumption | omega, by first | assumption | omega⟩)
  · have c9 : ((q_I δ 7 1 a0) + (20 : Int32)).toInt ≤ (500 : Int) := o_nlt h7
    unfold J_X7_hasPlace_18
    refine ok_gp (by decide) ?_
    exact ok_some (show δ = δ ∧ bo ((1 : Int32)) ∧ ((1 : Int) = 0 ∨ (q_I δ 7 1 a0).toInt + 20 ≤ 500) ∧ ((1 : Int) = 1 ∨ 500 < (q_I δ 7 1 a0).toInt + 20) from ⟨rfl, bo_1, by first | assumption | omega, by first | assumption | omega⟩)
set_option maxHeartbeats 4000000 in
theorem k_X7_open {ad : List Nat} {h : hp} (L : Lay TLx ad h) {δ0 : dp} {N : Nat} (hN : 10000000 ≤ N) {a0 : Nat} {x1 : Int32} (k_a0 : q_K h.1 a0 = 7) {δ : dp} (z0 : 0 ≤ (x1).toInt) (z1 : (x1).toInt ≤ 500) (I : CI ad h.1 δ0 δ) : ok (D_X7_open N h.1 a0 x1 δ) (fun r => CI ad h.1 δ0 r ∧ (kp [(7, 1), (7, 2), (7, 3), (7, 4), (7, 5)] δ r ∧ q_V r = q_V δ ∧ q_R r = q_R δ) ∧ (q_I r 7 5 a0).toInt = 0 ∧ (q_I r 7 1 a0).toInt = 0) := by
  unfold D_X7_open
  have f1 := ti_b x1
  refine ok_bdv (fun d2 e3 => ?_)
  have i4 : CI ad h.1 δ0 d2 := by rw [e3]; exact cs_7_1 L I k_a0 (show 0 ≤ (0 : Int) by omega) (show (0 : Int) ≤ 500 by omega)
  have u5 := kp_I kp_r e3
  have v6 : q_V d2 = q_V δ := ((show q_V d2 = q_V δ by rw [e3]; rfl)).trans rfl
  have v7 : q_R d2 = q_R δ := ((show q_R d2 = q_R δ by rw [e3]; rfl)).trans rfl
  refine ok_bdv (fun d8 e9 => ?_)
  have i10 : CI ad h.1 δ0 d8 := by rw [e9]; exact cs_7_2 L i4 k_a0 (show 0 ≤ x1.toInt by omega) (show x1.toInt ≤ 500 by omega)
  have u11 := kp_I u5 e9
  have v12 : q_V d8 = q_V δ := ((show q_V d8 = q_V d2 by rw [e9]; rfl)).trans v6
  have v13 : q_R d8 = q_R δ := ((show q_R d8 = q_R d2 by rw [e9]; rfl)).trans v7
  refine ok_bdv (fun d14 e15 => ?_)
  have i16 : CI ad h.1 δ0 d14 := by rw [e15]; exact cs_7_3 L i10 k_a0 (show 0 ≤ (0 : Int) by omega) (show (0 : Int) ≤ 500 by omega)
  have u17 := kp_I u11 e15
  have v18 : q_V d14 = q_V δ := ((show q_V d14 = q_V d8 by rw [e15]; rfl)).trans v12
  have v19 : q_R d14 = q_R δ := ((show q_R d14 = q_R d8 by rw [e15]; rfl)).trans v13
  refine ok_bdv (fun d20 e21 => ?_)
  have i22 : CI ad h.1 δ0 d20 := by rw [e21]; exact cs_7_4 L i16 k_a0 (show 0 ≤ (0 : Int) by omega) (show (0 : Int) ≤ 500 by omega)
  have u23 := kp_I u17 e21
  have v24 : q_V d20 = q_V δ := ((show q_V d20 = q_V d14 by rw [e21]; rfl)).trans v18
  have v25 : q_R d20 = q_R δ := ((show q_R d20 = q_R d14 by rw [e21]; rfl)).trans v19
  refine ok_bdv (fun d26 e27 => ?_)
  have i28 : CI ad h.1 δ0 d26 := by rw [e27]; exact cs_7_5 L i22
  have u29 := kp_I u23 e27
  have v30 : q_V d26 = q_V δ := ((show q_V d26 = q_V d20 by rw [e27]; rfl)).trans v24
  have v31 : q_R d26 = q_R δ := ((show q_R d26 = q_R d20 by rw [e27]; rfl)).trans v25
  have f32 := ti_b (q_I d26 7 5 a0)
  have f33 : (q_I d26 7 5 a0).toInt = (0 : Int) := congrArg Int32.toInt (show q_I d26 7 5 a0 = (0 : Int32) by rw [e27]; exact rI_s)
  have f34 := cb_7_1 i28 k_a0
  have f35 : (q_I d26 7 1 a0).toInt = (q_I d20 7 1 a0).toInt := congrArg Int32.toInt (by rw [e27]; exact rI_o (by decide))
  have f36 := cb_7_1 i22 k_a0
  have f37 : (q_I d20 7 1 a0).toInt = (q_I d14 7 1 a0).toInt := congrArg Int32.toInt (by rw [e21]; exact rI_o (by decide))
  have f38 := cb_7_1 i16 k_a0
  have f39 : (q_I d14 7 1 a0).toInt = (q_I d8 7 1 a0).toInt := congrArg Int32.toInt (by rw [e15]; exact rI_o (by decide))
  have f40 := cb_7_1 i10 k_a0
  have f41 : (q_I d8 7 1 a0).toInt = (q_I d2 7 1 a0).toInt := congrArg Int32.toInt (by rw [e9]; exact rI_o (by decide))
  have f42 := cb_7_1 i4 k_a0
  have f43 : (q_I d2 7 1 a0).toInt = (0 : Int) := congrArg Int32.toInt (show q_I d2 7 1 a0 = (0 : Int32) by rw [e3]; exact rI_s)
  exact ok_some (show CI ad h.1 δ0 d26 ∧ (kp [(7, 1), (7, 2), (7, 3), (7, 4), (7, 5)] δ d26 ∧ q_V d26 = q_V δ ∧ q_R d26 = q_R δ) ∧ (q_I d26 7 5 a0).toInt = 0 ∧ (q_I d26 7 1 a0).toInt = 0 from ⟨i28, ⟨kp_w (by decide) u29, v30, v31⟩, by first | assumption | omega, by first | assumption | omega⟩)
set_option maxHeartbeats 4000000 in
theorem k_X7_isSound {ad : List Nat} {h : hp} (L : Lay TLx ad h) {δ0 : dp} {N : Nat} (hN : 10000000 ≤ N) {a0 : Nat} (k_a0 : q_K h.1 a0 = 7) {δ : dp} (I : CI ad h.1 δ0 δ) : ok (D_X7_isSound N h.1 a0 δ) (fun r => r.2 = δ ∧ bo (r.1) ∧ ((r.1).toInt = 1 → (q_I δ 7 5 a0).toInt = 0) ∧ ((r.1).toInt = 0 → (q_I δ 7 5 a0).toInt ≠ 0)) := by
  unfold D_X7_isSound
  have f1 := ti_b (q_I δ 7 5 a0)
  refine ok_ite (fun h2 => ?_) (fun h2 => ?_)
  · have c3 : (q_I δ 7 5 a0).toInt = (0 : Int) := o_eq h2
    unfold J_X7_isSound_12
    refine ok_gp (by decide) ?_
    exact ok_some (show δ = δ ∧ bo ((1 : Int32)) ∧ ((1 : Int) = 1 → (q_I δ 7 5 a0).toInt = 0) ∧ ((1 : Int) = 0 → (q_I δ 7 5 a0).toInt ≠ 0) from ⟨rfl, bo_1, by first | assumption | omega, by first | assumption | omega⟩)
  · have c4 : (q_I δ 7 5 a0).toInt ≠ (0 : Int) := o_ne h2
    unfold J_X7_isSound_12
    refine ok_gp (by decide) ?_
    exact ok_some (show δ = δ ∧ bo ((0 : Int32)) ∧ ((0 : Int) = 1 → (q_I δ 7 5 a0).toInt = 0) ∧ ((0 : Int) = 0 → (q_I δ 7 5 a0).toInt ≠ 0) from ⟨rfl, bo_0, by first | assumption | omega, by first | assumption | omega⟩)
set_option maxHeartbeats 4000000 in
theorem k_X7_refuse {ad : List Nat} {h : hp} (L : Lay TLx ad h) {δ0 : dp} {N : Nat} (hN : 10000000 ≤ N) {a0 : Nat} {x1 : Int32} (k_a0 : q_K h.1 a0 = 7) {δ : dp} (z0 : (x1).toInt ≠ 0) (I : CI ad h.1 δ0 δ) : ok (D_X7_refuse N h.1 a0 x1 δ) (fun r => CI ad h.1 δ0 r ∧ (kp [(7, 5), (7, 6)] δ r ∧ q_V r = q_V δ ∧ q_R r = q_R δ) ∧ (q_I r 7 5 a0).toInt ≠ 0) := by
  unfold D_X7_refuse
  have f1 := ti_b x1
  have f2 := ti_b (q_I δ 7 5 a0)
  refine ok_ite (fun h3 => ?_) (fun h3 => ?_)
  · have c4 : (q_I δ 7 5 a0).toInt = (0 : Int) := o_eq h3
    refine ok_bdv (fun d5 e6 => ?_)
    have i7 : CI ad h.1 δ0 d5 := by rw [e6]; exact cs_7_5 L I
    have u8 := kp_I kp_r e6
    have v9 : q_V d5 = q_V δ := ((show q_V d5 = q_V δ by rw [e6]; rfl)).trans rfl
    have v10 : q_R d5 = q_R δ := ((show q_R d5 = q_R δ by rw [e6]; rfl)).trans rfl
    have f14 := cb_7_4 i7 k_a0
    have f15 : (q_I d5 7 4 a0).toInt = (q_I δ 7 4 a0).toInt := congrArg Int32.toInt (by rw [e6]; exact rI_o (by decide))
    have f16 := cb_7_4 I k_a0
    refine ok_bdv (fun d11 e12 => ?_)
    have i13 : CI ad h.1 δ0 d11 := by rw [e12]; exact cs_7_6 L i7
    have u17 := kp_I u8 e12
    have v18 : q_V d11 = q_V δ := ((show q_V d11 = q_V d5 by rw [e12]; rfl)).trans v9
    have v19 : q_R d11 = q_R δ := ((show q_R d11 = q_R d5 by rw [e12]; rfl)).trans v10
    unfold J_X7_refuse_20
    have f20 := ti_b (q_I d11 7 5 a0)
    have f21 : (q_I d11 7 5 a0).toInt = (q_I d5 7 5 a0).toInt := congrArg Int32.toInt (by rw [e12]; exact rI_o (by decide))
    have f22 := ti_b (q_I d5 7 5 a0)
    have f23 : (q_I d5 7 5 a0).toInt = x1.toInt := congrArg Int32.toInt (show q_I d5 7 5 a0 = x1 by rw [e6]; exact rI_s)
    exact ok_some (show CI ad h.1 δ0 d11 ∧ (kp [(7, 5), (7, 6)] δ d11 ∧ q_V d11 = q_V δ ∧ q_R d11 = q_R δ) ∧ (q_I d11 7 5 a0).toInt ≠ 0 from ⟨i13, ⟨kp_w (by decide) u17, v18, v19⟩, by first | assumption | omega⟩)
  · have c24 : (q_I δ 7 5 a0).toInt ≠ (0 : Int) := o_ne h3
    unfold J_X7_refuse_20
    exact ok_some (show CI ad h.1 δ0 δ ∧ (kp [(7, 5), (7, 6)] δ δ ∧ q_V δ = q_V δ ∧ q_R δ = q_R δ) ∧ (q_I δ 7 5 a0).toInt ≠ 0 from ⟨I, ⟨kp_w (by decide) kp_r, rfl, rfl⟩, by first | assumption | omega⟩)
set_option maxHeartbeats 4000000 in
theorem kl_X7_ahead_0 {ad : List Nat} {h : hp} (L : Lay TLx ad h) {δ0 : dp} {N : Nat} (hN : 10000000 ≤ N) {a0 : Nat} (k_a0 : q_K h.1 a0 = 7) : ∀ (n : Nat) (δ : dp), CI ad h.1 δ0 δ → 501 - (q_I δ 7 3 a0).toInt < (n : Int) → ok (L_X7_ahead_0 N h.1 a0 n δ) (fun r => CI ad h.1 δ0 r.2 ∧ (kp [(7, 3), (7, 4)] δ r.2 ∧ q_V r.2 = q_V δ ∧ q_R r.2 = q_R δ) ∧ ((r.1).toInt = -1 ∨ (q_I r.2 7 3 a0).toInt < (q_I r.2 7 2 a0).toInt)) := by
  intro n
  induction n with
  | zero =>
    intro δ I hm
    have f1 := cb_7_3 I k_a0
    exfalso; omega
  | succ n ih =>
    intro δ I hm
    unfold L_X7_ahead_0
    have f1 := cb_7_3 I k_a0
    have f2 := cb_7_2 I k_a0
    refine ok_ite (fun h3 => ?_) (fun h3 => ?_)
    · have c4 : (q_I δ 7 2 a0).toInt ≤ (q_I δ 7 3 a0).toInt := o_le h3
      unfold J_X7_ahead_38
      refine ok_bdv (fun d5 e6 => ?_)
      have i7 : CI ad h.1 δ0 d5 := by rw [e6]; exact cs_7_4 L I k_a0 (show 0 ≤ (q_I δ 7 3 a0).toInt by omega) (show (q_I δ 7 3 a0).toInt ≤ 500 by omega)
      have u8 := kp_I kp_r e6
      have v9 : q_V d5 = q_V δ := ((show q_V d5 = q_V δ by rw [e6]; rfl)).trans rfl
      have v10 : q_R d5 = q_R δ := ((show q_R d5 = q_R δ by rw [e6]; rfl)).trans rfl
      have f11 := cb_7_2 i7 k_a0
      have f12 : (q_I d5 7 2 a0).toInt = (q_I δ 7 2 a0).toInt := congrArg Int32.toInt (by rw [e6]; exact rI_o (by decide))
      have f13 := cb_7_3 i7 k_a0
      have f14 : (q_I d5 7 3 a0).toInt = (q_I δ 7 3 a0).toInt := congrArg Int32.toInt (by rw [e6]; exact rI_o (by decide))
      refine ok_ite (fun h15 => ?_) (fun h15 => ?_)
      · have c16 : (q_I d5 7 2 a0).toInt ≤ (q_I d5 7 3 a0).toInt := o_le h15
        unfold J_X7_ahead_70
        exact ok_some (show CI ad h.1 δ0 d5 ∧ (kp [(7, 3), (7, 4)] δ d5 ∧ q_V d5 = q_V δ ∧ q_R d5 = q_R δ) ∧ ((-1 : Int) = -1 ∨ (q_I d5 7 3 a0).toInt < (q_I d5 7 2 a0).toInt) from ⟨i7, ⟨kp_w (by decide) u8, v9, v10⟩, by first | assumption | omega⟩)
      · have c17 : (q_I d5 7 3 a0).toInt < (q_I d5 7 2 a0).toInt := o_nle h15
        obtain ⟨b18, o19, k20, n21⟩ := gO_7_0 L k_a0
        refine ok_at o19 ?_
        have t22 := ti_tn (q_I d5 7 3 a0)
        refine ok_gd (fun hc23 => ?_) ?_
        · rcases hc23 with hc23 | hc23
          · have c24 : (q_I d5 7 3 a0).toInt < (0 : Int) := o_lt hc23
            omega
          · omega
        unfold J_X7_ahead_70
        have f25 := ti_b (q_R d5 b18 (q_I d5 7 3 a0).toNatClampNeg)
        exact ok_some (show CI ad h.1 δ0 d5 ∧ (kp [(7, 3), (7, 4)] δ d5 ∧ q_V d5 = q_V δ ∧ q_R d5 = q_R δ) ∧ (((q_R d5 b18 (q_I d5 7 3 a0).toNatClampNeg)).toInt = -1 ∨ (q_I d5 7 3 a0).toInt < (q_I d5 7 2 a0).toInt) from ⟨i7, ⟨kp_w (by decide) u8, v9, v10⟩, by first | assumption | omega⟩)
    · have c26 : (q_I δ 7 3 a0).toInt < (q_I δ 7 2 a0).toInt := o_nle h3
      obtain ⟨b27, o28, k29, n30⟩ := gO_7_0 L k_a0
      refine ok_at o28 ?_
      have t31 := ti_tn (q_I δ 7 3 a0)
      refine ok_gd (fun hc32 => ?_) ?_
      · rcases hc32 with hc32 | hc32
        · have c33 : (q_I δ 7 3 a0).toInt < (0 : Int) := o_lt hc32
          omega
        · omega
      have f34 := ti_b (q_R δ b27 (q_I δ 7 3 a0).toNatClampNeg)
      refine ok_ite (fun h35 => ?_) (fun h35 => ?_)
      · have c36 : (q_R δ b27 (q_I δ 7 3 a0).toNatClampNeg).toInt = (32 : Int) := o_eq h35
        first | (have q41 := te_addc (c := 1) (n := 1) rfl (q_I δ 7 3 a0) (by omega) (by omega); obtain ⟨f42, f43, f44⟩ := q41) | (obtain ⟨q41, f42, f43, f44⟩ := ti_addc (c := 1) (n := 1) rfl (q_I δ 7 3 a0))
        refine ok_bdv (fun d37 e38 => ?_)
        have i39 : CI ad h.1 δ0 d37 := by rw [e38]; exact cs_7_3 L I k_a0 (show 0 ≤ ((q_I δ 7 3 a0) + (1 : Int32)).toInt by omega) (show ((q_I δ 7 3 a0) + (1 : Int32)).toInt ≤ 500 by omega)
        have u45 := kp_I kp_r e38
        have v46 : q_V d37 = q_V δ := ((show q_V d37 = q_V δ by rw [e38]; rfl)).trans rfl
        have v47 : q_R d37 = q_R δ := ((show q_R d37 = q_R δ by rw [e38]; rfl)).trans rfl
        have f48 := cb_7_3 i39 k_a0
        have f49 : (q_I d37 7 3 a0).toInt = ((q_I δ 7 3 a0) + (1 : Int32)).toInt := congrArg Int32.toInt (show q_I d37 7 3 a0 = ((q_I δ 7 3 a0) + (1 : Int32)) by rw [e38]; exact rI_s)
        refine ok_mono (ih d37 i39  (show 501 - (q_I d37 7 3 a0).toInt < _ by omega)) (fun r50 hr51 => ?_)
        obtain ⟨i52, ⟨u54, u55, u56⟩, p53⟩ := hr51
        have u57 := kp_t u45 u54
        have v58 : q_V r50.2 = q_V δ := (u55).trans v46
        have v59 : q_R r50.2 = q_R δ := (u56).trans v47
        have f60 := ti_b r50.1
        have f61 := cb_7_3 i52 k_a0
        have f62 := cb_7_2 i52 k_a0
        have f63 : (q_I r50.2 7 2 a0).toInt = (q_I d37 7 2 a0).toInt := congrArg Int32.toInt (u54 7 2 a0 (by decide))
        have f64 := cb_7_2 i39 k_a0
        have f65 : (q_I d37 7 2 a0).toInt = (q_I δ 7 2 a0).toInt := congrArg Int32.toInt (by rw [e38]; exact rI_o (by decide))
        have f66 := ti_b r50.1
        exact ⟨by assumption, ⟨kp_w (by decide) u57, v58, v59⟩, by first | assumption | omega⟩
      · have c67 : (q_R δ b27 (q_I δ 7 3 a0).toNatClampNeg).toInt ≠ (32 : Int) := o_ne h35
        unfold J_X7_ahead_38
        refine ok_bdv (fun d68 e69 => ?_)
        have i70 : CI ad h.1 δ0 d68 := by rw [e69]; exact cs_7_4 L I k_a0 (show 0 ≤ (q_I δ 7 3 a0).toInt by omega) (show (q_I δ 7 3 a0).toInt ≤ 500 by omega)
        have u71 := kp_I kp_r e69
        have v72 : q_V d68 = q_V δ := ((show q_V d68 = q_V δ by rw [e69]; rfl)).trans rfl
        have v73 : q_R d68 = q_R δ := ((show q_R d68 = q_R δ by rw [e69]; rfl)).trans rfl
        have f74 := cb_7_2 i70 k_a0
        have f75 : (q_I d68 7 2 a0).toInt = (q_I δ 7 2 a0).toInt := congrArg Int32.toInt (by rw [e69]; exact rI_o (by decide))
        have f76 := cb_7_3 i70 k_a0
        have f77 : (q_I d68 7 3 a0).toInt = (q_I δ 7 3 a0).toInt := congrArg Int32.toInt (by rw [e69]; exact rI_o (by decide))
        refine ok_ite (fun h78 => ?_) (fun h78 => ?_)
        · have c79 : (q_I d68 7 2 a0).toInt ≤ (q_I d68 7 3 a0).toInt := o_le h78
          unfold J_X7_ahead_70
          exact ok_some (show CI ad h.1 δ0 d68 ∧ (kp [(7, 3), (7, 4)] δ d68 ∧ q_V d68 = q_V δ ∧ q_R d68 = q_R δ) ∧ ((-1 : Int) = -1 ∨ (q_I d68 7 3 a0).toInt < (q_I d68 7 2 a0).toInt) from ⟨i70, ⟨kp_w (by decide) u71, v72, v73⟩, by first | assumption | omega⟩)
        · have c80 : (q_I d68 7 3 a0).toInt < (q_I d68 7 2 a0).toInt := o_nle h78
          refine ok_at o28 ?_
          have t81 := ti_tn (q_I d68 7 3 a0)
          refine ok_gd (fun hc82 => ?_) ?_
          · rcases hc82 with hc82 | hc82
            · have c83 : (q_I d68 7 3 a0).toInt < (0 : Int) := o_lt hc82
              omega
            · omega
          unfold J_X7_ahead_70
          have f84 := ti_b (q_R d68 b27 (q_I d68 7 3 a0).toNatClampNeg)
          exact ok_some (show CI ad h.1 δ0 d68 ∧ (kp [(7, 3), (7, 4)] δ d68 ∧ q_V d68 = q_V δ ∧ q_R d68 = q_R δ) ∧ (((q_R d68 b27 (q_I d68 7 3 a0).toNatClampNeg)).toInt = -1 ∨ (q_I d68 7 3 a0).toInt < (q_I d68 7 2 a0).toInt) from ⟨i70, ⟨kp_w (by decide) u71, v72, v73⟩, by first | assumption | omega⟩)
set_option maxHeartbeats 4000000 in
theorem k_X7_ahead {ad : List Nat} {h : hp} (L : Lay TLx ad h) {δ0 : dp} {N : Nat} (hN : 10000000 ≤ N) {a0 : Nat} (k_a0 : q_K h.1 a0 = 7) {δ : dp} (I : CI ad h.1 δ0 δ) : ok (D_X7_ahead N h.1 a0 δ) (fun r => CI ad h.1 δ0 r.2 ∧ (kp [(7, 3), (7, 4)] δ r.2 ∧ q_V r.2 = q_V δ ∧ q_R r.2 = q_R δ) ∧ ((r.1).toInt = -1 ∨ (q_I r.2 7 3 a0).toInt < (q_I r.2 7 2 a0).toInt)) := by
  unfold D_X7_ahead
  have f1 := cb_7_3 I k_a0
  refine ok_mono (kl_X7_ahead_0 L hN   k_a0 _ δ I  (show 501 - (q_I δ 7 3 a0).toInt < _ by omega)) (fun r2 hr3 => ?_)
  obtain ⟨i4, ⟨u6, u7, u8⟩, p5⟩ := hr3
  have u9 := kp_t kp_r u6
  have v10 : q_V r2.2 = q_V δ := (u7).trans rfl
  have v11 : q_R r2.2 = q_R δ := (u8).trans rfl
  have f12 := ti_b r2.1
  have f13 := cb_7_3 i4 k_a0
  have f14 := cb_7_2 i4 k_a0
  have f15 : (q_I r2.2 7 2 a0).toInt = (q_I δ 7 2 a0).toInt := congrArg Int32.toInt (u6 7 2 a0 (by decide))
  have f16 := cb_7_2 I k_a0
  have f17 := ti_b r2.1
  exact ⟨by assumption, ⟨kp_w (by decide) u9, v10, v11⟩, by first | assumption | omega⟩
set_option maxHeartbeats 4000000 in
theorem k_X7_takeSign {ad : List Nat} {h : hp} (L : Lay TLx ad h) {δ0 : dp} {N : Nat} (hN : 10000000 ≤ N) {a0 : Nat} {x1 : Int32} (k_a0 : q_K h.1 a0 = 7) {δ : dp} (z0 : (x1).toInt ≠ -1) (I : CI ad h.1 δ0 δ) : ok (D_X7_takeSign N h.1 a0 x1 δ) (fun r => CI ad h.1 δ0 r.2 ∧ (kp [(7, 3), (7, 4)] δ r.2 ∧ q_V r.2 = q_V δ ∧ q_R r.2 = q_R δ) ∧ bo (r.1)) := by
  unfold D_X7_takeSign
  have f1 := ti_b x1
  refine ok_bind (k_X7_ahead L hN (a0 := a0) k_a0 I) (fun r2 hr3 => ?_)
  obtain ⟨i4, ⟨u6, u7, u8⟩, p5⟩ := hr3
  have u9 := kp_t kp_r u6
  have v10 : q_V r2.2 = q_V δ := (u7).trans rfl
  have v11 : q_R r2.2 = q_R δ := (u8).trans rfl
  have f12 := ti_b r2.1
  have f13 := cb_7_3 i4 k_a0
  have f14 := cb_7_2 i4 k_a0
  have f15 : (q_I r2.2 7 2 a0).toInt = (q_I δ 7 2 a0).toInt := congrArg Int32.toInt (u6 7 2 a0 (by decide))
  have f16 := cb_7_2 I k_a0
  have f17 := ti_b r2.1
  refine ok_ite (fun h18 => ?_) (fun h18 => ?_)
  · have c19 : r2.1.toInt = x1.toInt := o_eq h18
    unfold J_X7_takeSign_13
    refine ok_ite (fun h20 => ?_) (fun h20 => ?_)
    · have c21 : (1 : Int) = (0 : Int) := o_eq h20
      unfold J_X7_takeSign_28
      refine ok_gp (by decide) ?_
      exact ok_some (show CI ad h.1 δ0 r2.2 ∧ (kp [(7, 3), (7, 4)] δ r2.2 ∧ q_V r2.2 = q_V δ ∧ q_R r2.2 = q_R δ) ∧ bo ((1 : Int32)) from ⟨i4, ⟨kp_w (by decide) u9, v10, v11⟩, bo_1⟩)
    · have c22 : (1 : Int) ≠ (0 : Int) := o_ne h20
      first | (have q27 := te_addc (c := 1) (n := 1) rfl (q_I r2.2 7 3 a0) (by omega) (by omega); obtain ⟨f28, f29, f30⟩ := q27) | (obtain ⟨q27, f28, f29, f30⟩ := ti_addc (c := 1) (n := 1) rfl (q_I r2.2 7 3 a0))
      refine ok_bdv (fun d23 e24 => ?_)
      have i25 : CI ad h.1 δ0 d23 := by rw [e24]; exact cs_7_3 L i4 k_a0 (show 0 ≤ ((q_I r2.2 7 3 a0) + (1 : Int32)).toInt by omega) (show ((q_I r2.2 7 3 a0) + (1 : Int32)).toInt ≤ 500 by omega)
      have u31 := kp_I u9 e24
      have v32 : q_V d23 = q_V δ := ((show q_V d23 = q_V r2.2 by rw [e24]; rfl)).trans v10
      have v33 : q_R d23 = q_R δ := ((show q_R d23 = q_R r2.2 by rw [e24]; rfl)).trans v11
      unfold J_X7_takeSign_28
      refine ok_gp (by decide) ?_
      exact ok_some (show CI ad h.1 δ0 d23 ∧ (kp [(7, 3), (7, 4)] δ d23 ∧ q_V d23 = q_V δ ∧ q_R d23 = q_R δ) ∧ bo ((1 : Int32)) from ⟨i25, ⟨kp_w (by decide) u31, v32, v33⟩, bo_1⟩)
  · have c34 : r2.1.toInt ≠ x1.toInt := o_ne h18
    unfold J_X7_takeSign_13
    refine ok_ite (fun h35 => ?_) (fun h35 => ?_)
    · have c36 : (0 : Int) = (0 : Int) := o_eq h35
      unfold J_X7_takeSign_28
      refine ok_gp (by decide) ?_
      exact ok_some (show CI ad h.1 δ0 r2.2 ∧ (kp [(7, 3), (7, 4)] δ r2.2 ∧ q_V r2.2 = q_V δ ∧ q_R r2.2 = q_R δ) ∧ bo ((0 : Int32)) from ⟨i4, ⟨kp_w (by decide) u9, v10, v11⟩, bo_0⟩)
    · have c37 : (0 : Int) ≠ (0 : Int) := o_ne h35
      first | (have q42 := te_addc (c := 1) (n := 1) rfl (q_I r2.2 7 3 a0) (by omega) (by omega); obtain ⟨f43, f44, f45⟩ := q42) | (obtain ⟨q42, f43, f44, f45⟩ := ti_addc (c := 1) (n := 1) rfl (q_I r2.2 7 3 a0))
      refine ok_bdv (fun d38 e39 => ?_)
      have i40 : CI ad h.1 δ0 d38 := by rw [e39]; exact cs_7_3 L i4 k_a0 (show 0 ≤ ((q_I r2.2 7 3 a0) + (1 : Int32)).toInt by omega) (show ((q_I r2.2 7 3 a0) + (1 : Int32)).toInt ≤ 500 by omega)
      have u46 := kp_I u9 e39
      have v47 : q_V d38 = q_V δ := ((show q_V d38 = q_V r2.2 by rw [e39]; rfl)).trans v10
      have v48 : q_R d38 = q_R δ := ((show q_R d38 = q_R r2.2 by rw [e39]; rfl)).trans v11
      unfold J_X7_takeSign_28
      refine ok_gp (by decide) ?_
      exact ok_some (show CI ad h.1 δ0 d38 ∧ (kp [(7, 3), (7, 4)] δ d38 ∧ q_V d38 = q_V δ ∧ q_R d38 = q_R δ) ∧ bo ((0 : Int32)) from ⟨i40, ⟨kp_w (by decide) u46, v47, v48⟩, bo_0⟩)
set_option maxHeartbeats 4000000 in
theorem k_X7_needSign {ad : List Nat} {h : hp} (L : Lay TLx ad h) {δ0 : dp} {N : Nat} (hN : 10000000 ≤ N) {a0 : Nat} {x1 : Int32} (k_a0 : q_K h.1 a0 = 7) {δ : dp} (z0 : (x1).toInt ≠ -1) (I : CI ad h.1 δ0 δ) : ok (D_X7_needSign N h.1 a0 x1 δ) (fun r => CI ad h.1 δ0 r ∧ (kp [(7, 3), (7, 4), (7, 5), (7, 6)] δ r ∧ q_V r = q_V δ ∧ q_R r = q_R δ) ∧ ((q_I δ 7 5 a0).toInt ≠ 0 → (q_I r 7 5 a0).toInt ≠ 0)) := by
  unfold D_X7_needSign
  have f1 := ti_b x1
  refine ok_bind (k_X7_ahead L hN (a0 := a0) k_a0 I) (fun r2 hr3 => ?_)
  obtain ⟨i4, ⟨u6, u7, u8⟩, p5⟩ := hr3
  have u9 := kp_t kp_r u6
  have v10 : q_V r2.2 = q_V δ := (u7).trans rfl
  have v11 : q_R r2.2 = q_R δ := (u8).trans rfl
  have f12 := ti_b r2.1
  have f13 := cb_7_3 i4 k_a0
  have f14 := cb_7_2 i4 k_a0
  have f15 : (q_I r2.2 7 2 a0).toInt = (q_I δ 7 2 a0).toInt := congrArg Int32.toInt (u6 7 2 a0 (by decide))
  have f16 := cb_7_2 I k_a0
  have f17 := ti_b r2.1
  refine ok_ite (fun h18 => ?_) (fun h18 => ?_)
  · have c19 : r2.1.toInt = x1.toInt := o_eq h18
    first | (have q24 := te_addc (c := 1) (n := 1) rfl (q_I r2.2 7 3 a0) (by omega) (by omega); obtain ⟨f25, f26, f27⟩ := q24) | (obtain ⟨q24, f25, f26, f27⟩ := ti_addc (c := 1) (n := 1) rfl (q_I r2.2 7 3 a0))
    refine ok_bdv (fun d20 e21 => ?_)
    have i22 : CI ad h.1 δ0 d20 := by rw [e21]; exact cs_7_3 L i4 k_a0 (show 0 ≤ ((q_I r2.2 7 3 a0) + (1 : Int32)).toInt by omega) (show ((q_I r2.2 7 3 a0) + (1 : Int32)).toInt ≤ 500 by omega)
    have u28 := kp_I u9 e21
    have v29 : q_V d20 = q_V δ := ((show q_V d20 = q_V r2.2 by rw [e21]; rfl)).trans v10
    have v30 : q_R d20 = q_R δ := ((show q_R d20 = q_R r2.2 by rw [e21]; rfl)).trans v11
    unfold J_X7_needSign_26
    have f31 := ti_b (q_I δ 7 5 a0)
    have f32 := ti_b (q_I d20 7 5 a0)
    have f33 : (q_I d20 7 5 a0).toInt = (q_I r2.2 7 5 a0).toInt := congrArg Int32.toInt (by rw [e21]; exact rI_o (by decide))
    have f34 := ti_b (q_I r2.2 7 5 a0)
    have f35 : (q_I r2.2 7 5 a0).toInt = (q_I δ 7 5 a0).toInt := congrArg Int32.toInt (u6 7 5 a0 (by decide))
    exact ok_some (show CI ad h.1 δ0 d20 ∧ (kp [(7, 3), (7, 4), (7, 5), (7, 6)] δ d20 ∧ q_V d20 = q_V δ ∧ q_R d20 = q_R δ) ∧ ((q_I δ 7 5 a0).toInt ≠ 0 → (q_I d20 7 5 a0).toInt ≠ 0) from ⟨i22, ⟨kp_w (by decide) u28, v29, v30⟩, by first | assumption | omega⟩)
  · have c36 : r2.1.toInt ≠ x1.toInt := o_ne h18
    refine ok_bind (k_X7_refuse L hN (a0 := a0) (x1 := (1 : Int32)) k_a0 (show (1 : Int) ≠ 0 by first | assumption | omega) i4) (fun r37 hr38 => ?_)
    obtain ⟨i39, ⟨u41, u42, u43⟩, p40⟩ := hr38
    have u44 := kp_t u9 u41
    have v45 : q_V r37 = q_V δ := (u42).trans v10
    have v46 : q_R r37 = q_R δ := (u43).trans v11
    have f47 := ti_b (q_I r37 7 5 a0)
    unfold J_X7_needSign_26
    have f48 := ti_b (q_I δ 7 5 a0)
    exact ok_some (show CI ad h.1 δ0 r37 ∧ (kp [(7, 3), (7, 4), (7, 5), (7, 6)] δ r37 ∧ q_V r37 = q_V δ ∧ q_R r37 = q_R δ) ∧ ((q_I δ 7 5 a0).toInt ≠ 0 → (q_I r37 7 5 a0).toInt ≠ 0) from ⟨i39, ⟨kp_w (by decide) u44, v45, v46⟩, by first | assumption | omega⟩)
set_option maxHeartbeats 4000000 in
theorem kl_X7_readWord_5 {ad : List Nat} {h : hp} (L : Lay TLx ad h) {δ0 : dp} {N : Nat} (hN : 10000000 ≤ N) {a0 : Nat} (k_a0 : q_K h.1 a0 = 7) : ∀ (n : Nat) (δ : dp), CI ad h.1 δ0 δ → 501 - (q_I δ 7 3 a0).toInt < (n : Int) → ok (L_X7_readWord_5 N h.1 a0 n δ) (fun r => CI ad h.1 δ0 r ∧ (kp [(7, 3), (7, 4)] δ r ∧ q_V r = q_V δ ∧ q_R r = q_R δ)) := by
  intro n
  induction n with
  | zero =>
    intro δ I hm
    have f1 := cb_7_3 I k_a0
    exfalso; omega
  | succ n ih =>
    intro δ I hm
    unfold L_X7_readWord_5
    have f1 := cb_7_3 I k_a0
    have f2 := cb_7_2 I k_a0
    refine ok_ite (fun h3 => ?_) (fun h3 => ?_)
    · have c4 : (q_I δ 7 2 a0).toInt ≤ (q_I δ 7 3 a0).toInt := o_le h3
      unfold J_X7_readWord_57
      exact ok_some (show CI ad h.1 δ0 δ ∧ (kp [(7, 3), (7, 4)] δ δ ∧ q_V δ = q_V δ ∧ q_R δ = q_R δ) from ⟨I, ⟨kp_w (by decide) kp_r, rfl, rfl⟩⟩)
    · have c5 : (q_I δ 7 3 a0).toInt < (q_I δ 7 2 a0).toInt := o_nle h3
      obtain ⟨b6, o7, k8, n9⟩ := gO_7_0 L k_a0
      refine ok_at o7 ?_
      have t10 := ti_tn (q_I δ 7 3 a0)
      refine ok_gd (fun hc11 => ?_) ?_
      · rcases hc11 with hc11 | hc11
        · have c12 : (q_I δ 7 3 a0).toInt < (0 : Int) := o_lt hc11
          omega
        · omega
      have f13 := ti_b (q_R δ b6 (q_I δ 7 3 a0).toNatClampNeg)
      refine ok_ite (fun h14 => ?_) (fun h14 => ?_)
      · have c15 : (q_R δ b6 (q_I δ 7 3 a0).toNatClampNeg).toInt < (97 : Int) := o_lt h14
        unfold J_X7_readWord_57
        exact ok_some (show CI ad h.1 δ0 δ ∧ (kp [(7, 3), (7, 4)] δ δ ∧ q_V δ = q_V δ ∧ q_R δ = q_R δ) from ⟨I, ⟨kp_w (by decide) kp_r, rfl, rfl⟩⟩)
      · have c16 : (97 : Int) ≤ (q_R δ b6 (q_I δ 7 3 a0).toNatClampNeg).toInt := o_nlt h14
        refine ok_at o7 ?_
        refine ok_gd (fun hc17 => ?_) ?_
        · rcases hc17 with hc17 | hc17
          · have c18 : (q_I δ 7 3 a0).toInt < (0 : Int) := o_lt hc17
            omega
          · omega
        refine ok_ite (fun h19 => ?_) (fun h19 => ?_)
        · have c20 : (122 : Int) < (q_R δ b6 (q_I δ 7 3 a0).toNatClampNeg).toInt := o_lt h19
          unfold J_X7_readWord_57
          exact ok_some (show CI ad h.1 δ0 δ ∧ (kp [(7, 3), (7, 4)] δ δ ∧ q_V δ = q_V δ ∧ q_R δ = q_R δ) from ⟨I, ⟨kp_w (by decide) kp_r, rfl, rfl⟩⟩)
        · have c21 : (q_R δ b6 (q_I δ 7 3 a0).toNatClampNeg).toInt ≤ (122 : Int) := o_nlt h19
          first | (have q26 := te_addc (c := 1) (n := 1) rfl (q_I δ 7 3 a0) (by omega) (by omega); obtain ⟨f27, f28, f29⟩ := q26) | (obtain ⟨q26, f27, f28, f29⟩ := ti_addc (c := 1) (n := 1) rfl (q_I δ 7 3 a0))
          refine ok_bdv (fun d22 e23 => ?_)
          have i24 : CI ad h.1 δ0 d22 := by rw [e23]; exact cs_7_3 L I k_a0 (show 0 ≤ ((q_I δ 7 3 a0) + (1 : Int32)).toInt by omega) (show ((q_I δ 7 3 a0) + (1 : Int32)).toInt ≤ 500 by omega)
          have u30 := kp_I kp_r e23
          have v31 : q_V d22 = q_V δ := ((show q_V d22 = q_V δ by rw [e23]; rfl)).trans rfl
          have v32 : q_R d22 = q_R δ := ((show q_R d22 = q_R δ by rw [e23]; rfl)).trans rfl
          have f33 := cb_7_3 i24 k_a0
          have f34 : (q_I d22 7 3 a0).toInt = ((q_I δ 7 3 a0) + (1 : Int32)).toInt := congrArg Int32.toInt (show q_I d22 7 3 a0 = ((q_I δ 7 3 a0) + (1 : Int32)) by rw [e23]; exact rI_s)
          refine ok_mono (ih d22 i24  (show 501 - (q_I d22 7 3 a0).toInt < _ by omega)) (fun r35 hr36 => ?_)
          obtain ⟨i37, ⟨u38, u39, u40⟩⟩ := hr36
          have u41 := kp_t u30 u38
          have v42 : q_V r35 = q_V δ := (u39).trans v31
          have v43 : q_R r35 = q_R δ := (u40).trans v32
          exact ⟨by assumption, ⟨kp_w (by decide) u41, v42, v43⟩⟩
set_option maxHeartbeats 4000000 in
theorem k_X7_readWord {ad : List Nat} {h : hp} (L : Lay TLx ad h) {δ0 : dp} {N : Nat} (hN : 10000000 ≤ N) {a0 : Nat} (k_a0 : q_K h.1 a0 = 7) {δ : dp} (I : CI ad h.1 δ0 δ) : ok (D_X7_readWord N h.1 a0 δ) (fun r => CI ad h.1 δ0 r ∧ (kp [(7, 3), (7, 4)] δ r ∧ q_V r = q_V δ ∧ q_R r = q_R δ)) := by
  unfold D_X7_readWord
  refine ok_bind (k_X7_ahead L hN (a0 := a0) k_a0 I) (fun r1 hr2 => ?_)
  obtain ⟨i3, ⟨u5, u6, u7⟩, p4⟩ := hr2
  have u8 := kp_t kp_r u5
  have v9 : q_V r1.2 = q_V δ := (u6).trans rfl
  have v10 : q_R r1.2 = q_R δ := (u7).trans rfl
  have f11 := ti_b r1.1
  have f12 := cb_7_3 i3 k_a0
  have f13 := cb_7_2 i3 k_a0
  have f14 : (q_I r1.2 7 2 a0).toInt = (q_I δ 7 2 a0).toInt := congrArg Int32.toInt (u5 7 2 a0 (by decide))
  have f15 := cb_7_2 I k_a0
  have f16 := ti_b r1.1
  refine ok_mono (kl_X7_readWord_5 L hN   k_a0 _ r1.2 i3  (show 501 - (q_I r1.2 7 3 a0).toInt < _ by omega)) (fun r17 hr18 => ?_)
  obtain ⟨i19, ⟨u20, u21, u22⟩⟩ := hr18
  have u23 := kp_t u8 u20
  have v24 : q_V r17 = q_V δ := (u21).trans v9
  have v25 : q_R r17 = q_R δ := (u22).trans v10
  exact ⟨by assumption, ⟨kp_w (by decide) u23, v24, v25⟩⟩
set_option maxHeartbeats 4000000 in
theorem kl_X7_wordIs_20 {ad : List Nat} {h : hp} (L : Lay TLx ad h) {δ0 : dp} {N : Nat} (hN : 10000000 ≤ N) {a0 : Nat} {a1 : Nat} (k_a0 : q_K h.1 a0 = 7) : ∀ (n : Nat) (x2v : Int32) (δ : dp), CI ad h.1 δ0 δ → 0 ≤ (x2v).toInt → (x2v).toInt ≤ (tx_n a1 : Int) → (q_I δ 7 3 a0).toInt - (q_I δ 7 4 a0).toInt = (tx_n a1 : Int) → a1 < 16 → (tx_n a1 : Int) - (x2v).toInt < (n : Int) → ok (L_X7_wordIs_20 N h.1 a0 a1 n x2v δ) (fun r => r.2 = δ ∧ bo (r.1)) := by
  intro n
  induction n with
  | zero =>
    intro x2v δ I j0 j1 j2 j3 hm
    have f1 := ti_b x2v
    have f2 := cb_7_3 I k_a0
    have f3 := cb_7_4 I k_a0
    exfalso; omega
  | succ n ih =>
    intro x2v δ I j0 j1 j2 j3 hm
    unfold L_X7_wordIs_20
    have f1 := ti_b x2v
    have f2 := cb_7_3 I k_a0
    have f3 := cb_7_4 I k_a0
    refine ok_bind (k_J0_length_8abf5 L hN (a0 := a1) (show a1 < 16 by first | assumption | omega) I) (fun r4 hr5 => ?_)
    obtain ⟨i6, p7⟩ := hr5
    try rw [i6]
    have f8 := ti_b r4.1
    have f9 := ti_b r4.1
    refine ok_ite (fun h10 => ?_) (fun h10 => ?_)
    · have c11 : r4.1.toInt ≤ x2v.toInt := o_le h10
      refine ok_gp (by decide) ?_
      exact ok_some (show δ = δ ∧ bo ((1 : Int32)) from ⟨rfl, bo_1⟩)
    · have c12 : x2v.toInt < r4.1.toInt := o_nle h10
      obtain ⟨b13, o14, k15, n16⟩ := gO_7_0 L k_a0
      refine ok_at o14 ?_
      first | (have q18 := te_add (q_I δ 7 4 a0) x2v (by omega) (by omega); obtain ⟨f19, f20, f21⟩ := q18) | (obtain ⟨q18, f19, f20, f21⟩ := ti_add (q_I δ 7 4 a0) x2v)
      have t22 := ti_tn ((q_I δ 7 4 a0) + x2v)
      refine ok_gd (fun hc23 => ?_) ?_
      · rcases hc23 with hc23 | hc23
        · have c24 : ((q_I δ 7 4 a0) + x2v).toInt < (0 : Int) := o_lt hc23
          omega
        · omega
      refine ok_bind (k_J0_charAt_5068e L hN (a0 := a1) (x1 := x2v) (show a1 < 16 by first | assumption | omega) (show 0 ≤ (x2v).toInt by first | assumption | omega) (show (x2v).toInt < (tx_n a1 : Int) by first | assumption | omega) I) (fun r25 hr26 => ?_)
      have i27 := hr26
      try rw [i27]
      have f28 := ti_b r25.1
      have f29 := ti_b (q_R δ b13 ((q_I δ 7 4 a0) + x2v).toNatClampNeg)
      refine ok_ite (fun h30 => ?_) (fun h30 => ?_)
      · have c31 : (q_R δ b13 ((q_I δ 7 4 a0) + x2v).toNatClampNeg).toInt = r25.1.toInt := o_eq h30
        refine ok_biv (fun vx32 e33 => ?_)
        first | (have q34 := te_addc (c := 1) (n := 1) rfl x2v (by omega) (by omega); rw [← e33] at q34; obtain ⟨f35, f36, f37⟩ := q34) | (obtain ⟨q34, f35, f36, f37⟩ : ∃ q : Int, vx32.toInt = x2v.toInt + (1 : Int) + 4294967296 * q ∧ -2147483648 ≤ vx32.toInt ∧ vx32.toInt ≤ 2147483647 := by rw [e33]; exact ti_addc (c := 1) (n := 1) rfl x2v)
        refine ok_mono (ih vx32 δ I (show 0 ≤ (vx32).toInt by first | assumption | omega) (show (vx32).toInt ≤ (tx_n a1 : Int) by first | assumption | omega) (show (q_I δ 7 3 a0).toInt - (q_I δ 7 4 a0).toInt = (tx_n a1 : Int) by first | assumption | omega) (show a1 < 16 by first | assumption | omega) (show (tx_n a1 : Int) - (vx32).toInt < _ by omega)) (fun r38 hr39 => ?_)
        obtain ⟨i40, p41⟩ := hr39
        have f42 := bo_t p41
        have f43 := ti_b r38.1
        exact ⟨by assumption, by first | assumption | omega⟩
      · have c44 : (q_R δ b13 ((q_I δ 7 4 a0) + x2v).toNatClampNeg).toInt ≠ r25.1.toInt := o_ne h30
        refine ok_gp (by decide) ?_
        exact ok_some (show δ = δ ∧ bo ((0 : Int32)) from ⟨rfl, bo_0⟩)
set_option maxHeartbeats 4000000 in
theorem k_X7_wordIs {ad : List Nat} {h : hp} (L : Lay TLx ad h) {δ0 : dp} {N : Nat} (hN : 10000000 ≤ N) {a0 : Nat} {a1 : Nat} (k_a0 : q_K h.1 a0 = 7) {δ : dp} (z0 : a1 < 16) (I : CI ad h.1 δ0 δ) : ok (D_X7_wordIs N h.1 a0 a1 δ) (fun r => r.2 = δ ∧ bo (r.1)) := by
  unfold D_X7_wordIs
  refine ok_bind (k_J0_length_8abf5 L hN (a0 := a1) (show a1 < 16 by first | assumption | omega) I) (fun r1 hr2 => ?_)
  obtain ⟨i3, p4⟩ := hr2
  try rw [i3]
  have f5 := ti_b r1.1
  have f6 := ti_b r1.1
  have f7 := cb_7_3 I k_a0
  have f8 := cb_7_4 I k_a0
  first | (have q10 := te_sub (q_I δ 7 3 a0) (q_I δ 7 4 a0) (by omega) (by omega); obtain ⟨f11, f12, f13⟩ := q10) | (obtain ⟨q10, f11, f12, f13⟩ := ti_sub (q_I δ 7 3 a0) (q_I δ 7 4 a0))
  refine ok_ite (fun h14 => ?_) (fun h14 => ?_)
  · have c15 : ((q_I δ 7 3 a0) - (q_I δ 7 4 a0)).toInt = r1.1.toInt := o_eq h14
    refine ok_mono (kl_X7_wordIs_20 L hN   k_a0 _ (0 : Int32) δ I (show 0 ≤ (0 : Int) by first | assumption | omega) (show (0 : Int) ≤ (tx_n a1 : Int) by first | assumption | omega) (show (q_I δ 7 3 a0).toInt - (q_I δ 7 4 a0).toInt = (tx_n a1 : Int) by first | assumption | omega) (show a1 < 16 by first | assumption | omega) (show (tx_n a1 : Int) - (0 : Int) < _ by omega)) (fun r16 hr17 => ?_)
    obtain ⟨i18, p19⟩ := hr17
    have f20 := bo_t p19
    have f21 := ti_b r16.1
    exact ⟨by assumption, by first | assumption | omega⟩
  · have c22 : ((q_I δ 7 3 a0) - (q_I δ 7 4 a0)).toInt ≠ r1.1.toInt := o_ne h14
    refine ok_gp (by decide) ?_
    exact ok_some (show δ = δ ∧ bo ((0 : Int32)) from ⟨rfl, bo_0⟩)
set_option maxHeartbeats 4000000 in
theorem kl_X7_readNumber_7 {ad : List Nat} {h : hp} (L : Lay TLx ad h) {δ0 : dp} {N : Nat} (hN : 10000000 ≤ N) {a0 : Nat} {x1 : Int32} {x2 : Int32} (k_a0 : q_K h.1 a0 = 7) : ∀ (n : Nat) (x3v : Int32) (δ : dp), CI ad h.1 δ0 δ → 0 ≤ (x3v).toInt → (x3v).toInt ≤ 1000000 → 501 - (q_I δ 7 3 a0).toInt < (n : Int) → ok (L_X7_readNumber_7 N h.1 a0 x1 x2 n x3v δ) (fun r => CI ad h.1 δ0 r.2 ∧ (kp [(7, 3), (7, 4), (7, 5), (7, 6)] δ r.2 ∧ q_V r.2 = q_V δ ∧ q_R r.2 = q_R δ) ∧ 0 ≤ (r.1).toInt ∧ (r.1).toInt ≤ 1000000 ∧ ((q_I δ 7 5 a0).toInt ≠ 0 → (q_I r.2 7 5 a0).toInt ≠ 0) ∧ ((q_I r.2 7 5 a0).toInt = 0 → (x1).toInt ≤ (r.1).toInt ∧ (r.1).toInt ≤ (x2).toInt)) := by
  intro n
  induction n with
  | zero =>
    intro x3v δ I j0 j1 hm
    have f1 := ti_b x3v
    have f2 := cb_7_3 I k_a0
    exfalso; omega
  | succ n ih =>
    intro x3v δ I j0 j1 hm
    unfold L_X7_readNumber_7
    have f1 := ti_b x3v
    have f2 := cb_7_3 I k_a0
    have f3 := cb_7_2 I k_a0
    refine ok_ite (fun h4 => ?_) (fun h4 => ?_)
    · have c5 : (q_I δ 7 2 a0).toInt ≤ (q_I δ 7 3 a0).toInt := o_le h4
      unfold J_X7_readNumber_82
      have f6 := cb_7_4 I k_a0
      refine ok_ite (fun h7 => ?_) (fun h7 => ?_)
      · have c8 : (q_I δ 7 3 a0).toInt = (q_I δ 7 4 a0).toInt := o_eq h7
        refine ok_bind (k_X7_refuse L hN (a0 := a0) (x1 := (1 : Int32)) k_a0 (show (1 : Int) ≠ 0 by first | assumption | omega) I) (fun r9 hr10 => ?_)
        obtain ⟨i11, ⟨u13, u14, u15⟩, p12⟩ := hr10
        have u16 := kp_t kp_r u13
        have v17 : q_V r9 = q_V δ := (u14).trans rfl
        have v18 : q_R r9 = q_R δ := (u15).trans rfl
        have f19 := ti_b (q_I r9 7 5 a0)
        unfold J_X7_readNumber_116
        have f20 := ti_b (q_I δ 7 5 a0)
        have f21 := ti_b x1
        have f22 := ti_b x2
        exact ok_some (show CI ad h.1 δ0 r9 ∧ (kp [(7, 3), (7, 4), (7, 5), (7, 6)] δ r9 ∧ q_V r9 = q_V δ ∧ q_R r9 = q_R δ) ∧ 0 ≤ (x3v).toInt ∧ (x3v).toInt ≤ 1000000 ∧ ((q_I δ 7 5 a0).toInt ≠ 0 → (q_I r9 7 5 a0).toInt ≠ 0) ∧ ((q_I r9 7 5 a0).toInt = 0 → (x1).toInt ≤ (x3v).toInt ∧ (x3v).toInt ≤ (x2).toInt) from ⟨i11, ⟨kp_w (by decide) u16, v17, v18⟩, by first | assumption | omega, by first | assumption | omega, by first | assumption | omega, by first | assumption | omega⟩)
      · have c23 : (q_I δ 7 3 a0).toInt ≠ (q_I δ 7 4 a0).toInt := o_ne h7
        have f24 := ti_b x1
        refine ok_ite (fun h25 => ?_) (fun h25 => ?_)
        · have c26 : x3v.toInt < x1.toInt := o_lt h25
          unfold J_X7_readNumber_111
          refine ok_bind (k_X7_refuse L hN (a0 := a0) (x1 := (2 : Int32)) k_a0 (show (2 : Int) ≠ 0 by first | assumption | omega) I) (fun r27 hr28 => ?_)
          obtain ⟨i29, ⟨u31, u32, u33⟩, p30⟩ := hr28
          have u34 := kp_t kp_r u31
          have v35 : q_V r27 = q_V δ := (u32).trans rfl
          have v36 : q_R r27 = q_R δ := (u33).trans rfl
          have f37 := ti_b (q_I r27 7 5 a0)
          unfold J_X7_readNumber_116
          have f38 := ti_b (q_I δ 7 5 a0)
          have f39 := ti_b x2
          exact ok_some (show CI ad h.1 δ0 r27 ∧ (kp [(7, 3), (7, 4), (7, 5), (7, 6)] δ r27 ∧ q_V r27 = q_V δ ∧ q_R r27 = q_R δ) ∧ 0 ≤ (x3v).toInt ∧ (x3v).toInt ≤ 1000000 ∧ ((q_I δ 7 5 a0).toInt ≠ 0 → (q_I r27 7 5 a0).toInt ≠ 0) ∧ ((q_I r27 7 5 a0).toInt = 0 → (x1).toInt ≤ (x3v).toInt ∧ (x3v).toInt ≤ (x2).toInt) from ⟨i29, ⟨kp_w (by decide) u34, v35, v36⟩, by first | assumption | omega, by first | assumption | omega, by first | assumption | omega, by first | assumption | omega⟩)
        · have c40 : x1.toInt ≤ x3v.toInt := o_nlt h25
          have f41 := ti_b x2
          refine ok_ite (fun h42 => ?_) (fun h42 => ?_)
          · have c43 : x3v.toInt ≤ x2.toInt := o_le h42
            unfold J_X7_readNumber_116
            have f44 := ti_b (q_I δ 7 5 a0)
            exact ok_some (show CI ad h.1 δ0 δ ∧ (kp [(7, 3), (7, 4), (7, 5), (7, 6)] δ δ ∧ q_V δ = q_V δ ∧ q_R δ = q_R δ) ∧ 0 ≤ (x3v).toInt ∧ (x3v).toInt ≤ 1000000 ∧ ((q_I δ 7 5 a0).toInt ≠ 0 → (q_I δ 7 5 a0).toInt ≠ 0) ∧ ((q_I δ 7 5 a0).toInt = 0 → (x1).toInt ≤ (x3v).toInt ∧ (x3v).toInt ≤ (x2).toInt) from ⟨I, ⟨kp_w (by decide) kp_r, rfl, rfl⟩, by first | assumption | omega, by first | assumption | omega, by first | assumption | omega, by first | assumption | omega⟩)
          · have c45 : x2.toInt < x3v.toInt := o_nle h42
            unfold J_X7_readNumber_111
            refine ok_bind (k_X7_refuse L hN (a0 := a0) (x1 := (2 : Int32)) k_a0 (show (2 : Int) ≠ 0 by first | assumption | omega) I) (fun r46 hr47 => ?_)
            obtain ⟨i48, ⟨u50, u51, u52⟩, p49⟩ := hr47
            have u53 := kp_t kp_r u50
            have v54 : q_V r46 = q_V δ := (u51).trans rfl
            have v55 : q_R r46 = q_R δ := (u52).trans rfl
            have f56 := ti_b (q_I r46 7 5 a0)
            unfold J_X7_readNumber_116
            have f57 := ti_b (q_I δ 7 5 a0)
            exact ok_some (show CI ad h.1 δ0 r46 ∧ (kp [(7, 3), (7, 4), (7, 5), (7, 6)] δ r46 ∧ q_V r46 = q_V δ ∧ q_R r46 = q_R δ) ∧ 0 ≤ (x3v).toInt ∧ (x3v).toInt ≤ 1000000 ∧ ((q_I δ 7 5 a0).toInt ≠ 0 → (q_I r46 7 5 a0).toInt ≠ 0) ∧ ((q_I r46 7 5 a0).toInt = 0 → (x1).toInt ≤ (x3v).toInt ∧ (x3v).toInt ≤ (x2).toInt) from ⟨i48, ⟨kp_w (by decide) u53, v54, v55⟩, by first | assumption | omega, by first | assumption | omega, by first | assumption | omega, by first | assumption | omega⟩)
    · have c58 : (q_I δ 7 3 a0).toInt < (q_I δ 7 2 a0).toInt := o_nle h4
      obtain ⟨b59, o60, k61, n62⟩ := gO_7_0 L k_a0
      refine ok_at o60 ?_
      have t63 := ti_tn (q_I δ 7 3 a0)
      refine ok_gd (fun hc64 => ?_) ?_
      · rcases hc64 with hc64 | hc64
        · have c65 : (q_I δ 7 3 a0).toInt < (0 : Int) := o_lt hc64
          omega
        · omega
      have f66 := ti_b (q_R δ b59 (q_I δ 7 3 a0).toNatClampNeg)
      refine ok_ite (fun h67 => ?_) (fun h67 => ?_)
      · have c68 : (q_R δ b59 (q_I δ 7 3 a0).toNatClampNeg).toInt < (48 : Int) := o_lt h67
        unfold J_X7_readNumber_82
        have f69 := cb_7_4 I k_a0
        refine ok_ite (fun h70 => ?_) (fun h70 => ?_)
        · have c71 : (q_I δ 7 3 a0).toInt = (q_I δ 7 4 a0).toInt := o_eq h70
          refine ok_bind (k_X7_refuse L hN (a0 := a0) (x1 := (1 : Int32)) k_a0 (show (1 : Int) ≠ 0 by first | assumption | omega) I) (fun r72 hr73 => ?_)
          obtain ⟨i74, ⟨u76, u77, u78⟩, p75⟩ := hr73
          have u79 := kp_t kp_r u76
          have v80 : q_V r72 = q_V δ := (u77).trans rfl
          have v81 : q_R r72 = q_R δ := (u78).trans rfl
          have f82 := ti_b (q_I r72 7 5 a0)
          unfold J_X7_readNumber_116
          have f83 := ti_b (q_I δ 7 5 a0)
          have f84 := ti_b x1
          have f85 := ti_b x2
          exact ok_some (show CI ad h.1 δ0 r72 ∧ (kp [(7, 3), (7, 4), (7, 5), (7, 6)] δ r72 ∧ q_V r72 = q_V δ ∧ q_R r72 = q_R δ) ∧ 0 ≤ (x3v).toInt ∧ (x3v).toInt ≤ 1000000 ∧ ((q_I δ 7 5 a0).toInt ≠ 0 → (q_I r72 7 5 a0).toInt ≠ 0) ∧ ((q_I r72 7 5 a0).toInt = 0 → (x1).toInt ≤ (x3v).toInt ∧ (x3v).toInt ≤ (x2).toInt) from ⟨i74, ⟨kp_w (by decide) u79, v80, v81⟩, by first | assumption | omega, by first | assumption | omega, by first | assumption | omega, by first | assumption | omega⟩)
        · have c86 : (q_I δ 7 3 a0).toInt ≠ (q_I δ 7 4 a0).toInt := o_ne h70
          have f87 := ti_b x1
          refine ok_ite (fun h88 => ?_) (fun h88 => ?_)
          · have c89 : x3v.toInt < x1.toInt := o_lt h88
            unfold J_X7_readNumber_111
            refine ok_bind (k_X7_refuse L hN (a0 := a0) (x1 := (2 : Int32)) k_a0 (show (2 : Int) ≠ 0 by first | assumption | omega) I) (fun r90 hr91 => ?_)
            obtain ⟨i92, ⟨u94, u95, u96⟩, p93⟩ := hr91
            have u97 := kp_t kp_r u94
            have v98 : q_V r90 = q_V δ := (u95).trans rfl
            have v99 : q_R r90 = q_R δ := (u96).trans rfl
            have f100 := ti_b (q_I r90 7 5 a0)
            unfold J_X7_readNumber_116
            have f101 := ti_b (q_I δ 7 5 a0)
            have f102 := ti_b x2
            exact ok_some (show CI ad h.1 δ0 r90 ∧ (kp [(7, 3), (7, 4), (7, 5), (7, 6)] δ r90 ∧ q_V r90 = q_V δ ∧ q_R r90 = q_R δ) ∧ 0 ≤ (x3v).toInt ∧ (x3v).toInt ≤ 1000000 ∧ ((q_I δ 7 5 a0).toInt ≠ 0 → (q_I r90 7 5 a0).toInt ≠ 0) ∧ ((q_I r90 7 5 a0).toInt = 0 → (x1).toInt ≤ (x3v).toInt ∧ (x3v).toInt ≤ (x2).toInt) from ⟨i92, ⟨kp_w (by decide) u97, v98, v99⟩, by first | assumption | omega, by first | assumption | omega, by first | assumption | omega, by first | assumption | omega⟩)
          · have c103 : x1.toInt ≤ x3v.toInt := o_nlt h88
            have f104 := ti_b x2
            refine ok_ite (fun h105 => ?_) (fun h105 => ?_)
            · have c106 : x3v.toInt ≤ x2.toInt := o_le h105
              unfold J_X7_readNumber_116
              have f107 := ti_b (q_I δ 7 5 a0)
              exact ok_some (show CI ad h.1 δ0 δ ∧ (kp [(7, 3), (7, 4), (7, 5), (7, 6)] δ δ ∧ q_V δ = q_V δ ∧ q_R δ = q_R δ) ∧ 0 ≤ (x3v).toInt ∧ (x3v).toInt ≤ 1000000 ∧ ((q_I δ 7 5 a0).toInt ≠ 0 → (q_I δ 7 5 a0).toInt ≠ 0) ∧ ((q_I δ 7 5 a0).toInt = 0 → (x1).toInt ≤ (x3v).toInt ∧ (x3v).toInt ≤ (x2).toInt) from ⟨I, ⟨kp_w (by decide) kp_r, rfl, rfl⟩, by first | assumption | omega, by first | assumption | omega, by first | assumption | omega, by first | assumption | omega⟩)
            · have c108 : x2.toInt < x3v.toInt := o_nle h105
              unfold J_X7_readNumber_111
              refine ok_bind (k_X7_refuse L hN (a0 := a0) (x1 := (2 : Int32)) k_a0 (show (2 : Int) ≠ 0 by first | assumption | omega) I) (fun r109 hr110 => ?_)
              obtain ⟨i111, ⟨u113, u114, u115⟩, p112⟩ := hr110
              have u116 := kp_t kp_r u113
              have v117 : q_V r109 = q_V δ := (u114).trans rfl
              have v118 : q_R r109 = q_R δ := (u115).trans rfl
              have f119 := ti_b (q_I r109 7 5 a0)
              unfold J_X7_readNumber_116
              have f120 := ti_b (q_I δ 7 5 a0)
              exact ok_some (show CI ad h.1 δ0 r109 ∧ (kp [(7, 3), (7, 4), (7, 5), (7, 6)] δ r109 ∧ q_V r109 = q_V δ ∧ q_R r109 = q_R δ) ∧ 0 ≤ (x3v).toInt ∧ (x3v).toInt ≤ 1000000 ∧ ((q_I δ 7 5 a0).toInt ≠ 0 → (q_I r109 7 5 a0).toInt ≠ 0) ∧ ((q_I r109 7 5 a0).toInt = 0 → (x1).toInt ≤ (x3v).toInt ∧ (x3v).toInt ≤ (x2).toInt) from ⟨i111, ⟨kp_w (by decide) u116, v117, v118⟩, by first | assumption | omega, by first | assumption | omega, by first | assumption | omega, by first | assumption | omega⟩)
      · have c121 : (48 : Int) ≤ (q_R δ b59 (q_I δ 7 3 a0).toNatClampNeg).toInt := o_nlt h67
        refine ok_at o60 ?_
        refine ok_gd (fun hc122 => ?_) ?_
        · rcases hc122 with hc122 | hc122
          · have c123 : (q_I δ 7 3 a0).toInt < (0 : Int) := o_lt hc122
            omega
          · omega
        refine ok_ite (fun h124 => ?_) (fun h124 => ?_)
        · have c125 : (57 : Int) < (q_R δ b59 (q_I δ 7 3 a0).toNatClampNeg).toInt := o_lt h124
          unfold J_X7_readNumber_82
          have f126 := cb_7_4 I k_a0
          refine ok_ite (fun h127 => ?_) (fun h127 => ?_)
          · have c128 : (q_I δ 7 3 a0).toInt = (q_I δ 7 4 a0).toInt := o_eq h127
            refine ok_bind (k_X7_refuse L hN (a0 := a0) (x1 := (1 : Int32)) k_a0 (show (1 : Int) ≠ 0 by first | assumption | omega) I) (fun r129 hr130 => ?_)
            obtain ⟨i131, ⟨u133, u134, u135⟩, p132⟩ := hr130
            have u136 := kp_t kp_r u133
            have v137 : q_V r129 = q_V δ := (u134).trans rfl
            have v138 : q_R r129 = q_R δ := (u135).trans rfl
            have f139 := ti_b (q_I r129 7 5 a0)
            unfold J_X7_readNumber_116
            have f140 := ti_b (q_I δ 7 5 a0)
            have f141 := ti_b x1
            have f142 := ti_b x2
            exact ok_some (show CI ad h.1 δ0 r129 ∧ (kp [(7, 3), (7, 4), (7, 5), (7, 6)] δ r129 ∧ q_V r129 = q_V δ ∧ q_R r129 = q_R δ) ∧ 0 ≤ (x3v).toInt ∧ (x3v).toInt ≤ 1000000 ∧ ((q_I δ 7 5 a0).toInt ≠ 0 → (q_I r129 7 5 a0).toInt ≠ 0) ∧ ((q_I r129 7 5 a0).toInt = 0 → (x1).toInt ≤ (x3v).toInt ∧ (x3v).toInt ≤ (x2).toInt) from ⟨i131, ⟨kp_w (by decide) u136, v137, v138⟩, by first | assumption | omega, by first | assumption | omega, by first | assumption | omega, by first | assumption | omega⟩)
          · have c143 : (q_I δ 7 3 a0).toInt ≠ (q_I δ 7 4 a0).toInt := o_ne h127
            have f144 := ti_b x1
            refine ok_ite (fun h145 => ?_) (fun h145 => ?_)
            · have c146 : x3v.toInt < x1.toInt := o_lt h145
              unfold J_X7_readNumber_111
              refine ok_bind (k_X7_refuse L hN (a0 := a0) (x1 := (2 : Int32)) k_a0 (show (2 : Int) ≠ 0 by first | assumption | omega) I) (fun r147 hr148 => ?_)
              obtain ⟨i149, ⟨u151, u152, u153⟩, p150⟩ := hr148
              have u154 := kp_t kp_r u151
              have v155 : q_V r147 = q_V δ := (u152).trans rfl
              have v156 : q_R r147 = q_R δ := (u153).trans rfl
              have f157 := ti_b (q_I r147 7 5 a0)
              unfold J_X7_readNumber_116
              have f158 := ti_b (q_I δ 7 5 a0)
              have f159 := ti_b x2
              exact ok_some (show CI ad h.1 δ0 r147 ∧ (kp [(7, 3), (7, 4), (7, 5), (7, 6)] δ r147 ∧ q_V r147 = q_V δ ∧ q_R r147 = q_R δ) ∧ 0 ≤ (x3v).toInt ∧ (x3v).toInt ≤ 1000000 ∧ ((q_I δ 7 5 a0).toInt ≠ 0 → (q_I r147 7 5 a0).toInt ≠ 0) ∧ ((q_I r147 7 5 a0).toInt = 0 → (x1).toInt ≤ (x3v).toInt ∧ (x3v).toInt ≤ (x2).toInt) from ⟨i149, ⟨kp_w (by decide) u154, v155, v156⟩, by first | assumption | omega, by first | assumption | omega, by first | assumption | omega, by first | assumption | omega⟩)
            · have c160 : x1.toInt ≤ x3v.toInt := o_nlt h145
              have f161 := ti_b x2
              refine ok_ite (fun h162 => ?_) (fun h162 => ?_)
              · have c163 : x3v.toInt ≤ x2.toInt := o_le h162
                unfold J_X7_readNumber_116
                have f164 := ti_b (q_I δ 7 5 a0)
                exact ok_some (show CI ad h.1 δ0 δ ∧ (kp [(7, 3), (7, 4), (7, 5), (7, 6)] δ δ ∧ q_V δ = q_V δ ∧ q_R δ = q_R δ) ∧ 0 ≤ (x3v).toInt ∧ (x3v).toInt ≤ 1000000 ∧ ((q_I δ 7 5 a0).toInt ≠ 0 → (q_I δ 7 5 a0).toInt ≠ 0) ∧ ((q_I δ 7 5 a0).toInt = 0 → (x1).toInt ≤ (x3v).toInt ∧ (x3v).toInt ≤ (x2).toInt) from ⟨I, ⟨kp_w (by decide) kp_r, rfl, rfl⟩, by first | assumption | omega, by first | assumption | omega, by first | assumption | omega, by first | assumption | omega⟩)
              · have c165 : x2.toInt < x3v.toInt := o_nle h162
                unfold J_X7_readNumber_111
                refine ok_bind (k_X7_refuse L hN (a0 := a0) (x1 := (2 : Int32)) k_a0 (show (2 : Int) ≠ 0 by first | assumption | omega) I) (fun r166 hr167 => ?_)
                obtain ⟨i168, ⟨u170, u171, u172⟩, p169⟩ := hr167
                have u173 := kp_t kp_r u170
                have v174 : q_V r166 = q_V δ := (u171).trans rfl
                have v175 : q_R r166 = q_R δ := (u172).trans rfl
                have f176 := ti_b (q_I r166 7 5 a0)
                unfold J_X7_readNumber_116
                have f177 := ti_b (q_I δ 7 5 a0)
                exact ok_some (show CI ad h.1 δ0 r166 ∧ (kp [(7, 3), (7, 4), (7, 5), (7, 6)] δ r166 ∧ q_V r166 = q_V δ ∧ q_R r166 = q_R δ) ∧ 0 ≤ (x3v).toInt ∧ (x3v).toInt ≤ 1000000 ∧ ((q_I δ 7 5 a0).toInt ≠ 0 → (q_I r166 7 5 a0).toInt ≠ 0) ∧ ((q_I r166 7 5 a0).toInt = 0 → (x1).toInt ≤ (x3v).toInt ∧ (x3v).toInt ≤ (x2).toInt) from ⟨i168, ⟨kp_w (by decide) u173, v174, v175⟩, by first | assumption | omega, by first | assumption | omega, by first | assumption | omega, by first | assumption | omega⟩)
        · have c178 : (q_R δ b59 (q_I δ 7 3 a0).toNatClampNeg).toInt ≤ (57 : Int) := o_nlt h124
          refine ok_at o60 ?_
          refine ok_gd (fun hc179 => ?_) ?_
          · rcases hc179 with hc179 | hc179
            · have c180 : (q_I δ 7 3 a0).toInt < (0 : Int) := o_lt hc179
              omega
            · omega
          refine ok_bind (k_J9_min_7cf53 L hN (x0 := (((x3v * (10 : Int32)) + (q_R δ b59 (q_I δ 7 3 a0).toNatClampNeg)) - (48 : Int32))) (x1 := (1000000 : Int32))  I) (fun r181 hr182 => ?_)
          obtain ⟨i183, p184, p185, p186⟩ := hr182
          try rw [i183]
          have f187 := ti_b r181.1
          first | (have q189 := te_mulr (c := 10) (n := 10) rfl x3v (by omega) (by omega); obtain ⟨f190, f191, f192⟩ := q189) | (obtain ⟨q189, f190, f191, f192⟩ := ti_mulr (c := 10) (n := 10) rfl x3v)
          first | (have q194 := te_add (x3v * (10 : Int32)) (q_R δ b59 (q_I δ 7 3 a0).toNatClampNeg) (by omega) (by omega); obtain ⟨f195, f196, f197⟩ := q194) | (obtain ⟨q194, f195, f196, f197⟩ := ti_add (x3v * (10 : Int32)) (q_R δ b59 (q_I δ 7 3 a0).toNatClampNeg))
          first | (have q199 := te_subc (c := 48) (n := 48) rfl ((x3v * (10 : Int32)) + (q_R δ b59 (q_I δ 7 3 a0).toNatClampNeg)) (by omega) (by omega); obtain ⟨f200, f201, f202⟩ := q199) | (obtain ⟨q199, f200, f201, f202⟩ := ti_subc (c := 48) (n := 48) rfl ((x3v * (10 : Int32)) + (q_R δ b59 (q_I δ 7 3 a0).toNatClampNeg)))
          replace p185 : (r181.1).toInt ≤ (1000000 : Int) := p185
          replace p186 : ((r181.1).toInt = ((((x3v * (10 : Int32)) + (q_R δ b59 (q_I δ 7 3 a0).toNatClampNeg)) - (48 : Int32))).toInt ∨ (r181.1).toInt = (1000000 : Int)) := p186
          have f203 := ti_b r181.1
          first | (have q208 := te_addc (c := 1) (n := 1) rfl (q_I δ 7 3 a0) (by omega) (by omega); obtain ⟨f209, f210, f211⟩ := q208) | (obtain ⟨q208, f209, f210, f211⟩ := ti_addc (c := 1) (n := 1) rfl (q_I δ 7 3 a0))
          refine ok_bdv (fun d204 e205 => ?_)
          have i206 : CI ad h.1 δ0 d204 := by rw [e205]; exact cs_7_3 L I k_a0 (show 0 ≤ ((q_I δ 7 3 a0) + (1 : Int32)).toInt by omega) (show ((q_I δ 7 3 a0) + (1 : Int32)).toInt ≤ 500 by omega)
          have u212 := kp_I kp_r e205
          have v213 : q_V d204 = q_V δ := ((show q_V d204 = q_V δ by rw [e205]; rfl)).trans rfl
          have v214 : q_R d204 = q_R δ := ((show q_R d204 = q_R δ by rw [e205]; rfl)).trans rfl
          have f215 := cb_7_3 i206 k_a0
          have f216 : (q_I d204 7 3 a0).toInt = ((q_I δ 7 3 a0) + (1 : Int32)).toInt := congrArg Int32.toInt (show q_I d204 7 3 a0 = ((q_I δ 7 3 a0) + (1 : Int32)) by rw [e205]; exact rI_s)
          refine ok_mono (ih r181.1 d204 i206 (show 0 ≤ (r181.1).toInt by first | assumption | omega) (show (r181.1).toInt ≤ 1000000 by first | assumption | omega) (show 501 - (q_I d204 7 3 a0).toInt < _ by omega)) (fun r217 hr218 => ?_)
          obtain ⟨i219, ⟨u224, u225, u226⟩, p220, p221, p222, p223⟩ := hr218
          have u227 := kp_t u212 u224
          have v228 : q_V r217.2 = q_V δ := (u225).trans v213
          have v229 : q_R r217.2 = q_R δ := (u226).trans v214
          have f230 := ti_b r217.1
          have f231 := ti_b (q_I d204 7 5 a0)
          have f232 : (q_I d204 7 5 a0).toInt = (q_I δ 7 5 a0).toInt := congrArg Int32.toInt (by rw [e205]; exact rI_o (by decide))
          have f233 := ti_b (q_I δ 7 5 a0)
          have f234 := ti_b (q_I r217.2 7 5 a0)
          have f235 := ti_b x1
          have f236 := ti_b x2
          have f237 := ti_b r217.1
          exact ⟨by assumption, ⟨kp_w (by decide) u227, v228, v229⟩, by first | assumption | omega, by first | assumption | omega, by first | assumption | omega, by first | assumption | omega⟩
set_option maxHeartbeats 4000000 in
theorem k_X7_readNumber {ad : List Nat} {h : hp} (L : Lay TLx ad h) {δ0 : dp} {N : Nat} (hN : 10000000 ≤ N) {a0 : Nat} {x1 : Int32} {x2 : Int32} (k_a0 : q_K h.1 a0 = 7) {δ : dp} (I : CI ad h.1 δ0 δ) : ok (D_X7_readNumber N h.1 a0 x1 x2 δ) (fun r => CI ad h.1 δ0 r.2 ∧ (kp [(7, 3), (7, 4), (7, 5), (7, 6)] δ r.2 ∧ q_V r.2 = q_V δ ∧ q_R r.2 = q_R δ) ∧ 0 ≤ (r.1).toInt ∧ (r.1).toInt ≤ 1000000 ∧ ((q_I δ 7 5 a0).toInt ≠ 0 → (q_I r.2 7 5 a0).toInt ≠ 0) ∧ ((q_I r.2 7 5 a0).toInt = 0 → (x1).toInt ≤ (r.1).toInt ∧ (r.1).toInt ≤ (x2).toInt)) := by
  unfold D_X7_readNumber
  refine ok_bind (k_X7_ahead L hN (a0 := a0) k_a0 I) (fun r1 hr2 => ?_)
  obtain ⟨i3, ⟨u5, u6, u7⟩, p4⟩ := hr2
  have u8 := kp_t kp_r u5
  have v9 : q_V r1.2 = q_V δ := (u6).trans rfl
  have v10 : q_R r1.2 = q_R δ := (u7).trans rfl
  have f11 := ti_b r1.1
  have f12 := cb_7_3 i3 k_a0
  have f13 := cb_7_2 i3 k_a0
  have f14 : (q_I r1.2 7 2 a0).toInt = (q_I δ 7 2 a0).toInt := congrArg Int32.toInt (u5 7 2 a0 (by decide))
  have f15 := cb_7_2 I k_a0
  have f16 := ti_b r1.1
  refine ok_mono (kl_X7_readNumber_7 L hN   k_a0 _ (0 : Int32) r1.2 i3 (show 0 ≤ (0 : Int) by first | assumption | omega) (show (0 : Int) ≤ 1000000 by first | assumption | omega) (show 501 - (q_I r1.2 7 3 a0).toInt < _ by omega)) (fun r17 hr18 => ?_)
  obtain ⟨i19, ⟨u24, u25, u26⟩, p20, p21, p22, p23⟩ := hr18
  have u27 := kp_t u8 u24
  have v28 : q_V r17.2 = q_V δ := (u25).trans v9
  have v29 : q_R r17.2 = q_R δ := (u26).trans v10
  have f30 := ti_b r17.1
  have f31 := ti_b (q_I r1.2 7 5 a0)
  have f32 : (q_I r1.2 7 5 a0).toInt = (q_I δ 7 5 a0).toInt := congrArg Int32.toInt (u5 7 5 a0 (by decide))
  have f33 := ti_b (q_I δ 7 5 a0)
  have f34 := ti_b (q_I r17.2 7 5 a0)
  have f35 := ti_b x1
  have f36 := ti_b x2
  have f37 := ti_b r17.1
  exact ⟨by assumption, ⟨kp_w (by decide) u27, v28, v29⟩, by first | assumption | omega, by first | assumption | omega, by first | assumption | omega, by first | assumption | omega⟩
