/-! 77.kX12d (by gen_safe.py) -/
set_option maxHeartbeats 4000000 in
theorem k_X12_mostSet {ad : List Nat} {h : hp} (L : Lay TLx ad h) {δ0 : dp} {N : Nat} (hN : 10000000 ≤ N) {a0 : Nat} (k_a0 : q_K h.1 a0 = 12) {δ : dp} (I : RI ad h.1 δ0 δ) : ok (D_X12_mostSet N h.1 a0 δ) (fun r => r.2 = δ ∧ 3 ≤ (r.1).toInt ∧ (r.1).toInt ≤ 16) := by
  unfold D_X12_mostSet
  have f1 := cb_12_10 I k_a0
  refine ok_ite (fun h2 => ?_) (fun h2 => ?_)
  · have c3 : (4 : Int) < (q_I δ 12 10 a0).toInt := o_lt h2
    unfold J_X12_mostSet_14
    exact ok_some (show δ = δ ∧ 3 ≤ (3 : Int) ∧ (3 : Int) ≤ 16 from ⟨rfl, by first | assumption | omega, by first | assumption | omega⟩)
  · have c4 : (q_I δ 12 10 a0).toInt ≤ (4 : Int) := o_nlt h2
    unfold J_X12_mostSet_14
    exact ok_some (show δ = δ ∧ 3 ≤ (16 : Int) ∧ (16 : Int) ≤ 16 from ⟨rfl, by first | assumption | omega, by first | assumption | omega⟩)
set_option maxHeartbeats 4000000 in
theorem k_X12_isWorst {ad : List Nat} {h : hp} (L : Lay TLx ad h) {δ0 : dp} {N : Nat} (hN : 10000000 ≤ N) {a0 : Nat} {x1 : Int32} (k_a0 : q_K h.1 a0 = 12) {δ : dp} (I : RI ad h.1 δ0 δ) : ok (D_X12_isWorst N h.1 a0 x1 δ) (fun r => r.2 = δ ∧ bo (r.1) ∧ ((r.1).toInt = 1 → 0 ≤ (x1).toInt ∧ (x1).toInt ≤ 16)) := by
  unfold D_X12_isWorst
  have f1 := cb_12_10 I k_a0
  refine ok_ite (fun h2 => ?_) (fun h2 => ?_)
  · have c3 : (6 : Int) < (q_I δ 12 10 a0).toInt := o_lt h2
    unfold J_X12_isWorst_25
    unfold J_X12_isWorst_26
    refine ok_gp (by decide) ?_
    have f4 := ti_b x1
    exact ok_some (show δ = δ ∧ bo ((0 : Int32)) ∧ ((0 : Int) = 1 → 0 ≤ (x1).toInt ∧ (x1).toInt ≤ 16) from ⟨rfl, bo_0, by first | assumption | omega⟩)
  · have c5 : (q_I δ 12 10 a0).toInt ≤ (6 : Int) := o_nlt h2
    refine ok_bind (k_X12_mostSet L hN (a0 := a0) k_a0 I) (fun r6 hr7 => ?_)
    obtain ⟨i8, p9, p10⟩ := hr7
    try rw [i8]
    have f11 := ti_b r6.1
    have f12 := ti_b r6.1
    refine ok_bind (k_X12_within L hN (x0 := x1) (x1 := (0 : Int32)) (x2 := r6.1)  I) (fun r13 hr14 => ?_)
    obtain ⟨i15, p16, p17, p18⟩ := hr14
    try rw [i15]
    have f19 := bo_t p16
    have f20 := ti_b r13.1
    have f21 := ti_b x1
    replace p17 : ((r13.1).toInt = 1 → (0 : Int) ≤ (x1).toInt ∧ (x1).toInt ≤ (r6.1).toInt) := p17
    replace p18 : ((r13.1).toInt = 0 → (x1).toInt < (0 : Int) ∨ (r6.1).toInt < (x1).toInt) := p18
    have f22 := ti_b r13.1
    refine ok_ite (fun h23 => ?_) (fun h23 => ?_)
    · have c24 : r13.1.toInt = (0 : Int) := o_eq h23
      unfold J_X12_isWorst_25
      unfold J_X12_isWorst_26
      refine ok_gp (by decide) ?_
      exact ok_some (show δ = δ ∧ bo ((0 : Int32)) ∧ ((0 : Int) = 1 → 0 ≤ (x1).toInt ∧ (x1).toInt ≤ 16) from ⟨rfl, bo_0, by first | assumption | omega⟩)
    · have c25 : r13.1.toInt ≠ (0 : Int) := o_ne h23
      unfold J_X12_isWorst_26
      refine ok_gp (by decide) ?_
      exact ok_some (show δ = δ ∧ bo ((1 : Int32)) ∧ ((1 : Int) = 1 → 0 ≤ (x1).toInt ∧ (x1).toInt ≤ 16) from ⟨rfl, bo_1, by first | assumption | omega⟩)
set_option maxHeartbeats 4000000 in
theorem kl_X12_asks_104 {ad : List Nat} {h : hp} (L : Lay TLx ad h) {δ0 : dp} {N : Nat} (hN : 10000000 ≤ N) {a0 : Nat} {x1 : Int32} {x2 : Int32} {kt2 : Int32 → dp → Option (dp)} {K2 : Int} (h_kt2 : ∀ (x3v : Int32) (δ : dp), RI ad h.1 δ0 δ → 0 ≤ (x2).toInt → (x2).toInt ≤ 16 → 0 ≤ (x3v).toInt → (x3v).toInt ≤ 65536 → 65536 - (x3v).toInt < K2 → ok (kt2 x3v δ) (fun r => RI ad h.1 δ0 r ∧ (kp [(12, 36), (12, 37), (12, 38), (12, 39)] δ r ∧ q_V r = q_V δ ∧ kr ad [119, 120] δ r))) (k_a0 : q_K h.1 a0 = 12) : ∀ (n : Nat) (x3v : Int32) (x5v : Int32) (δ : dp), RI ad h.1 δ0 δ → 0 ≤ (x2).toInt → (x2).toInt ≤ 16 → 0 ≤ (x3v).toInt → (x3v).toInt < 65536 → 65536 - (x3v).toInt ≤ K2 → 0 ≤ (x5v).toInt → (x5v).toInt ≤ 16 → 16 - (x5v).toInt < (n : Int) → ok (L_X12_asks_104 N h.1 a0 x1 x2 kt2 n x3v x5v δ) (fun r => RI ad h.1 δ0 r ∧ (kp [(12, 36), (12, 37), (12, 38), (12, 39)] δ r ∧ q_V r = q_V δ ∧ kr ad [119, 120] δ r)) := by
  intro n
  induction n with
  | zero =>
    intro x3v x5v δ I j0 j1 j2 j3 j4 j5 j6 hm
    have f1 := ti_b x2
    have f2 := ti_b x3v
    have f3 := ti_b x5v
    exfalso; omega
  | succ n ih =>
    intro x3v x5v δ I j0 j1 j2 j3 j4 j5 j6 hm
    unfold L_X12_asks_104
    have f1 := ti_b x2
    have f2 := ti_b x3v
    have f3 := ti_b x5v
    refine ok_ite (fun h4 => ?_) (fun h4 => ?_)
    · have c5 : x2.toInt ≤ x5v.toInt := o_le h4
      unfold J_X12_asks_130
      refine ok_biv (fun vx6 e7 => ?_)
      first | (have q8 := te_addc (c := 1) (n := 1) rfl x3v (by omega) (by omega); rw [← e7] at q8; obtain ⟨f9, f10, f11⟩ := q8) | (obtain ⟨q8, f9, f10, f11⟩ : ∃ q : Int, vx6.toInt = x3v.toInt + (1 : Int) + 4294967296 * q ∧ -2147483648 ≤ vx6.toInt ∧ vx6.toInt ≤ 2147483647 := by rw [e7]; exact ti_addc (c := 1) (n := 1) rfl x3v)
      refine ok_mono (h_kt2 vx6 δ I (show 0 ≤ (x2).toInt by first | assumption | omega) (show (x2).toInt ≤ 16 by first | assumption | omega) (show 0 ≤ (vx6).toInt by first | assumption | omega) (show (vx6).toInt ≤ 65536 by first | assumption | omega) (show 65536 - (vx6).toInt < _ by omega)) (fun r12 hr13 => ?_)
      obtain ⟨i14, ⟨u15, u16, u17⟩⟩ := hr13
      have u18 := kp_t kp_r u15
      have v19 : q_V r12 = q_V δ := (u16).trans rfl
      have v20 := kr_t kr_r u17
      exact ⟨by assumption, ⟨kp_w (by decide) u18, v19, kr_w (by decide) v20⟩⟩
    · have c21 : x5v.toInt < x2.toInt := o_nle h4
      obtain ⟨b22, o23, k24, n25, w26⟩ := gO_12_41 L k_a0
      obtain rfl := gS_12_41 L k_a0 o23
      refine ok_at o23 ?_
      obtain ⟨b27, o28, k29, n30, w31⟩ := gO_12_42 L k_a0
      obtain rfl := gS_12_42 L k_a0 o28
      refine ok_at o28 ?_
      have t32 := ti_tn x5v
      refine ok_gd (fun hc33 => ?_) ?_
      · rcases hc33 with hc33 | hc33
        · have c34 : x5v.toInt < (0 : Int) := o_lt hc33
          omega
        · omega
      refine ok_gd (fun hc35 => ?_) ?_
      · rcases hc35 with hc35 | hc35
        · have c36 : x5v.toInt < (0 : Int) := o_lt hc35
          omega
        · omega
      refine ok_bdv (fun d37 e38 => ?_)
      have i39 : RI ad h.1 δ0 d37 := by rw [e38]; exact RI.sR L I w26
      have u40 := kp_N kp_r (show q_I d37 = q_I δ by rw [e38]; rfl)
      have v41 : q_V d37 = q_V δ := ((show q_V d37 = q_V δ by rw [e38]; rfl)).trans rfl
      have v42 := kr_s L (by decide) kr_r e38
      refine ok_biv (fun vx43 e44 => ?_)
      first | (have q45 := te_addc (c := 1) (n := 1) rfl x5v (by omega) (by omega); rw [← e44] at q45; obtain ⟨f46, f47, f48⟩ := q45) | (obtain ⟨q45, f46, f47, f48⟩ : ∃ q : Int, vx43.toInt = x5v.toInt + (1 : Int) + 4294967296 * q ∧ -2147483648 ≤ vx43.toInt ∧ vx43.toInt ≤ 2147483647 := by rw [e44]; exact ti_addc (c := 1) (n := 1) rfl x5v)
      refine ok_mono (ih x3v vx43 d37 i39 (show 0 ≤ (x2).toInt by first | assumption | omega) (show (x2).toInt ≤ 16 by first | assumption | omega) (show 0 ≤ (x3v).toInt by first | assumption | omega) (show (x3v).toInt < 65536 by first | assumption | omega) (show 65536 - (x3v).toInt ≤ K2 by first | assumption | omega) (show 0 ≤ (vx43).toInt by first | assumption | omega) (show (vx43).toInt ≤ 16 by first | assumption | omega) (show 16 - (vx43).toInt < _ by omega)) (fun r49 hr50 => ?_)
      obtain ⟨i51, ⟨u52, u53, u54⟩⟩ := hr50
      have u55 := kp_t u40 u52
      have v56 : q_V r49 = q_V δ := (u53).trans v41
      have v57 := kr_t v42 u54
      exact ⟨by assumption, ⟨kp_w (by decide) u55, v56, kr_w (by decide) v57⟩⟩
set_option maxHeartbeats 4000000 in
theorem kl_X12_asks_18 {ad : List Nat} {h : hp} (L : Lay TLx ad h) {δ0 : dp} {N : Nat} (hN : 10000000 ≤ N) {a0 : Nat} {x1 : Int32} {x2 : Int32} {kt2 : Int32 → dp → Option (dp)} {K2 : Int} (h_kt2 : ∀ (x3v : Int32) (δ : dp), RI ad h.1 δ0 δ → 0 ≤ (x2).toInt → (x2).toInt ≤ 16 → 0 ≤ (x3v).toInt → (x3v).toInt ≤ 65536 → 65536 - (x3v).toInt < K2 → ok (kt2 x3v δ) (fun r => RI ad h.1 δ0 r ∧ (kp [(12, 36), (12, 37), (12, 38), (12, 39)] δ r ∧ q_V r = q_V δ ∧ kr ad [119, 120] δ r))) (k_a0 : q_K h.1 a0 = 12) : ∀ (n : Nat) (x3v : Int32) (x4v : Int32) (δ : dp), RI ad h.1 δ0 δ → 0 ≤ (x2).toInt → (x2).toInt ≤ 16 → 0 ≤ (x3v).toInt → (x3v).toInt < 65536 → 65536 - (x3v).toInt ≤ K2 → 0 ≤ (x4v).toInt → (x4v).toInt ≤ 16 → (q_I δ 12 36 a0).toInt = (x4v).toInt → 16 - (x4v).toInt < (n : Int) → ok (L_X12_asks_18 N h.1 a0 x1 x2 kt2 n x3v x4v δ) (fun r => RI ad h.1 δ0 r ∧ (kp [(12, 36), (12, 37), (12, 38), (12, 39)] δ r ∧ q_V r = q_V δ ∧ kr ad [119, 120] δ r)) := by
  intro n
  induction n with
  | zero =>
    intro x3v x4v δ I j0 j1 j2 j3 j4 j5 j6 j7 hm
    have f1 := ti_b x2
    have f2 := ti_b x3v
    have f3 := ti_b x4v
    have f4 := cb_12_36 I k_a0
    exfalso; omega
  | succ n ih =>
    intro x3v x4v δ I j0 j1 j2 j3 j4 j5 j6 j7 hm
    unfold L_X12_asks_18
    have f1 := ti_b x2
    have f2 := ti_b x3v
    have f3 := ti_b x4v
    have f4 := cb_12_36 I k_a0
    refine ok_ite (fun h5 => ?_) (fun h5 => ?_)
    · have c6 : x2.toInt ≤ x4v.toInt := o_le h5
      have f9 := cb_12_10 I k_a0
      refine ok_bind (k_X12_touch L hN (a0 := a0) (x1 := x1) (x2 := x3v) (x3 := (q_I δ 12 10 a0)) (x4 := (0 : Int32)) (x5 := (q_I δ 12 36 a0)) k_a0 (show 1 ≤ ((q_I δ 12 10 a0)).toInt by first | assumption | omega) (show ((q_I δ 12 10 a0)).toInt ≤ 16 by first | assumption | omega) (show 0 ≤ (0 : Int) by first | assumption | omega) (show (0 : Int) ≤ ((q_I δ 12 36 a0)).toInt by first | assumption | omega) (show ((q_I δ 12 36 a0)).toInt ≤ (0 : Int) + 2000 by first | assumption | omega) (show ((q_I δ 12 36 a0)).toInt ≤ (q_I δ 12 36 a0).toInt by first | assumption | omega) (show (q_I δ 12 36 a0).toInt ≤ 12000 by first | assumption | omega) (show 1 < ((q_I δ 12 10 a0)).toInt → (q_I δ 12 36 a0).toInt ≤ 10000 by first | assumption | omega) (show 2 < ((q_I δ 12 10 a0)).toInt → (q_I δ 12 36 a0).toInt ≤ 8000 by first | assumption | omega) (show 4 < ((q_I δ 12 10 a0)).toInt → (q_I δ 12 36 a0).toInt ≤ 6000 by first | assumption | omega) (show 8 < ((q_I δ 12 10 a0)).toInt → (q_I δ 12 36 a0).toInt ≤ 4000 by first | assumption | omega) (show ((q_I δ 12 10 a0)).toInt < 20 by first | assumption | omega) I) (fun r7 hr8 => ?_)
      obtain ⟨i10, ⟨u12, u13, u14⟩, p11⟩ := hr8
      have u15 := kp_t kp_r u12
      have v16 : q_V r7.2 = q_V δ := (u13).trans rfl
      have v17 := kr_t kr_r u14
      have f18 := cb_12_36 i10 k_a0
      have f19 := ti_b r7.1
      have f20 := ti_b (q_I r7.2 12 37 a0)
      have f21 : (q_I r7.2 12 37 a0).toInt = (q_I δ 12 37 a0).toInt := congrArg Int32.toInt (u12 12 37 a0 (by decide))
      have f22 := ti_b (q_I δ 12 37 a0)
      refine ok_ite (fun h23 => ?_) (fun h23 => ?_)
      · have c24 : (q_I r7.2 12 37 a0).toInt < r7.1.toInt := o_lt h23
        refine ok_bdv (fun d25 e26 => ?_)
        have i27 : RI ad h.1 δ0 d25 := by rw [e26]; exact cs_12_37 L i10
        have u28 := kp_I u15 e26
        have v29 : q_V d25 = q_V δ := ((show q_V d25 = q_V r7.2 by rw [e26]; rfl)).trans v16
        have v30 := kr_N v17 (show q_R d25 = q_R r7.2 by rw [e26]; rfl)
        refine ok_bdv (fun d31 e32 => ?_)
        have i33 : RI ad h.1 δ0 d31 := by rw [e32]; exact cs_12_38 L i27 k_a0 (show 0 ≤ x2.toInt by omega) (show x2.toInt ≤ 16 by omega)
        have u34 := kp_I u28 e32
        have v35 : q_V d31 = q_V δ := ((show q_V d31 = q_V d25 by rw [e32]; rfl)).trans v29
        have v36 := kr_N v30 (show q_R d31 = q_R d25 by rw [e32]; rfl)
        refine ok_bdv (fun d37 e38 => ?_)
        have i39 : RI ad h.1 δ0 d37 := by rw [e38]; exact cs_12_39 L i33
        have u40 := kp_I u34 e38
        have v41 : q_V d37 = q_V δ := ((show q_V d37 = q_V d31 by rw [e38]; rfl)).trans v35
        have v42 := kr_N v36 (show q_R d37 = q_R d31 by rw [e38]; rfl)
        refine ok_mono (kl_X12_asks_104 L hN (K2 := K2) h_kt2 k_a0 _ x3v (0 : Int32) d37 i39 (show 0 ≤ (x2).toInt by first | assumption | omega) (show (x2).toInt ≤ 16 by first | assumption | omega) (show 0 ≤ (x3v).toInt by first | assumption | omega) (show (x3v).toInt < 65536 by first | assumption | omega) (show 65536 - (x3v).toInt ≤ K2 by first | assumption | omega) (show 0 ≤ (0 : Int) by first | assumption | omega) (show (0 : Int) ≤ 16 by first | assumption | omega) (show 16 - (0 : Int) < _ by omega)) (fun r43 hr44 => ?_)
        obtain ⟨i45, ⟨u46, u47, u48⟩⟩ := hr44
        have u49 := kp_t u40 u46
        have v50 : q_V r43 = q_V δ := (u47).trans v41
        have v51 := kr_t v42 u48
        exact ⟨by assumption, ⟨kp_w (by decide) u49, v50, kr_w (by decide) v51⟩⟩
      · have c52 : r7.1.toInt ≤ (q_I r7.2 12 37 a0).toInt := o_nlt h23
        unfold J_X12_asks_130
        refine ok_biv (fun vx53 e54 => ?_)
        first | (have q55 := te_addc (c := 1) (n := 1) rfl x3v (by omega) (by omega); rw [← e54] at q55; obtain ⟨f56, f57, f58⟩ := q55) | (obtain ⟨q55, f56, f57, f58⟩ : ∃ q : Int, vx53.toInt = x3v.toInt + (1 : Int) + 4294967296 * q ∧ -2147483648 ≤ vx53.toInt ∧ vx53.toInt ≤ 2147483647 := by rw [e54]; exact ti_addc (c := 1) (n := 1) rfl x3v)
        refine ok_mono (h_kt2 vx53 r7.2 i10 (show 0 ≤ (x2).toInt by first | assumption | omega) (show (x2).toInt ≤ 16 by first | assumption | omega) (show 0 ≤ (vx53).toInt by first | assumption | omega) (show (vx53).toInt ≤ 65536 by first | assumption | omega) (show 65536 - (vx53).toInt < _ by omega)) (fun r59 hr60 => ?_)
        obtain ⟨i61, ⟨u62, u63, u64⟩⟩ := hr60
        have u65 := kp_t u15 u62
        have v66 : q_V r59 = q_V δ := (u63).trans v16
        have v67 := kr_t v17 u64
        exact ⟨by assumption, ⟨kp_w (by decide) u65, v66, kr_w (by decide) v67⟩⟩
    · have c68 : x4v.toInt < x2.toInt := o_nle h5
      obtain ⟨b69, o70, k71, n72, w73⟩ := gO_12_35 L k_a0
      obtain rfl := gS_12_35 L k_a0 o70
      refine ok_at o70 ?_
      obtain ⟨b74, o75, k76, n77, w78⟩ := gO_12_42 L k_a0
      obtain rfl := gS_12_42 L k_a0 o75
      refine ok_at o75 ?_
      have t79 := ti_tn x4v
      refine ok_gd (fun hc80 => ?_) ?_
      · rcases hc80 with hc80 | hc80
        · have c81 : x4v.toInt < (0 : Int) := o_lt hc80
          omega
        · omega
      have t82 := ti_tn (q_I δ 12 36 a0)
      refine ok_gd (fun hc83 => ?_) ?_
      · rcases hc83 with hc83 | hc83
        · have c84 : (q_I δ 12 36 a0).toInt < (0 : Int) := o_lt hc83
          omega
        · omega
      refine ok_bdv (fun d85 e86 => ?_)
      have i87 : RI ad h.1 δ0 d85 := by rw [e86]; exact RI.sR L I w73
      have u88 := kp_N kp_r (show q_I d85 = q_I δ by rw [e86]; rfl)
      have v89 : q_V d85 = q_V δ := ((show q_V d85 = q_V δ by rw [e86]; rfl)).trans rfl
      have v90 := kr_s L (by decide) kr_r e86
      have f94 := cb_12_36 i87 k_a0
      have f95 : (q_I d85 12 36 a0).toInt = (q_I δ 12 36 a0).toInt := congrArg Int32.toInt (by rw [e86]; rfl)
      first | (have q97 := te_addc (c := 1) (n := 1) rfl (q_I d85 12 36 a0) (by omega) (by omega); obtain ⟨f98, f99, f100⟩ := q97) | (obtain ⟨q97, f98, f99, f100⟩ := ti_addc (c := 1) (n := 1) rfl (q_I d85 12 36 a0))
      refine ok_bdv (fun d91 e92 => ?_)
      have i93 : RI ad h.1 δ0 d91 := by rw [e92]; exact cs_12_36 L i87 k_a0 (show 0 ≤ ((q_I d85 12 36 a0) + (1 : Int32)).toInt by omega) (show ((q_I d85 12 36 a0) + (1 : Int32)).toInt ≤ 14000 by omega)
      have u101 := kp_I u88 e92
      have v102 : q_V d91 = q_V δ := ((show q_V d91 = q_V d85 by rw [e92]; rfl)).trans v89
      have v103 := kr_N v90 (show q_R d91 = q_R d85 by rw [e92]; rfl)
      refine ok_biv (fun vx104 e105 => ?_)
      first | (have q106 := te_addc (c := 1) (n := 1) rfl x4v (by omega) (by omega); rw [← e105] at q106; obtain ⟨f107, f108, f109⟩ := q106) | (obtain ⟨q106, f107, f108, f109⟩ : ∃ q : Int, vx104.toInt = x4v.toInt + (1 : Int) + 4294967296 * q ∧ -2147483648 ≤ vx104.toInt ∧ vx104.toInt ≤ 2147483647 := by rw [e105]; exact ti_addc (c := 1) (n := 1) rfl x4v)
      have f110 := cb_12_36 i93 k_a0
      have f111 : (q_I d91 12 36 a0).toInt = ((q_I d85 12 36 a0) + (1 : Int32)).toInt := congrArg Int32.toInt (show q_I d91 12 36 a0 = ((q_I d85 12 36 a0) + (1 : Int32)) by rw [e92]; exact rI_s)
      refine ok_mono (ih x3v vx104 d91 i93 (show 0 ≤ (x2).toInt by first | assumption | omega) (show (x2).toInt ≤ 16 by first | assumption | omega) (show 0 ≤ (x3v).toInt by first | assumption | omega) (show (x3v).toInt < 65536 by first | assumption | omega) (show 65536 - (x3v).toInt ≤ K2 by first | assumption | omega) (show 0 ≤ (vx104).toInt by first | assumption | omega) (show (vx104).toInt ≤ 16 by first | assumption | omega) (show (q_I d91 12 36 a0).toInt = (vx104).toInt by first | assumption | omega) (show 16 - (vx104).toInt < _ by omega)) (fun r112 hr113 => ?_)
      obtain ⟨i114, ⟨u115, u116, u117⟩⟩ := hr113
      have u118 := kp_t u101 u115
      have v119 : q_V r112 = q_V δ := (u116).trans v102
      have v120 := kr_t v103 u117
      exact ⟨by assumption, ⟨kp_w (by decide) u118, v119, kr_w (by decide) v120⟩⟩
set_option maxHeartbeats 4000000 in
theorem kl_X12_asks_2 {ad : List Nat} {h : hp} (L : Lay TLx ad h) {δ0 : dp} {N : Nat} (hN : 10000000 ≤ N) {a0 : Nat} {x1 : Int32} {x2 : Int32} (k_a0 : q_K h.1 a0 = 12) : ∀ (n : Nat) (x3v : Int32) (δ : dp), RI ad h.1 δ0 δ → 0 ≤ (x2).toInt → (x2).toInt ≤ 16 → 0 ≤ (x3v).toInt → (x3v).toInt ≤ 65536 → 65536 - (x3v).toInt < (n : Int) → ok (L_X12_asks_2 N h.1 a0 x1 x2 n x3v δ) (fun r => RI ad h.1 δ0 r ∧ (kp [(12, 36), (12, 37), (12, 38), (12, 39)] δ r ∧ q_V r = q_V δ ∧ kr ad [119, 120] δ r)) := by
  intro n
  induction n with
  | zero =>
    intro x3v δ I j0 j1 j2 j3 hm
    have f1 := ti_b x2
    have f2 := ti_b x3v
    exfalso; omega
  | succ n ih =>
    intro x3v δ I j0 j1 j2 j3 hm
    unfold L_X12_asks_2
    have f1 := ti_b x2
    have f2 := ti_b x3v
    refine ok_bind (k_X12_all L hN (a0 := a0) k_a0 I) (fun r3 hr4 => ?_)
    obtain ⟨i5, p6, p7, p8, p9⟩ := hr4
    try rw [i5]
    have f10 := ti_b r3.1
    have f11 := cb_12_10 I k_a0
    have f12 := ti_b r3.1
    refine ok_ite (fun h13 => ?_) (fun h13 => ?_)
    · have c14 : r3.1.toInt ≤ x3v.toInt := o_le h13
      exact ok_some (show RI ad h.1 δ0 δ ∧ (kp [(12, 36), (12, 37), (12, 38), (12, 39)] δ δ ∧ q_V δ = q_V δ ∧ kr ad [119, 120] δ δ) from ⟨I, ⟨kp_w (by decide) kp_r, rfl, kr_w (by decide) kr_r⟩⟩)
    · have c15 : x3v.toInt < r3.1.toInt := o_nle h13
      refine ok_bdv (fun d16 e17 => ?_)
      have i18 : RI ad h.1 δ0 d16 := by rw [e17]; exact cs_12_36 L I k_a0 (show 0 ≤ (0 : Int) by omega) (show (0 : Int) ≤ 14000 by omega)
      have u19 := kp_I kp_r e17
      have v20 : q_V d16 = q_V δ := ((show q_V d16 = q_V δ by rw [e17]; rfl)).trans rfl
      have v21 := kr_N kr_r (show q_R d16 = q_R δ by rw [e17]; rfl)
      have f22 := cb_12_36 i18 k_a0
      have f23 : (q_I d16 12 36 a0).toInt = (0 : Int) := congrArg Int32.toInt (show q_I d16 12 36 a0 = (0 : Int32) by rw [e17]; exact rI_s)
      refine ok_mono (kl_X12_asks_18 L hN (K2 := (n : Int)) ih k_a0 _ x3v (0 : Int32) d16 i18 (show 0 ≤ (x2).toInt by first | assumption | omega) (show (x2).toInt ≤ 16 by first | assumption | omega) (show 0 ≤ (x3v).toInt by first | assumption | omega) (show (x3v).toInt < 65536 by first | assumption | omega) (show 65536 - (x3v).toInt ≤ (n : Int) by first | assumption | omega) (show 0 ≤ (0 : Int) by first | assumption | omega) (show (0 : Int) ≤ 16 by first | assumption | omega) (show (q_I d16 12 36 a0).toInt = (0 : Int) by first | assumption | omega) (show 16 - (0 : Int) < _ by omega)) (fun r24 hr25 => ?_)
      obtain ⟨i26, ⟨u27, u28, u29⟩⟩ := hr25
      have u30 := kp_t u19 u27
      have v31 : q_V r24 = q_V δ := (u28).trans v20
      have v32 := kr_t v21 u29
      exact ⟨by assumption, ⟨kp_w (by decide) u30, v31, kr_w (by decide) v32⟩⟩
set_option maxHeartbeats 4000000 in
theorem k_X12_asks {ad : List Nat} {h : hp} (L : Lay TLx ad h) {δ0 : dp} {N : Nat} (hN : 10000000 ≤ N) {a0 : Nat} {x1 : Int32} {x2 : Int32} (k_a0 : q_K h.1 a0 = 12) {δ : dp} (z0 : 0 ≤ (x2).toInt) (z1 : (x2).toInt ≤ 16) (I : RI ad h.1 δ0 δ) : ok (D_X12_asks N h.1 a0 x1 x2 δ) (fun r => RI ad h.1 δ0 r ∧ (kp [(12, 36), (12, 37), (12, 38), (12, 39)] δ r ∧ q_V r = q_V δ ∧ kr ad [119, 120] δ r)) := by
  unfold D_X12_asks
  have f1 := ti_b x2
  refine ok_mono (kl_X12_asks_2 L hN   k_a0 _ (0 : Int32) δ I (show 0 ≤ (x2).toInt by first | assumption | omega) (show (x2).toInt ≤ 16 by first | assumption | omega) (show 0 ≤ (0 : Int) by first | assumption | omega) (show (0 : Int) ≤ 65536 by first | assumption | omega) (show 65536 - (0 : Int) < _ by omega)) (fun r2 hr3 => ?_)
  obtain ⟨i4, ⟨u5, u6, u7⟩⟩ := hr3
  have u8 := kp_t kp_r u5
  have v9 : q_V r2 = q_V δ := (u6).trans rfl
  have v10 := kr_t kr_r u7
  exact ⟨by assumption, ⟨kp_w (by decide) u8, v9, kr_w (by decide) v10⟩⟩
set_option maxHeartbeats 4000000 in
theorem kl_X12_sets_14 {ad : List Nat} {h : hp} (L : Lay TLx ad h) {δ0 : dp} {N : Nat} (hN : 10000000 ≤ N) {T : Nat → Int32 → Int32 → Int32 → Int32 → dp → Option (dp)} {K : Int} (hT : ∀ (a0 : Nat) (x1 : Int32) (x2 : Int32) (x3 : Int32) (x4 : Int32) (δ : dp), q_K h.1 a0 = 12 → 0 ≤ (x2).toInt → (x2).toInt ≤ 16 → -1 ≤ (x3).toInt → (x3).toInt ≤ 15 → (x4).toInt ≤ 65536 → (x3).toInt + 1 < K → RI ad h.1 δ0 δ → ok (T a0 x1 x2 x3 x4 δ) (fun r => RI ad h.1 δ0 r ∧ (kp [(12, 36), (12, 37), (12, 38), (12, 39)] δ r ∧ q_V r = q_V δ ∧ kr ad [119, 120, 121] δ r))) {a0 : Nat} {x1 : Int32} {x2 : Int32} {x3 : Int32} {x4 : Int32} (k_a0 : q_K h.1 a0 = 12) : ∀ (n : Nat) (x5v : Int32) (δ : dp), RI ad h.1 δ0 δ → 0 ≤ (x2).toInt → (x2).toInt ≤ 16 → 0 ≤ (x3).toInt → (x3).toInt ≤ 15 → (x4).toInt ≤ 65536 → (x3).toInt + 1 ≤ K → 0 ≤ (x5v).toInt → (x5v).toInt ≤ 65536 → 65536 - (x5v).toInt < (n : Int) → ok (L_X12_sets_14 N h.1 T a0 x1 x2 x3 x4 n x5v δ) (fun r => RI ad h.1 δ0 r ∧ (kp [(12, 36), (12, 37), (12, 38), (12, 39)] δ r ∧ q_V r = q_V δ ∧ kr ad [119, 120, 121] δ r)) := by
  intro n
  induction n with
  | zero =>
    intro x5v δ I j0 j1 j2 j3 j4 j5 j6 j7 hm
    have f1 := ti_b x2
    have f2 := ti_b x3
    have f3 := ti_b x4
    have f4 := ti_b x5v
    exfalso; omega
  | succ n ih =>
    intro x5v δ I j0 j1 j2 j3 j4 j5 j6 j7 hm
    unfold L_X12_sets_14
    have f1 := ti_b x2
    have f2 := ti_b x3
    have f3 := ti_b x4
    have f4 := ti_b x5v
    refine ok_ite (fun h5 => ?_) (fun h5 => ?_)
    · have c6 : x4.toInt ≤ x5v.toInt := o_le h5
      exact ok_some (show RI ad h.1 δ0 δ ∧ (kp [(12, 36), (12, 37), (12, 38), (12, 39)] δ δ ∧ q_V δ = q_V δ ∧ kr ad [119, 120, 121] δ δ) from ⟨I, ⟨kp_w (by decide) kp_r, rfl, kr_w (by decide) kr_r⟩⟩)
    · have c7 : x5v.toInt < x4.toInt := o_nle h5
      obtain ⟨b8, o9, k10, n11, w12⟩ := gO_12_42 L k_a0
      obtain rfl := gS_12_42 L k_a0 o9
      refine ok_at o9 ?_
      have t13 := ti_tn x3
      refine ok_gd (fun hc14 => ?_) ?_
      · rcases hc14 with hc14 | hc14
        · have c15 : x3.toInt < (0 : Int) := o_lt hc14
          omega
        · omega
      refine ok_bdv (fun d16 e17 => ?_)
      have i18 : RI ad h.1 δ0 d16 := by rw [e17]; exact RI.sR L I w12
      have u19 := kp_N kp_r (show q_I d16 = q_I δ by rw [e17]; rfl)
      have v20 : q_V d16 = q_V δ := ((show q_V d16 = q_V δ by rw [e17]; rfl)).trans rfl
      have v21 := kr_s L (by decide) kr_r e17
      first | (have q25 := te_subc (c := 1) (n := 1) rfl x3 (by omega) (by omega); obtain ⟨f26, f27, f28⟩ := q25) | (obtain ⟨q25, f26, f27, f28⟩ := ti_subc (c := 1) (n := 1) rfl x3)
      refine ok_bind (hT a0 x1 x2 (x3 - (1 : Int32)) x5v d16 k_a0 (show 0 ≤ (x2).toInt by first | assumption | omega) (show (x2).toInt ≤ 16 by first | assumption | omega) (show -1 ≤ ((x3 - (1 : Int32))).toInt by first | assumption | omega) (show ((x3 - (1 : Int32))).toInt ≤ 15 by first | assumption | omega) (show (x5v).toInt ≤ 65536 by first | assumption | omega) (show ((x3 - (1 : Int32))).toInt + 1 < _ by first | assumption | omega) i18) (fun r22 hr23 => ?_)
      obtain ⟨i29, ⟨u30, u31, u32⟩⟩ := hr23
      have u33 := kp_t u19 u30
      have v34 : q_V r22 = q_V δ := (u31).trans v20
      have v35 := kr_t v21 u32
      refine ok_biv (fun vx36 e37 => ?_)
      first | (have q38 := te_addc (c := 1) (n := 1) rfl x5v (by omega) (by omega); rw [← e37] at q38; obtain ⟨f39, f40, f41⟩ := q38) | (obtain ⟨q38, f39, f40, f41⟩ : ∃ q : Int, vx36.toInt = x5v.toInt + (1 : Int) + 4294967296 * q ∧ -2147483648 ≤ vx36.toInt ∧ vx36.toInt ≤ 2147483647 := by rw [e37]; exact ti_addc (c := 1) (n := 1) rfl x5v)
      refine ok_mono (ih vx36 r22 i29 (show 0 ≤ (x2).toInt by first | assumption | omega) (show (x2).toInt ≤ 16 by first | assumption | omega) (show 0 ≤ (x3).toInt by first | assumption | omega) (show (x3).toInt ≤ 15 by first | assumption | omega) (show (x4).toInt ≤ 65536 by first | assumption | omega) (show (x3).toInt + 1 ≤ K by first | assumption | omega) (show 0 ≤ (vx36).toInt by first | assumption | omega) (show (vx36).toInt ≤ 65536 by first | assumption | omega) (show 65536 - (vx36).toInt < _ by omega)) (fun r42 hr43 => ?_)
      obtain ⟨i44, ⟨u45, u46, u47⟩⟩ := hr43
      have u48 := kp_t u33 u45
      have v49 : q_V r42 = q_V δ := (u46).trans v34
      have v50 := kr_t v35 u47
      exact ⟨by assumption, ⟨kp_w (by decide) u48, v49, kr_w (by decide) v50⟩⟩
set_option maxHeartbeats 4000000 in
theorem ke_X12_sets {ad : List Nat} {h : hp} (L : Lay TLx ad h) {δ0 : dp} {N : Nat} (hN : 10000000 ≤ N) : ∀ (k : Nat), ∀ (a0 : Nat) (x1 : Int32) (x2 : Int32) (x3 : Int32) (x4 : Int32) (δ : dp), q_K h.1 a0 = 12 → 0 ≤ (x2).toInt → (x2).toInt ≤ 16 → -1 ≤ (x3).toInt → (x3).toInt ≤ 15 → (x4).toInt ≤ 65536 → (x3).toInt + 1 < (k : Int) → RI ad h.1 δ0 δ → ok (E_X12_sets N h.1 k a0 x1 x2 x3 x4 δ) (fun r => RI ad h.1 δ0 r ∧ (kp [(12, 36), (12, 37), (12, 38), (12, 39)] δ r ∧ q_V r = q_V δ ∧ kr ad [119, 120, 121] δ r)) := by
  intro k
  induction k with
  | zero =>
    intro a0 x1 x2 x3 x4 δ k_a0 z0 z1 z2 z3 z4 hd I
    exfalso; omega
  | succ k ih =>
    intro a0 x1 x2 x3 x4 δ k_a0 z0 z1 z2 z3 z4 hd I
    unfold E_X12_sets B_X12_sets
    have f1 := ti_b x2
    have f2 := ti_b x3
    have f3 := ti_b x4
    refine ok_ite (fun h4 => ?_) (fun h4 => ?_)
    · have c5 : (0 : Int) ≤ x3.toInt := o_le h4
      refine ok_mono (kl_X12_sets_14 L hN   ih k_a0 _ x3 δ I (show 0 ≤ (x2).toInt by first | assumption | omega) (show (x2).toInt ≤ 16 by first | assumption | omega) (show 0 ≤ (x3).toInt by first | assumption | omega) (show (x3).toInt ≤ 15 by first | assumption | omega) (show (x4).toInt ≤ 65536 by first | assumption | omega) (show (x3).toInt + 1 ≤ (k : Int) by first | assumption | omega) (show 0 ≤ (x3).toInt by first | assumption | omega) (show (x3).toInt ≤ 65536 by first | assumption | omega) (show 65536 - (x3).toInt < _ by omega)) (fun r6 hr7 => ?_)
      obtain ⟨i8, ⟨u9, u10, u11⟩⟩ := hr7
      have u12 := kp_t kp_r u9
      have v13 : q_V r6 = q_V δ := (u10).trans rfl
      have v14 := kr_t kr_r u11
      exact ⟨by assumption, ⟨kp_w (by decide) u12, v13, kr_w (by decide) v14⟩⟩
    · have c15 : x3.toInt < (0 : Int) := o_nle h4
      refine ok_bind (k_X12_asks L hN (a0 := a0) (x1 := x1) (x2 := x2) k_a0 (show 0 ≤ (x2).toInt by first | assumption | omega) (show (x2).toInt ≤ 16 by first | assumption | omega) I) (fun r16 hr17 => ?_)
      obtain ⟨i18, ⟨u19, u20, u21⟩⟩ := hr17
      have u22 := kp_t kp_r u19
      have v23 : q_V r16 = q_V δ := (u20).trans rfl
      have v24 := kr_t kr_r u21
      exact ok_some (show RI ad h.1 δ0 r16 ∧ (kp [(12, 36), (12, 37), (12, 38), (12, 39)] δ r16 ∧ q_V r16 = q_V δ ∧ kr ad [119, 120, 121] δ r16) from ⟨i18, ⟨kp_w (by decide) u22, v23, kr_w (by decide) v24⟩⟩)
set_option maxHeartbeats 4000000 in
theorem k_X12_sets {ad : List Nat} {h : hp} (L : Lay TLx ad h) {δ0 : dp} {N : Nat} (hN : 10000000 ≤ N) {a0 : Nat} {x1 : Int32} {x2 : Int32} {x3 : Int32} {x4 : Int32} (k_a0 : q_K h.1 a0 = 12) {δ : dp} (z0 : 0 ≤ (x2).toInt) (z1 : (x2).toInt ≤ 16) (z2 : -1 ≤ (x3).toInt) (z3 : (x3).toInt ≤ 15) (z4 : (x4).toInt ≤ 65536) (hd : (x3).toInt + 1 < 20) (I : RI ad h.1 δ0 δ) : ok (D_X12_sets N h.1 a0 x1 x2 x3 x4 δ) (fun r => RI ad h.1 δ0 r ∧ (kp [(12, 36), (12, 37), (12, 38), (12, 39)] δ r ∧ q_V r = q_V δ ∧ kr ad [119, 120, 121] δ r)) := ke_X12_sets L hN 20 a0 x1 x2 x3 x4 δ k_a0 z0 z1 z2 z3 z4 hd I
set_option maxHeartbeats 4000000 in
theorem kl_X12_findWorst_7 {ad : List Nat} {h : hp} (L : Lay TLx ad h) {δ0 : dp} {N : Nat} (hN : 10000000 ≤ N) {a0 : Nat} {x1 : Int32} {x2 : Int32} (k_a0 : q_K h.1 a0 = 12) : ∀ (n : Nat) (x3v : Int32) (δ : dp), RI ad h.1 δ0 δ → 0 ≤ (x2).toInt → (x2).toInt ≤ 16 → 0 ≤ (x3v).toInt → (x3v).toInt ≤ 17 → 17 - (x3v).toInt < (n : Int) → ok (L_X12_findWorst_7 N h.1 a0 x1 x2 n x3v δ) (fun r => RI ad h.1 δ0 r ∧ (kp [(12, 36), (12, 37), (12, 38), (12, 39)] δ r ∧ q_V r = q_V δ ∧ kr ad [119, 120, 121] δ r)) := by
  intro n
  induction n with
  | zero =>
    intro x3v δ I j0 j1 j2 j3 hm
    have f1 := ti_b x2
    have f2 := ti_b x3v
    exfalso; omega
  | succ n ih =>
    intro x3v δ I j0 j1 j2 j3 hm
    unfold L_X12_findWorst_7
    have f1 := ti_b x2
    have f2 := ti_b x3v
    refine ok_ite (fun h3 => ?_) (fun h3 => ?_)
    · have c4 : x2.toInt < x3v.toInt := o_lt h3
      unfold J_X12_findWorst_39
      exact ok_some (show RI ad h.1 δ0 δ ∧ (kp [(12, 36), (12, 37), (12, 38), (12, 39)] δ δ ∧ q_V δ = q_V δ ∧ kr ad [119, 120, 121] δ δ) from ⟨I, ⟨kp_w (by decide) kp_r, rfl, kr_w (by decide) kr_r⟩⟩)
    · have c5 : x3v.toInt ≤ x2.toInt := o_nlt h3
      refine ok_bind (k_X12_all L hN (a0 := a0) k_a0 I) (fun r6 hr7 => ?_)
      obtain ⟨i8, p9, p10, p11, p12⟩ := hr7
      try rw [i8]
      have f13 := ti_b r6.1
      have f14 := cb_12_10 I k_a0
      have f15 := ti_b r6.1
      refine ok_ite (fun h16 => ?_) (fun h16 => ?_)
      · have c17 : r6.1.toInt < x3v.toInt := o_lt h16
        unfold J_X12_findWorst_39
        exact ok_some (show RI ad h.1 δ0 δ ∧ (kp [(12, 36), (12, 37), (12, 38), (12, 39)] δ δ ∧ q_V δ = q_V δ ∧ kr ad [119, 120, 121] δ δ) from ⟨I, ⟨kp_w (by decide) kp_r, rfl, kr_w (by decide) kr_r⟩⟩)
      · have c18 : x3v.toInt ≤ r6.1.toInt := o_nlt h16
        refine ok_bind (k_X12_all L hN (a0 := a0) k_a0 I) (fun r19 hr20 => ?_)
        obtain ⟨i21, p22, p23, p24, p25⟩ := hr20
        try rw [i21]
        have f26 := ti_b r19.1
        have f27 := ti_b r19.1
        first | (have q31 := te_subc (c := 1) (n := 1) rfl x3v (by omega) (by omega); obtain ⟨f32, f33, f34⟩ := q31) | (obtain ⟨q31, f32, f33, f34⟩ := ti_subc (c := 1) (n := 1) rfl x3v)
        refine ok_bind (k_X12_sets L hN (a0 := a0) (x1 := x1) (x2 := x3v) (x3 := (x3v - (1 : Int32))) (x4 := r19.1) k_a0 (show 0 ≤ (x3v).toInt by first | assumption | omega) (show (x3v).toInt ≤ 16 by first | assumption | omega) (show -1 ≤ ((x3v - (1 : Int32))).toInt by first | assumption | omega) (show ((x3v - (1 : Int32))).toInt ≤ 15 by first | assumption | omega) (show (r19.1).toInt ≤ 65536 by first | assumption | omega) (show ((x3v - (1 : Int32))).toInt + 1 < 20 by first | assumption | omega) I) (fun r28 hr29 => ?_)
        obtain ⟨i35, ⟨u36, u37, u38⟩⟩ := hr29
        have u39 := kp_t kp_r u36
        have v40 : q_V r28 = q_V δ := (u37).trans rfl
        have v41 := kr_t kr_r u38
        refine ok_biv (fun vx42 e43 => ?_)
        first | (have q44 := te_addc (c := 1) (n := 1) rfl x3v (by omega) (by omega); rw [← e43] at q44; obtain ⟨f45, f46, f47⟩ := q44) | (obtain ⟨q44, f45, f46, f47⟩ : ∃ q : Int, vx42.toInt = x3v.toInt + (1 : Int) + 4294967296 * q ∧ -2147483648 ≤ vx42.toInt ∧ vx42.toInt ≤ 2147483647 := by rw [e43]; exact ti_addc (c := 1) (n := 1) rfl x3v)
        refine ok_mono (ih vx42 r28 i35 (show 0 ≤ (x2).toInt by first | assumption | omega) (show (x2).toInt ≤ 16 by first | assumption | omega) (show 0 ≤ (vx42).toInt by first | assumption | omega) (show (vx42).toInt ≤ 17 by first | assumption | omega) (show 17 - (vx42).toInt < _ by omega)) (fun r48 hr49 => ?_)
        obtain ⟨i50, ⟨u51, u52, u53⟩⟩ := hr49
        have u54 := kp_t u39 u51
        have v55 : q_V r48 = q_V δ := (u52).trans v40
        have v56 := kr_t v41 u53
        exact ⟨by assumption, ⟨kp_w (by decide) u54, v55, kr_w (by decide) v56⟩⟩
set_option maxHeartbeats 4000000 in
theorem k_X12_findWorst {ad : List Nat} {h : hp} (L : Lay TLx ad h) {δ0 : dp} {N : Nat} (hN : 10000000 ≤ N) {a0 : Nat} {x1 : Int32} {x2 : Int32} (k_a0 : q_K h.1 a0 = 12) {δ : dp} (z0 : 0 ≤ (x2).toInt) (z1 : (x2).toInt ≤ 16) (I : RI ad h.1 δ0 δ) : ok (D_X12_findWorst N h.1 a0 x1 x2 δ) (fun r => RI ad h.1 δ0 r ∧ (kp [(12, 36), (12, 37), (12, 38), (12, 39)] δ r ∧ q_V r = q_V δ ∧ kr ad [119, 120, 121] δ r)) := by
  unfold D_X12_findWorst
  have f1 := ti_b x2
  refine ok_bdv (fun d2 e3 => ?_)
  have i4 : RI ad h.1 δ0 d2 := by rw [e3]; exact cs_12_37 L I
  have u5 := kp_I kp_r e3
  have v6 : q_V d2 = q_V δ := ((show q_V d2 = q_V δ by rw [e3]; rfl)).trans rfl
  have v7 := kr_N kr_r (show q_R d2 = q_R δ by rw [e3]; rfl)
  refine ok_mono (kl_X12_findWorst_7 L hN   k_a0 _ (0 : Int32) d2 i4 (show 0 ≤ (x2).toInt by first | assumption | omega) (show (x2).toInt ≤ 16 by first | assumption | omega) (show 0 ≤ (0 : Int) by first | assumption | omega) (show (0 : Int) ≤ 17 by first | assumption | omega) (show 17 - (0 : Int) < _ by omega)) (fun r8 hr9 => ?_)
  obtain ⟨i10, ⟨u11, u12, u13⟩⟩ := hr9
  have u14 := kp_t u5 u11
  have v15 : q_V r8 = q_V δ := (u12).trans v6
  have v16 := kr_t v7 u13
  exact ⟨by assumption, ⟨kp_w (by decide) u14, v15, kr_w (by decide) v16⟩⟩
set_option maxHeartbeats 4000000 in
theorem k_X12_worst {ad : List Nat} {h : hp} (L : Lay TLx ad h) {δ0 : dp} {N : Nat} (hN : 10000000 ≤ N) {a0 : Nat} {x1 : Int32} {x2 : Int32} {x3 : Int32} (k_a0 : q_K h.1 a0 = 12) {δ : dp} (I : RI ad h.1 δ0 δ) : ok (D_X12_worst N h.1 a0 x1 x2 x3 δ) (fun r => RI ad h.1 δ0 r.2 ∧ (kp [(12, 0), (12, 36), (12, 37), (12, 38), (12, 39)] δ r.2 ∧ q_V r.2 = q_V δ ∧ kr ad [100, 119, 120, 121] δ r.2)) := by
  unfold D_X12_worst
  refine ok_bdv (fun d1 e2 => ?_)
  have i3 : RI ad h.1 δ0 d1 := by rw [e2]; exact cs_12_0 L I
  have u4 := kp_I kp_r e2
  have v5 : q_V d1 = q_V δ := ((show q_V d1 = q_V δ by rw [e2]; rfl)).trans rfl
  have v6 := kr_N kr_r (show q_R d1 = q_R δ by rw [e2]; rfl)
  refine ok_bind (k_X12_isCall L hN (x0 := x1)  i3) (fun r7 hr8 => ?_)
  obtain ⟨i9, p10, p11⟩ := hr8
  try rw [i9]
  have f12 := bo_t p10
  have f13 := ti_b r7.1
  have f14 := ti_b x1
  have f15 := ti_b r7.1
  refine ok_ite (fun h16 => ?_) (fun h16 => ?_)
  · have c17 : r7.1.toInt = (0 : Int) := o_eq h16
    unfold J_X12_worst_34
    unfold J_X12_worst_35
    refine ok_bind (k_X12_may L hN (a0 := a0) (x1 := (0 : Int32)) (x2 := (1 : Int32)) (x3 := (2 : Int32)) k_a0 (show (1 : Int) ≠ 0 by first | assumption | omega) (show 0 ≤ (2 : Int) by first | assumption | omega) (show (2 : Int) ≤ 2 by first | assumption | omega) i3) (fun r18 hr19 => ?_)
    obtain ⟨i20, ⟨u24, u25, u26⟩, p21, p22, p23⟩ := hr19
    have u27 := kp_t u4 u24
    have v28 : q_V r18.2 = q_V δ := (u25).trans v5
    have v29 := kr_t v6 u26
    have f30 := bo_t p21
    have f31 := ti_b r18.1
    replace p22 : ((r18.1).toInt = 1 → (0 : Int) ≠ 0) := p22
    have f32 := ti_b (q_I d1 12 0 a0)
    have f33 : (q_I d1 12 0 a0).toInt = (0 : Int) := congrArg Int32.toInt (show q_I d1 12 0 a0 = (0 : Int32) by rw [e2]; exact rI_s)
    replace p23 : ((q_I d1 12 0 a0).toInt = 0 → (r18.1).toInt = 0 → (0 : Int) = 0) := p23
    have f34 := ti_b r18.1
    refine ok_ite (fun h35 => ?_) (fun h35 => ?_)
    · have c36 : r18.1.toInt = (0 : Int) := o_eq h35
      exact ok_some (show RI ad h.1 δ0 r18.2 ∧ (kp [(12, 0), (12, 36), (12, 37), (12, 38), (12, 39)] δ r18.2 ∧ q_V r18.2 = q_V δ ∧ kr ad [100, 119, 120, 121] δ r18.2) from ⟨i20, ⟨kp_w (by decide) u27, v28, kr_w (by decide) v29⟩⟩)
    · have c37 : r18.1.toInt ≠ (0 : Int) := o_ne h35
      have f40 := ti_b x2
      refine ok_bind (k_X12_findWorst L hN (a0 := a0) (x1 := x1) (x2 := x2) k_a0 (show 0 ≤ (x2).toInt by first | assumption | omega) (show (x2).toInt ≤ 16 by first | assumption | omega) i20) (fun r38 hr39 => ?_)
      obtain ⟨i41, ⟨u42, u43, u44⟩⟩ := hr39
      have u45 := kp_t u27 u42
      have v46 : q_V r38 = q_V δ := (u43).trans v28
      have v47 := kr_t v29 u44
      have f48 := ti_b x3
      refine ok_ite (fun h49 => ?_) (fun h49 => ?_)
      · have c50 : x3.toInt = (0 : Int) := o_eq h49
        unfold J_X12_worst_78
        exact ok_some (show RI ad h.1 δ0 r38 ∧ (kp [(12, 0), (12, 36), (12, 37), (12, 38), (12, 39)] δ r38 ∧ q_V r38 = q_V δ ∧ kr ad [100, 119, 120, 121] δ r38) from ⟨i41, ⟨kp_w (by decide) u45, v46, kr_w (by decide) v47⟩⟩)
      · have c51 : x3.toInt ≠ (0 : Int) := o_ne h49
        refine ok_ite (fun h52 => ?_) (fun h52 => ?_)
        · have c53 : x3.toInt = (1 : Int) := o_eq h52
          unfold J_X12_worst_78
          exact ok_some (show RI ad h.1 δ0 r38 ∧ (kp [(12, 0), (12, 36), (12, 37), (12, 38), (12, 39)] δ r38 ∧ q_V r38 = q_V δ ∧ kr ad [100, 119, 120, 121] δ r38) from ⟨i41, ⟨kp_w (by decide) u45, v46, kr_w (by decide) v47⟩⟩)
        · have c54 : x3.toInt ≠ (1 : Int) := o_ne h52
          unfold J_X12_worst_78
          exact ok_some (show RI ad h.1 δ0 r38 ∧ (kp [(12, 0), (12, 36), (12, 37), (12, 38), (12, 39)] δ r38 ∧ q_V r38 = q_V δ ∧ kr ad [100, 119, 120, 121] δ r38) from ⟨i41, ⟨kp_w (by decide) u45, v46, kr_w (by decide) v47⟩⟩)
  · have c55 : r7.1.toInt ≠ (0 : Int) := o_ne h16
    refine ok_bind (k_X12_isWorst L hN (a0 := a0) (x1 := x2) k_a0 i3) (fun r56 hr57 => ?_)
    obtain ⟨i58, p59, p60⟩ := hr57
    try rw [i58]
    have f61 := bo_t p59
    have f62 := ti_b r56.1
    have f63 := ti_b x2
    have f64 := ti_b r56.1
    refine ok_ite (fun h65 => ?_) (fun h65 => ?_)
    · have c66 : r56.1.toInt = (0 : Int) := o_eq h65
      unfold J_X12_worst_34
      unfold J_X12_worst_35
      refine ok_bind (k_X12_may L hN (a0 := a0) (x1 := (0 : Int32)) (x2 := (1 : Int32)) (x3 := (2 : Int32)) k_a0 (show (1 : Int) ≠ 0 by first | assumption | omega) (show 0 ≤ (2 : Int) by first | assumption | omega) (show (2 : Int) ≤ 2 by first | assumption | omega) i3) (fun r67 hr68 => ?_)
      obtain ⟨i69, ⟨u73, u74, u75⟩, p70, p71, p72⟩ := hr68
      have u76 := kp_t u4 u73
      have v77 : q_V r67.2 = q_V δ := (u74).trans v5
      have v78 := kr_t v6 u75
      have f79 := bo_t p70
      have f80 := ti_b r67.1
      replace p71 : ((r67.1).toInt = 1 → (0 : Int) ≠ 0) := p71
      have f81 := ti_b (q_I d1 12 0 a0)
      have f82 : (q_I d1 12 0 a0).toInt = (0 : Int) := congrArg Int32.toInt (show q_I d1 12 0 a0 = (0 : Int32) by rw [e2]; exact rI_s)
      replace p72 : ((q_I d1 12 0 a0).toInt = 0 → (r67.1).toInt = 0 → (0 : Int) = 0) := p72
      have f83 := ti_b r67.1
      refine ok_ite (fun h84 => ?_) (fun h84 => ?_)
      · have c85 : r67.1.toInt = (0 : Int) := o_eq h84
        exact ok_some (show RI ad h.1 δ0 r67.2 ∧ (kp [(12, 0), (12, 36), (12, 37), (12, 38), (12, 39)] δ r67.2 ∧ q_V r67.2 = q_V δ ∧ kr ad [100, 119, 120, 121] δ r67.2) from ⟨i69, ⟨kp_w (by decide) u76, v77, kr_w (by decide) v78⟩⟩)
      · have c86 : r67.1.toInt ≠ (0 : Int) := o_ne h84
        refine ok_bind (k_X12_findWorst L hN (a0 := a0) (x1 := x1) (x2 := x2) k_a0 (show 0 ≤ (x2).toInt by first | assumption | omega) (show (x2).toInt ≤ 16 by first | assumption | omega) i69) (fun r87 hr88 => ?_)
        obtain ⟨i89, ⟨u90, u91, u92⟩⟩ := hr88
        have u93 := kp_t u76 u90
        have v94 : q_V r87 = q_V δ := (u91).trans v77
        have v95 := kr_t v78 u92
        have f96 := ti_b x3
        refine ok_ite (fun h97 => ?_) (fun h97 => ?_)
        · have c98 : x3.toInt = (0 : Int) := o_eq h97
          unfold J_X12_worst_78
          exact ok_some (show RI ad h.1 δ0 r87 ∧ (kp [(12, 0), (12, 36), (12, 37), (12, 38), (12, 39)] δ r87 ∧ q_V r87 = q_V δ ∧ kr ad [100, 119, 120, 121] δ r87) from ⟨i89, ⟨kp_w (by decide) u93, v94, kr_w (by decide) v95⟩⟩)
        · have c99 : x3.toInt ≠ (0 : Int) := o_ne h97
          refine ok_ite (fun h100 => ?_) (fun h100 => ?_)
          · have c101 : x3.toInt = (1 : Int) := o_eq h100
            unfold J_X12_worst_78
            exact ok_some (show RI ad h.1 δ0 r87 ∧ (kp [(12, 0), (12, 36), (12, 37), (12, 38), (12, 39)] δ r87 ∧ q_V r87 = q_V δ ∧ kr ad [100, 119, 120, 121] δ r87) from ⟨i89, ⟨kp_w (by decide) u93, v94, kr_w (by decide) v95⟩⟩)
          · have c102 : x3.toInt ≠ (1 : Int) := o_ne h100
            unfold J_X12_worst_78
            exact ok_some (show RI ad h.1 δ0 r87 ∧ (kp [(12, 0), (12, 36), (12, 37), (12, 38), (12, 39)] δ r87 ∧ q_V r87 = q_V δ ∧ kr ad [100, 119, 120, 121] δ r87) from ⟨i89, ⟨kp_w (by decide) u93, v94, kr_w (by decide) v95⟩⟩)
    · have c103 : r56.1.toInt ≠ (0 : Int) := o_ne h65
      refine ok_bind (k_X12_within L hN (x0 := x3) (x1 := (0 : Int32)) (x2 := (2 : Int32))  i3) (fun r104 hr105 => ?_)
      obtain ⟨i106, p107, p108, p109⟩ := hr105
      try rw [i106]
      have f110 := bo_t p107
      have f111 := ti_b r104.1
      have f112 := ti_b x3
      replace p108 : ((r104.1).toInt = 1 → (0 : Int) ≤ (x3).toInt ∧ (x3).toInt ≤ (2 : Int)) := p108
      replace p109 : ((r104.1).toInt = 0 → (x3).toInt < (0 : Int) ∨ (2 : Int) < (x3).toInt) := p109
      have f113 := ti_b r104.1
      refine ok_ite (fun h114 => ?_) (fun h114 => ?_)
      · have c115 : r104.1.toInt = (0 : Int) := o_eq h114
        unfold J_X12_worst_34
        unfold J_X12_worst_35
        refine ok_bind (k_X12_may L hN (a0 := a0) (x1 := (0 : Int32)) (x2 := (1 : Int32)) (x3 := (2 : Int32)) k_a0 (show (1 : Int) ≠ 0 by first | assumption | omega) (show 0 ≤ (2 : Int) by first | assumption | omega) (show (2 : Int) ≤ 2 by first | assumption | omega) i3) (fun r116 hr117 => ?_)
        obtain ⟨i118, ⟨u122, u123, u124⟩, p119, p120, p121⟩ := hr117
        have u125 := kp_t u4 u122
        have v126 : q_V r116.2 = q_V δ := (u123).trans v5
        have v127 := kr_t v6 u124
        have f128 := bo_t p119
        have f129 := ti_b r116.1
        replace p120 : ((r116.1).toInt = 1 → (0 : Int) ≠ 0) := p120
        have f130 := ti_b (q_I d1 12 0 a0)
        have f131 : (q_I d1 12 0 a0).toInt = (0 : Int) := congrArg Int32.toInt (show q_I d1 12 0 a0 = (0 : Int32) by rw [e2]; exact rI_s)
        replace p121 : ((q_I d1 12 0 a0).toInt = 0 → (r116.1).toInt = 0 → (0 : Int) = 0) := p121
        have f132 := ti_b r116.1
        refine ok_ite (fun h133 => ?_) (fun h133 => ?_)
        · have c134 : r116.1.toInt = (0 : Int) := o_eq h133
          exact ok_some (show RI ad h.1 δ0 r116.2 ∧ (kp [(12, 0), (12, 36), (12, 37), (12, 38), (12, 39)] δ r116.2 ∧ q_V r116.2 = q_V δ ∧ kr ad [100, 119, 120, 121] δ r116.2) from ⟨i118, ⟨kp_w (by decide) u125, v126, kr_w (by decide) v127⟩⟩)
        · have c135 : r116.1.toInt ≠ (0 : Int) := o_ne h133
          refine ok_bind (k_X12_findWorst L hN (a0 := a0) (x1 := x1) (x2 := x2) k_a0 (show 0 ≤ (x2).toInt by first | assumption | omega) (show (x2).toInt ≤ 16 by first | assumption | omega) i118) (fun r136 hr137 => ?_)
          obtain ⟨i138, ⟨u139, u140, u141⟩⟩ := hr137
          have u142 := kp_t u125 u139
          have v143 : q_V r136 = q_V δ := (u140).trans v126
          have v144 := kr_t v127 u141
          refine ok_ite (fun h145 => ?_) (fun h145 => ?_)
          · have c146 : x3.toInt = (0 : Int) := o_eq h145
            unfold J_X12_worst_78
            exact ok_some (show RI ad h.1 δ0 r136 ∧ (kp [(12, 0), (12, 36), (12, 37), (12, 38), (12, 39)] δ r136 ∧ q_V r136 = q_V δ ∧ kr ad [100, 119, 120, 121] δ r136) from ⟨i138, ⟨kp_w (by decide) u142, v143, kr_w (by decide) v144⟩⟩)
          · have c147 : x3.toInt ≠ (0 : Int) := o_ne h145
            refine ok_ite (fun h148 => ?_) (fun h148 => ?_)
            · have c149 : x3.toInt = (1 : Int) := o_eq h148
              unfold J_X12_worst_78
              exact ok_some (show RI ad h.1 δ0 r136 ∧ (kp [(12, 0), (12, 36), (12, 37), (12, 38), (12, 39)] δ r136 ∧ q_V r136 = q_V δ ∧ kr ad [100, 119, 120, 121] δ r136) from ⟨i138, ⟨kp_w (by decide) u142, v143, kr_w (by decide) v144⟩⟩)
            · have c150 : x3.toInt ≠ (1 : Int) := o_ne h148
              unfold J_X12_worst_78
              exact ok_some (show RI ad h.1 δ0 r136 ∧ (kp [(12, 0), (12, 36), (12, 37), (12, 38), (12, 39)] δ r136 ∧ q_V r136 = q_V δ ∧ kr ad [100, 119, 120, 121] δ r136) from ⟨i138, ⟨kp_w (by decide) u142, v143, kr_w (by decide) v144⟩⟩)
      · have c151 : r104.1.toInt ≠ (0 : Int) := o_ne h114
        unfold J_X12_worst_35
        refine ok_bind (k_X12_may L hN (a0 := a0) (x1 := (1 : Int32)) (x2 := (1 : Int32)) (x3 := (2 : Int32)) k_a0 (show (1 : Int) ≠ 0 by first | assumption | omega) (show 0 ≤ (2 : Int) by first | assumption | omega) (show (2 : Int) ≤ 2 by first | assumption | omega) i3) (fun r152 hr153 => ?_)
        obtain ⟨i154, ⟨u158, u159, u160⟩, p155, p156, p157⟩ := hr153
        have u161 := kp_t u4 u158
        have v162 : q_V r152.2 = q_V δ := (u159).trans v5
        have v163 := kr_t v6 u160
        have f164 := bo_t p155
        have f165 := ti_b r152.1
        replace p156 : ((r152.1).toInt = 1 → (1 : Int) ≠ 0) := p156
        have f166 := ti_b (q_I d1 12 0 a0)
        have f167 : (q_I d1 12 0 a0).toInt = (0 : Int) := congrArg Int32.toInt (show q_I d1 12 0 a0 = (0 : Int32) by rw [e2]; exact rI_s)
        replace p157 : ((q_I d1 12 0 a0).toInt = 0 → (r152.1).toInt = 0 → (1 : Int) = 0) := p157
        have f168 := ti_b r152.1
        refine ok_ite (fun h169 => ?_) (fun h169 => ?_)
        · have c170 : r152.1.toInt = (0 : Int) := o_eq h169
          exact ok_some (show RI ad h.1 δ0 r152.2 ∧ (kp [(12, 0), (12, 36), (12, 37), (12, 38), (12, 39)] δ r152.2 ∧ q_V r152.2 = q_V δ ∧ kr ad [100, 119, 120, 121] δ r152.2) from ⟨i154, ⟨kp_w (by decide) u161, v162, kr_w (by decide) v163⟩⟩)
        · have c171 : r152.1.toInt ≠ (0 : Int) := o_ne h169
          refine ok_bind (k_X12_findWorst L hN (a0 := a0) (x1 := x1) (x2 := x2) k_a0 (show 0 ≤ (x2).toInt by first | assumption | omega) (show (x2).toInt ≤ 16 by first | assumption | omega) i154) (fun r172 hr173 => ?_)
          obtain ⟨i174, ⟨u175, u176, u177⟩⟩ := hr173
          have u178 := kp_t u161 u175
          have v179 : q_V r172 = q_V δ := (u176).trans v162
          have v180 := kr_t v163 u177
          refine ok_ite (fun h181 => ?_) (fun h181 => ?_)
          · have c182 : x3.toInt = (0 : Int) := o_eq h181
            unfold J_X12_worst_78
            exact ok_some (show RI ad h.1 δ0 r172 ∧ (kp [(12, 0), (12, 36), (12, 37), (12, 38), (12, 39)] δ r172 ∧ q_V r172 = q_V δ ∧ kr ad [100, 119, 120, 121] δ r172) from ⟨i174, ⟨kp_w (by decide) u178, v179, kr_w (by decide) v180⟩⟩)
          · have c183 : x3.toInt ≠ (0 : Int) := o_ne h181
            refine ok_ite (fun h184 => ?_) (fun h184 => ?_)
            · have c185 : x3.toInt = (1 : Int) := o_eq h184
              unfold J_X12_worst_78
              exact ok_some (show RI ad h.1 δ0 r172 ∧ (kp [(12, 0), (12, 36), (12, 37), (12, 38), (12, 39)] δ r172 ∧ q_V r172 = q_V δ ∧ kr ad [100, 119, 120, 121] δ r172) from ⟨i174, ⟨kp_w (by decide) u178, v179, kr_w (by decide) v180⟩⟩)
            · have c186 : x3.toInt ≠ (1 : Int) := o_ne h184
              unfold J_X12_worst_78
              exact ok_some (show RI ad h.1 δ0 r172 ∧ (kp [(12, 0), (12, 36), (12, 37), (12, 38), (12, 39)] δ r172 ∧ q_V r172 = q_V δ ∧ kr ad [100, 119, 120, 121] δ r172) from ⟨i174, ⟨kp_w (by decide) u178, v179, kr_w (by decide) v180⟩⟩)
set_option maxHeartbeats 4000000 in
theorem k_X12_bad {ad : List Nat} {h : hp} (L : Lay TLx ad h) {δ0 : dp} {N : Nat} (hN : 10000000 ≤ N) {a0 : Nat} {x1 : Int32} {x2 : Int32} {x3 : Int32} (k_a0 : q_K h.1 a0 = 12) {δ : dp} (I : RI ad h.1 δ0 δ) : ok (D_X12_bad N h.1 a0 x1 x2 x3 δ) (fun r => RI ad h.1 δ0 r.2 ∧ (kp [(12, 0), (12, 36), (12, 37), (12, 38), (12, 39)] δ r.2 ∧ q_V r.2 = q_V δ ∧ kr ad [100, 119, 120, 121] δ r.2)) := by
  unfold D_X12_bad
  refine ok_bdv (fun d1 e2 => ?_)
  have i3 : RI ad h.1 δ0 d1 := by rw [e2]; exact cs_12_0 L I
  have u4 := kp_I kp_r e2
  have v5 : q_V d1 = q_V δ := ((show q_V d1 = q_V δ by rw [e2]; rfl)).trans rfl
  have v6 := kr_N kr_r (show q_R d1 = q_R δ by rw [e2]; rfl)
  refine ok_bind (k_X12_isCall L hN (x0 := x1)  i3) (fun r7 hr8 => ?_)
  obtain ⟨i9, p10, p11⟩ := hr8
  try rw [i9]
  have f12 := bo_t p10
  have f13 := ti_b r7.1
  have f14 := ti_b x1
  have f15 := ti_b r7.1
  refine ok_ite (fun h16 => ?_) (fun h16 => ?_)
  · have c17 : r7.1.toInt = (0 : Int) := o_eq h16
    unfold J_X12_bad_25
    unfold J_X12_bad_26
    refine ok_bind (k_X12_may L hN (a0 := a0) (x1 := (0 : Int32)) (x2 := (1 : Int32)) (x3 := (2 : Int32)) k_a0 (show (1 : Int) ≠ 0 by first | assumption | omega) (show 0 ≤ (2 : Int) by first | assumption | omega) (show (2 : Int) ≤ 2 by first | assumption | omega) i3) (fun r18 hr19 => ?_)
    obtain ⟨i20, ⟨u24, u25, u26⟩, p21, p22, p23⟩ := hr19
    have u27 := kp_t u4 u24
    have v28 : q_V r18.2 = q_V δ := (u25).trans v5
    have v29 := kr_t v6 u26
    have f30 := bo_t p21
    have f31 := ti_b r18.1
    replace p22 : ((r18.1).toInt = 1 → (0 : Int) ≠ 0) := p22
    have f32 := ti_b (q_I d1 12 0 a0)
    have f33 : (q_I d1 12 0 a0).toInt = (0 : Int) := congrArg Int32.toInt (show q_I d1 12 0 a0 = (0 : Int32) by rw [e2]; exact rI_s)
    replace p23 : ((q_I d1 12 0 a0).toInt = 0 → (r18.1).toInt = 0 → (0 : Int) = 0) := p23
    have f34 := ti_b r18.1
    refine ok_ite (fun h35 => ?_) (fun h35 => ?_)
    · have c36 : r18.1.toInt = (0 : Int) := o_eq h35
      exact ok_some (show RI ad h.1 δ0 r18.2 ∧ (kp [(12, 0), (12, 36), (12, 37), (12, 38), (12, 39)] δ r18.2 ∧ q_V r18.2 = q_V δ ∧ kr ad [100, 119, 120, 121] δ r18.2) from ⟨i20, ⟨kp_w (by decide) u27, v28, kr_w (by decide) v29⟩⟩)
    · have c37 : r18.1.toInt ≠ (0 : Int) := o_ne h35
      have f40 := ti_b x2
      refine ok_bind (k_X12_findWorst L hN (a0 := a0) (x1 := x1) (x2 := x2) k_a0 (show 0 ≤ (x2).toInt by first | assumption | omega) (show (x2).toInt ≤ 16 by first | assumption | omega) i20) (fun r38 hr39 => ?_)
      obtain ⟨i41, ⟨u42, u43, u44⟩⟩ := hr39
      have u45 := kp_t u27 u42
      have v46 : q_V r38 = q_V δ := (u43).trans v28
      have v47 := kr_t v29 u44
      refine ok_bind (k_X12_within L hN (x0 := x3) (x1 := (0 : Int32)) (x2 := ((q_I r38 12 38 a0) - (1 : Int32)))  i41) (fun r48 hr49 => ?_)
      obtain ⟨i50, p51, p52, p53⟩ := hr49
      try rw [i50]
      have f54 := bo_t p51
      have f55 := ti_b r48.1
      have f56 := ti_b x3
      have f57 := cb_12_38 i41 k_a0
      first | (have q59 := te_subc (c := 1) (n := 1) rfl (q_I r38 12 38 a0) (by omega) (by omega); obtain ⟨f60, f61, f62⟩ := q59) | (obtain ⟨q59, f60, f61, f62⟩ := ti_subc (c := 1) (n := 1) rfl (q_I r38 12 38 a0))
      replace p52 : ((r48.1).toInt = 1 → (0 : Int) ≤ (x3).toInt ∧ (x3).toInt ≤ (((q_I r38 12 38 a0) - (1 : Int32))).toInt) := p52
      replace p53 : ((r48.1).toInt = 0 → (x3).toInt < (0 : Int) ∨ (((q_I r38 12 38 a0) - (1 : Int32))).toInt < (x3).toInt) := p53
      have f63 := ti_b r48.1
      refine ok_ite (fun h64 => ?_) (fun h64 => ?_)
      · have c65 : r48.1.toInt = (0 : Int) := o_eq h64
        unfold J_X12_bad_66
        exact ok_some (show RI ad h.1 δ0 r38 ∧ (kp [(12, 0), (12, 36), (12, 37), (12, 38), (12, 39)] δ r38 ∧ q_V r38 = q_V δ ∧ kr ad [100, 119, 120, 121] δ r38) from ⟨i41, ⟨kp_w (by decide) u45, v46, kr_w (by decide) v47⟩⟩)
      · have c66 : r48.1.toInt ≠ (0 : Int) := o_ne h64
        obtain ⟨b67, o68, k69, n70, w71⟩ := gO_12_41 L k_a0
        obtain rfl := gS_12_41 L k_a0 o68
        refine ok_at o68 ?_
        have t72 := ti_tn x3
        refine ok_gd (fun hc73 => ?_) ?_
        · rcases hc73 with hc73 | hc73
          · have c74 : x3.toInt < (0 : Int) := o_lt hc73
            omega
          · omega
        unfold J_X12_bad_66
        exact ok_some (show RI ad h.1 δ0 r38 ∧ (kp [(12, 0), (12, 36), (12, 37), (12, 38), (12, 39)] δ r38 ∧ q_V r38 = q_V δ ∧ kr ad [100, 119, 120, 121] δ r38) from ⟨i41, ⟨kp_w (by decide) u45, v46, kr_w (by decide) v47⟩⟩)
  · have c75 : r7.1.toInt ≠ (0 : Int) := o_ne h16
    refine ok_bind (k_X12_isWorst L hN (a0 := a0) (x1 := x2) k_a0 i3) (fun r76 hr77 => ?_)
    obtain ⟨i78, p79, p80⟩ := hr77
    try rw [i78]
    have f81 := bo_t p79
    have f82 := ti_b r76.1
    have f83 := ti_b x2
    have f84 := ti_b r76.1
    refine ok_ite (fun h85 => ?_) (fun h85 => ?_)
    · have c86 : r76.1.toInt = (0 : Int) := o_eq h85
      unfold J_X12_bad_25
      unfold J_X12_bad_26
      refine ok_bind (k_X12_may L hN (a0 := a0) (x1 := (0 : Int32)) (x2 := (1 : Int32)) (x3 := (2 : Int32)) k_a0 (show (1 : Int) ≠ 0 by first | assumption | omega) (show 0 ≤ (2 : Int) by first | assumption | omega) (show (2 : Int) ≤ 2 by first | assumption | omega) i3) (fun r87 hr88 => ?_)
      obtain ⟨i89, ⟨u93, u94, u95⟩, p90, p91, p92⟩ := hr88
      have u96 := kp_t u4 u93
      have v97 : q_V r87.2 = q_V δ := (u94).trans v5
      have v98 := kr_t v6 u95
      have f99 := bo_t p90
      have f100 := ti_b r87.1
      replace p91 : ((r87.1).toInt = 1 → (0 : Int) ≠ 0) := p91
      have f101 := ti_b (q_I d1 12 0 a0)
      have f102 : (q_I d1 12 0 a0).toInt = (0 : Int) := congrArg Int32.toInt (show q_I d1 12 0 a0 = (0 : Int32) by rw [e2]; exact rI_s)
      replace p92 : ((q_I d1 12 0 a0).toInt = 0 → (r87.1).toInt = 0 → (0 : Int) = 0) := p92
      have f103 := ti_b r87.1
      refine ok_ite (fun h104 => ?_) (fun h104 => ?_)
      · have c105 : r87.1.toInt = (0 : Int) := o_eq h104
        exact ok_some (show RI ad h.1 δ0 r87.2 ∧ (kp [(12, 0), (12, 36), (12, 37), (12, 38), (12, 39)] δ r87.2 ∧ q_V r87.2 = q_V δ ∧ kr ad [100, 119, 120, 121] δ r87.2) from ⟨i89, ⟨kp_w (by decide) u96, v97, kr_w (by decide) v98⟩⟩)
      · have c106 : r87.1.toInt ≠ (0 : Int) := o_ne h104
        refine ok_bind (k_X12_findWorst L hN (a0 := a0) (x1 := x1) (x2 := x2) k_a0 (show 0 ≤ (x2).toInt by first | assumption | omega) (show (x2).toInt ≤ 16 by first | assumption | omega) i89) (fun r107 hr108 => ?_)
        obtain ⟨i109, ⟨u110, u111, u112⟩⟩ := hr108
        have u113 := kp_t u96 u110
        have v114 : q_V r107 = q_V δ := (u111).trans v97
        have v115 := kr_t v98 u112
        refine ok_bind (k_X12_within L hN (x0 := x3) (x1 := (0 : Int32)) (x2 := ((q_I r107 12 38 a0) - (1 : Int32)))  i109) (fun r116 hr117 => ?_)
        obtain ⟨i118, p119, p120, p121⟩ := hr117
        try rw [i118]
        have f122 := bo_t p119
        have f123 := ti_b r116.1
        have f124 := ti_b x3
        have f125 := cb_12_38 i109 k_a0
        first | (have q127 := te_subc (c := 1) (n := 1) rfl (q_I r107 12 38 a0) (by omega) (by omega); obtain ⟨f128, f129, f130⟩ := q127) | (obtain ⟨q127, f128, f129, f130⟩ := ti_subc (c := 1) (n := 1) rfl (q_I r107 12 38 a0))
        replace p120 : ((r116.1).toInt = 1 → (0 : Int) ≤ (x3).toInt ∧ (x3).toInt ≤ (((q_I r107 12 38 a0) - (1 : Int32))).toInt) := p120
        replace p121 : ((r116.1).toInt = 0 → (x3).toInt < (0 : Int) ∨ (((q_I r107 12 38 a0) - (1 : Int32))).toInt < (x3).toInt) := p121
        have f131 := ti_b r116.1
        refine ok_ite (fun h132 => ?_) (fun h132 => ?_)
        · have c133 : r116.1.toInt = (0 : Int) := o_eq h132
          unfold J_X12_bad_66
          exact ok_some (show RI ad h.1 δ0 r107 ∧ (kp [(12, 0), (12, 36), (12, 37), (12, 38), (12, 39)] δ r107 ∧ q_V r107 = q_V δ ∧ kr ad [100, 119, 120, 121] δ r107) from ⟨i109, ⟨kp_w (by decide) u113, v114, kr_w (by decide) v115⟩⟩)
        · have c134 : r116.1.toInt ≠ (0 : Int) := o_ne h132
          obtain ⟨b135, o136, k137, n138, w139⟩ := gO_12_41 L k_a0
          obtain rfl := gS_12_41 L k_a0 o136
          refine ok_at o136 ?_
          have t140 := ti_tn x3
          refine ok_gd (fun hc141 => ?_) ?_
          · rcases hc141 with hc141 | hc141
            · have c142 : x3.toInt < (0 : Int) := o_lt hc141
              omega
            · omega
          unfold J_X12_bad_66
          exact ok_some (show RI ad h.1 δ0 r107 ∧ (kp [(12, 0), (12, 36), (12, 37), (12, 38), (12, 39)] δ r107 ∧ q_V r107 = q_V δ ∧ kr ad [100, 119, 120, 121] δ r107) from ⟨i109, ⟨kp_w (by decide) u113, v114, kr_w (by decide) v115⟩⟩)
    · have c143 : r76.1.toInt ≠ (0 : Int) := o_ne h85
      unfold J_X12_bad_26
      refine ok_bind (k_X12_may L hN (a0 := a0) (x1 := (1 : Int32)) (x2 := (1 : Int32)) (x3 := (2 : Int32)) k_a0 (show (1 : Int) ≠ 0 by first | assumption | omega) (show 0 ≤ (2 : Int) by first | assumption | omega) (show (2 : Int) ≤ 2 by first | assumption | omega) i3) (fun r144 hr145 => ?_)
      obtain ⟨i146, ⟨u150, u151, u152⟩, p147, p148, p149⟩ := hr145
      have u153 := kp_t u4 u150
      have v154 : q_V r144.2 = q_V δ := (u151).trans v5
      have v155 := kr_t v6 u152
      have f156 := bo_t p147
      have f157 := ti_b r144.1
      replace p148 : ((r144.1).toInt = 1 → (1 : Int) ≠ 0) := p148
      have f158 := ti_b (q_I d1 12 0 a0)
      have f159 : (q_I d1 12 0 a0).toInt = (0 : Int) := congrArg Int32.toInt (show q_I d1 12 0 a0 = (0 : Int32) by rw [e2]; exact rI_s)
      replace p149 : ((q_I d1 12 0 a0).toInt = 0 → (r144.1).toInt = 0 → (1 : Int) = 0) := p149
      have f160 := ti_b r144.1
      refine ok_ite (fun h161 => ?_) (fun h161 => ?_)
      · have c162 : r144.1.toInt = (0 : Int) := o_eq h161
        exact ok_some (show RI ad h.1 δ0 r144.2 ∧ (kp [(12, 0), (12, 36), (12, 37), (12, 38), (12, 39)] δ r144.2 ∧ q_V r144.2 = q_V δ ∧ kr ad [100, 119, 120, 121] δ r144.2) from ⟨i146, ⟨kp_w (by decide) u153, v154, kr_w (by decide) v155⟩⟩)
      · have c163 : r144.1.toInt ≠ (0 : Int) := o_ne h161
        refine ok_bind (k_X12_findWorst L hN (a0 := a0) (x1 := x1) (x2 := x2) k_a0 (show 0 ≤ (x2).toInt by first | assumption | omega) (show (x2).toInt ≤ 16 by first | assumption | omega) i146) (fun r164 hr165 => ?_)
        obtain ⟨i166, ⟨u167, u168, u169⟩⟩ := hr165
        have u170 := kp_t u153 u167
        have v171 : q_V r164 = q_V δ := (u168).trans v154
        have v172 := kr_t v155 u169
        refine ok_bind (k_X12_within L hN (x0 := x3) (x1 := (0 : Int32)) (x2 := ((q_I r164 12 38 a0) - (1 : Int32)))  i166) (fun r173 hr174 => ?_)
        obtain ⟨i175, p176, p177, p178⟩ := hr174
        try rw [i175]
        have f179 := bo_t p176
        have f180 := ti_b r173.1
        have f181 := ti_b x3
        have f182 := cb_12_38 i166 k_a0
        first | (have q184 := te_subc (c := 1) (n := 1) rfl (q_I r164 12 38 a0) (by omega) (by omega); obtain ⟨f185, f186, f187⟩ := q184) | (obtain ⟨q184, f185, f186, f187⟩ := ti_subc (c := 1) (n := 1) rfl (q_I r164 12 38 a0))
        replace p177 : ((r173.1).toInt = 1 → (0 : Int) ≤ (x3).toInt ∧ (x3).toInt ≤ (((q_I r164 12 38 a0) - (1 : Int32))).toInt) := p177
        replace p178 : ((r173.1).toInt = 0 → (x3).toInt < (0 : Int) ∨ (((q_I r164 12 38 a0) - (1 : Int32))).toInt < (x3).toInt) := p178
        have f188 := ti_b r173.1
        refine ok_ite (fun h189 => ?_) (fun h189 => ?_)
        · have c190 : r173.1.toInt = (0 : Int) := o_eq h189
          unfold J_X12_bad_66
          exact ok_some (show RI ad h.1 δ0 r164 ∧ (kp [(12, 0), (12, 36), (12, 37), (12, 38), (12, 39)] δ r164 ∧ q_V r164 = q_V δ ∧ kr ad [100, 119, 120, 121] δ r164) from ⟨i166, ⟨kp_w (by decide) u170, v171, kr_w (by decide) v172⟩⟩)
        · have c191 : r173.1.toInt ≠ (0 : Int) := o_ne h189
          obtain ⟨b192, o193, k194, n195, w196⟩ := gO_12_41 L k_a0
          obtain rfl := gS_12_41 L k_a0 o193
          refine ok_at o193 ?_
          have t197 := ti_tn x3
          refine ok_gd (fun hc198 => ?_) ?_
          · rcases hc198 with hc198 | hc198
            · have c199 : x3.toInt < (0 : Int) := o_lt hc198
              omega
            · omega
          unfold J_X12_bad_66
          exact ok_some (show RI ad h.1 δ0 r164 ∧ (kp [(12, 0), (12, 36), (12, 37), (12, 38), (12, 39)] δ r164 ∧ q_V r164 = q_V δ ∧ kr ad [100, 119, 120, 121] δ r164) from ⟨i166, ⟨kp_w (by decide) u170, v171, kr_w (by decide) v172⟩⟩)
set_option maxHeartbeats 4000000 in
theorem k_X12_reached {ad : List Nat} {h : hp} (L : Lay TLx ad h) {δ0 : dp} {N : Nat} (hN : 10000000 ≤ N) {a0 : Nat} {x1 : Int32} (k_a0 : q_K h.1 a0 = 12) {δ : dp} (I : RI ad h.1 δ0 δ) : ok (D_X12_reached N h.1 a0 x1 δ) (fun r => RI ad h.1 δ0 r.2 ∧ (kp [(12, 0), (12, 36), (12, 37), (12, 38), (12, 39)] δ r.2 ∧ q_V r.2 = q_V δ ∧ kr ad [100, 119, 120, 121] δ r.2)) := by
  unfold D_X12_reached
  refine ok_bdv (fun d1 e2 => ?_)
  have i3 : RI ad h.1 δ0 d1 := by rw [e2]; exact cs_12_0 L I
  have u4 := kp_I kp_r e2
  have v5 : q_V d1 = q_V δ := ((show q_V d1 = q_V δ by rw [e2]; rfl)).trans rfl
  have v6 := kr_N kr_r (show q_R d1 = q_R δ by rw [e2]; rfl)
  refine ok_bind (k_X12_isCall L hN (x0 := x1)  i3) (fun r7 hr8 => ?_)
  obtain ⟨i9, p10, p11⟩ := hr8
  try rw [i9]
  have f12 := bo_t p10
  have f13 := ti_b r7.1
  have f14 := ti_b x1
  have f15 := ti_b r7.1
  refine ok_ite (fun h16 => ?_) (fun h16 => ?_)
  · have c17 : r7.1.toInt = (0 : Int) := o_eq h16
    unfold J_X12_reached_26
    unfold J_X12_reached_27
    refine ok_bind (k_X12_may L hN (a0 := a0) (x1 := (0 : Int32)) (x2 := (1 : Int32)) (x3 := (2 : Int32)) k_a0 (show (1 : Int) ≠ 0 by first | assumption | omega) (show 0 ≤ (2 : Int) by first | assumption | omega) (show (2 : Int) ≤ 2 by first | assumption | omega) i3) (fun r18 hr19 => ?_)
    obtain ⟨i20, ⟨u24, u25, u26⟩, p21, p22, p23⟩ := hr19
    have u27 := kp_t u4 u24
    have v28 : q_V r18.2 = q_V δ := (u25).trans v5
    have v29 := kr_t v6 u26
    have f30 := bo_t p21
    have f31 := ti_b r18.1
    replace p22 : ((r18.1).toInt = 1 → (0 : Int) ≠ 0) := p22
    have f32 := ti_b (q_I d1 12 0 a0)
    have f33 : (q_I d1 12 0 a0).toInt = (0 : Int) := congrArg Int32.toInt (show q_I d1 12 0 a0 = (0 : Int32) by rw [e2]; exact rI_s)
    replace p23 : ((q_I d1 12 0 a0).toInt = 0 → (r18.1).toInt = 0 → (0 : Int) = 0) := p23
    have f34 := ti_b r18.1
    refine ok_ite (fun h35 => ?_) (fun h35 => ?_)
    · have c36 : r18.1.toInt = (0 : Int) := o_eq h35
      exact ok_some (show RI ad h.1 δ0 r18.2 ∧ (kp [(12, 0), (12, 36), (12, 37), (12, 38), (12, 39)] δ r18.2 ∧ q_V r18.2 = q_V δ ∧ kr ad [100, 119, 120, 121] δ r18.2) from ⟨i20, ⟨kp_w (by decide) u27, v28, kr_w (by decide) v29⟩⟩)
    · have c37 : r18.1.toInt ≠ (0 : Int) := o_ne h35
      refine ok_bind (k_X12_mostSet L hN (a0 := a0) k_a0 i20) (fun r38 hr39 => ?_)
      obtain ⟨i40, p41, p42⟩ := hr39
      try rw [i40]
      have f43 := ti_b r38.1
      have f44 := ti_b r38.1
      refine ok_bind (k_X12_findWorst L hN (a0 := a0) (x1 := x1) (x2 := r38.1) k_a0 (show 0 ≤ (r38.1).toInt by first | assumption | omega) (show (r38.1).toInt ≤ 16 by first | assumption | omega) i20) (fun r45 hr46 => ?_)
      obtain ⟨i47, ⟨u48, u49, u50⟩⟩ := hr46
      have u51 := kp_t u27 u48
      have v52 : q_V r45 = q_V δ := (u49).trans v28
      have v53 := kr_t v29 u50
      have f56 := cb_12_10 i47 k_a0
      have f57 : (q_I r45 12 10 a0).toInt = (q_I r18.2 12 10 a0).toInt := congrArg Int32.toInt (u48 12 10 a0 (by decide))
      have f58 := cb_12_10 i20 k_a0
      have f59 : (q_I r18.2 12 10 a0).toInt = (q_I d1 12 10 a0).toInt := congrArg Int32.toInt (u24 12 10 a0 (by decide))
      have f60 := cb_12_10 i3 k_a0
      have f61 : (q_I d1 12 10 a0).toInt = (q_I δ 12 10 a0).toInt := congrArg Int32.toInt (by rw [e2]; exact rI_o (by decide))
      have f62 := cb_12_10 I k_a0
      refine ok_bind (k_X12_boundOf L hN (a0 := a0) (x1 := x1) (x2 := (q_I r45 12 10 a0)) k_a0 (show 0 ≤ ((q_I r45 12 10 a0)).toInt by first | assumption | omega) (show ((q_I r45 12 10 a0)).toInt ≤ 16 by first | assumption | omega) (show ((q_I r45 12 10 a0)).toInt < 20 by first | assumption | omega) i47) (fun r54 hr55 => ?_)
      have i63 := hr55
      try rw [i63]
      have f64 := ti_b r54.1
      have f65 := ti_b (q_I r45 12 37 a0)
      refine ok_ite (fun h66 => ?_) (fun h66 => ?_)
      · have c67 : (q_I r45 12 37 a0).toInt = r54.1.toInt := o_eq h66
        unfold J_X12_reached_70
        exact ok_some (show RI ad h.1 δ0 r45 ∧ (kp [(12, 0), (12, 36), (12, 37), (12, 38), (12, 39)] δ r45 ∧ q_V r45 = q_V δ ∧ kr ad [100, 119, 120, 121] δ r45) from ⟨i47, ⟨kp_w (by decide) u51, v52, kr_w (by decide) v53⟩⟩)
      · have c68 : (q_I r45 12 37 a0).toInt ≠ r54.1.toInt := o_ne h66
        unfold J_X12_reached_70
        exact ok_some (show RI ad h.1 δ0 r45 ∧ (kp [(12, 0), (12, 36), (12, 37), (12, 38), (12, 39)] δ r45 ∧ q_V r45 = q_V δ ∧ kr ad [100, 119, 120, 121] δ r45) from ⟨i47, ⟨kp_w (by decide) u51, v52, kr_w (by decide) v53⟩⟩)
  · have c69 : r7.1.toInt ≠ (0 : Int) := o_ne h16
    have f70 := cb_12_10 i3 k_a0
    have f71 : (q_I d1 12 10 a0).toInt = (q_I δ 12 10 a0).toInt := congrArg Int32.toInt (by rw [e2]; exact rI_o (by decide))
    have f72 := cb_12_10 I k_a0
    refine ok_ite (fun h73 => ?_) (fun h73 => ?_)
    · have c74 : (6 : Int) < (q_I d1 12 10 a0).toInt := o_lt h73
      unfold J_X12_reached_26
      unfold J_X12_reached_27
      refine ok_bind (k_X12_may L hN (a0 := a0) (x1 := (0 : Int32)) (x2 := (1 : Int32)) (x3 := (2 : Int32)) k_a0 (show (1 : Int) ≠ 0 by first | assumption | omega) (show 0 ≤ (2 : Int) by first | assumption | omega) (show (2 : Int) ≤ 2 by first | assumption | omega) i3) (fun r75 hr76 => ?_)
      obtain ⟨i77, ⟨u81, u82, u83⟩, p78, p79, p80⟩ := hr76
      have u84 := kp_t u4 u81
      have v85 : q_V r75.2 = q_V δ := (u82).trans v5
      have v86 := kr_t v6 u83
      have f87 := bo_t p78
      have f88 := ti_b r75.1
      replace p79 : ((r75.1).toInt = 1 → (0 : Int) ≠ 0) := p79
      have f89 := ti_b (q_I d1 12 0 a0)
      have f90 : (q_I d1 12 0 a0).toInt = (0 : Int) := congrArg Int32.toInt (show q_I d1 12 0 a0 = (0 : Int32) by rw [e2]; exact rI_s)
      replace p80 : ((q_I d1 12 0 a0).toInt = 0 → (r75.1).toInt = 0 → (0 : Int) = 0) := p80
      have f91 := ti_b r75.1
      refine ok_ite (fun h92 => ?_) (fun h92 => ?_)
      · have c93 : r75.1.toInt = (0 : Int) := o_eq h92
        exact ok_some (show RI ad h.1 δ0 r75.2 ∧ (kp [(12, 0), (12, 36), (12, 37), (12, 38), (12, 39)] δ r75.2 ∧ q_V r75.2 = q_V δ ∧ kr ad [100, 119, 120, 121] δ r75.2) from ⟨i77, ⟨kp_w (by decide) u84, v85, kr_w (by decide) v86⟩⟩)
      · have c94 : r75.1.toInt ≠ (0 : Int) := o_ne h92
        refine ok_bind (k_X12_mostSet L hN (a0 := a0) k_a0 i77) (fun r95 hr96 => ?_)
        obtain ⟨i97, p98, p99⟩ := hr96
        try rw [i97]
        have f100 := ti_b r95.1
        have f101 := ti_b r95.1
        refine ok_bind (k_X12_findWorst L hN (a0 := a0) (x1 := x1) (x2 := r95.1) k_a0 (show 0 ≤ (r95.1).toInt by first | assumption | omega) (show (r95.1).toInt ≤ 16 by first | assumption | omega) i77) (fun r102 hr103 => ?_)
        obtain ⟨i104, ⟨u105, u106, u107⟩⟩ := hr103
        have u108 := kp_t u84 u105
        have v109 : q_V r102 = q_V δ := (u106).trans v85
        have v110 := kr_t v86 u107
        have f113 := cb_12_10 i104 k_a0
        have f114 : (q_I r102 12 10 a0).toInt = (q_I r75.2 12 10 a0).toInt := congrArg Int32.toInt (u105 12 10 a0 (by decide))
        have f115 := cb_12_10 i77 k_a0
        have f116 : (q_I r75.2 12 10 a0).toInt = (q_I d1 12 10 a0).toInt := congrArg Int32.toInt (u81 12 10 a0 (by decide))
        refine ok_bind (k_X12_boundOf L hN (a0 := a0) (x1 := x1) (x2 := (q_I r102 12 10 a0)) k_a0 (show 0 ≤ ((q_I r102 12 10 a0)).toInt by first | assumption | omega) (show ((q_I r102 12 10 a0)).toInt ≤ 16 by first | assumption | omega) (show ((q_I r102 12 10 a0)).toInt < 20 by first | assumption | omega) i104) (fun r111 hr112 => ?_)
        have i117 := hr112
        try rw [i117]
        have f118 := ti_b r111.1
        have f119 := ti_b (q_I r102 12 37 a0)
        refine ok_ite (fun h120 => ?_) (fun h120 => ?_)
        · have c121 : (q_I r102 12 37 a0).toInt = r111.1.toInt := o_eq h120
          unfold J_X12_reached_70
          exact ok_some (show RI ad h.1 δ0 r102 ∧ (kp [(12, 0), (12, 36), (12, 37), (12, 38), (12, 39)] δ r102 ∧ q_V r102 = q_V δ ∧ kr ad [100, 119, 120, 121] δ r102) from ⟨i104, ⟨kp_w (by decide) u108, v109, kr_w (by decide) v110⟩⟩)
        · have c122 : (q_I r102 12 37 a0).toInt ≠ r111.1.toInt := o_ne h120
          unfold J_X12_reached_70
          exact ok_some (show RI ad h.1 δ0 r102 ∧ (kp [(12, 0), (12, 36), (12, 37), (12, 38), (12, 39)] δ r102 ∧ q_V r102 = q_V δ ∧ kr ad [100, 119, 120, 121] δ r102) from ⟨i104, ⟨kp_w (by decide) u108, v109, kr_w (by decide) v110⟩⟩)
    · have c123 : (q_I d1 12 10 a0).toInt ≤ (6 : Int) := o_nlt h73
      unfold J_X12_reached_27
      refine ok_bind (k_X12_may L hN (a0 := a0) (x1 := (1 : Int32)) (x2 := (1 : Int32)) (x3 := (2 : Int32)) k_a0 (show (1 : Int) ≠ 0 by first | assumption | omega) (show 0 ≤ (2 : Int) by first | assumption | omega) (show (2 : Int) ≤ 2 by first | assumption | omega) i3) (fun r124 hr125 => ?_)
      obtain ⟨i126, ⟨u130, u131, u132⟩, p127, p128, p129⟩ := hr125
      have u133 := kp_t u4 u130
      have v134 : q_V r124.2 = q_V δ := (u131).trans v5
      have v135 := kr_t v6 u132
      have f136 := bo_t p127
      have f137 := ti_b r124.1
      replace p128 : ((r124.1).toInt = 1 → (1 : Int) ≠ 0) := p128
      have f138 := ti_b (q_I d1 12 0 a0)
      have f139 : (q_I d1 12 0 a0).toInt = (0 : Int) := congrArg Int32.toInt (show q_I d1 12 0 a0 = (0 : Int32) by rw [e2]; exact rI_s)
      replace p129 : ((q_I d1 12 0 a0).toInt = 0 → (r124.1).toInt = 0 → (1 : Int) = 0) := p129
      have f140 := ti_b r124.1
      refine ok_ite (fun h141 => ?_) (fun h141 => ?_)
      · have c142 : r124.1.toInt = (0 : Int) := o_eq h141
        exact ok_some (show RI ad h.1 δ0 r124.2 ∧ (kp [(12, 0), (12, 36), (12, 37), (12, 38), (12, 39)] δ r124.2 ∧ q_V r124.2 = q_V δ ∧ kr ad [100, 119, 120, 121] δ r124.2) from ⟨i126, ⟨kp_w (by decide) u133, v134, kr_w (by decide) v135⟩⟩)
      · have c143 : r124.1.toInt ≠ (0 : Int) := o_ne h141
        refine ok_bind (k_X12_mostSet L hN (a0 := a0) k_a0 i126) (fun r144 hr145 => ?_)
        obtain ⟨i146, p147, p148⟩ := hr145
        try rw [i146]
        have f149 := ti_b r144.1
        have f150 := ti_b r144.1
        refine ok_bind (k_X12_findWorst L hN (a0 := a0) (x1 := x1) (x2 := r144.1) k_a0 (show 0 ≤ (r144.1).toInt by first | assumption | omega) (show (r144.1).toInt ≤ 16 by first | assumption | omega) i126) (fun r151 hr152 => ?_)
        obtain ⟨i153, ⟨u154, u155, u156⟩⟩ := hr152
        have u157 := kp_t u133 u154
        have v158 : q_V r151 = q_V δ := (u155).trans v134
        have v159 := kr_t v135 u156
        have f162 := cb_12_10 i153 k_a0
        have f163 : (q_I r151 12 10 a0).toInt = (q_I r124.2 12 10 a0).toInt := congrArg Int32.toInt (u154 12 10 a0 (by decide))
        have f164 := cb_12_10 i126 k_a0
        have f165 : (q_I r124.2 12 10 a0).toInt = (q_I d1 12 10 a0).toInt := congrArg Int32.toInt (u130 12 10 a0 (by decide))
        refine ok_bind (k_X12_boundOf L hN (a0 := a0) (x1 := x1) (x2 := (q_I r151 12 10 a0)) k_a0 (show 0 ≤ ((q_I r151 12 10 a0)).toInt by first | assumption | omega) (show ((q_I r151 12 10 a0)).toInt ≤ 16 by first | assumption | omega) (show ((q_I r151 12 10 a0)).toInt < 20 by first | assumption | omega) i153) (fun r160 hr161 => ?_)
        have i166 := hr161
        try rw [i166]
        have f167 := ti_b r160.1
        have f168 := ti_b (q_I r151 12 37 a0)
        refine ok_ite (fun h169 => ?_) (fun h169 => ?_)
        · have c170 : (q_I r151 12 37 a0).toInt = r160.1.toInt := o_eq h169
          unfold J_X12_reached_70
          exact ok_some (show RI ad h.1 δ0 r151 ∧ (kp [(12, 0), (12, 36), (12, 37), (12, 38), (12, 39)] δ r151 ∧ q_V r151 = q_V δ ∧ kr ad [100, 119, 120, 121] δ r151) from ⟨i153, ⟨kp_w (by decide) u157, v158, kr_w (by decide) v159⟩⟩)
        · have c171 : (q_I r151 12 37 a0).toInt ≠ r160.1.toInt := o_ne h169
          unfold J_X12_reached_70
          exact ok_some (show RI ad h.1 δ0 r151 ∧ (kp [(12, 0), (12, 36), (12, 37), (12, 38), (12, 39)] δ r151 ∧ q_V r151 = q_V δ ∧ kr ad [100, 119, 120, 121] δ r151) from ⟨i153, ⟨kp_w (by decide) u157, v158, kr_w (by decide) v159⟩⟩)
set_option maxHeartbeats 4000000 in
theorem kl_X12_touchSet_8 {ad : List Nat} {h : hp} (L : Lay TLx ad h) {δ0 : dp} {N : Nat} (hN : 10000000 ≤ N) {a0 : Nat} {x1 : Int32} {x2 : Int32} {x3 : Int32} (k_a0 : q_K h.1 a0 = 12) : ∀ (n : Nat) (x4v : Int32) (δ : dp), RI ad h.1 δ0 δ → 0 ≤ (x4v).toInt → (x4v).toInt ≤ 16 → (q_I δ 12 36 a0).toInt ≤ (x4v).toInt → 16 - (x4v).toInt < (n : Int) → ok (L_X12_touchSet_8 N h.1 a0 x1 x2 x3 n x4v δ) (fun r => RI ad h.1 δ0 r.2 ∧ (kp [(12, 36)] δ r.2 ∧ q_V r.2 = q_V δ ∧ kr ad [119] δ r.2)) := by
  intro n
  induction n with
  | zero =>
    intro x4v δ I j0 j1 j2 hm
    have f1 := ti_b x4v
    have f2 := cb_12_36 I k_a0
    exfalso; omega
  | succ n ih =>
    intro x4v δ I j0 j1 j2 hm
    unfold L_X12_touchSet_8
    have f1 := ti_b x4v
    have f2 := cb_12_36 I k_a0
    refine ok_ite (fun h3 => ?_) (fun h3 => ?_)
    · have c4 : (16 : Int) ≤ x4v.toInt := o_le h3
      have f7 := cb_12_10 I k_a0
      refine ok_bind (k_X12_touch L hN (a0 := a0) (x1 := x1) (x2 := x2) (x3 := (q_I δ 12 10 a0)) (x4 := (0 : Int32)) (x5 := (q_I δ 12 36 a0)) k_a0 (show 1 ≤ ((q_I δ 12 10 a0)).toInt by first | assumption | omega) (show ((q_I δ 12 10 a0)).toInt ≤ 16 by first | assumption | omega) (show 0 ≤ (0 : Int) by first | assumption | omega) (show (0 : Int) ≤ ((q_I δ 12 36 a0)).toInt by first | assumption | omega) (show ((q_I δ 12 36 a0)).toInt ≤ (0 : Int) + 2000 by first | assumption | omega) (show ((q_I δ 12 36 a0)).toInt ≤ (q_I δ 12 36 a0).toInt by first | assumption | omega) (show (q_I δ 12 36 a0).toInt ≤ 12000 by first | assumption | omega) (show 1 < ((q_I δ 12 10 a0)).toInt → (q_I δ 12 36 a0).toInt ≤ 10000 by first | assumption | omega) (show 2 < ((q_I δ 12 10 a0)).toInt → (q_I δ 12 36 a0).toInt ≤ 8000 by first | assumption | omega) (show 4 < ((q_I δ 12 10 a0)).toInt → (q_I δ 12 36 a0).toInt ≤ 6000 by first | assumption | omega) (show 8 < ((q_I δ 12 10 a0)).toInt → (q_I δ 12 36 a0).toInt ≤ 4000 by first | assumption | omega) (show ((q_I δ 12 10 a0)).toInt < 20 by first | assumption | omega) I) (fun r5 hr6 => ?_)
      obtain ⟨i8, ⟨u10, u11, u12⟩, p9⟩ := hr6
      have u13 := kp_t kp_r u10
      have v14 : q_V r5.2 = q_V δ := (u11).trans rfl
      have v15 := kr_t kr_r u12
      have f16 := cb_12_36 i8 k_a0
      have f17 := ti_b r5.1
      exact ok_some (show RI ad h.1 δ0 r5.2 ∧ (kp [(12, 36)] δ r5.2 ∧ q_V r5.2 = q_V δ ∧ kr ad [119] δ r5.2) from ⟨i8, ⟨kp_w (by decide) u13, v14, kr_w (by decide) v15⟩⟩)
    · have c18 : x4v.toInt < (16 : Int) := o_nle h3
      have f19 := ti_b ((x3 >>> (x4v &&& 31)) &&& (1 : Int32))
      refine ok_ite (fun h20 => ?_) (fun h20 => ?_)
      · have c21 : ((x3 >>> (x4v &&& 31)) &&& (1 : Int32)).toInt = (0 : Int) := o_eq h20
        unfold J_X12_touchSet_48
        refine ok_biv (fun vx22 e23 => ?_)
        first | (have q24 := te_addc (c := 1) (n := 1) rfl x4v (by omega) (by omega); rw [← e23] at q24; obtain ⟨f25, f26, f27⟩ := q24) | (obtain ⟨q24, f25, f26, f27⟩ : ∃ q : Int, vx22.toInt = x4v.toInt + (1 : Int) + 4294967296 * q ∧ -2147483648 ≤ vx22.toInt ∧ vx22.toInt ≤ 2147483647 := by rw [e23]; exact ti_addc (c := 1) (n := 1) rfl x4v)
        refine ok_mono (ih vx22 δ I (show 0 ≤ (vx22).toInt by first | assumption | omega) (show (vx22).toInt ≤ 16 by first | assumption | omega) (show (q_I δ 12 36 a0).toInt ≤ (vx22).toInt by first | assumption | omega) (show 16 - (vx22).toInt < _ by omega)) (fun r28 hr29 => ?_)
        obtain ⟨i30, ⟨u31, u32, u33⟩⟩ := hr29
        have u34 := kp_t kp_r u31
        have v35 : q_V r28.2 = q_V δ := (u32).trans rfl
        have v36 := kr_t kr_r u33
        have f37 := ti_b r28.1
        exact ⟨by assumption, ⟨kp_w (by decide) u34, v35, kr_w (by decide) v36⟩⟩
      · have c38 : ((x3 >>> (x4v &&& 31)) &&& (1 : Int32)).toInt ≠ (0 : Int) := o_ne h20
        obtain ⟨b39, o40, k41, n42, w43⟩ := gO_12_35 L k_a0
        obtain rfl := gS_12_35 L k_a0 o40
        refine ok_at o40 ?_
        have t44 := ti_tn (q_I δ 12 36 a0)
        refine ok_gd (fun hc45 => ?_) ?_
        · rcases hc45 with hc45 | hc45
          · have c46 : (q_I δ 12 36 a0).toInt < (0 : Int) := o_lt hc45
            omega
          · omega
        refine ok_bdv (fun d47 e48 => ?_)
        have i49 : RI ad h.1 δ0 d47 := by rw [e48]; exact RI.sR L I w43
        have u50 := kp_N kp_r (show q_I d47 = q_I δ by rw [e48]; rfl)
        have v51 : q_V d47 = q_V δ := ((show q_V d47 = q_V δ by rw [e48]; rfl)).trans rfl
        have v52 := kr_s L (by decide) kr_r e48
        have f56 := cb_12_36 i49 k_a0
        have f57 : (q_I d47 12 36 a0).toInt = (q_I δ 12 36 a0).toInt := congrArg Int32.toInt (by rw [e48]; rfl)
        first | (have q59 := te_addc (c := 1) (n := 1) rfl (q_I d47 12 36 a0) (by omega) (by omega); obtain ⟨f60, f61, f62⟩ := q59) | (obtain ⟨q59, f60, f61, f62⟩ := ti_addc (c := 1) (n := 1) rfl (q_I d47 12 36 a0))
        refine ok_bdv (fun d53 e54 => ?_)
        have i55 : RI ad h.1 δ0 d53 := by rw [e54]; exact cs_12_36 L i49 k_a0 (show 0 ≤ ((q_I d47 12 36 a0) + (1 : Int32)).toInt by omega) (show ((q_I d47 12 36 a0) + (1 : Int32)).toInt ≤ 14000 by omega)
        have u63 := kp_I u50 e54
        have v64 : q_V d53 = q_V δ := ((show q_V d53 = q_V d47 by rw [e54]; rfl)).trans v51
        have v65 := kr_N v52 (show q_R d53 = q_R d47 by rw [e54]; rfl)
        unfold J_X12_touchSet_48
        refine ok_biv (fun vx66 e67 => ?_)
        first | (have q68 := te_addc (c := 1) (n := 1) rfl x4v (by omega) (by omega); rw [← e67] at q68; obtain ⟨f69, f70, f71⟩ := q68) | (obtain ⟨q68, f69, f70, f71⟩ : ∃ q : Int, vx66.toInt = x4v.toInt + (1 : Int) + 4294967296 * q ∧ -2147483648 ≤ vx66.toInt ∧ vx66.toInt ≤ 2147483647 := by rw [e67]; exact ti_addc (c := 1) (n := 1) rfl x4v)
        have f72 := cb_12_36 i55 k_a0
        have f73 : (q_I d53 12 36 a0).toInt = ((q_I d47 12 36 a0) + (1 : Int32)).toInt := congrArg Int32.toInt (show q_I d53 12 36 a0 = ((q_I d47 12 36 a0) + (1 : Int32)) by rw [e54]; exact rI_s)
        refine ok_mono (ih vx66 d53 i55 (show 0 ≤ (vx66).toInt by first | assumption | omega) (show (vx66).toInt ≤ 16 by first | assumption | omega) (show (q_I d53 12 36 a0).toInt ≤ (vx66).toInt by first | assumption | omega) (show 16 - (vx66).toInt < _ by omega)) (fun r74 hr75 => ?_)
        obtain ⟨i76, ⟨u77, u78, u79⟩⟩ := hr75
        have u80 := kp_t u63 u77
        have v81 : q_V r74.2 = q_V δ := (u78).trans v64
        have v82 := kr_t v65 u79
        have f83 := ti_b r74.1
        exact ⟨by assumption, ⟨kp_w (by decide) u80, v81, kr_w (by decide) v82⟩⟩
set_option maxHeartbeats 4000000 in
theorem k_X12_touchSet {ad : List Nat} {h : hp} (L : Lay TLx ad h) {δ0 : dp} {N : Nat} (hN : 10000000 ≤ N) {a0 : Nat} {x1 : Int32} {x2 : Int32} {x3 : Int32} (k_a0 : q_K h.1 a0 = 12) {δ : dp} (I : RI ad h.1 δ0 δ) : ok (D_X12_touchSet N h.1 a0 x1 x2 x3 δ) (fun r => RI ad h.1 δ0 r.2 ∧ (kp [(12, 36)] δ r.2 ∧ q_V r.2 = q_V δ ∧ kr ad [119] δ r.2)) := by
  unfold D_X12_touchSet
  refine ok_bdv (fun d1 e2 => ?_)
  have i3 : RI ad h.1 δ0 d1 := by rw [e2]; exact cs_12_36 L I k_a0 (show 0 ≤ (0 : Int) by omega) (show (0 : Int) ≤ 14000 by omega)
  have u4 := kp_I kp_r e2
  have v5 : q_V d1 = q_V δ := ((show q_V d1 = q_V δ by rw [e2]; rfl)).trans rfl
  have v6 := kr_N kr_r (show q_R d1 = q_R δ by rw [e2]; rfl)
  have f7 := cb_12_36 i3 k_a0
  have f8 : (q_I d1 12 36 a0).toInt = (0 : Int) := congrArg Int32.toInt (show q_I d1 12 36 a0 = (0 : Int32) by rw [e2]; exact rI_s)
  refine ok_mono (kl_X12_touchSet_8 L hN   k_a0 _ (0 : Int32) d1 i3 (show 0 ≤ (0 : Int) by first | assumption | omega) (show (0 : Int) ≤ 16 by first | assumption | omega) (show (q_I d1 12 36 a0).toInt ≤ (0 : Int) by first | assumption | omega) (show 16 - (0 : Int) < _ by omega)) (fun r9 hr10 => ?_)
  obtain ⟨i11, ⟨u12, u13, u14⟩⟩ := hr10
  have u15 := kp_t u4 u12
  have v16 : q_V r9.2 = q_V δ := (u13).trans v5
  have v17 := kr_t v6 u14
  have f18 := ti_b r9.1
  exact ⟨by assumption, ⟨kp_w (by decide) u15, v16, kr_w (by decide) v17⟩⟩
set_option maxHeartbeats 4000000 in
theorem k_X12_behind {ad : List Nat} {h : hp} (L : Lay TLx ad h) {δ0 : dp} {N : Nat} (hN : 10000000 ≤ N) {a0 : Nat} {x1 : Int32} {x2 : Int32} {x3 : Int32} (k_a0 : q_K h.1 a0 = 12) {δ : dp} (I : RI ad h.1 δ0 δ) : ok (D_X12_behind N h.1 a0 x1 x2 x3 δ) (fun r => r.2 = δ) := by
  unfold D_X12_behind
  have f1 := ti_b x1
  refine ok_ite (fun h2 => ?_) (fun h2 => ?_)
  · have c3 : x1.toInt = (0 : Int) := o_eq h2
    unfold J_X12_behind_28
    exact ok_some (show δ = δ from rfl)
  · have c4 : x1.toInt ≠ (0 : Int) := o_ne h2
    refine ok_ite (fun h5 => ?_) (fun h5 => ?_)
    · have c6 : x1.toInt = (1 : Int) := o_eq h5
      unfold J_X12_behind_28
      exact ok_some (show δ = δ from rfl)
    · have c7 : x1.toInt ≠ (1 : Int) := o_ne h5
      unfold J_X12_behind_28
      exact ok_some (show δ = δ from rfl)
set_option maxHeartbeats 4000000 in
theorem k_X12_isRow {ad : List Nat} {h : hp} (L : Lay TLx ad h) {δ0 : dp} {N : Nat} (hN : 10000000 ≤ N) {a0 : Nat} {x1 : Int32} (k_a0 : q_K h.1 a0 = 12) {δ : dp} (I : RI ad h.1 δ0 δ) : ok (D_X12_isRow N h.1 a0 x1 δ) (fun r => r.2 = δ ∧ bo (r.1) ∧ ((r.1).toInt = 1 → 1 ≤ (x1).toInt ∧ (x1).toInt ≤ 6) ∧ ((q_I δ 12 10 a0).toInt ≤ 4 ∨ (r.1).toInt = 0 ∨ (x1).toInt ≤ 2)) := by
  unfold D_X12_isRow
  have f1 := cb_12_10 I k_a0
  refine ok_ite (fun h2 => ?_) (fun h2 => ?_)
  · have c3 : (6 : Int) < (q_I δ 12 10 a0).toInt := o_lt h2
    unfold J_X12_isRow_35
    unfold J_X12_isRow_36
    refine ok_gp (by decide) ?_
    have f4 := ti_b x1
    exact ok_some (show δ = δ ∧ bo ((0 : Int32)) ∧ ((0 : Int) = 1 → 1 ≤ (x1).toInt ∧ (x1).toInt ≤ 6) ∧ ((q_I δ 12 10 a0).toInt ≤ 4 ∨ (0 : Int) = 0 ∨ (x1).toInt ≤ 2) from ⟨rfl, bo_0, by first | assumption | omega, by first | assumption | omega⟩)
  · have c5 : (q_I δ 12 10 a0).toInt ≤ (6 : Int) := o_nlt h2
    refine ok_ite (fun h6 => ?_) (fun h6 => ?_)
    · have c7 : (4 : Int) < (q_I δ 12 10 a0).toInt := o_lt h6
      unfold J_X12_isRow_25
      refine ok_bind (k_X12_within L hN (x0 := x1) (x1 := (1 : Int32)) (x2 := (2 : Int32))  I) (fun r8 hr9 => ?_)
      obtain ⟨i10, p11, p12, p13⟩ := hr9
      try rw [i10]
      have f14 := bo_t p11
      have f15 := ti_b r8.1
      have f16 := ti_b x1
      replace p12 : ((r8.1).toInt = 1 → (1 : Int) ≤ (x1).toInt ∧ (x1).toInt ≤ (2 : Int)) := p12
      replace p13 : ((r8.1).toInt = 0 → (x1).toInt < (1 : Int) ∨ (2 : Int) < (x1).toInt) := p13
      have f17 := ti_b r8.1
      refine ok_ite (fun h18 => ?_) (fun h18 => ?_)
      · have c19 : r8.1.toInt = (0 : Int) := o_eq h18
        unfold J_X12_isRow_35
        unfold J_X12_isRow_36
        refine ok_gp (by decide) ?_
        exact ok_some (show δ = δ ∧ bo ((0 : Int32)) ∧ ((0 : Int) = 1 → 1 ≤ (x1).toInt ∧ (x1).toInt ≤ 6) ∧ ((q_I δ 12 10 a0).toInt ≤ 4 ∨ (0 : Int) = 0 ∨ (x1).toInt ≤ 2) from ⟨rfl, bo_0, by first | assumption | omega, by first | assumption | omega⟩)
      · have c20 : r8.1.toInt ≠ (0 : Int) := o_ne h18
        unfold J_X12_isRow_36
        refine ok_gp (by decide) ?_
        exact ok_some (show δ = δ ∧ bo ((1 : Int32)) ∧ ((1 : Int) = 1 → 1 ≤ (x1).toInt ∧ (x1).toInt ≤ 6) ∧ ((q_I δ 12 10 a0).toInt ≤ 4 ∨ (1 : Int) = 0 ∨ (x1).toInt ≤ 2) from ⟨rfl, bo_1, by first | assumption | omega, by first | assumption | omega⟩)
    · have c21 : (q_I δ 12 10 a0).toInt ≤ (4 : Int) := o_nlt h6
      unfold J_X12_isRow_25
      refine ok_bind (k_X12_within L hN (x0 := x1) (x1 := (1 : Int32)) (x2 := (6 : Int32))  I) (fun r22 hr23 => ?_)
      obtain ⟨i24, p25, p26, p27⟩ := hr23
      try rw [i24]
      have f28 := bo_t p25
      have f29 := ti_b r22.1
      have f30 := ti_b x1
      replace p26 : ((r22.1).toInt = 1 → (1 : Int) ≤ (x1).toInt ∧ (x1).toInt ≤ (6 : Int)) := p26
      replace p27 : ((r22.1).toInt = 0 → (x1).toInt < (1 : Int) ∨ (6 : Int) < (x1).toInt) := p27
      have f31 := ti_b r22.1
      refine ok_ite (fun h32 => ?_) (fun h32 => ?_)
      · have c33 : r22.1.toInt = (0 : Int) := o_eq h32
        unfold J_X12_isRow_35
        unfold J_X12_isRow_36
        refine ok_gp (by decide) ?_
        exact ok_some (show δ = δ ∧ bo ((0 : Int32)) ∧ ((0 : Int) = 1 → 1 ≤ (x1).toInt ∧ (x1).toInt ≤ 6) ∧ ((q_I δ 12 10 a0).toInt ≤ 4 ∨ (0 : Int) = 0 ∨ (x1).toInt ≤ 2) from ⟨rfl, bo_0, by first | assumption | omega, by first | assumption | omega⟩)
      · have c34 : r22.1.toInt ≠ (0 : Int) := o_ne h32
        unfold J_X12_isRow_36
        refine ok_gp (by decide) ?_
        exact ok_some (show δ = δ ∧ bo ((1 : Int32)) ∧ ((1 : Int) = 1 → 1 ≤ (x1).toInt ∧ (x1).toInt ≤ 6) ∧ ((q_I δ 12 10 a0).toInt ≤ 4 ∨ (1 : Int) = 0 ∨ (x1).toInt ≤ 2) from ⟨rfl, bo_1, by first | assumption | omega, by first | assumption | omega⟩)
set_option maxHeartbeats 4000000 in
theorem kl_X12_findTwo_19 {ad : List Nat} {h : hp} (L : Lay TLx ad h) {δ0 : dp} {N : Nat} (hN : 10000000 ≤ N) {a0 : Nat} {x1 : Int32} {kt7 : Int32 → dp → Option (dp)} {K7 : Int} (h_kt7 : ∀ (x2v : Int32) (δ : dp), RI ad h.1 δ0 δ → 0 ≤ (x2v).toInt → (x2v).toInt ≤ 327680 → 327680 - (x2v).toInt < K7 → ok (kt7 x2v δ) (fun r => RI ad h.1 δ0 r ∧ (kp [(12, 36), (12, 45)] δ r ∧ q_V r = q_V δ ∧ kr ad [119, 123] δ r))) (k_a0 : q_K h.1 a0 = 12) : ∀ (n : Nat) (x2v : Int32) (x3v : Int32) (δ : dp), RI ad h.1 δ0 δ → 0 ≤ (x2v).toInt → (x2v).toInt < 327680 → 327680 - (x2v).toInt ≤ K7 → 0 ≤ (x3v).toInt → (x3v).toInt ≤ 327680 → 327680 - (x3v).toInt < (n : Int) → ok (L_X12_findTwo_19 N h.1 a0 x1 kt7 n x2v x3v δ) (fun r => RI ad h.1 δ0 r ∧ (kp [(12, 36), (12, 45)] δ r ∧ q_V r = q_V δ ∧ kr ad [119, 123] δ r)) := by
  intro n
  induction n with
  | zero =>
    intro x2v x3v δ I j0 j1 j2 j3 j4 hm
    have f1 := ti_b x2v
    have f2 := ti_b x3v
    exfalso; omega
  | succ n ih =>
    intro x2v x3v δ I j0 j1 j2 j3 j4 hm
    unfold L_X12_findTwo_19
    have f1 := ti_b x2v
    have f2 := ti_b x3v
    have f3 := ti_b x1
    refine ok_ite (fun h4 => ?_) (fun h4 => ?_)
    · have c5 : x1.toInt = (1 : Int) := o_eq h4
      unfold J_X12_findTwo_35
      refine ok_ite (fun h6 => ?_) (fun h6 => ?_)
      · have c7 : (1 : Int) ≤ x3v.toInt := o_le h6
        refine ok_biv (fun vx8 e9 => ?_)
        first | (have q10 := te_addc (c := 1) (n := 1) rfl x2v (by omega) (by omega); rw [← e9] at q10; obtain ⟨f11, f12, f13⟩ := q10) | (obtain ⟨q10, f11, f12, f13⟩ : ∃ q : Int, vx8.toInt = x2v.toInt + (1 : Int) + 4294967296 * q ∧ -2147483648 ≤ vx8.toInt ∧ vx8.toInt ≤ 2147483647 := by rw [e9]; exact ti_addc (c := 1) (n := 1) rfl x2v)
        refine ok_mono (h_kt7 vx8 δ I (show 0 ≤ (vx8).toInt by first | assumption | omega) (show (vx8).toInt ≤ 327680 by first | assumption | omega) (show 327680 - (vx8).toInt < _ by omega)) (fun r14 hr15 => ?_)
        obtain ⟨i16, ⟨u17, u18, u19⟩⟩ := hr15
        have u20 := kp_t kp_r u17
        have v21 : q_V r14 = q_V δ := (u18).trans rfl
        have v22 := kr_t kr_r u19
        exact ⟨by assumption, ⟨kp_w (by decide) u20, v21, kr_w (by decide) v22⟩⟩
      · have c23 : x3v.toInt < (1 : Int) := o_nle h6
        obtain ⟨b24, o25, k26, n27, w28⟩ := gO_12_35 L k_a0
        obtain rfl := gS_12_35 L k_a0 o25
        refine ok_at o25 ?_
        have t29 : (0 : Int32).toNatClampNeg = 0 := rfl
        refine ok_gd (fun hc30 => ?_) ?_
        · rcases hc30 with hc30 | hc30
          · have c31 : (0 : Int) < (0 : Int) := o_lt hc30
            omega
          · omega
        refine ok_bdv (fun d32 e33 => ?_)
        have i34 : RI ad h.1 δ0 d32 := by rw [e33]; exact RI.sR L I w28
        have u35 := kp_N kp_r (show q_I d32 = q_I δ by rw [e33]; rfl)
        have v36 : q_V d32 = q_V δ := ((show q_V d32 = q_V δ by rw [e33]; rfl)).trans rfl
        have v37 := kr_s L (by decide) kr_r e33
        refine ok_bind (k_X12_all L hN (a0 := a0) k_a0 i34) (fun r38 hr39 => ?_)
        obtain ⟨i40, p41, p42, p43, p44⟩ := hr39
        try rw [i40]
        have f45 := ti_b r38.1
        have f46 := cb_12_10 i34 k_a0
        have f47 : (q_I d32 12 10 a0).toInt = (q_I δ 12 10 a0).toInt := congrArg Int32.toInt (by rw [e33]; rfl)
        have f48 := cb_12_10 I k_a0
        have f49 := ti_b r38.1
        refine ok_ite (fun h50 => ?_) (fun h50 => ?_)
        · have c51 : r38.1.toInt ≤ x2v.toInt := o_le h50
          unfold J_X12_findTwo_59
          refine ok_bdv (fun d52 e53 => ?_)
          have i54 : RI ad h.1 δ0 d52 := by rw [e53]; exact cs_12_36 L i34 k_a0 (show 0 ≤ (0 : Int) by omega) (show (0 : Int) ≤ 14000 by omega)
          have u55 := kp_I u35 e53
          have v56 : q_V d52 = q_V δ := ((show q_V d52 = q_V d32 by rw [e53]; rfl)).trans v36
          have v57 := kr_N v37 (show q_R d52 = q_R d32 by rw [e53]; rfl)
          refine ok_ite (fun h58 => ?_) (fun h58 => ?_)
          · have c59 : x1.toInt = (1 : Int) := o_eq h58
            unfold J_X12_findTwo_97
            refine ok_biv (fun vx60 e61 => ?_)
            first | (have q62 := te_cadd (c := 1) (n := 1) rfl (0 : Int32) (by omega) (by omega); rw [← e61] at q62; obtain ⟨f63, f64, f65⟩ := q62) | (obtain ⟨q62, f63, f64, f65⟩ : ∃ q : Int, vx60.toInt = (1 : Int) + (0 : Int) + 4294967296 * q ∧ -2147483648 ≤ vx60.toInt ∧ vx60.toInt ≤ 2147483647 := by rw [e61]; exact ti_cadd (c := 1) (n := 1) rfl (0 : Int32))
            have f66 := ti_b (q_I d52 12 45 a0)
            have f67 : (q_I d52 12 45 a0).toInt = (q_I d32 12 45 a0).toInt := congrArg Int32.toInt (by rw [e53]; exact rI_o (by decide))
            have f68 := ti_b (q_I d32 12 45 a0)
            have f69 : (q_I d32 12 45 a0).toInt = (q_I δ 12 45 a0).toInt := congrArg Int32.toInt (by rw [e33]; rfl)
            have f70 := ti_b (q_I δ 12 45 a0)
            refine ok_ite (fun h71 => ?_) (fun h71 => ?_)
            · have c72 : (q_I d52 12 45 a0).toInt < vx60.toInt := o_lt h71
              refine ok_bdv (fun d73 e74 => ?_)
              have i75 : RI ad h.1 δ0 d73 := by rw [e74]; exact cs_12_45 L i54
              have u76 := kp_I u55 e74
              have v77 : q_V d73 = q_V δ := ((show q_V d73 = q_V d52 by rw [e74]; rfl)).trans v56
              have v78 := kr_N v57 (show q_R d73 = q_R d52 by rw [e74]; rfl)
              obtain ⟨b79, o80, k81, n82, w83⟩ := gO_12_44 L k_a0
              obtain rfl := gS_12_44 L k_a0 o80
              refine ok_at o80 ?_
              refine ok_gd (fun hc84 => ?_) ?_
              · rcases hc84 with hc84 | hc84
                · have c85 : (0 : Int) < (0 : Int) := o_lt hc84
                  omega
                · omega
              refine ok_bdv (fun d86 e87 => ?_)
              have i88 : RI ad h.1 δ0 d86 := by rw [e87]; exact RI.sR L i75 w83
              have u89 := kp_N u76 (show q_I d86 = q_I d73 by rw [e87]; rfl)
              have v90 : q_V d86 = q_V δ := ((show q_V d86 = q_V d73 by rw [e87]; rfl)).trans v77
              have v91 := kr_s L (by decide) v78 e87
              refine ok_at o80 ?_
              have t92 : (1 : Int32).toNatClampNeg = 1 := rfl
              refine ok_gd (fun hc93 => ?_) ?_
              · rcases hc93 with hc93 | hc93
                · have c94 : (1 : Int) < (0 : Int) := o_lt hc93
                  omega
                · omega
              refine ok_bdv (fun d95 e96 => ?_)
              have i97 : RI ad h.1 δ0 d95 := by rw [e96]; exact RI.sR L i88 w83
              have u98 := kp_N u89 (show q_I d95 = q_I d86 by rw [e96]; rfl)
              have v99 : q_V d95 = q_V δ := ((show q_V d95 = q_V d86 by rw [e96]; rfl)).trans v90
              have v100 := kr_s L (by decide) v91 e96
              unfold J_X12_findTwo_132
              refine ok_biv (fun vx101 e102 => ?_)
              first | (have q103 := te_addc (c := 1) (n := 1) rfl x3v (by omega) (by omega); rw [← e102] at q103; obtain ⟨f104, f105, f106⟩ := q103) | (obtain ⟨q103, f104, f105, f106⟩ : ∃ q : Int, vx101.toInt = x3v.toInt + (1 : Int) + 4294967296 * q ∧ -2147483648 ≤ vx101.toInt ∧ vx101.toInt ≤ 2147483647 := by rw [e102]; exact ti_addc (c := 1) (n := 1) rfl x3v)
              refine ok_mono (ih x2v vx101 d95 i97 (show 0 ≤ (x2v).toInt by first | assumption | omega) (show (x2v).toInt < 327680 by first | assumption | omega) (show 327680 - (x2v).toInt ≤ K7 by first | assumption | omega) (show 0 ≤ (vx101).toInt by first | assumption | omega) (show (vx101).toInt ≤ 327680 by first | assumption | omega) (show 327680 - (vx101).toInt < _ by omega)) (fun r107 hr108 => ?_)
              obtain ⟨i109, ⟨u110, u111, u112⟩⟩ := hr108
              have u113 := kp_t u98 u110
              have v114 : q_V r107 = q_V δ := (u111).trans v99
              have v115 := kr_t v100 u112
              exact ⟨by assumption, ⟨kp_w (by decide) u113, v114, kr_w (by decide) v115⟩⟩
            · have c116 : vx60.toInt ≤ (q_I d52 12 45 a0).toInt := o_nlt h71
              unfold J_X12_findTwo_132
              refine ok_biv (fun vx117 e118 => ?_)
              first | (have q119 := te_addc (c := 1) (n := 1) rfl x3v (by omega) (by omega); rw [← e118] at q119; obtain ⟨f120, f121, f122⟩ := q119) | (obtain ⟨q119, f120, f121, f122⟩ : ∃ q : Int, vx117.toInt = x3v.toInt + (1 : Int) + 4294967296 * q ∧ -2147483648 ≤ vx117.toInt ∧ vx117.toInt ≤ 2147483647 := by rw [e118]; exact ti_addc (c := 1) (n := 1) rfl x3v)
              refine ok_mono (ih x2v vx117 d52 i54 (show 0 ≤ (x2v).toInt by first | assumption | omega) (show (x2v).toInt < 327680 by first | assumption | omega) (show 327680 - (x2v).toInt ≤ K7 by first | assumption | omega) (show 0 ≤ (vx117).toInt by first | assumption | omega) (show (vx117).toInt ≤ 327680 by first | assumption | omega) (show 327680 - (vx117).toInt < _ by omega)) (fun r123 hr124 => ?_)
              obtain ⟨i125, ⟨u126, u127, u128⟩⟩ := hr124
              have u129 := kp_t u55 u126
              have v130 : q_V r123 = q_V δ := (u127).trans v56
              have v131 := kr_t v57 u128
              exact ⟨by assumption, ⟨kp_w (by decide) u129, v130, kr_w (by decide) v131⟩⟩
          · have c132 : x1.toInt ≠ (1 : Int) := o_ne h58
            refine ok_bind (k_X12_all L hN (a0 := a0) k_a0 i54) (fun r133 hr134 => ?_)
            obtain ⟨i135, p136, p137, p138, p139⟩ := hr134
            try rw [i135]
            have f140 := ti_b r133.1
            have f141 := cb_12_10 i54 k_a0
            have f142 : (q_I d52 12 10 a0).toInt = (q_I d32 12 10 a0).toInt := congrArg Int32.toInt (by rw [e53]; exact rI_o (by decide))
            have f143 := ti_b r133.1
            refine ok_gd (fun hc144 => ?_) ?_
            · have c145 : r133.1.toInt = (0 : Int) := o_eq hc144
              omega
            refine ok_bind (k_X12_all L hN (a0 := a0) k_a0 i54) (fun r146 hr147 => ?_)
            obtain ⟨i148, p149, p150, p151, p152⟩ := hr147
            try rw [i148]
            have f153 := ti_b r146.1
            have f154 := ti_b r146.1
            refine ok_gd (fun hc155 => ?_) ?_
            · have c156 : r146.1.toInt = (0 : Int) := o_eq hc155
              omega
            have f159 := cb_12_36 i54 k_a0
            have f160 : (q_I d52 12 36 a0).toInt = (0 : Int) := congrArg Int32.toInt (show q_I d52 12 36 a0 = (0 : Int32) by rw [e53]; exact rI_s)
            refine ok_bind (k_X12_touch L hN (a0 := a0) (x1 := (x3v / r133.1)) (x2 := (x3v - x3v / r146.1 * r146.1)) (x3 := (q_I d52 12 10 a0)) (x4 := (0 : Int32)) (x5 := (q_I d52 12 36 a0)) k_a0 (show 1 ≤ ((q_I d52 12 10 a0)).toInt by first | assumption | omega) (show ((q_I d52 12 10 a0)).toInt ≤ 16 by first | assumption | omega) (show 0 ≤ (0 : Int) by first | assumption | omega) (show (0 : Int) ≤ ((q_I d52 12 36 a0)).toInt by first | assumption | omega) (show ((q_I d52 12 36 a0)).toInt ≤ (0 : Int) + 2000 by first | assumption | omega) (show ((q_I d52 12 36 a0)).toInt ≤ (q_I d52 12 36 a0).toInt by first | assumption | omega) (show (q_I d52 12 36 a0).toInt ≤ 12000 by first | assumption | omega) (show 1 < ((q_I d52 12 10 a0)).toInt → (q_I d52 12 36 a0).toInt ≤ 10000 by first | assumption | omega) (show 2 < ((q_I d52 12 10 a0)).toInt → (q_I d52 12 36 a0).toInt ≤ 8000 by first | assumption | omega) (show 4 < ((q_I d52 12 10 a0)).toInt → (q_I d52 12 36 a0).toInt ≤ 6000 by first | assumption | omega) (show 8 < ((q_I d52 12 10 a0)).toInt → (q_I d52 12 36 a0).toInt ≤ 4000 by first | assumption | omega) (show ((q_I d52 12 10 a0)).toInt < 20 by first | assumption | omega) i54) (fun r157 hr158 => ?_)
            obtain ⟨i161, ⟨u163, u164, u165⟩, p162⟩ := hr158
            have u166 := kp_t u55 u163
            have v167 : q_V r157.2 = q_V δ := (u164).trans v56
            have v168 := kr_t v57 u165
            have f169 := cb_12_36 i161 k_a0
            have f170 := ti_b r157.1
            unfold J_X12_findTwo_97
            refine ok_biv (fun vx171 e172 => ?_)
            first | (have q173 := te_cadd (c := 1) (n := 1) rfl r157.1 (by omega) (by omega); rw [← e172] at q173; obtain ⟨f174, f175, f176⟩ := q173) | (obtain ⟨q173, f174, f175, f176⟩ : ∃ q : Int, vx171.toInt = (1 : Int) + r157.1.toInt + 4294967296 * q ∧ -2147483648 ≤ vx171.toInt ∧ vx171.toInt ≤ 2147483647 := by rw [e172]; exact ti_cadd (c := 1) (n := 1) rfl r157.1)
            have f177 := ti_b (q_I r157.2 12 45 a0)
            have f178 : (q_I r157.2 12 45 a0).toInt = (q_I d52 12 45 a0).toInt := congrArg Int32.toInt (u163 12 45 a0 (by decide))
            have f179 := ti_b (q_I d52 12 45 a0)
            have f180 : (q_I d52 12 45 a0).toInt = (q_I d32 12 45 a0).toInt := congrArg Int32.toInt (by rw [e53]; exact rI_o (by decide))
            have f181 := ti_b (q_I d32 12 45 a0)
            have f182 : (q_I d32 12 45 a0).toInt = (q_I δ 12 45 a0).toInt := congrArg Int32.toInt (by rw [e33]; rfl)
            have f183 := ti_b (q_I δ 12 45 a0)
            refine ok_ite (fun h184 => ?_) (fun h184 => ?_)
            · have c185 : (q_I r157.2 12 45 a0).toInt < vx171.toInt := o_lt h184
              refine ok_bdv (fun d186 e187 => ?_)
              have i188 : RI ad h.1 δ0 d186 := by rw [e187]; exact cs_12_45 L i161
              have u189 := kp_I u166 e187
              have v190 : q_V d186 = q_V δ := ((show q_V d186 = q_V r157.2 by rw [e187]; rfl)).trans v167
              have v191 := kr_N v168 (show q_R d186 = q_R r157.2 by rw [e187]; rfl)
              obtain ⟨b192, o193, k194, n195, w196⟩ := gO_12_44 L k_a0
              obtain rfl := gS_12_44 L k_a0 o193
              refine ok_at o193 ?_
              refine ok_gd (fun hc197 => ?_) ?_
              · rcases hc197 with hc197 | hc197
                · have c198 : (0 : Int) < (0 : Int) := o_lt hc197
                  omega
                · omega
              refine ok_bdv (fun d199 e200 => ?_)
              have i201 : RI ad h.1 δ0 d199 := by rw [e200]; exact RI.sR L i188 w196
              have u202 := kp_N u189 (show q_I d199 = q_I d186 by rw [e200]; rfl)
              have v203 : q_V d199 = q_V δ := ((show q_V d199 = q_V d186 by rw [e200]; rfl)).trans v190
              have v204 := kr_s L (by decide) v191 e200
              refine ok_at o193 ?_
              have t205 : (1 : Int32).toNatClampNeg = 1 := rfl
              refine ok_gd (fun hc206 => ?_) ?_
              · rcases hc206 with hc206 | hc206
                · have c207 : (1 : Int) < (0 : Int) := o_lt hc206
                  omega
                · omega
              refine ok_bdv (fun d208 e209 => ?_)
              have i210 : RI ad h.1 δ0 d208 := by rw [e209]; exact RI.sR L i201 w196
              have u211 := kp_N u202 (show q_I d208 = q_I d199 by rw [e209]; rfl)
              have v212 : q_V d208 = q_V δ := ((show q_V d208 = q_V d199 by rw [e209]; rfl)).trans v203
              have v213 := kr_s L (by decide) v204 e209
              unfold J_X12_findTwo_132
              refine ok_biv (fun vx214 e215 => ?_)
              first | (have q216 := te_addc (c := 1) (n := 1) rfl x3v (by omega) (by omega); rw [← e215] at q216; obtain ⟨f217, f218, f219⟩ := q216) | (obtain ⟨q216, f217, f218, f219⟩ : ∃ q : Int, vx214.toInt = x3v.toInt + (1 : Int) + 4294967296 * q ∧ -2147483648 ≤ vx214.toInt ∧ vx214.toInt ≤ 2147483647 := by rw [e215]; exact ti_addc (c := 1) (n := 1) rfl x3v)
              refine ok_mono (ih x2v vx214 d208 i210 (show 0 ≤ (x2v).toInt by first | assumption | omega) (show (x2v).toInt < 327680 by first | assumption | omega) (show 327680 - (x2v).toInt ≤ K7 by first | assumption | omega) (show 0 ≤ (vx214).toInt by first | assumption | omega) (show (vx214).toInt ≤ 327680 by first | assumption | omega) (show 327680 - (vx214).toInt < _ by omega)) (fun r220 hr221 => ?_)
              obtain ⟨i222, ⟨u223, u224, u225⟩⟩ := hr221
              have u226 := kp_t u211 u223
              have v227 : q_V r220 = q_V δ := (u224).trans v212
              have v228 := kr_t v213 u225
              exact ⟨by assumption, ⟨kp_w (by decide) u226, v227, kr_w (by decide) v228⟩⟩
            · have c229 : vx171.toInt ≤ (q_I r157.2 12 45 a0).toInt := o_nlt h184
              unfold J_X12_findTwo_132
              refine ok_biv (fun vx230 e231 => ?_)
              first | (have q232 := te_addc (c := 1) (n := 1) rfl x3v (by omega) (by omega); rw [← e231] at q232; obtain ⟨f233, f234, f235⟩ := q232) | (obtain ⟨q232, f233, f234, f235⟩ : ∃ q : Int, vx230.toInt = x3v.toInt + (1 : Int) + 4294967296 * q ∧ -2147483648 ≤ vx230.toInt ∧ vx230.toInt ≤ 2147483647 := by rw [e231]; exact ti_addc (c := 1) (n := 1) rfl x3v)
              refine ok_mono (ih x2v vx230 r157.2 i161 (show 0 ≤ (x2v).toInt by first | assumption | omega) (show (x2v).toInt < 327680 by first | assumption | omega) (show 327680 - (x2v).toInt ≤ K7 by first | assumption | omega) (show 0 ≤ (vx230).toInt by first | assumption | omega) (show (vx230).toInt ≤ 327680 by first | assumption | omega) (show 327680 - (vx230).toInt < _ by omega)) (fun r236 hr237 => ?_)
              obtain ⟨i238, ⟨u239, u240, u241⟩⟩ := hr237
              have u242 := kp_t u166 u239
              have v243 : q_V r236 = q_V δ := (u240).trans v167
              have v244 := kr_t v168 u241
              exact ⟨by assumption, ⟨kp_w (by decide) u242, v243, kr_w (by decide) v244⟩⟩
        · have c245 : x2v.toInt < r38.1.toInt := o_nle h50
          unfold J_X12_findTwo_59
          refine ok_bdv (fun d246 e247 => ?_)
          have i248 : RI ad h.1 δ0 d246 := by rw [e247]; exact cs_12_36 L i34 k_a0 (show 0 ≤ (1 : Int) by omega) (show (1 : Int) ≤ 14000 by omega)
          have u249 := kp_I u35 e247
          have v250 : q_V d246 = q_V δ := ((show q_V d246 = q_V d32 by rw [e247]; rfl)).trans v36
          have v251 := kr_N v37 (show q_R d246 = q_R d32 by rw [e247]; rfl)
          refine ok_ite (fun h252 => ?_) (fun h252 => ?_)
          · have c253 : x1.toInt = (1 : Int) := o_eq h252
            unfold J_X12_findTwo_97
            refine ok_biv (fun vx254 e255 => ?_)
            first | (have q256 := te_cadd (c := 1) (n := 1) rfl (0 : Int32) (by omega) (by omega); rw [← e255] at q256; obtain ⟨f257, f258, f259⟩ := q256) | (obtain ⟨q256, f257, f258, f259⟩ : ∃ q : Int, vx254.toInt = (1 : Int) + (0 : Int) + 4294967296 * q ∧ -2147483648 ≤ vx254.toInt ∧ vx254.toInt ≤ 2147483647 := by rw [e255]; exact ti_cadd (c := 1) (n := 1) rfl (0 : Int32))
            have f260 := ti_b (q_I d246 12 45 a0)
            have f261 : (q_I d246 12 45 a0).toInt = (q_I d32 12 45 a0).toInt := congrArg Int32.toInt (by rw [e247]; exact rI_o (by decide))
            have f262 := ti_b (q_I d32 12 45 a0)
            have f263 : (q_I d32 12 45 a0).toInt = (q_I δ 12 45 a0).toInt := congrArg Int32.toInt (by rw [e33]; rfl)
            have f264 := ti_b (q_I δ 12 45 a0)
            refine ok_ite (fun h265 => ?_) (fun h265 => ?_)
            · have c266 : (q_I d246 12 45 a0).toInt < vx254.toInt := o_lt h265
              refine ok_bdv (fun d267 e268 => ?_)
              have i269 : RI ad h.1 δ0 d267 := by rw [e268]; exact cs_12_45 L i248
              have u270 := kp_I u249 e268
              have v271 : q_V d267 = q_V δ := ((show q_V d267 = q_V d246 by rw [e268]; rfl)).trans v250
              have v272 := kr_N v251 (show q_R d267 = q_R d246 by rw [e268]; rfl)
              obtain ⟨b273, o274, k275, n276, w277⟩ := gO_12_44 L k_a0
              obtain rfl := gS_12_44 L k_a0 o274
              refine ok_at o274 ?_
              refine ok_gd (fun hc278 => ?_) ?_
              · rcases hc278 with hc278 | hc278
                · have c279 : (0 : Int) < (0 : Int) := o_lt hc278
                  omega
                · omega
              refine ok_bdv (fun d280 e281 => ?_)
              have i282 : RI ad h.1 δ0 d280 := by rw [e281]; exact RI.sR L i269 w277
              have u283 := kp_N u270 (show q_I d280 = q_I d267 by rw [e281]; rfl)
              have v284 : q_V d280 = q_V δ := ((show q_V d280 = q_V d267 by rw [e281]; rfl)).trans v271
              have v285 := kr_s L (by decide) v272 e281
              refine ok_at o274 ?_
              have t286 : (1 : Int32).toNatClampNeg = 1 := rfl
              refine ok_gd (fun hc287 => ?_) ?_
              · rcases hc287 with hc287 | hc287
                · have c288 : (1 : Int) < (0 : Int) := o_lt hc287
                  omega
                · omega
              refine ok_bdv (fun d289 e290 => ?_)
              have i291 : RI ad h.1 δ0 d289 := by rw [e290]; exact RI.sR L i282 w277
              have u292 := kp_N u283 (show q_I d289 = q_I d280 by rw [e290]; rfl)
              have v293 : q_V d289 = q_V δ := ((show q_V d289 = q_V d280 by rw [e290]; rfl)).trans v284
              have v294 := kr_s L (by decide) v285 e290
              unfold J_X12_findTwo_132
              refine ok_biv (fun vx295 e296 => ?_)
              first | (have q297 := te_addc (c := 1) (n := 1) rfl x3v (by omega) (by omega); rw [← e296] at q297; obtain ⟨f298, f299, f300⟩ := q297) | (obtain ⟨q297, f298, f299, f300⟩ : ∃ q : Int, vx295.toInt = x3v.toInt + (1 : Int) + 4294967296 * q ∧ -2147483648 ≤ vx295.toInt ∧ vx295.toInt ≤ 2147483647 := by rw [e296]; exact ti_addc (c := 1) (n := 1) rfl x3v)
              refine ok_mono (ih x2v vx295 d289 i291 (show 0 ≤ (x2v).toInt by first | assumption | omega) (show (x2v).toInt < 327680 by first | assumption | omega) (show 327680 - (x2v).toInt ≤ K7 by first | assumption | omega) (show 0 ≤ (vx295).toInt by first | assumption | omega) (show (vx295).toInt ≤ 327680 by first | assumption | omega) (show 327680 - (vx295).toInt < _ by omega)) (fun r301 hr302 => ?_)
              obtain ⟨i303, ⟨u304, u305, u306⟩⟩ := hr302
              have u307 := kp_t u292 u304
              have v308 : q_V r301 = q_V δ := (u305).trans v293
              have v309 := kr_t v294 u306
              exact ⟨by assumption, ⟨kp_w (by decide) u307, v308, kr_w (by decide) v309⟩⟩
            · have c310 : vx254.toInt ≤ (q_I d246 12 45 a0).toInt := o_nlt h265
              unfold J_X12_findTwo_132
              refine ok_biv (fun vx311 e312 => ?_)
              first | (have q313 := te_addc (c := 1) (n := 1) rfl x3v (by omega) (by omega); rw [← e312] at q313; obtain ⟨f314, f315, f316⟩ := q313) | (obtain ⟨q313, f314, f315, f316⟩ : ∃ q : Int, vx311.toInt = x3v.toInt + (1 : Int) + 4294967296 * q ∧ -2147483648 ≤ vx311.toInt ∧ vx311.toInt ≤ 2147483647 := by rw [e312]; exact ti_addc (c := 1) (n := 1) rfl x3v)
              refine ok_mono (ih x2v vx311 d246 i248 (show 0 ≤ (x2v).toInt by first | assumption | omega) (show (x2v).toInt < 327680 by first | assumption | omega) (show 327680 - (x2v).toInt ≤ K7 by first | assumption | omega) (show 0 ≤ (vx311).toInt by first | assumption | omega) (show (vx311).toInt ≤ 327680 by first | assumption | omega) (show 327680 - (vx311).toInt < _ by omega)) (fun r317 hr318 => ?_)
              obtain ⟨i319, ⟨u320, u321, u322⟩⟩ := hr318
              have u323 := kp_t u249 u320
              have v324 : q_V r317 = q_V δ := (u321).trans v250
              have v325 := kr_t v251 u322
              exact ⟨by assumption, ⟨kp_w (by decide) u323, v324, kr_w (by decide) v325⟩⟩
          · have c326 : x1.toInt ≠ (1 : Int) := o_ne h252
            refine ok_bind (k_X12_all L hN (a0 := a0) k_a0 i248) (fun r327 hr328 => ?_)
            obtain ⟨i329, p330, p331, p332, p333⟩ := hr328
            try rw [i329]
            have f334 := ti_b r327.1
            have f335 := cb_12_10 i248 k_a0
            have f336 : (q_I d246 12 10 a0).toInt = (q_I d32 12 10 a0).toInt := congrArg Int32.toInt (by rw [e247]; exact rI_o (by decide))
            have f337 := ti_b r327.1
            refine ok_gd (fun hc338 => ?_) ?_
            · have c339 : r327.1.toInt = (0 : Int) := o_eq hc338
              omega
            refine ok_bind (k_X12_all L hN (a0 := a0) k_a0 i248) (fun r340 hr341 => ?_)
            obtain ⟨i342, p343, p344, p345, p346⟩ := hr341
            try rw [i342]
            have f347 := ti_b r340.1
            have f348 := ti_b r340.1
            refine ok_gd (fun hc349 => ?_) ?_
            · have c350 : r340.1.toInt = (0 : Int) := o_eq hc349
              omega
            have f353 := cb_12_36 i248 k_a0
            have f354 : (q_I d246 12 36 a0).toInt = (1 : Int) := congrArg Int32.toInt (show q_I d246 12 36 a0 = (1 : Int32) by rw [e247]; exact rI_s)
            refine ok_bind (k_X12_touch L hN (a0 := a0) (x1 := (x3v / r327.1)) (x2 := (x3v - x3v / r340.1 * r340.1)) (x3 := (q_I d246 12 10 a0)) (x4 := (0 : Int32)) (x5 := (q_I d246 12 36 a0)) k_a0 (show 1 ≤ ((q_I d246 12 10 a0)).toInt by first | assumption | omega) (show ((q_I d246 12 10 a0)).toInt ≤ 16 by first | assumption | omega) (show 0 ≤ (0 : Int) by first | assumption | omega) (show (0 : Int) ≤ ((q_I d246 12 36 a0)).toInt by first | assumption | omega) (show ((q_I d246 12 36 a0)).toInt ≤ (0 : Int) + 2000 by first | assumption | omega) (show ((q_I d246 12 36 a0)).toInt ≤ (q_I d246 12 36 a0).toInt by first | assumption | omega) (show (q_I d246 12 36 a0).toInt ≤ 12000 by first | assumption | omega) (show 1 < ((q_I d246 12 10 a0)).toInt → (q_I d246 12 36 a0).toInt ≤ 10000 by first | assumption | omega) (show 2 < ((q_I d246 12 10 a0)).toInt → (q_I d246 12 36 a0).toInt ≤ 8000 by first | assumption | omega) (show 4 < ((q_I d246 12 10 a0)).toInt → (q_I d246 12 36 a0).toInt ≤ 6000 by first | assumption | omega) (show 8 < ((q_I d246 12 10 a0)).toInt → (q_I d246 12 36 a0).toInt ≤ 4000 by first | assumption | omega) (show ((q_I d246 12 10 a0)).toInt < 20 by first | assumption | omega) i248) (fun r351 hr352 => ?_)
            obtain ⟨i355, ⟨u357, u358, u359⟩, p356⟩ := hr352
            have u360 := kp_t u249 u357
            have v361 : q_V r351.2 = q_V δ := (u358).trans v250
            have v362 := kr_t v251 u359
            have f363 := cb_12_36 i355 k_a0
            have f364 := ti_b r351.1
            unfold J_X12_findTwo_97
            refine ok_biv (fun vx365 e366 => ?_)
            first | (have q367 := te_cadd (c := 1) (n := 1) rfl r351.1 (by omega) (by omega); rw [← e366] at q367; obtain ⟨f368, f369, f370⟩ := q367) | (obtain ⟨q367, f368, f369, f370⟩ : ∃ q : Int, vx365.toInt = (1 : Int) + r351.1.toInt + 4294967296 * q ∧ -2147483648 ≤ vx365.toInt ∧ vx365.toInt ≤ 2147483647 := by rw [e366]; exact ti_cadd (c := 1) (n := 1) rfl r351.1)
            have f371 := ti_b (q_I r351.2 12 45 a0)
            have f372 : (q_I r351.2 12 45 a0).toInt = (q_I d246 12 45 a0).toInt := congrArg Int32.toInt (u357 12 45 a0 (by decide))
            have f373 := ti_b (q_I d246 12 45 a0)
            have f374 : (q_I d246 12 45 a0).toInt = (q_I d32 12 45 a0).toInt := congrArg Int32.toInt (by rw [e247]; exact rI_o (by decide))
            have f375 := ti_b (q_I d32 12 45 a0)
            have f376 : (q_I d32 12 45 a0).toInt = (q_I δ 12 45 a0).toInt := congrArg Int32.toInt (by rw [e33]; rfl)
            have f377 := ti_b (q_I δ 12 45 a0)
            refine ok_ite (fun h378 => ?_) (fun h378 => ?_)
            · have c379 : (q_I r351.2 12 45 a0).toInt < vx365.toInt := o_lt h378
              refine ok_bdv (fun d380 e381 => ?_)
              have i382 : RI ad h.1 δ0 d380 := by rw [e381]; exact cs_12_45 L i355
              have u383 := kp_I u360 e381
              have v384 : q_V d380 = q_V δ := ((show q_V d380 = q_V r351.2 by rw [e381]; rfl)).trans v361
              have v385 := kr_N v362 (show q_R d380 = q_R r351.2 by rw [e381]; rfl)
              obtain ⟨b386, o387, k388, n389, w390⟩ := gO_12_44 L k_a0
              obtain rfl := gS_12_44 L k_a0 o387
              refine ok_at o387 ?_
              refine ok_gd (fun hc391 => ?_) ?_
              · rcases hc391 with hc391 | hc391
                · have c392 : (0 : Int) < (0 : Int) := o_lt hc391
                  omega
                · omega
              refine ok_bdv (fun d393 e394 => ?_)
              have i395 : RI ad h.1 δ0 d393 := by rw [e394]; exact RI.sR L i382 w390
              have u396 := kp_N u383 (show q_I d393 = q_I d380 by rw [e394]; rfl)
              have v397 : q_V d393 = q_V δ := ((show q_V d393 = q_V d380 by rw [e394]; rfl)).trans v384
              have v398 := kr_s L (by decide) v385 e394
              refine ok_at o387 ?_
              have t399 : (1 : Int32).toNatClampNeg = 1 := rfl
              refine ok_gd (fun hc400 => ?_) ?_
              · rcases hc400 with hc400 | hc400
                · have c401 : (1 : Int) < (0 : Int) := o_lt hc400
                  omega
                · omega
              refine ok_bdv (fun d402 e403 => ?_)
              have i404 : RI ad h.1 δ0 d402 := by rw [e403]; exact RI.sR L i395 w390
              have u405 := kp_N u396 (show q_I d402 = q_I d393 by rw [e403]; rfl)
              have v406 : q_V d402 = q_V δ := ((show q_V d402 = q_V d393 by rw [e403]; rfl)).trans v397
              have v407 := kr_s L (by decide) v398 e403
              unfold J_X12_findTwo_132
              refine ok_biv (fun vx408 e409 => ?_)
              first | (have q410 := te_addc (c := 1) (n := 1) rfl x3v (by omega) (by omega); rw [← e409] at q410; obtain ⟨f411, f412, f413⟩ := q410) | (obtain ⟨q410, f411, f412, f413⟩ : ∃ q : Int, vx408.toInt = x3v.toInt + (1 : Int) + 4294967296 * q ∧ -2147483648 ≤ vx408.toInt ∧ vx408.toInt ≤ 2147483647 := by rw [e409]; exact ti_addc (c := 1) (n := 1) rfl x3v)
              refine ok_mono (ih x2v vx408 d402 i404 (show 0 ≤ (x2v).toInt by first | assumption | omega) (show (x2v).toInt < 327680 by first | assumption | omega) (show 327680 - (x2v).toInt ≤ K7 by first | assumption | omega) (show 0 ≤ (vx408).toInt by first | assumption | omega) (show (vx408).toInt ≤ 327680 by first | assumption | omega) (show 327680 - (vx408).toInt < _ by omega)) (fun r414 hr415 => ?_)
              obtain ⟨i416, ⟨u417, u418, u419⟩⟩ := hr415
              have u420 := kp_t u405 u417
              have v421 : q_V r414 = q_V δ := (u418).trans v406
              have v422 := kr_t v407 u419
              exact ⟨by assumption, ⟨kp_w (by decide) u420, v421, kr_w (by decide) v422⟩⟩
            · have c423 : vx365.toInt ≤ (q_I r351.2 12 45 a0).toInt := o_nlt h378
              unfold J_X12_findTwo_132
              refine ok_biv (fun vx424 e425 => ?_)
              first | (have q426 := te_addc (c := 1) (n := 1) rfl x3v (by omega) (by omega); rw [← e425] at q426; obtain ⟨f427, f428, f429⟩ := q426) | (obtain ⟨q426, f427, f428, f429⟩ : ∃ q : Int, vx424.toInt = x3v.toInt + (1 : Int) + 4294967296 * q ∧ -2147483648 ≤ vx424.toInt ∧ vx424.toInt ≤ 2147483647 := by rw [e425]; exact ti_addc (c := 1) (n := 1) rfl x3v)
              refine ok_mono (ih x2v vx424 r351.2 i355 (show 0 ≤ (x2v).toInt by first | assumption | omega) (show (x2v).toInt < 327680 by first | assumption | omega) (show 327680 - (x2v).toInt ≤ K7 by first | assumption | omega) (show 0 ≤ (vx424).toInt by first | assumption | omega) (show (vx424).toInt ≤ 327680 by first | assumption | omega) (show 327680 - (vx424).toInt < _ by omega)) (fun r430 hr431 => ?_)
              obtain ⟨i432, ⟨u433, u434, u435⟩⟩ := hr431
              have u436 := kp_t u360 u433
              have v437 : q_V r430 = q_V δ := (u434).trans v361
              have v438 := kr_t v362 u435
              exact ⟨by assumption, ⟨kp_w (by decide) u436, v437, kr_w (by decide) v438⟩⟩
    · have c439 : x1.toInt ≠ (1 : Int) := o_ne h4
      refine ok_bind (k_X12_all L hN (a0 := a0) k_a0 I) (fun r440 hr441 => ?_)
      obtain ⟨i442, p443, p444, p445, p446⟩ := hr441
      try rw [i442]
      have f447 := ti_b r440.1
      have f448 := cb_12_10 I k_a0
      have f449 := ti_b r440.1
      unfold J_X12_findTwo_35
      first | (have q451 := te_mulc (c := 5) (n := 5) rfl r440.1 (by omega) (by omega); obtain ⟨f452, f453, f454⟩ := q451) | (obtain ⟨q451, f452, f453, f454⟩ := ti_mulc (c := 5) (n := 5) rfl r440.1)
      refine ok_ite (fun h455 => ?_) (fun h455 => ?_)
      · have c456 : ((5 : Int32) * r440.1).toInt ≤ x3v.toInt := o_le h455
        refine ok_biv (fun vx457 e458 => ?_)
        first | (have q459 := te_addc (c := 1) (n := 1) rfl x2v (by omega) (by omega); rw [← e458] at q459; obtain ⟨f460, f461, f462⟩ := q459) | (obtain ⟨q459, f460, f461, f462⟩ : ∃ q : Int, vx457.toInt = x2v.toInt + (1 : Int) + 4294967296 * q ∧ -2147483648 ≤ vx457.toInt ∧ vx457.toInt ≤ 2147483647 := by rw [e458]; exact ti_addc (c := 1) (n := 1) rfl x2v)
        refine ok_mono (h_kt7 vx457 δ I (show 0 ≤ (vx457).toInt by first | assumption | omega) (show (vx457).toInt ≤ 327680 by first | assumption | omega) (show 327680 - (vx457).toInt < _ by omega)) (fun r463 hr464 => ?_)
        obtain ⟨i465, ⟨u466, u467, u468⟩⟩ := hr464
        have u469 := kp_t kp_r u466
        have v470 : q_V r463 = q_V δ := (u467).trans rfl
        have v471 := kr_t kr_r u468
        exact ⟨by assumption, ⟨kp_w (by decide) u469, v470, kr_w (by decide) v471⟩⟩
      · have c472 : x3v.toInt < ((5 : Int32) * r440.1).toInt := o_nle h455
        obtain ⟨b473, o474, k475, n476, w477⟩ := gO_12_35 L k_a0
        obtain rfl := gS_12_35 L k_a0 o474
        refine ok_at o474 ?_
        have t478 : (0 : Int32).toNatClampNeg = 0 := rfl
        refine ok_gd (fun hc479 => ?_) ?_
        · rcases hc479 with hc479 | hc479
          · have c480 : (0 : Int) < (0 : Int) := o_lt hc479
            omega
          · omega
        refine ok_bdv (fun d481 e482 => ?_)
        have i483 : RI ad h.1 δ0 d481 := by rw [e482]; exact RI.sR L I w477
        have u484 := kp_N kp_r (show q_I d481 = q_I δ by rw [e482]; rfl)
        have v485 : q_V d481 = q_V δ := ((show q_V d481 = q_V δ by rw [e482]; rfl)).trans rfl
        have v486 := kr_s L (by decide) kr_r e482
        refine ok_bind (k_X12_all L hN (a0 := a0) k_a0 i483) (fun r487 hr488 => ?_)
        obtain ⟨i489, p490, p491, p492, p493⟩ := hr488
        try rw [i489]
        have f494 := ti_b r487.1
        have f495 := cb_12_10 i483 k_a0
        have f496 : (q_I d481 12 10 a0).toInt = (q_I δ 12 10 a0).toInt := congrArg Int32.toInt (by rw [e482]; rfl)
        have f497 := ti_b r487.1
        refine ok_ite (fun h498 => ?_) (fun h498 => ?_)
        · have c499 : r487.1.toInt ≤ x2v.toInt := o_le h498
          unfold J_X12_findTwo_59
          refine ok_bdv (fun d500 e501 => ?_)
          have i502 : RI ad h.1 δ0 d500 := by rw [e501]; exact cs_12_36 L i483 k_a0 (show 0 ≤ (0 : Int) by omega) (show (0 : Int) ≤ 14000 by omega)
          have u503 := kp_I u484 e501
          have v504 : q_V d500 = q_V δ := ((show q_V d500 = q_V d481 by rw [e501]; rfl)).trans v485
          have v505 := kr_N v486 (show q_R d500 = q_R d481 by rw [e501]; rfl)
          refine ok_ite (fun h506 => ?_) (fun h506 => ?_)
          · have c507 : x1.toInt = (1 : Int) := o_eq h506
            unfold J_X12_findTwo_97
            refine ok_biv (fun vx508 e509 => ?_)
            first | (have q510 := te_cadd (c := 1) (n := 1) rfl (0 : Int32) (by omega) (by omega); rw [← e509] at q510; obtain ⟨f511, f512, f513⟩ := q510) | (obtain ⟨q510, f511, f512, f513⟩ : ∃ q : Int, vx508.toInt = (1 : Int) + (0 : Int) + 4294967296 * q ∧ -2147483648 ≤ vx508.toInt ∧ vx508.toInt ≤ 2147483647 := by rw [e509]; exact ti_cadd (c := 1) (n := 1) rfl (0 : Int32))
            have f514 := ti_b (q_I d500 12 45 a0)
            have f515 : (q_I d500 12 45 a0).toInt = (q_I d481 12 45 a0).toInt := congrArg Int32.toInt (by rw [e501]; exact rI_o (by decide))
            have f516 := ti_b (q_I d481 12 45 a0)
            have f517 : (q_I d481 12 45 a0).toInt = (q_I δ 12 45 a0).toInt := congrArg Int32.toInt (by rw [e482]; rfl)
            have f518 := ti_b (q_I δ 12 45 a0)
            refine ok_ite (fun h519 => ?_) (fun h519 => ?_)
            · have c520 : (q_I d500 12 45 a0).toInt < vx508.toInt := o_lt h519
              refine ok_bdv (fun d521 e522 => ?_)
              have i523 : RI ad h.1 δ0 d521 := by rw [e522]; exact cs_12_45 L i502
              have u524 := kp_I u503 e522
              have v525 : q_V d521 = q_V δ := ((show q_V d521 = q_V d500 by rw [e522]; rfl)).trans v504
              have v526 := kr_N v505 (show q_R d521 = q_R d500 by rw [e522]; rfl)
              obtain ⟨b527, o528, k529, n530, w531⟩ := gO_12_44 L k_a0
              obtain rfl := gS_12_44 L k_a0 o528
              refine ok_at o528 ?_
              refine ok_gd (fun hc532 => ?_) ?_
              · rcases hc532 with hc532 | hc532
                · have c533 : (0 : Int) < (0 : Int) := o_lt hc532
                  omega
                · omega
              refine ok_bdv (fun d534 e535 => ?_)
              have i536 : RI ad h.1 δ0 d534 := by rw [e535]; exact RI.sR L i523 w531
              have u537 := kp_N u524 (show q_I d534 = q_I d521 by rw [e535]; rfl)
              have v538 : q_V d534 = q_V δ := ((show q_V d534 = q_V d521 by rw [e535]; rfl)).trans v525
              have v539 := kr_s L (by decide) v526 e535
              refine ok_at o528 ?_
              have t540 : (1 : Int32).toNatClampNeg = 1 := rfl
              refine ok_gd (fun hc541 => ?_) ?_
              · rcases hc541 with hc541 | hc541
                · have c542 : (1 : Int) < (0 : Int) := o_lt hc541
                  omega
                · omega
              refine ok_bdv (fun d543 e544 => ?_)
              have i545 : RI ad h.1 δ0 d543 := by rw [e544]; exact RI.sR L i536 w531
              have u546 := kp_N u537 (show q_I d543 = q_I d534 by rw [e544]; rfl)
              have v547 : q_V d543 = q_V δ := ((show q_V d543 = q_V d534 by rw [e544]; rfl)).trans v538
              have v548 := kr_s L (by decide) v539 e544
              unfold J_X12_findTwo_132
              refine ok_biv (fun vx549 e550 => ?_)
              first | (have q551 := te_addc (c := 1) (n := 1) rfl x3v (by omega) (by omega); rw [← e550] at q551; obtain ⟨f552, f553, f554⟩ := q551) | (obtain ⟨q551, f552, f553, f554⟩ : ∃ q : Int, vx549.toInt = x3v.toInt + (1 : Int) + 4294967296 * q ∧ -2147483648 ≤ vx549.toInt ∧ vx549.toInt ≤ 2147483647 := by rw [e550]; exact ti_addc (c := 1) (n := 1) rfl x3v)
              refine ok_mono (ih x2v vx549 d543 i545 (show 0 ≤ (x2v).toInt by first | assumption | omega) (show (x2v).toInt < 327680 by first | assumption | omega) (show 327680 - (x2v).toInt ≤ K7 by first | assumption | omega) (show 0 ≤ (vx549).toInt by first | assumption | omega) (show (vx549).toInt ≤ 327680 by first | assumption | omega) (show 327680 - (vx549).toInt < _ by omega)) (fun r555 hr556 => ?_)
              obtain ⟨i557, ⟨u558, u559, u560⟩⟩ := hr556
              have u561 := kp_t u546 u558
              have v562 : q_V r555 = q_V δ := (u559).trans v547
              have v563 := kr_t v548 u560
              exact ⟨by assumption, ⟨kp_w (by decide) u561, v562, kr_w (by decide) v563⟩⟩
            · have c564 : vx508.toInt ≤ (q_I d500 12 45 a0).toInt := o_nlt h519
              unfold J_X12_findTwo_132
              refine ok_biv (fun vx565 e566 => ?_)
              first | (have q567 := te_addc (c := 1) (n := 1) rfl x3v (by omega) (by omega); rw [← e566] at q567; obtain ⟨f568, f569, f570⟩ := q567) | (obtain ⟨q567, f568, f569, f570⟩ : ∃ q : Int, vx565.toInt = x3v.toInt + (1 : Int) + 4294967296 * q ∧ -2147483648 ≤ vx565.toInt ∧ vx565.toInt ≤ 2147483647 := by rw [e566]; exact ti_addc (c := 1) (n := 1) rfl x3v)
              refine ok_mono (ih x2v vx565 d500 i502 (show 0 ≤ (x2v).toInt by first | assumption | omega) (show (x2v).toInt < 327680 by first | assumption | omega) (show 327680 - (x2v).toInt ≤ K7 by first | assumption | omega) (show 0 ≤ (vx565).toInt by first | assumption | omega) (show (vx565).toInt ≤ 327680 by first | assumption | omega) (show 327680 - (vx565).toInt < _ by omega)) (fun r571 hr572 => ?_)
              obtain ⟨i573, ⟨u574, u575, u576⟩⟩ := hr572
              have u577 := kp_t u503 u574
              have v578 : q_V r571 = q_V δ := (u575).trans v504
              have v579 := kr_t v505 u576
              exact ⟨by assumption, ⟨kp_w (by decide) u577, v578, kr_w (by decide) v579⟩⟩
          · have c580 : x1.toInt ≠ (1 : Int) := o_ne h506
            refine ok_bind (k_X12_all L hN (a0 := a0) k_a0 i502) (fun r581 hr582 => ?_)
            obtain ⟨i583, p584, p585, p586, p587⟩ := hr582
            try rw [i583]
            have f588 := ti_b r581.1
            have f589 := cb_12_10 i502 k_a0
            have f590 : (q_I d500 12 10 a0).toInt = (q_I d481 12 10 a0).toInt := congrArg Int32.toInt (by rw [e501]; exact rI_o (by decide))
            have f591 := ti_b r581.1
            refine ok_gd (fun hc592 => ?_) ?_
            · have c593 : r581.1.toInt = (0 : Int) := o_eq hc592
              omega
            refine ok_bind (k_X12_all L hN (a0 := a0) k_a0 i502) (fun r594 hr595 => ?_)
            obtain ⟨i596, p597, p598, p599, p600⟩ := hr595
            try rw [i596]
            have f601 := ti_b r594.1
            have f602 := ti_b r594.1
            refine ok_gd (fun hc603 => ?_) ?_
            · have c604 : r594.1.toInt = (0 : Int) := o_eq hc603
              omega
            have f607 := cb_12_36 i502 k_a0
            have f608 : (q_I d500 12 36 a0).toInt = (0 : Int) := congrArg Int32.toInt (show q_I d500 12 36 a0 = (0 : Int32) by rw [e501]; exact rI_s)
            refine ok_bind (k_X12_touch L hN (a0 := a0) (x1 := (x3v / r581.1)) (x2 := (x3v - x3v / r594.1 * r594.1)) (x3 := (q_I d500 12 10 a0)) (x4 := (0 : Int32)) (x5 := (q_I d500 12 36 a0)) k_a0 (show 1 ≤ ((q_I d500 12 10 a0)).toInt by first | assumption | omega) (show ((q_I d500 12 10 a0)).toInt ≤ 16 by first | assumption | omega) (show 0 ≤ (0 : Int) by first | assumption | omega) (show (0 : Int) ≤ ((q_I d500 12 36 a0)).toInt by first | assumption | omega) (show ((q_I d500 12 36 a0)).toInt ≤ (0 : Int) + 2000 by first | assumption | omega) (show ((q_I d500 12 36 a0)).toInt ≤ (q_I d500 12 36 a0).toInt by first | assumption | omega) (show (q_I d500 12 36 a0).toInt ≤ 12000 by first | assumption | omega) (show 1 < ((q_I d500 12 10 a0)).toInt → (q_I d500 12 36 a0).toInt ≤ 10000 by first | assumption | omega) (show 2 < ((q_I d500 12 10 a0)).toInt → (q_I d500 12 36 a0).toInt ≤ 8000 by first | assumption | omega) (show 4 < ((q_I d500 12 10 a0)).toInt → (q_I d500 12 36 a0).toInt ≤ 6000 by first | assumption | omega) (show 8 < ((q_I d500 12 10 a0)).toInt → (q_I d500 12 36 a0).toInt ≤ 4000 by first | assumption | omega) (show ((q_I d500 12 10 a0)).toInt < 20 by first | assumption | omega) i502) (fun r605 hr606 => ?_)
            obtain ⟨i609, ⟨u611, u612, u613⟩, p610⟩ := hr606
            have u614 := kp_t u503 u611
            have v615 : q_V r605.2 = q_V δ := (u612).trans v504
            have v616 := kr_t v505 u613
            have f617 := cb_12_36 i609 k_a0
            have f618 := ti_b r605.1
            unfold J_X12_findTwo_97
            refine ok_biv (fun vx619 e620 => ?_)
            first | (have q621 := te_cadd (c := 1) (n := 1) rfl r605.1 (by omega) (by omega); rw [← e620] at q621; obtain ⟨f622, f623, f624⟩ := q621) | (obtain ⟨q621, f622, f623, f624⟩ : ∃ q : Int, vx619.toInt = (1 : Int) + r605.1.toInt + 4294967296 * q ∧ -2147483648 ≤ vx619.toInt ∧ vx619.toInt ≤ 2147483647 := by rw [e620]; exact ti_cadd (c := 1) (n := 1) rfl r605.1)
            have f625 := ti_b (q_I r605.2 12 45 a0)
            have f626 : (q_I r605.2 12 45 a0).toInt = (q_I d500 12 45 a0).toInt := congrArg Int32.toInt (u611 12 45 a0 (by decide))
            have f627 := ti_b (q_I d500 12 45 a0)
            have f628 : (q_I d500 12 45 a0).toInt = (q_I d481 12 45 a0).toInt := congrArg Int32.toInt (by rw [e501]; exact rI_o (by decide))
            have f629 := ti_b (q_I d481 12 45 a0)
            have f630 : (q_I d481 12 45 a0).toInt = (q_I δ 12 45 a0).toInt := congrArg Int32.toInt (by rw [e482]; rfl)
            have f631 := ti_b (q_I δ 12 45 a0)
            refine ok_ite (fun h632 => ?_) (fun h632 => ?_)
            · have c633 : (q_I r605.2 12 45 a0).toInt < vx619.toInt := o_lt h632
              refine ok_bdv (fun d634 e635 => ?_)
              have i636 : RI ad h.1 δ0 d634 := by rw [e635]; exact cs_12_45 L i609
              have u637 := kp_I u614 e635
              have v638 : q_V d634 = q_V δ := ((show q_V d634 = q_V r605.2 by rw [e635]; rfl)).trans v615
              have v639 := kr_N v616 (show q_R d634 = q_R r605.2 by rw [e635]; rfl)
              obtain ⟨b640, o641, k642, n643, w644⟩ := gO_12_44 L k_a0
              obtain rfl := gS_12_44 L k_a0 o641
              refine ok_at o641 ?_
              refine ok_gd (fun hc645 => ?_) ?_
              · rcases hc645 with hc645 | hc645
                · have c646 : (0 : Int) < (0 : Int) := o_lt hc645
                  omega
                · omega
              refine ok_bdv (fun d647 e648 => ?_)
              have i649 : RI ad h.1 δ0 d647 := by rw [e648]; exact RI.sR L i636 w644
              have u650 := kp_N u637 (show q_I d647 = q_I d634 by rw [e648]; rfl)
              have v651 : q_V d647 = q_V δ := ((show q_V d647 = q_V d634 by rw [e648]; rfl)).trans v638
              have v652 := kr_s L (by decide) v639 e648
              refine ok_at o641 ?_
              have t653 : (1 : Int32).toNatClampNeg = 1 := rfl
              refine ok_gd (fun hc654 => ?_) ?_
              · rcases hc654 with hc654 | hc654
                · have c655 : (1 : Int) < (0 : Int) := o_lt hc654
                  omega
                · omega
              refine ok_bdv (fun d656 e657 => ?_)
              have i658 : RI ad h.1 δ0 d656 := by rw [e657]; exact RI.sR L i649 w644
              have u659 := kp_N u650 (show q_I d656 = q_I d647 by rw [e657]; rfl)
              have v660 : q_V d656 = q_V δ := ((show q_V d656 = q_V d647 by rw [e657]; rfl)).trans v651
              have v661 := kr_s L (by decide) v652 e657
              unfold J_X12_findTwo_132
              refine ok_biv (fun vx662 e663 => ?_)
              first | (have q664 := te_addc (c := 1) (n := 1) rfl x3v (by omega) (by omega); rw [← e663] at q664; obtain ⟨f665, f666, f667⟩ := q664) | (obtain ⟨q664, f665, f666, f667⟩ : ∃ q : Int, vx662.toInt = x3v.toInt + (1 : Int) + 4294967296 * q ∧ -2147483648 ≤ vx662.toInt ∧ vx662.toInt ≤ 2147483647 := by rw [e663]; exact ti_addc (c := 1) (n := 1) rfl x3v)
              refine ok_mono (ih x2v vx662 d656 i658 (show 0 ≤ (x2v).toInt by first | assumption | omega) (show (x2v).toInt < 327680 by first | assumption | omega) (show 327680 - (x2v).toInt ≤ K7 by first | assumption | omega) (show 0 ≤ (vx662).toInt by first | assumption | omega) (show (vx662).toInt ≤ 327680 by first | assumption | omega) (show 327680 - (vx662).toInt < _ by omega)) (fun r668 hr669 => ?_)
              obtain ⟨i670, ⟨u671, u672, u673⟩⟩ := hr669
              have u674 := kp_t u659 u671
              have v675 : q_V r668 = q_V δ := (u672).trans v660
              have v676 := kr_t v661 u673
              exact ⟨by assumption, ⟨kp_w (by decide) u674, v675, kr_w (by decide) v676⟩⟩
            · have c677 : vx619.toInt ≤ (q_I r605.2 12 45 a0).toInt := o_nlt h632
              unfold J_X12_findTwo_132
              refine ok_biv (fun vx678 e679 => ?_)
              first | (have q680 := te_addc (c := 1) (n := 1) rfl x3v (by omega) (by omega); rw [← e679] at q680; obtain ⟨f681, f682, f683⟩ := q680) | (obtain ⟨q680, f681, f682, f683⟩ : ∃ q : Int, vx678.toInt = x3v.toInt + (1 : Int) + 4294967296 * q ∧ -2147483648 ≤ vx678.toInt ∧ vx678.toInt ≤ 2147483647 := by rw [e679]; exact ti_addc (c := 1) (n := 1) rfl x3v)
              refine ok_mono (ih x2v vx678 r605.2 i609 (show 0 ≤ (x2v).toInt by first | assumption | omega) (show (x2v).toInt < 327680 by first | assumption | omega) (show 327680 - (x2v).toInt ≤ K7 by first | assumption | omega) (show 0 ≤ (vx678).toInt by first | assumption | omega) (show (vx678).toInt ≤ 327680 by first | assumption | omega) (show 327680 - (vx678).toInt < _ by omega)) (fun r684 hr685 => ?_)
              obtain ⟨i686, ⟨u687, u688, u689⟩⟩ := hr685
              have u690 := kp_t u614 u687
              have v691 : q_V r684 = q_V δ := (u688).trans v615
              have v692 := kr_t v616 u689
              exact ⟨by assumption, ⟨kp_w (by decide) u690, v691, kr_w (by decide) v692⟩⟩
        · have c693 : x2v.toInt < r487.1.toInt := o_nle h498
          unfold J_X12_findTwo_59
          refine ok_bdv (fun d694 e695 => ?_)
          have i696 : RI ad h.1 δ0 d694 := by rw [e695]; exact cs_12_36 L i483 k_a0 (show 0 ≤ (1 : Int) by omega) (show (1 : Int) ≤ 14000 by omega)
          have u697 := kp_I u484 e695
          have v698 : q_V d694 = q_V δ := ((show q_V d694 = q_V d481 by rw [e695]; rfl)).trans v485
          have v699 := kr_N v486 (show q_R d694 = q_R d481 by rw [e695]; rfl)
          refine ok_ite (fun h700 => ?_) (fun h700 => ?_)
          · have c701 : x1.toInt = (1 : Int) := o_eq h700
            unfold J_X12_findTwo_97
            refine ok_biv (fun vx702 e703 => ?_)
            first | (have q704 := te_cadd (c := 1) (n := 1) rfl (0 : Int32) (by omega) (by omega); rw [← e703] at q704; obtain ⟨f705, f706, f707⟩ := q704) | (obtain ⟨q704, f705, f706, f707⟩ : ∃ q : Int, vx702.toInt = (1 : Int) + (0 : Int) + 4294967296 * q ∧ -2147483648 ≤ vx702.toInt ∧ vx702.toInt ≤ 2147483647 := by rw [e703]; exact ti_cadd (c := 1) (n := 1) rfl (0 : Int32))
            have f708 := ti_b (q_I d694 12 45 a0)
            have f709 : (q_I d694 12 45 a0).toInt = (q_I d481 12 45 a0).toInt := congrArg Int32.toInt (by rw [e695]; exact rI_o (by decide))
            have f710 := ti_b (q_I d481 12 45 a0)
            have f711 : (q_I d481 12 45 a0).toInt = (q_I δ 12 45 a0).toInt := congrArg Int32.toInt (by rw [e482]; rfl)
            have f712 := ti_b (q_I δ 12 45 a0)
            refine ok_ite (fun h713 => ?_) (fun h713 => ?_)
            · have c714 : (q_I d694 12 45 a0).toInt < vx702.toInt := o_lt h713
              refine ok_bdv (fun d715 e716 => ?_)
              have i717 : RI ad h.1 δ0 d715 := by rw [e716]; exact cs_12_45 L i696
              have u718 := kp_I u697 e716
              have v719 : q_V d715 = q_V δ := ((show q_V d715 = q_V d694 by rw [e716]; rfl)).trans v698
              have v720 := kr_N v699 (show q_R d715 = q_R d694 by rw [e716]; rfl)
              obtain ⟨b721, o722, k723, n724, w725⟩ := gO_12_44 L k_a0
              obtain rfl := gS_12_44 L k_a0 o722
              refine ok_at o722 ?_
              refine ok_gd (fun hc726 => ?_) ?_
              · rcases hc726 with hc726 | hc726
                · have c727 : (0 : Int) < (0 : Int) := o_lt hc726
                  omega
                · omega
              refine ok_bdv (fun d728 e729 => ?_)
              have i730 : RI ad h.1 δ0 d728 := by rw [e729]; exact RI.sR L i717 w725
              have u731 := kp_N u718 (show q_I d728 = q_I d715 by rw [e729]; rfl)
              have v732 : q_V d728 = q_V δ := ((show q_V d728 = q_V d715 by rw [e729]; rfl)).trans v719
              have v733 := kr_s L (by decide) v720 e729
              refine ok_at o722 ?_
              have t734 : (1 : Int32).toNatClampNeg = 1 := rfl
              refine ok_gd (fun hc735 => ?_) ?_
              · rcases hc735 with hc735 | hc735
                · have c736 : (1 : Int) < (0 : Int) := o_lt hc735
                  omega
                · omega
              refine ok_bdv (fun d737 e738 => ?_)
              have i739 : RI ad h.1 δ0 d737 := by rw [e738]; exact RI.sR L i730 w725
              have u740 := kp_N u731 (show q_I d737 = q_I d728 by rw [e738]; rfl)
              have v741 : q_V d737 = q_V δ := ((show q_V d737 = q_V d728 by rw [e738]; rfl)).trans v732
              have v742 := kr_s L (by decide) v733 e738
              unfold J_X12_findTwo_132
              refine ok_biv (fun vx743 e744 => ?_)
              first | (have q745 := te_addc (c := 1) (n := 1) rfl x3v (by omega) (by omega); rw [← e744] at q745; obtain ⟨f746, f747, f748⟩ := q745) | (obtain ⟨q745, f746, f747, f748⟩ : ∃ q : Int, vx743.toInt = x3v.toInt + (1 : Int) + 4294967296 * q ∧ -2147483648 ≤ vx743.toInt ∧ vx743.toInt ≤ 2147483647 := by rw [e744]; exact ti_addc (c := 1) (n := 1) rfl x3v)
              refine ok_mono (ih x2v vx743 d737 i739 (show 0 ≤ (x2v).toInt by first | assumption | omega) (show (x2v).toInt < 327680 by first | assumption | omega) (show 327680 - (x2v).toInt ≤ K7 by first | assumption | omega) (show 0 ≤ (vx743).toInt by first | assumption | omega) (show (vx743).toInt ≤ 327680 by first | assumption | omega) (show 327680 - (vx743).toInt < _ by omega)) (fun r749 hr750 => ?_)
              obtain ⟨i751, ⟨u752, u753, u754⟩⟩ := hr750
              have u755 := kp_t u740 u752
              have v756 : q_V r749 = q_V δ := (u753).trans v741
              have v757 := kr_t v742 u754
              exact ⟨by assumption, ⟨kp_w (by decide) u755, v756, kr_w (by decide) v757⟩⟩
            · have c758 : vx702.toInt ≤ (q_I d694 12 45 a0).toInt := o_nlt h713
              unfold J_X12_findTwo_132
              refine ok_biv (fun vx759 e760 => ?_)
              first | (have q761 := te_addc (c := 1) (n := 1) rfl x3v (by omega) (by omega); rw [← e760] at q761; obtain ⟨f762, f763, f764⟩ := q761) | (obtain ⟨q761, f762, f763, f764⟩ : ∃ q : Int, vx759.toInt = x3v.toInt + (1 : Int) + 4294967296 * q ∧ -2147483648 ≤ vx759.toInt ∧ vx759.toInt ≤ 2147483647 := by rw [e760]; exact ti_addc (c := 1) (n := 1) rfl x3v)
              refine ok_mono (ih x2v vx759 d694 i696 (show 0 ≤ (x2v).toInt by first | assumption | omega) (show (x2v).toInt < 327680 by first | assumption | omega) (show 327680 - (x2v).toInt ≤ K7 by first | assumption | omega) (show 0 ≤ (vx759).toInt by first | assumption | omega) (show (vx759).toInt ≤ 327680 by first | assumption | omega) (show 327680 - (vx759).toInt < _ by omega)) (fun r765 hr766 => ?_)
              obtain ⟨i767, ⟨u768, u769, u770⟩⟩ := hr766
              have u771 := kp_t u697 u768
              have v772 : q_V r765 = q_V δ := (u769).trans v698
              have v773 := kr_t v699 u770
              exact ⟨by assumption, ⟨kp_w (by decide) u771, v772, kr_w (by decide) v773⟩⟩
          · have c774 : x1.toInt ≠ (1 : Int) := o_ne h700
            refine ok_bind (k_X12_all L hN (a0 := a0) k_a0 i696) (fun r775 hr776 => ?_)
            obtain ⟨i777, p778, p779, p780, p781⟩ := hr776
            try rw [i777]
            have f782 := ti_b r775.1
            have f783 := cb_12_10 i696 k_a0
            have f784 : (q_I d694 12 10 a0).toInt = (q_I d481 12 10 a0).toInt := congrArg Int32.toInt (by rw [e695]; exact rI_o (by decide))
            have f785 := ti_b r775.1
            refine ok_gd (fun hc786 => ?_) ?_
            · have c787 : r775.1.toInt = (0 : Int) := o_eq hc786
              omega
            refine ok_bind (k_X12_all L hN (a0 := a0) k_a0 i696) (fun r788 hr789 => ?_)
            obtain ⟨i790, p791, p792, p793, p794⟩ := hr789
            try rw [i790]
            have f795 := ti_b r788.1
            have f796 := ti_b r788.1
            refine ok_gd (fun hc797 => ?_) ?_
            · have c798 : r788.1.toInt = (0 : Int) := o_eq hc797
              omega
            have f801 := cb_12_36 i696 k_a0
            have f802 : (q_I d694 12 36 a0).toInt = (1 : Int) := congrArg Int32.toInt (show q_I d694 12 36 a0 = (1 : Int32) by rw [e695]; exact rI_s)
            refine ok_bind (k_X12_touch L hN (a0 := a0) (x1 := (x3v / r775.1)) (x2 := (x3v - x3v / r788.1 * r788.1)) (x3 := (q_I d694 12 10 a0)) (x4 := (0 : Int32)) (x5 := (q_I d694 12 36 a0)) k_a0 (show 1 ≤ ((q_I d694 12 10 a0)).toInt by first | assumption | omega) (show ((q_I d694 12 10 a0)).toInt ≤ 16 by first | assumption | omega) (show 0 ≤ (0 : Int) by first | assumption | omega) (show (0 : Int) ≤ ((q_I d694 12 36 a0)).toInt by first | assumption | omega) (show ((q_I d694 12 36 a0)).toInt ≤ (0 : Int) + 2000 by first | assumption | omega) (show ((q_I d694 12 36 a0)).toInt ≤ (q_I d694 12 36 a0).toInt by first | assumption | omega) (show (q_I d694 12 36 a0).toInt ≤ 12000 by first | assumption | omega) (show 1 < ((q_I d694 12 10 a0)).toInt → (q_I d694 12 36 a0).toInt ≤ 10000 by first | assumption | omega) (show 2 < ((q_I d694 12 10 a0)).toInt → (q_I d694 12 36 a0).toInt ≤ 8000 by first | assumption | omega) (show 4 < ((q_I d694 12 10 a0)).toInt → (q_I d694 12 36 a0).toInt ≤ 6000 by first | assumption | omega) (show 8 < ((q_I d694 12 10 a0)).toInt → (q_I d694 12 36 a0).toInt ≤ 4000 by first | assumption | omega) (show ((q_I d694 12 10 a0)).toInt < 20 by first | assumption | omega) i696) (fun r799 hr800 => ?_)
            obtain ⟨i803, ⟨u805, u806, u807⟩, p804⟩ := hr800
            have u808 := kp_t u697 u805
            have v809 : q_V r799.2 = q_V δ := (u806).trans v698
            have v810 := kr_t v699 u807
            have f811 := cb_12_36 i803 k_a0
            have f812 := ti_b r799.1
            unfold J_X12_findTwo_97
            refine ok_biv (fun vx813 e814 => ?_)
            first | (have q815 := te_cadd (c := 1) (n := 1) rfl r799.1 (by omega) (by omega); rw [← e814] at q815; obtain ⟨f816, f817, f818⟩ := q815) | (obtain ⟨q815, f816, f817, f818⟩ : ∃ q : Int, vx813.toInt = (1 : Int) + r799.1.toInt + 4294967296 * q ∧ -2147483648 ≤ vx813.toInt ∧ vx813.toInt ≤ 2147483647 := by rw [e814]; exact ti_cadd (c := 1) (n := 1) rfl r799.1)
            have f819 := ti_b (q_I r799.2 12 45 a0)
            have f820 : (q_I r799.2 12 45 a0).toInt = (q_I d694 12 45 a0).toInt := congrArg Int32.toInt (u805 12 45 a0 (by decide))
            have f821 := ti_b (q_I d694 12 45 a0)
            have f822 : (q_I d694 12 45 a0).toInt = (q_I d481 12 45 a0).toInt := congrArg Int32.toInt (by rw [e695]; exact rI_o (by decide))
            have f823 := ti_b (q_I d481 12 45 a0)
            have f824 : (q_I d481 12 45 a0).toInt = (q_I δ 12 45 a0).toInt := congrArg Int32.toInt (by rw [e482]; rfl)
            have f825 := ti_b (q_I δ 12 45 a0)
            refine ok_ite (fun h826 => ?_) (fun h826 => ?_)
            · have c827 : (q_I r799.2 12 45 a0).toInt < vx813.toInt := o_lt h826
              refine ok_bdv (fun d828 e829 => ?_)
              have i830 : RI ad h.1 δ0 d828 := by rw [e829]; exact cs_12_45 L i803
              have u831 := kp_I u808 e829
              have v832 : q_V d828 = q_V δ := ((show q_V d828 = q_V r799.2 by rw [e829]; rfl)).trans v809
              have v833 := kr_N v810 (show q_R d828 = q_R r799.2 by rw [e829]; rfl)
              obtain ⟨b834, o835, k836, n837, w838⟩ := gO_12_44 L k_a0
              obtain rfl := gS_12_44 L k_a0 o835
              refine ok_at o835 ?_
              refine ok_gd (fun hc839 => ?_) ?_
              · rcases hc839 with hc839 | hc839
                · have c840 : (0 : Int) < (0 : Int) := o_lt hc839
                  omega
                · omega
              refine ok_bdv (fun d841 e842 => ?_)
              have i843 : RI ad h.1 δ0 d841 := by rw [e842]; exact RI.sR L i830 w838
              have u844 := kp_N u831 (show q_I d841 = q_I d828 by rw [e842]; rfl)
              have v845 : q_V d841 = q_V δ := ((show q_V d841 = q_V d828 by rw [e842]; rfl)).trans v832
              have v846 := kr_s L (by decide) v833 e842
              refine ok_at o835 ?_
              have t847 : (1 : Int32).toNatClampNeg = 1 := rfl
              refine ok_gd (fun hc848 => ?_) ?_
              · rcases hc848 with hc848 | hc848
                · have c849 : (1 : Int) < (0 : Int) := o_lt hc848
                  omega
                · omega
              refine ok_bdv (fun d850 e851 => ?_)
              have i852 : RI ad h.1 δ0 d850 := by rw [e851]; exact RI.sR L i843 w838
              have u853 := kp_N u844 (show q_I d850 = q_I d841 by rw [e851]; rfl)
              have v854 : q_V d850 = q_V δ := ((show q_V d850 = q_V d841 by rw [e851]; rfl)).trans v845
              have v855 := kr_s L (by decide) v846 e851
              unfold J_X12_findTwo_132
              refine ok_biv (fun vx856 e857 => ?_)
              first | (have q858 := te_addc (c := 1) (n := 1) rfl x3v (by omega) (by omega); rw [← e857] at q858; obtain ⟨f859, f860, f861⟩ := q858) | (obtain ⟨q858, f859, f860, f861⟩ : ∃ q : Int, vx856.toInt = x3v.toInt + (1 : Int) + 4294967296 * q ∧ -2147483648 ≤ vx856.toInt ∧ vx856.toInt ≤ 2147483647 := by rw [e857]; exact ti_addc (c := 1) (n := 1) rfl x3v)
              refine ok_mono (ih x2v vx856 d850 i852 (show 0 ≤ (x2v).toInt by first | assumption | omega) (show (x2v).toInt < 327680 by first | assumption | omega) (show 327680 - (x2v).toInt ≤ K7 by first | assumption | omega) (show 0 ≤ (vx856).toInt by first | assumption | omega) (show (vx856).toInt ≤ 327680 by first | assumption | omega) (show 327680 - (vx856).toInt < _ by omega)) (fun r862 hr863 => ?_)
              obtain ⟨i864, ⟨u865, u866, u867⟩⟩ := hr863
              have u868 := kp_t u853 u865
              have v869 : q_V r862 = q_V δ := (u866).trans v854
              have v870 := kr_t v855 u867
              exact ⟨by assumption, ⟨kp_w (by decide) u868, v869, kr_w (by decide) v870⟩⟩
            · have c871 : vx813.toInt ≤ (q_I r799.2 12 45 a0).toInt := o_nlt h826
              unfold J_X12_findTwo_132
              refine ok_biv (fun vx872 e873 => ?_)
              first | (have q874 := te_addc (c := 1) (n := 1) rfl x3v (by omega) (by omega); rw [← e873] at q874; obtain ⟨f875, f876, f877⟩ := q874) | (obtain ⟨q874, f875, f876, f877⟩ : ∃ q : Int, vx872.toInt = x3v.toInt + (1 : Int) + 4294967296 * q ∧ -2147483648 ≤ vx872.toInt ∧ vx872.toInt ≤ 2147483647 := by rw [e873]; exact ti_addc (c := 1) (n := 1) rfl x3v)
              refine ok_mono (ih x2v vx872 r799.2 i803 (show 0 ≤ (x2v).toInt by first | assumption | omega) (show (x2v).toInt < 327680 by first | assumption | omega) (show 327680 - (x2v).toInt ≤ K7 by first | assumption | omega) (show 0 ≤ (vx872).toInt by first | assumption | omega) (show (vx872).toInt ≤ 327680 by first | assumption | omega) (show 327680 - (vx872).toInt < _ by omega)) (fun r878 hr879 => ?_)
              obtain ⟨i880, ⟨u881, u882, u883⟩⟩ := hr879
              have u884 := kp_t u808 u881
              have v885 : q_V r878 = q_V δ := (u882).trans v809
              have v886 := kr_t v810 u883
              exact ⟨by assumption, ⟨kp_w (by decide) u884, v885, kr_w (by decide) v886⟩⟩
set_option maxHeartbeats 4000000 in
theorem kl_X12_findTwo_7 {ad : List Nat} {h : hp} (L : Lay TLx ad h) {δ0 : dp} {N : Nat} (hN : 10000000 ≤ N) {a0 : Nat} {x1 : Int32} (k_a0 : q_K h.1 a0 = 12) : ∀ (n : Nat) (x2v : Int32) (δ : dp), RI ad h.1 δ0 δ → 0 ≤ (x2v).toInt → (x2v).toInt ≤ 327680 → 327680 - (x2v).toInt < (n : Int) → ok (L_X12_findTwo_7 N h.1 a0 x1 n x2v δ) (fun r => RI ad h.1 δ0 r ∧ (kp [(12, 36), (12, 45)] δ r ∧ q_V r = q_V δ ∧ kr ad [119, 123] δ r)) := by
  intro n
  induction n with
  | zero =>
    intro x2v δ I j0 j1 hm
    have f1 := ti_b x2v
    exfalso; omega
  | succ n ih =>
    intro x2v δ I j0 j1 hm
    unfold L_X12_findTwo_7
    have f1 := ti_b x2v
    refine ok_bind (k_X12_all L hN (a0 := a0) k_a0 I) (fun r2 hr3 => ?_)
    obtain ⟨i4, p5, p6, p7, p8⟩ := hr3
    try rw [i4]
    have f9 := ti_b r2.1
    have f10 := cb_12_10 I k_a0
    have f11 := ti_b r2.1
    first | (have q13 := te_mulc (c := 5) (n := 5) rfl r2.1 (by omega) (by omega); obtain ⟨f14, f15, f16⟩ := q13) | (obtain ⟨q13, f14, f15, f16⟩ := ti_mulc (c := 5) (n := 5) rfl r2.1)
    refine ok_ite (fun h17 => ?_) (fun h17 => ?_)
    · have c18 : ((5 : Int32) * r2.1).toInt ≤ x2v.toInt := o_le h17
      exact ok_some (show RI ad h.1 δ0 δ ∧ (kp [(12, 36), (12, 45)] δ δ ∧ q_V δ = q_V δ ∧ kr ad [119, 123] δ δ) from ⟨I, ⟨kp_w (by decide) kp_r, rfl, kr_w (by decide) kr_r⟩⟩)
    · have c19 : x2v.toInt < ((5 : Int32) * r2.1).toInt := o_nle h17
      refine ok_mono (kl_X12_findTwo_19 L hN (K7 := (n : Int)) ih k_a0 _ x2v (0 : Int32) δ I (show 0 ≤ (x2v).toInt by first | assumption | omega) (show (x2v).toInt < 327680 by first | assumption | omega) (show 327680 - (x2v).toInt ≤ (n : Int) by first | assumption | omega) (show 0 ≤ (0 : Int) by first | assumption | omega) (show (0 : Int) ≤ 327680 by first | assumption | omega) (show 327680 - (0 : Int) < _ by omega)) (fun r20 hr21 => ?_)
      obtain ⟨i22, ⟨u23, u24, u25⟩⟩ := hr21
      have u26 := kp_t kp_r u23
      have v27 : q_V r20 = q_V δ := (u24).trans rfl
      have v28 := kr_t kr_r u25
      exact ⟨by assumption, ⟨kp_w (by decide) u26, v27, kr_w (by decide) v28⟩⟩
set_option maxHeartbeats 4000000 in
theorem k_X12_findTwo {ad : List Nat} {h : hp} (L : Lay TLx ad h) {δ0 : dp} {N : Nat} (hN : 10000000 ≤ N) {a0 : Nat} {x1 : Int32} (k_a0 : q_K h.1 a0 = 12) {δ : dp} (I : RI ad h.1 δ0 δ) : ok (D_X12_findTwo N h.1 a0 x1 δ) (fun r => RI ad h.1 δ0 r ∧ (kp [(12, 36), (12, 45)] δ r ∧ q_V r = q_V δ ∧ kr ad [119, 123] δ r)) := by
  unfold D_X12_findTwo
  refine ok_bdv (fun d1 e2 => ?_)
  have i3 : RI ad h.1 δ0 d1 := by rw [e2]; exact cs_12_45 L I
  have u4 := kp_I kp_r e2
  have v5 : q_V d1 = q_V δ := ((show q_V d1 = q_V δ by rw [e2]; rfl)).trans rfl
  have v6 := kr_N kr_r (show q_R d1 = q_R δ by rw [e2]; rfl)
  refine ok_mono (kl_X12_findTwo_7 L hN   k_a0 _ (0 : Int32) d1 i3 (show 0 ≤ (0 : Int) by first | assumption | omega) (show (0 : Int) ≤ 327680 by first | assumption | omega) (show 327680 - (0 : Int) < _ by omega)) (fun r7 hr8 => ?_)
  obtain ⟨i9, ⟨u10, u11, u12⟩⟩ := hr8
  have u13 := kp_t u4 u10
  have v14 : q_V r7 = q_V δ := (u11).trans v5
  have v15 := kr_t v6 u12
  exact ⟨by assumption, ⟨kp_w (by decide) u13, v14, kr_w (by decide) v15⟩⟩
set_option maxHeartbeats 4000000 in
theorem kl_X12_room_60 {ad : List Nat} {h : hp} (L : Lay TLx ad h) {δ0 : dp} {N : Nat} (hN : 10000000 ≤ N) {a0 : Nat} {x1 : Int32} {x2 : Int32} (k_a0 : q_K h.1 a0 = 12) : ∀ (n : Nat) (x3v : Int32) (x4v : Int32) (δ : dp), RI ad h.1 δ0 δ → 0 ≤ (x1).toInt → (x1).toInt ≤ 3 → 0 ≤ (x4v).toInt → (x4v).toInt ≤ 1000 → -(x4v).toInt ≤ (q_R δ (Ad ad 103) (x1).toNatClampNeg).toInt → (q_R δ (Ad ad 103) (x1).toNatClampNeg).toInt ≤ (x4v).toInt → 1000 - (x4v).toInt < (n : Int) → ok (L_X12_room_60 N h.1 a0 x1 x2 n x3v x4v δ) (fun r => RI ad h.1 δ0 r.2 ∧ (kp [(12, 0), (12, 36), (12, 47)] δ r.2 ∧ q_V r.2 = q_V δ ∧ kr ad [100, 102, 103, 119, 124] δ r.2)) := by
  intro n
  induction n with
  | zero =>
    intro x3v x4v δ I j0 j1 j2 j3 j4 j5 hm
    have f1 := ti_b x1
    have f2 := ti_b x4v
    have t3 := ti_tn x1
    have f4 := rb_103 L I (x1).toNatClampNeg
    exfalso; omega
  | succ n ih =>
    intro x3v x4v δ I j0 j1 j2 j3 j4 j5 hm
    unfold L_X12_room_60
    have f1 := ti_b x1
    have f2 := ti_b x4v
    have t3 := ti_tn x1
    have f4 := rb_103 L I (x1).toNatClampNeg
    obtain ⟨b5, o6, k7, n8⟩ := gO_12_17 L k_a0
    obtain rfl := gS_12_17 L k_a0 o6
    refine ok_at o6 ?_
    have t9 := ti_tn x1
    refine ok_gd (fun hc10 => ?_) ?_
    · rcases hc10 with hc10 | hc10
      · have c11 : x1.toInt < (0 : Int) := o_lt hc10
        omega
      · omega
    have f12 := rb_106 L I x1.toNatClampNeg
    refine ok_ite (fun h13 => ?_) (fun h13 => ?_)
    · have c14 : (q_R δ (Ad ad 106) x1.toNatClampNeg).toInt ≤ x4v.toInt := o_le h13
      refine ok_bind (k_X12_comesBack L hN (a0 := a0) (x1 := x1) k_a0 (show 0 ≤ (x1).toInt by first | assumption | omega) (show (x1).toInt ≤ 3 by first | assumption | omega) I) (fun r15 hr16 => ?_)
      obtain ⟨i17, ⟨u18, u19, u20⟩⟩ := hr16
      have u21 := kp_t kp_r u18
      have v22 : q_V r15 = q_V δ := (u19).trans rfl
      have v23 := kr_t kr_r u20
      exact ok_some (show RI ad h.1 δ0 r15 ∧ (kp [(12, 0), (12, 36), (12, 47)] δ r15 ∧ q_V r15 = q_V δ ∧ kr ad [100, 102, 103, 119, 124] δ r15) from ⟨i17, ⟨kp_w (by decide) u21, v22, kr_w (by decide) v23⟩⟩)
    · have c24 : x4v.toInt < (q_R δ (Ad ad 106) x1.toNatClampNeg).toInt := o_nle h13
      obtain ⟨b25, o26, k27, n28, w29⟩ := gO_12_16 L k_a0
      obtain rfl := gS_12_16 L k_a0 o26
      refine ok_at o26 ?_
      first | (have q31 := te_mulc (c := 1000) (n := 1000) rfl x1 (by omega) (by omega); obtain ⟨f32, f33, f34⟩ := q31) | (obtain ⟨q31, f32, f33, f34⟩ := ti_mulc (c := 1000) (n := 1000) rfl x1)
      first | (have q36 := te_add ((1000 : Int32) * x1) x4v (by omega) (by omega); obtain ⟨f37, f38, f39⟩ := q36) | (obtain ⟨q36, f37, f38, f39⟩ := ti_add ((1000 : Int32) * x1) x4v)
      have t40 := ti_tn (((1000 : Int32) * x1) + x4v)
      refine ok_gd (fun hc41 => ?_) ?_
      · rcases hc41 with hc41 | hc41
        · have c42 : (((1000 : Int32) * x1) + x4v).toInt < (0 : Int) := o_lt hc41
          omega
        · omega
      have f43 := ti_b (q_R δ (Ad ad 105) (((1000 : Int32) * x1) + x4v).toNatClampNeg)
      refine ok_ite (fun h44 => ?_) (fun h44 => ?_)
      · have c45 : (q_R δ (Ad ad 105) (((1000 : Int32) * x1) + x4v).toNatClampNeg).toInt = (1 : Int) := o_eq h44
        unfold J_X12_room_96
        obtain ⟨b46, o47, k48, n49, w50⟩ := gO_12_15 L k_a0
        obtain rfl := gS_12_15 L k_a0 o47
        refine ok_at o47 ?_
        refine ok_gd (fun hc51 => ?_) ?_
        · rcases hc51 with hc51 | hc51
          · have c52 : (((1000 : Int32) * x1) + x4v).toInt < (0 : Int) := o_lt hc51
            omega
          · omega
        refine ok_bind (k_X12_halves L hN (a0 := a0) (x1 := x1) (x2 := (0 : Int32)) (x3 := (q_R δ (Ad ad 104) (((1000 : Int32) * x1) + x4v).toNatClampNeg)) k_a0 (show 0 ≤ (x1).toInt by first | assumption | omega) (show (x1).toInt ≤ 3 by first | assumption | omega) I) (fun r53 hr54 => ?_)
        obtain ⟨i55, ⟨u56, u57, u58⟩⟩ := hr54
        have u59 := kp_t kp_r u56
        have v60 : q_V r53.2 = q_V δ := (u57).trans rfl
        have v61 := kr_t kr_r u58
        have f62 := ti_b r53.1
        have f65 := ti_b x3v
        refine ok_biv (fun vx63 e64 => ?_)
        first | (have q66 := te_add x3v r53.1 (by omega) (by omega); rw [← e64] at q66; obtain ⟨f67, f68, f69⟩ := q66) | (obtain ⟨q66, f67, f68, f69⟩ : ∃ q : Int, vx63.toInt = x3v.toInt + r53.1.toInt + 4294967296 * q ∧ -2147483648 ≤ vx63.toInt ∧ vx63.toInt ≤ 2147483647 := by rw [e64]; exact ti_add x3v r53.1)
        have f72 : (q_R r53.2 (Ad ad 103) (x1).toNatClampNeg).toInt = (q_R δ (Ad ad 103) (x1).toNatClampNeg).toInt := congrArg Int32.toInt (congrFun (u58 103 (by decide) (by decide) (by decide)) _)
        have f73 := rb_103 L i55 (x1).toNatClampNeg
        refine ok_bind (k_X12_changes L hN (a0 := a0) (x1 := x1) (x2 := x4v) k_a0 (show 0 ≤ (x1).toInt by first | assumption | omega) (show (x1).toInt ≤ 3 by first | assumption | omega) (show 0 ≤ (x4v).toInt by first | assumption | omega) (show (x4v).toInt < 1000 by first | assumption | omega) (show -999 ≤ (q_R r53.2 (Ad ad 103) (x1).toNatClampNeg).toInt by first | assumption | omega) (show (q_R r53.2 (Ad ad 103) (x1).toNatClampNeg).toInt < 2000 by first | assumption | omega) i55) (fun r70 hr71 => ?_)
        obtain ⟨i74, ⟨u77, u78, u79⟩, p75, p76⟩ := hr71
        have u80 := kp_t u59 u77
        have v81 : q_V r70 = q_V δ := (u78).trans v60
        have v82 := kr_t v61 u79
        have f83 := rb_103 L i74 (x1).toNatClampNeg
        refine ok_biv (fun vx84 e85 => ?_)
        first | (have q86 := te_addc (c := 1) (n := 1) rfl x4v (by omega) (by omega); rw [← e85] at q86; obtain ⟨f87, f88, f89⟩ := q86) | (obtain ⟨q86, f87, f88, f89⟩ : ∃ q : Int, vx84.toInt = x4v.toInt + (1 : Int) + 4294967296 * q ∧ -2147483648 ≤ vx84.toInt ∧ vx84.toInt ≤ 2147483647 := by rw [e85]; exact ti_addc (c := 1) (n := 1) rfl x4v)
        refine ok_mono (ih vx63 vx84 r70 i74 (show 0 ≤ (x1).toInt by first | assumption | omega) (show (x1).toInt ≤ 3 by first | assumption | omega) (show 0 ≤ (vx84).toInt by first | assumption | omega) (show (vx84).toInt ≤ 1000 by first | assumption | omega) (show -(vx84).toInt ≤ (q_R r70 (Ad ad 103) (x1).toNatClampNeg).toInt by first | assumption | omega) (show (q_R r70 (Ad ad 103) (x1).toNatClampNeg).toInt ≤ (vx84).toInt by first | assumption | omega) (show 1000 - (vx84).toInt < _ by omega)) (fun r90 hr91 => ?_)
        obtain ⟨i92, ⟨u93, u94, u95⟩⟩ := hr91
        have u96 := kp_t u80 u93
        have v97 : q_V r90.2 = q_V δ := (u94).trans v81
        have v98 := kr_t v82 u95
        have f99 := ti_b r90.1
        exact ⟨by assumption, ⟨kp_w (by decide) u96, v97, kr_w (by decide) v98⟩⟩
      · have c100 : (q_R δ (Ad ad 105) (((1000 : Int32) * x1) + x4v).toNatClampNeg).toInt ≠ (1 : Int) := o_ne h44
        unfold J_X12_room_96
        obtain ⟨b101, o102, k103, n104, w105⟩ := gO_12_15 L k_a0
        obtain rfl := gS_12_15 L k_a0 o102
        refine ok_at o102 ?_
        refine ok_gd (fun hc106 => ?_) ?_
        · rcases hc106 with hc106 | hc106
          · have c107 : (((1000 : Int32) * x1) + x4v).toInt < (0 : Int) := o_lt hc106
            omega
          · omega
        refine ok_bind (k_X12_halves L hN (a0 := a0) (x1 := x1) (x2 := (1 : Int32)) (x3 := (q_R δ (Ad ad 104) (((1000 : Int32) * x1) + x4v).toNatClampNeg)) k_a0 (show 0 ≤ (x1).toInt by first | assumption | omega) (show (x1).toInt ≤ 3 by first | assumption | omega) I) (fun r108 hr109 => ?_)
        obtain ⟨i110, ⟨u111, u112, u113⟩⟩ := hr109
        have u114 := kp_t kp_r u111
        have v115 : q_V r108.2 = q_V δ := (u112).trans rfl
        have v116 := kr_t kr_r u113
        have f117 := ti_b r108.1
        have f120 := ti_b x3v
        refine ok_biv (fun vx118 e119 => ?_)
        first | (have q121 := te_add x3v r108.1 (by omega) (by omega); rw [← e119] at q121; obtain ⟨f122, f123, f124⟩ := q121) | (obtain ⟨q121, f122, f123, f124⟩ : ∃ q : Int, vx118.toInt = x3v.toInt + r108.1.toInt + 4294967296 * q ∧ -2147483648 ≤ vx118.toInt ∧ vx118.toInt ≤ 2147483647 := by rw [e119]; exact ti_add x3v r108.1)
        have f127 : (q_R r108.2 (Ad ad 103) (x1).toNatClampNeg).toInt = (q_R δ (Ad ad 103) (x1).toNatClampNeg).toInt := congrArg Int32.toInt (congrFun (u113 103 (by decide) (by decide) (by decide)) _)
        have f128 := rb_103 L i110 (x1).toNatClampNeg
        refine ok_bind (k_X12_changes L hN (a0 := a0) (x1 := x1) (x2 := x4v) k_a0 (show 0 ≤ (x1).toInt by first | assumption | omega) (show (x1).toInt ≤ 3 by first | assumption | omega) (show 0 ≤ (x4v).toInt by first | assumption | omega) (show (x4v).toInt < 1000 by first | assumption | omega) (show -999 ≤ (q_R r108.2 (Ad ad 103) (x1).toNatClampNeg).toInt by first | assumption | omega) (show (q_R r108.2 (Ad ad 103) (x1).toNatClampNeg).toInt < 2000 by first | assumption | omega) i110) (fun r125 hr126 => ?_)
        obtain ⟨i129, ⟨u132, u133, u134⟩, p130, p131⟩ := hr126
        have u135 := kp_t u114 u132
        have v136 : q_V r125 = q_V δ := (u133).trans v115
        have v137 := kr_t v116 u134
        have f138 := rb_103 L i129 (x1).toNatClampNeg
        refine ok_biv (fun vx139 e140 => ?_)
        first | (have q141 := te_addc (c := 1) (n := 1) rfl x4v (by omega) (by omega); rw [← e140] at q141; obtain ⟨f142, f143, f144⟩ := q141) | (obtain ⟨q141, f142, f143, f144⟩ : ∃ q : Int, vx139.toInt = x4v.toInt + (1 : Int) + 4294967296 * q ∧ -2147483648 ≤ vx139.toInt ∧ vx139.toInt ≤ 2147483647 := by rw [e140]; exact ti_addc (c := 1) (n := 1) rfl x4v)
        refine ok_mono (ih vx118 vx139 r125 i129 (show 0 ≤ (x1).toInt by first | assumption | omega) (show (x1).toInt ≤ 3 by first | assumption | omega) (show 0 ≤ (vx139).toInt by first | assumption | omega) (show (vx139).toInt ≤ 1000 by first | assumption | omega) (show -(vx139).toInt ≤ (q_R r125 (Ad ad 103) (x1).toNatClampNeg).toInt by first | assumption | omega) (show (q_R r125 (Ad ad 103) (x1).toNatClampNeg).toInt ≤ (vx139).toInt by first | assumption | omega) (show 1000 - (vx139).toInt < _ by omega)) (fun r145 hr146 => ?_)
        obtain ⟨i147, ⟨u148, u149, u150⟩⟩ := hr146
        have u151 := kp_t u135 u148
        have v152 : q_V r145.2 = q_V δ := (u149).trans v136
        have v153 := kr_t v137 u150
        have f154 := ti_b r145.1
        exact ⟨by assumption, ⟨kp_w (by decide) u151, v152, kr_w (by decide) v153⟩⟩
set_option maxHeartbeats 4000000 in
theorem k_X12_room {ad : List Nat} {h : hp} (L : Lay TLx ad h) {δ0 : dp} {N : Nat} (hN : 10000000 ≤ N) {a0 : Nat} {x1 : Int32} {x2 : Int32} (k_a0 : q_K h.1 a0 = 12) {δ : dp} (I : RI ad h.1 δ0 δ) : ok (D_X12_room N h.1 a0 x1 x2 δ) (fun r => RI ad h.1 δ0 r.2 ∧ (kp [(12, 0), (12, 36), (12, 47)] δ r.2 ∧ q_V r.2 = q_V δ ∧ kr ad [100, 102, 103, 119, 124] δ r.2)) := by
  unfold D_X12_room
  refine ok_bdv (fun d1 e2 => ?_)
  have i3 : RI ad h.1 δ0 d1 := by rw [e2]; exact cs_12_0 L I
  have u4 := kp_I kp_r e2
  have v5 : q_V d1 = q_V δ := ((show q_V d1 = q_V δ by rw [e2]; rfl)).trans rfl
  have v6 := kr_N kr_r (show q_R d1 = q_R δ by rw [e2]; rfl)
  refine ok_bind (k_X12_isHouse L hN (a0 := a0) (x1 := x1) (x2 := (1 : Int32)) k_a0 (show (1 : Int) ≠ 0 by first | assumption | omega) i3) (fun r7 hr8 => ?_)
  obtain ⟨i9, ⟨u12, u13, u14⟩, p10, p11⟩ := hr8
  have u15 := kp_t u4 u12
  have v16 : q_V r7.2 = q_V δ := (u13).trans v5
  have v17 := kr_t v6 u14
  have f18 := bo_t p10
  have f19 := ti_b r7.1
  have f20 := ti_b x1
  have f21 := ti_b r7.1
  refine ok_ite (fun h22 => ?_) (fun h22 => ?_)
  · have c23 : r7.1.toInt = (0 : Int) := o_eq h22
    unfold J_X12_room_29
    exact ok_some (show RI ad h.1 δ0 r7.2 ∧ (kp [(12, 0), (12, 36), (12, 47)] δ r7.2 ∧ q_V r7.2 = q_V δ ∧ kr ad [100, 102, 103, 119, 124] δ r7.2) from ⟨i9, ⟨kp_w (by decide) u15, v16, kr_w (by decide) v17⟩⟩)
  · have c24 : r7.1.toInt ≠ (0 : Int) := o_ne h22
    refine ok_bind (k_X12_within L hN (x0 := x2) (x1 := (0 : Int32)) (x2 := (1 : Int32))  i9) (fun r25 hr26 => ?_)
    obtain ⟨i27, p28, p29, p30⟩ := hr26
    try rw [i27]
    have f31 := bo_t p28
    have f32 := ti_b r25.1
    have f33 := ti_b x2
    replace p29 : ((r25.1).toInt = 1 → (0 : Int) ≤ (x2).toInt ∧ (x2).toInt ≤ (1 : Int)) := p29
    replace p30 : ((r25.1).toInt = 0 → (x2).toInt < (0 : Int) ∨ (1 : Int) < (x2).toInt) := p30
    have f34 := ti_b r25.1
    refine ok_bind (k_X12_may L hN (a0 := a0) (x1 := r25.1) (x2 := (2 : Int32)) (x3 := (2 : Int32)) k_a0 (show (2 : Int) ≠ 0 by first | assumption | omega) (show 0 ≤ (2 : Int) by first | assumption | omega) (show (2 : Int) ≤ 2 by first | assumption | omega) i9) (fun r35 hr36 => ?_)
    obtain ⟨i37, ⟨u41, u42, u43⟩, p38, p39, p40⟩ := hr36
    have u44 := kp_t u15 u41
    have v45 : q_V r35.2 = q_V δ := (u42).trans v16
    have v46 := kr_t v17 u43
    have f47 := bo_t p38
    have f48 := ti_b r35.1
    have f49 := ti_b (q_I r7.2 12 0 a0)
    have f50 := ti_b r35.1
    refine ok_ite (fun h51 => ?_) (fun h51 => ?_)
    · have c52 : r35.1.toInt = (0 : Int) := o_eq h51
      unfold J_X12_room_29
      exact ok_some (show RI ad h.1 δ0 r35.2 ∧ (kp [(12, 0), (12, 36), (12, 47)] δ r35.2 ∧ q_V r35.2 = q_V δ ∧ kr ad [100, 102, 103, 119, 124] δ r35.2) from ⟨i37, ⟨kp_w (by decide) u44, v45, kr_w (by decide) v46⟩⟩)
    · have c53 : r35.1.toInt ≠ (0 : Int) := o_ne h51
      refine ok_ite (fun h54 => ?_) (fun h54 => ?_)
      · have c55 : x2.toInt = (1 : Int) := o_eq h54
        obtain ⟨b56, o57, k58, n59⟩ := gO_12_17 L k_a0
        obtain rfl := gS_12_17 L k_a0 o57
        refine ok_at o57 ?_
        have t60 := ti_tn x1
        refine ok_gd (fun hc61 => ?_) ?_
        · rcases hc61 with hc61 | hc61
          · have c62 : x1.toInt < (0 : Int) := o_lt hc61
            omega
          · omega
        exact ok_some (show RI ad h.1 δ0 r35.2 ∧ (kp [(12, 0), (12, 36), (12, 47)] δ r35.2 ∧ q_V r35.2 = q_V δ ∧ kr ad [100, 102, 103, 119, 124] δ r35.2) from ⟨i37, ⟨kp_w (by decide) u44, v45, kr_w (by decide) v46⟩⟩)
      · have c63 : x2.toInt ≠ (1 : Int) := o_ne h54
        refine ok_bind (k_X12_keeps L hN (a0 := a0) (x1 := x1) k_a0 (show 0 ≤ (x1).toInt by first | assumption | omega) (show (x1).toInt ≤ 3 by first | assumption | omega) i37) (fun r64 hr65 => ?_)
        obtain ⟨i66, ⟨u68, u69, u70⟩, p67⟩ := hr65
        have u71 := kp_t u44 u68
        have v72 : q_V r64 = q_V δ := (u69).trans v45
        have v73 := kr_t v46 u70
        have f74 := cb_12_47 i66 k_a0
        have t75 := ti_tn x1
        have f76 : (q_R r35.2 (Ad ad 103) (x1).toNatClampNeg).toInt = (q_R r7.2 (Ad ad 103) (x1).toNatClampNeg).toInt := congrArg Int32.toInt (congrFun (u43 103 (by decide) (by decide) (by decide)) _)
        have f77 : (q_R r7.2 (Ad ad 103) (x1).toNatClampNeg).toInt = (q_R d1 (Ad ad 103) (x1).toNatClampNeg).toInt := congrArg Int32.toInt (congrFun (u14 103 (by decide) (by decide) (by decide)) _)
        have f78 : (q_R d1 (Ad ad 103) (x1).toNatClampNeg).toInt = (q_R δ (Ad ad 103) (x1).toNatClampNeg).toInt := congrArg Int32.toInt (show q_R d1 (Ad ad 103) (x1).toNatClampNeg = _ by rw [e2]; rfl)
        have f79 := rb_103 L I (x1).toNatClampNeg
        have f80 := rb_103 L i3 (x1).toNatClampNeg
        have f81 := rb_103 L i9 (x1).toNatClampNeg
        have f82 := rb_103 L i37 (x1).toNatClampNeg
        obtain ⟨b83, o84, k85, n86⟩ := gO_12_14 L k_a0
        obtain rfl := gS_12_14 L k_a0 o84
        refine ok_at o84 ?_
        have t87 := ti_tn x1
        refine ok_gd (fun hc88 => ?_) ?_
        · rcases hc88 with hc88 | hc88
          · have c89 : x1.toInt < (0 : Int) := o_lt hc88
            omega
          · omega
        refine ok_bdv (fun d90 e91 => ?_)
        have i92 : RI ad h.1 δ0 d90 := by rw [e91]; exact cr_103 L i66 (show -1000 ≤ (0 : Int) by omega) (show (0 : Int) ≤ 2000 by omega)
        have u93 := kp_N u71 (show q_I d90 = q_I r64 by rw [e91]; rfl)
        have v94 : q_V d90 = q_V δ := ((show q_V d90 = q_V r64 by rw [e91]; rfl)).trans v72
        have v95 := kr_s L (by decide) v73 e91
        have f96 := rb_103 L i92 (x1).toNatClampNeg
        refine ok_mono (kl_X12_room_60 L hN   k_a0 _ (0 : Int32) (0 : Int32) d90 i92 (show 0 ≤ (x1).toInt by first | assumption | omega) (show (x1).toInt ≤ 3 by first | assumption | omega) (show 0 ≤ (0 : Int) by first | assumption | omega) (show (0 : Int) ≤ 1000 by first | assumption | omega) (show -(0 : Int) ≤ (q_R d90 (Ad ad 103) (x1).toNatClampNeg).toInt by first | assumption | omega) (show (q_R d90 (Ad ad 103) (x1).toNatClampNeg).toInt ≤ (0 : Int) by first | assumption | omega) (show 1000 - (0 : Int) < _ by omega)) (fun r97 hr98 => ?_)
        obtain ⟨i99, ⟨u100, u101, u102⟩⟩ := hr98
        have u103 := kp_t u93 u100
        have v104 : q_V r97.2 = q_V δ := (u101).trans v94
        have v105 := kr_t v95 u102
        have f106 := ti_b r97.1
        exact ⟨by assumption, ⟨kp_w (by decide) u103, v104, kr_w (by decide) v105⟩⟩
