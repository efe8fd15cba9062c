/-! 77.kX12d (by gen_safe.py) -/
set_option maxHeartbeats 4000000 in
theorem k_X12_mostSet {ad : List Nat} {h : hp} (L : Lay TLx ad h) {δ0 : dp} {N : Nat} (hN : 10000000 ≤ N) {a0 : Nat} (k_a0 : q_K h.1 a0 = 12) {δ : dp} (I : RI ad h.1 δ0 δ) : ok (D_X12_mostSet N h.1 a0 δ) (fun r => r.2 = δ ∧ 3 ≤ (r.1).toInt ∧ (r.1).toInt ≤ 16) := by
  unfold D_X12_mostSet
  have f1 := cb_12_10 I k_a0
  refine ok_ite (fun h2 => ?_) (fun h2 => ?_)
  · have c3 : (4 : Int) < (q_I δ 12 10 a0).toInt := o_lt h2
    unfold J_X12_mostSet_14
    exact ok_some (show δ = δ ∧ 3 ≤ (3 : Int) ∧ (3 : Int) ≤ 16 from ⟨rfl, by first | assumption | omega, by first | assumption | omega⟩)
  · have c4 : (q_I δ 12 10 a0).toInt ≤ (4 : Int) := o_nlt h2
    unfold J_X12_mostSet_14
    exact ok_some (show δ = δ ∧ 3 ≤ (16 : Int) ∧ (16 : Int) ≤ 16 from ⟨rfl, by first | assumption | omega, by first | assumption | omega⟩)
set_option maxHeartbeats 4000000 in
theorem k_X12_isWorst {ad : List Nat} {h : hp} (L : Lay TLx ad h) {δ0 : dp} {N : Nat} (hN : 10000000 ≤ N) {a0 : Nat} {x1 : Int32} (k_a0 : q_K h.1 a0 = 12) {δ : dp} (I : RI ad h.1 δ0 δ) : ok (D_X12_isWorst N h.1 a0 x1 δ) (fun r => r.2 = δ ∧ bo (r.1) ∧ ((r.1).toInt = 1 → 0 ≤ (x1).toInt ∧ (x1).toInt ≤ 16)) := by
  unfold D_X12_isWorst
  have f1 := cb_12_10 I k_a0
  refine ok_ite (fun h2 => ?_) (fun h2 => ?_)
  · have c3 : (6 : Int) < (q_I δ 12 10 a0).toInt := o_lt h2
    unfold J_X12_isWorst_25
    unfold J_X12_isWorst_26
    refine ok_gp (by decide) ?_
    have f4 := ti_b x1
    exact ok_some (show δ = δ ∧ bo ((0 : Int32)) ∧ ((0 : Int) = 1 → 0 ≤ (x1).toInt ∧ (x1).toInt ≤ 16) from ⟨rfl, bo_0, by first | assumption | omega⟩)
  · have c5 : (q_I δ 12 10 a0).toInt ≤ (6 : Int) := o_nlt h2
    refine ok_bind (k_X12_mostSet L hN (a0 := a0) k_a0 I) (fun r6 hr7 => ?_)
    obtain ⟨i8, p9, p10⟩ := hr7
    try rw [i8]
    have f11 := ti_b r6.1
    have f12 := ti_b r6.1
    refine ok_bind (k_X12_within L hN (x0 := x1) (x1 := (0 : Int32)) (x2 := r6.1)  I) (fun r13 hr14 => ?_)
    obtain ⟨i15, p16, p17, p18⟩ := hr14
    try rw [i15]
    have f19 := bo_l p16
    have f20 := ti_b r13.1
    have f21 := ti_b x1
    replace p17 : ((r13.1).toInt = 1 → (0 : Int) ≤ (x1).toInt ∧ (x1).toInt ≤ (r6.1).toInt) := p17
    replace p18 : ((r13.1).toInt = 0 → (x1).toInt < (0 : Int) ∨ (r6.1).toInt < (x1).toInt) := p18
    have f22 := ti_b r13.1
    refine ok_ite (fun h23 => ?_) (fun h23 => ?_)
    · have c24 : r13.1.toInt = (0 : Int) := o_eq h23
      unfold J_X12_isWorst_25
      unfold J_X12_isWorst_26
      refine ok_gp (by decide) ?_
      exact ok_some (show δ = δ ∧ bo ((0 : Int32)) ∧ ((0 : Int) = 1 → 0 ≤ (x1).toInt ∧ (x1).toInt ≤ 16) from ⟨rfl, bo_0, by first | assumption | omega⟩)
    · have c25 : r13.1.toInt ≠ (0 : Int) := o_ne h23
      unfold J_X12_isWorst_26
      refine ok_gp (by decide) ?_
      exact ok_some (show δ = δ ∧ bo ((1 : Int32)) ∧ ((1 : Int) = 1 → 0 ≤ (x1).toInt ∧ (x1).toInt ≤ 16) from ⟨rfl, bo_1, by first | assumption | omega⟩)
set_option maxHeartbeats 4000000 in
theorem kl_X12_asks_104 {ad : List Nat} {h : hp} (L : Lay TLx ad h) {δ0 : dp} {N : Nat} (hN : 10000000 ≤ N) {a0 : Nat} {x1 : Int32} {x2 : Int32} {kt2 : Int32 → dp → Option (dp)} {K2 : Int} (h_kt2 : ∀ (x3v : Int32) (δ : dp), RI ad h.1 δ0 δ → 0 ≤ (x2).toInt → (x2).toInt ≤ 16 → 0 ≤ (x3v).toInt → (x3v).toInt ≤ 65536 → 65536 - (x3v).toInt < K2 → ok (kt2 x3v δ) (fun r => RI ad h.1 δ0 r ∧ (kp [(12, 36), (12, 37), (12, 38), (12, 39)] δ r ∧ q_V r = q_V δ ∧ kr ad [119, 120] δ r))) (k_a0 : q_K h.1 a0 = 12) : ∀ (n : Nat) (x3v : Int32) (x5v : Int32) (δ : dp), RI ad h.1 δ0 δ → 0 ≤ (x2).toInt → (x2).toInt ≤ 16 → 0 ≤ (x3v).toInt → (x3v).toInt < 65536 → 65536 - (x3v).toInt ≤ K2 → 0 ≤ (x5v).toInt → (x5v).toInt ≤ 16 → 16 - (x5v).toInt < (n : Int) → ok (L_X12_asks_104 N h.1 a0 x1 x2 kt2 n x3v x5v δ) (fun r => RI ad h.1 δ0 r ∧ (kp [(12, 36), (12, 37), (12, 38), (12, 39)] δ r ∧ q_V r = q_V δ ∧ kr ad [119, 120] δ r)) := by
  intro n
  induction n with
  | zero =>
    intro x3v x5v δ I j0 j1 j2 j3 j4 j5 j6 hm
    have f1 := ti_b x2
    have f2 := ti_b x3v
    have f3 := ti_b x5v
    exfalso; omega
  | succ n ih =>
    intro x3v x5v δ I j0 j1 j2 j3 j4 j5 j6 hm
    unfold L_X12_asks_104
    have f1 := ti_b x2
    have f2 := ti_b x3v
    have f3 := ti_b x5v
    refine ok_ite (fun h4 => ?_) (fun h4 => ?_)
    · have c5 : x2.toInt ≤ x5v.toInt := o_le h4
      unfold J_X12_asks_130
      refine ok_biv (fun vx6 e7 => ?_)
      first | (have q8 := te_addc (c := 1) (n := 1) rfl x3v (by omega) (by omega); rw [← e7] at q8; obtain ⟨f9, f10, f11⟩ := q8) | (obtain ⟨q8, f9, f10, f11⟩ : ∃ q : Int, vx6.toInt = x3v.toInt + (1 : Int) + 4294967296 * q ∧ -2147483648 ≤ vx6.toInt ∧ vx6.toInt ≤ 2147483647 := by rw [e7]; exact ti_addc (c := 1) (n := 1) rfl x3v)
      refine ok_mono (h_kt2 vx6 δ I (show 0 ≤ (x2).toInt by first | assumption | omega) (show (x2).toInt ≤ 16 by first | assumption | omega) (show 0 ≤ (vx6).toInt by first | assumption | omega) (show (vx6).toInt ≤ 65536 by first | assumption | omega) (show 65536 - (vx6).toInt < _ by omega)) (fun r12 hr13 => ?_)
      obtain ⟨i14, ⟨u15, u16, u17⟩⟩ := hr13
      have u18 := kp_t kp_r u15
      have v19 : q_V r12 = q_V δ := (u16).trans rfl
      have v20 := kr_t (kr_r (ad := ad)) u17
      exact ⟨by assumption, ⟨kp_w (by decide) u18, v19, kr_w (by decide) v20⟩⟩
    · have c21 : x5v.toInt < x2.toInt := o_nle h4
      obtain ⟨b22, o23, k24, n25, w26⟩ := gO_12_41 L k_a0
      obtain rfl := gS_12_41 L k_a0 o23
      refine ok_at o23 ?_
      obtain ⟨b27, o28, k29, n30, w31⟩ := gO_12_42 L k_a0
      obtain rfl := gS_12_42 L k_a0 o28
      refine ok_at o28 ?_
      have t32 := ti_tn x5v
      refine ok_gd (fun hc33 => ?_) ?_
      · rcases hc33 with hc33 | hc33
        · have c34 : x5v.toInt < (0 : Int) := o_lt hc33
          omega
        · omega
      refine ok_gd (fun hc35 => ?_) ?_
      · rcases hc35 with hc35 | hc35
        · have c36 : x5v.toInt < (0 : Int) := o_lt hc35
          omega
        · omega
      refine ok_bdv (fun d37 e38 => ?_)
      have i39 : RI ad h.1 δ0 d37 := by rw [e38]; exact RI.sR L I w26
      have u40 := kp_N kp_r (show q_I d37 = q_I δ by rw [e38]; rfl)
      have v41 : q_V d37 = q_V δ := ((show q_V d37 = q_V δ by rw [e38]; rfl)).trans rfl
      have v42 := kr_s L (by decide) (kr_r (ad := ad)) e38
      refine ok_biv (fun vx43 e44 => ?_)
      first | (have q45 := te_addc (c := 1) (n := 1) rfl x5v (by omega) (by omega); rw [← e44] at q45; obtain ⟨f46, f47, f48⟩ := q45) | (obtain ⟨q45, f46, f47, f48⟩ : ∃ q : Int, vx43.toInt = x5v.toInt + (1 : Int) + 4294967296 * q ∧ -2147483648 ≤ vx43.toInt ∧ vx43.toInt ≤ 2147483647 := by rw [e44]; exact ti_addc (c := 1) (n := 1) rfl x5v)
      refine ok_mono (ih x3v vx43 d37 i39 (show 0 ≤ (x2).toInt by first | assumption | omega) (show (x2).toInt ≤ 16 by first | assumption | omega) (show 0 ≤ (x3v).toInt by first | assumption | omega) (show (x3v).toInt < 65536 by first | assumption | omega) (show 65536 - (x3v).toInt ≤ K2 by first | assumption | omega) (show 0 ≤ (vx43).toInt by first | assumption | omega) (show (vx43).toInt ≤ 16 by first | assumption | omega) (show 16 - (vx43).toInt < _ by omega)) (fun r49 hr50 => ?_)
      obtain ⟨i51, ⟨u52, u53, u54⟩⟩ := hr50
      have u55 := kp_t u40 u52
      have v56 : q_V r49 = q_V δ := (u53).trans v41
      have v57 := kr_t v42 u54
      exact ⟨by assumption, ⟨kp_w (by decide) u55, v56, kr_w (by decide) v57⟩⟩
set_option maxHeartbeats 4000000 in
theorem kl_X12_asks_18 {ad : List Nat} {h : hp} (L : Lay TLx ad h) {δ0 : dp} {N : Nat} (hN : 10000000 ≤ N) {a0 : Nat} {x1 : Int32} {x2 : Int32} {kt2 : Int32 → dp → Option (dp)} {K2 : Int} (h_kt2 : ∀ (x3v : Int32) (δ : dp), RI ad h.1 δ0 δ → 0 ≤ (x2).toInt → (x2).toInt ≤ 16 → 0 ≤ (x3v).toInt → (x3v).toInt ≤ 65536 → 65536 - (x3v).toInt < K2 → ok (kt2 x3v δ) (fun r => RI ad h.1 δ0 r ∧ (kp [(12, 36), (12, 37), (12, 38), (12, 39)] δ r ∧ q_V r = q_V δ ∧ kr ad [119, 120] δ r))) (k_a0 : q_K h.1 a0 = 12) : ∀ (n : Nat) (x3v : Int32) (x4v : Int32) (δ : dp), RI ad h.1 δ0 δ → 0 ≤ (x2).toInt → (x2).toInt ≤ 16 → 0 ≤ (x3v).toInt → (x3v).toInt < 65536 → 65536 - (x3v).toInt ≤ K2 → 0 ≤ (x4v).toInt → (x4v).toInt ≤ 16 → (q_I δ 12 36 a0).toInt = (x4v).toInt → 16 - (x4v).toInt < (n : Int) → ok (L_X12_asks_18 N h.1 a0 x1 x2 kt2 n x3v x4v δ) (fun r => RI ad h.1 δ0 r ∧ (kp [(12, 36), (12, 37), (12, 38), (12, 39)] δ r ∧ q_V r = q_V δ ∧ kr ad [119, 120] δ r)) := by
  intro n
  induction n with
  | zero =>
    intro x3v x4v δ I j0 j1 j2 j3 j4 j5 j6 j7 hm
    have f1 := ti_b x2
    have f2 := ti_b x3v
    have f3 := ti_b x4v
    have f4 := cb_12_36 I k_a0
    exfalso; omega
  | succ n ih =>
    intro x3v x4v δ I j0 j1 j2 j3 j4 j5 j6 j7 hm
    unfold L_X12_asks_18
    have f1 := ti_b x2
    have f2 := ti_b x3v
    have f3 := ti_b x4v
    have f4 := cb_12_36 I k_a0
    refine ok_ite (fun h5 => ?_) (fun h5 => ?_)
    · have c6 : x2.toInt ≤ x4v.toInt := o_le h5
      have f9 := cb_12_10 I k_a0
      refine ok_bind (k_X12_touch L hN (a0 := a0) (x1 := x1) (x2 := x3v) (x3 := (q_I δ 12 10 a0)) (x4 := (0 : Int32)) (x5 := (q_I δ 12 36 a0)) k_a0 (show 1 ≤ ((q_I δ 12 10 a0)).toInt by first | assumption | omega) (show ((q_I δ 12 10 a0)).toInt ≤ 16 by first | assumption | omega) (show 0 ≤ (0 : Int) by first | assumption | omega) (show (0 : Int) ≤ ((q_I δ 12 36 a0)).toInt by first | assumption | omega) (show ((q_I δ 12 36 a0)).toInt ≤ (0 : Int) + 2000 by first | assumption | omega) (show ((q_I δ 12 36 a0)).toInt ≤ (q_I δ 12 36 a0).toInt by first | assumption | omega) (show (q_I δ 12 36 a0).toInt ≤ 12000 by first | assumption | omega) (show 1 < ((q_I δ 12 10 a0)).toInt → (q_I δ 12 36 a0).toInt ≤ 10000 by first | assumption | omega) (show 2 < ((q_I δ 12 10 a0)).toInt → (q_I δ 12 36 a0).toInt ≤ 8000 by first | assumption | omega) (show 4 < ((q_I δ 12 10 a0)).toInt → (q_I δ 12 36 a0).toInt ≤ 6000 by first | assumption | omega) (show 8 < ((q_I δ 12 10 a0)).toInt → (q_I δ 12 36 a0).toInt ≤ 4000 by first | assumption | omega) (show ((q_I δ 12 10 a0)).toInt < 20 by first | assumption | omega) I) (fun r7 hr8 => ?_)
      obtain ⟨i10, ⟨u14, u15, u16⟩, p11, p12, p13⟩ := hr8
      have u17 := kp_t kp_r u14
      have v18 : q_V r7.2 = q_V δ := (u15).trans rfl
      have v19 := kr_t (kr_r (ad := ad)) u16
      have f20 := cb_12_36 i10 k_a0
      have f21 := ti_b r7.1
      have f22 := ti_b r7.1
      have f23 := ti_b (q_I r7.2 12 37 a0)
      have f24 : (q_I r7.2 12 37 a0).toInt = (q_I δ 12 37 a0).toInt := congrArg Int32.toInt (u14 12 37 a0 (by decide))
      have f25 := ti_b (q_I δ 12 37 a0)
      refine ok_ite (fun h26 => ?_) (fun h26 => ?_)
      · have c27 : (q_I r7.2 12 37 a0).toInt < r7.1.toInt := o_lt h26
        refine ok_bdv (fun d28 e29 => ?_)
        have i30 : RI ad h.1 δ0 d28 := by rw [e29]; exact cs_12_37 L i10
        have u31 := kp_I u17 e29
        have v32 : q_V d28 = q_V δ := ((show q_V d28 = q_V r7.2 by rw [e29]; rfl)).trans v18
        have v33 := kr_N v19 (show q_R d28 = q_R r7.2 by rw [e29]; rfl)
        refine ok_bdv (fun d34 e35 => ?_)
        have i36 : RI ad h.1 δ0 d34 := by rw [e35]; exact cs_12_38 L i30 k_a0 (show 0 ≤ x2.toInt by omega) (show x2.toInt ≤ 16 by omega)
        have u37 := kp_I u31 e35
        have v38 : q_V d34 = q_V δ := ((show q_V d34 = q_V d28 by rw [e35]; rfl)).trans v32
        have v39 := kr_N v33 (show q_R d34 = q_R d28 by rw [e35]; rfl)
        refine ok_bdv (fun d40 e41 => ?_)
        have i42 : RI ad h.1 δ0 d40 := by rw [e41]; exact cs_12_39 L i36
        have u43 := kp_I u37 e41
        have v44 : q_V d40 = q_V δ := ((show q_V d40 = q_V d34 by rw [e41]; rfl)).trans v38
        have v45 := kr_N v39 (show q_R d40 = q_R d34 by rw [e41]; rfl)
        refine ok_mono (kl_X12_asks_104 L hN (K2 := K2) h_kt2 k_a0 _ x3v (0 : Int32) d40 i42 (show 0 ≤ (x2).toInt by first | assumption | omega) (show (x2).toInt ≤ 16 by first | assumption | omega) (show 0 ≤ (x3v).toInt by first | assumption | omega) (show (x3v).toInt < 65536 by first | assumption | omega) (show 65536 - (x3v).toInt ≤ K2 by first | assumption | omega) (show 0 ≤ (0 : Int) by first | assumption | omega) (show (0 : Int) ≤ 16 by first | assumption | omega) (show 16 - (0 : Int) < _ by omega)) (fun r46 hr47 => ?_)
        obtain ⟨i48, ⟨u49, u50, u51⟩⟩ := hr47
        have u52 := kp_t u43 u49
        have v53 : q_V r46 = q_V δ := (u50).trans v44
        have v54 := kr_t v45 u51
        exact ⟨by assumption, ⟨kp_w (by decide) u52, v53, kr_w (by decide) v54⟩⟩
      · have c55 : r7.1.toInt ≤ (q_I r7.2 12 37 a0).toInt := o_nlt h26
        unfold J_X12_asks_130
        refine ok_biv (fun vx56 e57 => ?_)
        first | (have q58 := te_addc (c := 1) (n := 1) rfl x3v (by omega) (by omega); rw [← e57] at q58; obtain ⟨f59, f60, f61⟩ := q58) | (obtain ⟨q58, f59, f60, f61⟩ : ∃ q : Int, vx56.toInt = x3v.toInt + (1 : Int) + 4294967296 * q ∧ -2147483648 ≤ vx56.toInt ∧ vx56.toInt ≤ 2147483647 := by rw [e57]; exact ti_addc (c := 1) (n := 1) rfl x3v)
        refine ok_mono (h_kt2 vx56 r7.2 i10 (show 0 ≤ (x2).toInt by first | assumption | omega) (show (x2).toInt ≤ 16 by first | assumption | omega) (show 0 ≤ (vx56).toInt by first | assumption | omega) (show (vx56).toInt ≤ 65536 by first | assumption | omega) (show 65536 - (vx56).toInt < _ by omega)) (fun r62 hr63 => ?_)
        obtain ⟨i64, ⟨u65, u66, u67⟩⟩ := hr63
        have u68 := kp_t u17 u65
        have v69 : q_V r62 = q_V δ := (u66).trans v18
        have v70 := kr_t v19 u67
        exact ⟨by assumption, ⟨kp_w (by decide) u68, v69, kr_w (by decide) v70⟩⟩
    · have c71 : x4v.toInt < x2.toInt := o_nle h5
      obtain ⟨b72, o73, k74, n75, w76⟩ := gO_12_35 L k_a0
      obtain rfl := gS_12_35 L k_a0 o73
      refine ok_at o73 ?_
      obtain ⟨b77, o78, k79, n80, w81⟩ := gO_12_42 L k_a0
      obtain rfl := gS_12_42 L k_a0 o78
      refine ok_at o78 ?_
      have t82 := ti_tn x4v
      refine ok_gd (fun hc83 => ?_) ?_
      · rcases hc83 with hc83 | hc83
        · have c84 : x4v.toInt < (0 : Int) := o_lt hc83
          omega
        · omega
      have t85 := ti_tn (q_I δ 12 36 a0)
      refine ok_gd (fun hc86 => ?_) ?_
      · rcases hc86 with hc86 | hc86
        · have c87 : (q_I δ 12 36 a0).toInt < (0 : Int) := o_lt hc86
          omega
        · omega
      refine ok_bdv (fun d88 e89 => ?_)
      have i90 : RI ad h.1 δ0 d88 := by rw [e89]; exact RI.sR L I w76
      have u91 := kp_N kp_r (show q_I d88 = q_I δ by rw [e89]; rfl)
      have v92 : q_V d88 = q_V δ := ((show q_V d88 = q_V δ by rw [e89]; rfl)).trans rfl
      have v93 := kr_s L (by decide) (kr_r (ad := ad)) e89
      have f97 := cb_12_36 i90 k_a0
      have f98 : (q_I d88 12 36 a0).toInt = (q_I δ 12 36 a0).toInt := congrArg Int32.toInt (by rw [e89]; rfl)
      first | (have q100 := te_addc (c := 1) (n := 1) rfl (q_I d88 12 36 a0) (by omega) (by omega); obtain ⟨f101, f102, f103⟩ := q100) | (obtain ⟨q100, f101, f102, f103⟩ := ti_addc (c := 1) (n := 1) rfl (q_I d88 12 36 a0))
      refine ok_bdv (fun d94 e95 => ?_)
      have i96 : RI ad h.1 δ0 d94 := by rw [e95]; exact cs_12_36 L i90 k_a0 (show 0 ≤ ((q_I d88 12 36 a0) + (1 : Int32)).toInt by omega) (show ((q_I d88 12 36 a0) + (1 : Int32)).toInt ≤ 14000 by omega)
      have u104 := kp_I u91 e95
      have v105 : q_V d94 = q_V δ := ((show q_V d94 = q_V d88 by rw [e95]; rfl)).trans v92
      have v106 := kr_N v93 (show q_R d94 = q_R d88 by rw [e95]; rfl)
      refine ok_biv (fun vx107 e108 => ?_)
      first | (have q109 := te_addc (c := 1) (n := 1) rfl x4v (by omega) (by omega); rw [← e108] at q109; obtain ⟨f110, f111, f112⟩ := q109) | (obtain ⟨q109, f110, f111, f112⟩ : ∃ q : Int, vx107.toInt = x4v.toInt + (1 : Int) + 4294967296 * q ∧ -2147483648 ≤ vx107.toInt ∧ vx107.toInt ≤ 2147483647 := by rw [e108]; exact ti_addc (c := 1) (n := 1) rfl x4v)
      have f113 := cb_12_36 i96 k_a0
      have f114 : (q_I d94 12 36 a0).toInt = ((q_I d88 12 36 a0) + (1 : Int32)).toInt := congrArg Int32.toInt (show q_I d94 12 36 a0 = ((q_I d88 12 36 a0) + (1 : Int32)) by rw [e95]; exact rI_s)
      refine ok_mono (ih x3v vx107 d94 i96 (show 0 ≤ (x2).toInt by first | assumption | omega) (show (x2).toInt ≤ 16 by first | assumption | omega) (show 0 ≤ (x3v).toInt by first | assumption | omega) (show (x3v).toInt < 65536 by first | assumption | omega) (show 65536 - (x3v).toInt ≤ K2 by first | assumption | omega) (show 0 ≤ (vx107).toInt by first | assumption | omega) (show (vx107).toInt ≤ 16 by first | assumption | omega) (show (q_I d94 12 36 a0).toInt = (vx107).toInt by first | assumption | omega) (show 16 - (vx107).toInt < _ by omega)) (fun r115 hr116 => ?_)
      obtain ⟨i117, ⟨u118, u119, u120⟩⟩ := hr116
      have u121 := kp_t u104 u118
      have v122 : q_V r115 = q_V δ := (u119).trans v105
      have v123 := kr_t v106 u120
      exact ⟨by assumption, ⟨kp_w (by decide) u121, v122, kr_w (by decide) v123⟩⟩
set_option maxHeartbeats 4000000 in
theorem kl_X12_asks_2 {ad : List Nat} {h : hp} (L : Lay TLx ad h) {δ0 : dp} {N : Nat} (hN : 10000000 ≤ N) {a0 : Nat} {x1 : Int32} {x2 : Int32} (k_a0 : q_K h.1 a0 = 12) : ∀ (n : Nat) (x3v : Int32) (δ : dp), RI ad h.1 δ0 δ → 0 ≤ (x2).toInt → (x2).toInt ≤ 16 → 0 ≤ (x3v).toInt → (x3v).toInt ≤ 65536 → 65536 - (x3v).toInt < (n : Int) → ok (L_X12_asks_2 N h.1 a0 x1 x2 n x3v δ) (fun r => RI ad h.1 δ0 r ∧ (kp [(12, 36), (12, 37), (12, 38), (12, 39)] δ r ∧ q_V r = q_V δ ∧ kr ad [119, 120] δ r)) := by
  intro n
  induction n with
  | zero =>
    intro x3v δ I j0 j1 j2 j3 hm
    have f1 := ti_b x2
    have f2 := ti_b x3v
    exfalso; omega
  | succ n ih =>
    intro x3v δ I j0 j1 j2 j3 hm
    unfold L_X12_asks_2
    have f1 := ti_b x2
    have f2 := ti_b x3v
    refine ok_bind (k_X12_all L hN (a0 := a0) k_a0 I) (fun r3 hr4 => ?_)
    obtain ⟨i5, p6, p7, p8, p9⟩ := hr4
    try rw [i5]
    have f10 := ti_b r3.1
    have f11 := cb_12_10 I k_a0
    have f12 := ti_b r3.1
    refine ok_ite (fun h13 => ?_) (fun h13 => ?_)
    · have c14 : r3.1.toInt ≤ x3v.toInt := o_le h13
      exact ok_some (show RI ad h.1 δ0 δ ∧ (kp [(12, 36), (12, 37), (12, 38), (12, 39)] δ δ ∧ q_V δ = q_V δ ∧ kr ad [119, 120] δ δ) from ⟨I, ⟨kp_w (by decide) kp_r, rfl, kr_w (by decide) (kr_r (ad := ad))⟩⟩)
    · have c15 : x3v.toInt < r3.1.toInt := o_nle h13
      refine ok_bdv (fun d16 e17 => ?_)
      have i18 : RI ad h.1 δ0 d16 := by rw [e17]; exact cs_12_36 L I k_a0 (show 0 ≤ (0 : Int) by omega) (show (0 : Int) ≤ 14000 by omega)
      have u19 := kp_I kp_r e17
      have v20 : q_V d16 = q_V δ := ((show q_V d16 = q_V δ by rw [e17]; rfl)).trans rfl
      have v21 := kr_N (kr_r (ad := ad)) (show q_R d16 = q_R δ by rw [e17]; rfl)
      have f22 := cb_12_36 i18 k_a0
      have f23 : (q_I d16 12 36 a0).toInt = (0 : Int) := congrArg Int32.toInt (show q_I d16 12 36 a0 = (0 : Int32) by rw [e17]; exact rI_s)
      refine ok_mono (kl_X12_asks_18 L hN (K2 := (n : Int)) ih k_a0 _ x3v (0 : Int32) d16 i18 (show 0 ≤ (x2).toInt by first | assumption | omega) (show (x2).toInt ≤ 16 by first | assumption | omega) (show 0 ≤ (x3v).toInt by first | assumption | omega) (show (x3v).toInt < 65536 by first | assumption | omega) (show 65536 - (x3v).toInt ≤ (n : Int) by first | assumption | omega) (show 0 ≤ (0 : Int) by first | assumption | omega) (show (0 : Int) ≤ 16 by first | assumption | omega) (show (q_I d16 12 36 a0).toInt = (0 : Int) by first | assumption | omega) (show 16 - (0 : Int) < _ by omega)) (fun r24 hr25 => ?_)
      obtain ⟨i26, ⟨u27, u28, u29⟩⟩ := hr25
      have u30 := kp_t u19 u27
      have v31 : q_V r24 = q_V δ := (u28).trans v20
      have v32 := kr_t v21 u29
      exact ⟨by assumption, ⟨kp_w (by decide) u30, v31, kr_w (by decide) v32⟩⟩
set_option maxHeartbeats 4000000 in
theorem k_X12_asks {ad : List Nat} {h : hp} (L : Lay TLx ad h) {δ0 : dp} {N : Nat} (hN : 10000000 ≤ N) {a0 : Nat} {x1 : Int32} {x2 : Int32} (k_a0 : q_K h.1 a0 = 12) {δ : dp} (z0 : 0 ≤ (x2).toInt) (z1 : (x2).toInt ≤ 16) (I : RI ad h.1 δ0 δ) : ok (D_X12_asks N h.1 a0 x1 x2 δ) (fun r => RI ad h.1 δ0 r ∧ (kp [(12, 36), (12, 37), (12, 38), (12, 39)] δ r ∧ q_V r = q_V δ ∧ kr ad [119, 120] δ r)) := by
  unfold D_X12_asks
  have f1 := ti_b x2
  refine ok_mono (kl_X12_asks_2 L hN   k_a0 _ (0 : Int32) δ I (show 0 ≤ (x2).toInt by first | assumption | omega) (show (x2).toInt ≤ 16 by first | assumption | omega) (show 0 ≤ (0 : Int) by first | assumption | omega) (show (0 : Int) ≤ 65536 by first | assumption | omega) (show 65536 - (0 : Int) < _ by omega)) (fun r2 hr3 => ?_)
  obtain ⟨i4, ⟨u5, u6, u7⟩⟩ := hr3
  have u8 := kp_t kp_r u5
  have v9 : q_V r2 = q_V δ := (u6).trans rfl
  have v10 := kr_t (kr_r (ad := ad)) u7
  exact ⟨by assumption, ⟨kp_w (by decide) u8, v9, kr_w (by decide) v10⟩⟩
set_option maxHeartbeats 4000000 in
theorem kl_X12_sets_14 {ad : List Nat} {h : hp} (L : Lay TLx ad h) {δ0 : dp} {N : Nat} (hN : 10000000 ≤ N) {T : Nat → Int32 → Int32 → Int32 → Int32 → dp → Option (dp)} {K : Int} (hT : ∀ (a0 : Nat) (x1 : Int32) (x2 : Int32) (x3 : Int32) (x4 : Int32) (δ : dp), q_K h.1 a0 = 12 → 0 ≤ (x2).toInt → (x2).toInt ≤ 16 → -1 ≤ (x3).toInt → (x3).toInt ≤ 15 → (x4).toInt ≤ 65536 → (x3).toInt + 1 < K → RI ad h.1 δ0 δ → ok (T a0 x1 x2 x3 x4 δ) (fun r => RI ad h.1 δ0 r ∧ (kp [(12, 36), (12, 37), (12, 38), (12, 39)] δ r ∧ q_V r = q_V δ ∧ kr ad [119, 120, 121] δ r))) {a0 : Nat} {x1 : Int32} {x2 : Int32} {x3 : Int32} {x4 : Int32} (k_a0 : q_K h.1 a0 = 12) : ∀ (n : Nat) (x5v : Int32) (δ : dp), RI ad h.1 δ0 δ → 0 ≤ (x2).toInt → (x2).toInt ≤ 16 → 0 ≤ (x3).toInt → (x3).toInt ≤ 15 → (x4).toInt ≤ 65536 → (x3).toInt + 1 ≤ K → 0 ≤ (x5v).toInt → (x5v).toInt ≤ 65536 → 65536 - (x5v).toInt < (n : Int) → ok (L_X12_sets_14 N h.1 T a0 x1 x2 x3 x4 n x5v δ) (fun r => RI ad h.1 δ0 r ∧ (kp [(12, 36), (12, 37), (12, 38), (12, 39)] δ r ∧ q_V r = q_V δ ∧ kr ad [119, 120, 121] δ r)) := by
  intro n
  induction n with
  | zero =>
    intro x5v δ I j0 j1 j2 j3 j4 j5 j6 j7 hm
    have f1 := ti_b x2
    have f2 := ti_b x3
    have f3 := ti_b x4
    have f4 := ti_b x5v
    exfalso; omega
  | succ n ih =>
    intro x5v δ I j0 j1 j2 j3 j4 j5 j6 j7 hm
    unfold L_X12_sets_14
    have f1 := ti_b x2
    have f2 := ti_b x3
    have f3 := ti_b x4
    have f4 := ti_b x5v
    refine ok_ite (fun h5 => ?_) (fun h5 => ?_)
    · have c6 : x4.toInt ≤ x5v.toInt := o_le h5
      exact ok_some (show RI ad h.1 δ0 δ ∧ (kp [(12, 36), (12, 37), (12, 38), (12, 39)] δ δ ∧ q_V δ = q_V δ ∧ kr ad [119, 120, 121] δ δ) from ⟨I, ⟨kp_w (by decide) kp_r, rfl, kr_w (by decide) (kr_r (ad := ad))⟩⟩)
    · have c7 : x5v.toInt < x4.toInt := o_nle h5
      obtain ⟨b8, o9, k10, n11, w12⟩ := gO_12_42 L k_a0
      obtain rfl := gS_12_42 L k_a0 o9
      refine ok_at o9 ?_
      have t13 := ti_tn x3
      refine ok_gd (fun hc14 => ?_) ?_
      · rcases hc14 with hc14 | hc14
        · have c15 : x3.toInt < (0 : Int) := o_lt hc14
          omega
        · omega
      refine ok_bdv (fun d16 e17 => ?_)
      have i18 : RI ad h.1 δ0 d16 := by rw [e17]; exact RI.sR L I w12
      have u19 := kp_N kp_r (show q_I d16 = q_I δ by rw [e17]; rfl)
      have v20 : q_V d16 = q_V δ := ((show q_V d16 = q_V δ by rw [e17]; rfl)).trans rfl
      have v21 := kr_s L (by decide) (kr_r (ad := ad)) e17
      first | (have q25 := te_subc (c := 1) (n := 1) rfl x3 (by omega) (by omega); obtain ⟨f26, f27, f28⟩ := q25) | (obtain ⟨q25, f26, f27, f28⟩ := ti_subc (c := 1) (n := 1) rfl x3)
      refine ok_bind (hT a0 x1 x2 (x3 - (1 : Int32)) x5v d16 k_a0 (show 0 ≤ (x2).toInt by first | assumption | omega) (show (x2).toInt ≤ 16 by first | assumption | omega) (show -1 ≤ ((x3 - (1 : Int32))).toInt by first | assumption | omega) (show ((x3 - (1 : Int32))).toInt ≤ 15 by first | assumption | omega) (show (x5v).toInt ≤ 65536 by first | assumption | omega) (show ((x3 - (1 : Int32))).toInt + 1 < _ by first | assumption | omega) i18) (fun r22 hr23 => ?_)
      obtain ⟨i29, ⟨u30, u31, u32⟩⟩ := hr23
      have u33 := kp_t u19 u30
      have v34 : q_V r22 = q_V δ := (u31).trans v20
      have v35 := kr_t v21 u32
      refine ok_biv (fun vx36 e37 => ?_)
      first | (have q38 := te_addc (c := 1) (n := 1) rfl x5v (by omega) (by omega); rw [← e37] at q38; obtain ⟨f39, f40, f41⟩ := q38) | (obtain ⟨q38, f39, f40, f41⟩ : ∃ q : Int, vx36.toInt = x5v.toInt + (1 : Int) + 4294967296 * q ∧ -2147483648 ≤ vx36.toInt ∧ vx36.toInt ≤ 2147483647 := by rw [e37]; exact ti_addc (c := 1) (n := 1) rfl x5v)
      refine ok_mono (ih vx36 r22 i29 (show 0 ≤ (x2).toInt by first | assumption | omega) (show (x2).toInt ≤ 16 by first | assumption | omega) (show 0 ≤ (x3).toInt by first | assumption | omega) (show (x3).toInt ≤ 15 by first | assumption | omega) (show (x4).toInt ≤ 65536 by first | assumption | omega) (show (x3).toInt + 1 ≤ K by first | assumption | omega) (show 0 ≤ (vx36).toInt by first | assumption | omega) (show (vx36).toInt ≤ 65536 by first | assumption | omega) (show 65536 - (vx36).toInt < _ by omega)) (fun r42 hr43 => ?_)
      obtain ⟨i44, ⟨u45, u46, u47⟩⟩ := hr43
      have u48 := kp_t u33 u45
      have v49 : q_V r42 = q_V δ := (u46).trans v34
      have v50 := kr_t v35 u47
      exact ⟨by assumption, ⟨kp_w (by decide) u48, v49, kr_w (by decide) v50⟩⟩
set_option maxHeartbeats 4000000 in
theorem ke_X12_sets {ad : List Nat} {h : hp} (L : Lay TLx ad h) {δ0 : dp} {N : Nat} (hN : 10000000 ≤ N) : ∀ (k : Nat), ∀ (a0 : Nat) (x1 : Int32) (x2 : Int32) (x3 : Int32) (x4 : Int32) (δ : dp), q_K h.1 a0 = 12 → 0 ≤ (x2).toInt → (x2).toInt ≤ 16 → -1 ≤ (x3).toInt → (x3).toInt ≤ 15 → (x4).toInt ≤ 65536 → (x3).toInt + 1 < (k : Int) → RI ad h.1 δ0 δ → ok (E_X12_sets N h.1 k a0 x1 x2 x3 x4 δ) (fun r => RI ad h.1 δ0 r ∧ (kp [(12, 36), (12, 37), (12, 38), (12, 39)] δ r ∧ q_V r = q_V δ ∧ kr ad [119, 120, 121] δ r)) := by
  intro k
  induction k with
  | zero =>
    intro a0 x1 x2 x3 x4 δ k_a0 z0 z1 z2 z3 z4 hd I
    exfalso; omega
  | succ k ih =>
    intro a0 x1 x2 x3 x4 δ k_a0 z0 z1 z2 z3 z4 hd I
    unfold E_X12_sets B_X12_sets
    have f1 := ti_b x2
    have f2 := ti_b x3
    have f3 := ti_b x4
    refine ok_ite (fun h4 => ?_) (fun h4 => ?_)
    · have c5 : (0 : Int) ≤ x3.toInt := o_le h4
      refine ok_mono (kl_X12_sets_14 L hN   ih k_a0 _ x3 δ I (show 0 ≤ (x2).toInt by first | assumption | omega) (show (x2).toInt ≤ 16 by first | assumption | omega) (show 0 ≤ (x3).toInt by first | assumption | omega) (show (x3).toInt ≤ 15 by first | assumption | omega) (show (x4).toInt ≤ 65536 by first | assumption | omega) (show (x3).toInt + 1 ≤ (k : Int) by first | assumption | omega) (show 0 ≤ (x3).toInt by first | assumption | omega) (show (x3).toInt ≤ 65536 by first | assumption | omega) (show 65536 - (x3).toInt < _ by omega)) (fun r6 hr7 => ?_)
      obtain ⟨i8, ⟨u9, u10, u11⟩⟩ := hr7
      have u12 := kp_t kp_r u9
      have v13 : q_V r6 = q_V δ := (u10).trans rfl
      have v14 := kr_t (kr_r (ad := ad)) u11
      exact ⟨by assumption, ⟨kp_w (by decide) u12, v13, kr_w (by decide) v14⟩⟩
    · have c15 : x3.toInt < (0 : Int) := o_nle h4
      refine ok_bind (k_X12_asks L hN (a0 := a0) (x1 := x1) (x2 := x2) k_a0 (show 0 ≤ (x2).toInt by first | assumption | omega) (show (x2).toInt ≤ 16 by first | assumption | omega) I) (fun r16 hr17 => ?_)
      obtain ⟨i18, ⟨u19, u20, u21⟩⟩ := hr17
      have u22 := kp_t kp_r u19
      have v23 : q_V r16 = q_V δ := (u20).trans rfl
      have v24 := kr_t (kr_r (ad := ad)) u21
      exact ok_some (show RI ad h.1 δ0 r16 ∧ (kp [(12, 36), (12, 37), (12, 38), (12, 39)] δ r16 ∧ q_V r16 = q_V δ ∧ kr ad [119, 120, 121] δ r16) from ⟨i18, ⟨kp_w (by decide) u22, v23, kr_w (by decide) v24⟩⟩)
set_option maxHeartbeats 4000000 in
theorem k_X12_sets {ad : List Nat} {h : hp} (L : Lay TLx ad h) {δ0 : dp} {N : Nat} (hN : 10000000 ≤ N) {a0 : Nat} {x1 : Int32} {x2 : Int32} {x3 : Int32} {x4 : Int32} (k_a0 : q_K h.1 a0 = 12) {δ : dp} (z0 : 0 ≤ (x2).toInt) (z1 : (x2).toInt ≤ 16) (z2 : -1 ≤ (x3).toInt) (z3 : (x3).toInt ≤ 15) (z4 : (x4).toInt ≤ 65536) (hd : (x3).toInt + 1 < 20) (I : RI ad h.1 δ0 δ) : ok (D_X12_sets N h.1 a0 x1 x2 x3 x4 δ) (fun r => RI ad h.1 δ0 r ∧ (kp [(12, 36), (12, 37), (12, 38), (12, 39)] δ r ∧ q_V r = q_V δ ∧ kr ad [119, 120, 121] δ r)) := ke_X12_sets L hN 20 a0 x1 x2 x3 x4 δ k_a0 z0 z1 z2 z3 z4 hd I
set_option maxHeartbeats 4000000 in
theorem kl_X12_findWorst_7 {ad : List Nat} {h : hp} (L : Lay TLx ad h) {δ0 : dp} {N : Nat} (hN : 10000000 ≤ N) {a0 : Nat} {x1 : Int32} {x2 : Int32} (k_a0 : q_K h.1 a0 = 12) : ∀ (n : Nat) (x3v : Int32) (δ : dp), RI ad h.1 δ0 δ → 0 ≤ (x2).toInt → (x2).toInt ≤ 16 → 0 ≤ (x3v).toInt → (x3v).toInt ≤ 17 → 17 - (x3v).toInt < (n : Int) → ok (L_X12_findWorst_7 N h.1 a0 x1 x2 n x3v δ) (fun r => RI ad h.1 δ0 r ∧ (kp [(12, 36), (12, 37), (12, 38), (12, 39)] δ r ∧ q_V r = q_V δ ∧ kr ad [119, 120, 121] δ r)) := by
  intro n
  induction n with
  | zero =>
    intro x3v δ I j0 j1 j2 j3 hm
    have f1 := ti_b x2
    have f2 := ti_b x3v
    exfalso; omega
  | succ n ih =>
    intro x3v δ I j0 j1 j2 j3 hm
    unfold L_X12_findWorst_7
    have f1 := ti_b x2
    have f2 := ti_b x3v
    refine ok_ite (fun h3 => ?_) (fun h3 => ?_)
    · have c4 : x2.toInt < x3v.toInt := o_lt h3
      unfold J_X12_findWorst_39
      exact ok_some (show RI ad h.1 δ0 δ ∧ (kp [(12, 36), (12, 37), (12, 38), (12, 39)] δ δ ∧ q_V δ = q_V δ ∧ kr ad [119, 120, 121] δ δ) from ⟨I, ⟨kp_w (by decide) kp_r, rfl, kr_w (by decide) (kr_r (ad := ad))⟩⟩)
    · have c5 : x3v.toInt ≤ x2.toInt := o_nlt h3
      refine ok_bind (k_X12_all L hN (a0 := a0) k_a0 I) (fun r6 hr7 => ?_)
      obtain ⟨i8, p9, p10, p11, p12⟩ := hr7
      try rw [i8]
      have f13 := ti_b r6.1
      have f14 := cb_12_10 I k_a0
      have f15 := ti_b r6.1
      refine ok_ite (fun h16 => ?_) (fun h16 => ?_)
      · have c17 : r6.1.toInt < x3v.toInt := o_lt h16
        unfold J_X12_findWorst_39
        exact ok_some (show RI ad h.1 δ0 δ ∧ (kp [(12, 36), (12, 37), (12, 38), (12, 39)] δ δ ∧ q_V δ = q_V δ ∧ kr ad [119, 120, 121] δ δ) from ⟨I, ⟨kp_w (by decide) kp_r, rfl, kr_w (by decide) (kr_r (ad := ad))⟩⟩)
      · have c18 : x3v.toInt ≤ r6.1.toInt := o_nlt h16
        refine ok_bind (k_X12_all L hN (a0 := a0) k_a0 I) (fun r19 hr20 => ?_)
        obtain ⟨i21, p22, p23, p24, p25⟩ := hr20
        try rw [i21]
        have f26 := ti_b r19.1
        have f27 := ti_b r19.1
        first | (have q31 := te_subc (c := 1) (n := 1) rfl x3v (by omega) (by omega); obtain ⟨f32, f33, f34⟩ := q31) | (obtain ⟨q31, f32, f33, f34⟩ := ti_subc (c := 1) (n := 1) rfl x3v)
        refine ok_bind (k_X12_sets L hN (a0 := a0) (x1 := x1) (x2 := x3v) (x3 := (x3v - (1 : Int32))) (x4 := r19.1) k_a0 (show 0 ≤ (x3v).toInt by first | assumption | omega) (show (x3v).toInt ≤ 16 by first | assumption | omega) (show -1 ≤ ((x3v - (1 : Int32))).toInt by first | assumption | omega) (show ((x3v - (1 : Int32))).toInt ≤ 15 by first | assumption | omega) (show (r19.1).toInt ≤ 65536 by first | assumption | omega) (show ((x3v - (1 : Int32))).toInt + 1 < 20 by first | assumption | omega) I) (fun r28 hr29 => ?_)
        obtain ⟨i35, ⟨u36, u37, u38⟩⟩ := hr29
        have u39 := kp_t kp_r u36
        have v40 : q_V r28 = q_V δ := (u37).trans rfl
        have v41 := kr_t (kr_r (ad := ad)) u38
        refine ok_biv (fun vx42 e43 => ?_)
        first | (have q44 := te_addc (c := 1) (n := 1) rfl x3v (by omega) (by omega); rw [← e43] at q44; obtain ⟨f45, f46, f47⟩ := q44) | (obtain ⟨q44, f45, f46, f47⟩ : ∃ q : Int, vx42.toInt = x3v.toInt + (1 : Int) + 4294967296 * q ∧ -2147483648 ≤ vx42.toInt ∧ vx42.toInt ≤ 2147483647 := by rw [e43]; exact ti_addc (c := 1) (n := 1) rfl x3v)
        refine ok_mono (ih vx42 r28 i35 (show 0 ≤ (x2).toInt by first | assumption | omega) (show (x2).toInt ≤ 16 by first | assumption | omega) (show 0 ≤ (vx42).toInt by first | assumption | omega) (show (vx42).toInt ≤ 17 by first | assumption | omega) (show 17 - (vx42).toInt < _ by omega)) (fun r48 hr49 => ?_)
        obtain ⟨i50, ⟨u51, u52, u53⟩⟩ := hr49
        have u54 := kp_t u39 u51
        have v55 : q_V r48 = q_V δ := (u52).trans v40
        have v56 := kr_t v41 u53
        exact ⟨by assumption, ⟨kp_w (by decide) u54, v55, kr_w (by decide) v56⟩⟩
set_option maxHeartbeats 4000000 in
theorem k_X12_findWorst {ad : List Nat} {h : hp} (L : Lay TLx ad h) {δ0 : dp} {N : Nat} (hN : 10000000 ≤ N) {a0 : Nat} {x1 : Int32} {x2 : Int32} (k_a0 : q_K h.1 a0 = 12) {δ : dp} (z0 : 0 ≤ (x2).toInt) (z1 : (x2).toInt ≤ 16) (I : RI ad h.1 δ0 δ) : ok (D_X12_findWorst N h.1 a0 x1 x2 δ) (fun r => RI ad h.1 δ0 r ∧ (kp [(12, 36), (12, 37), (12, 38), (12, 39)] δ r ∧ q_V r = q_V δ ∧ kr ad [119, 120, 121] δ r)) := by
  unfold D_X12_findWorst
  have f1 := ti_b x2
  refine ok_bdv (fun d2 e3 => ?_)
  have i4 : RI ad h.1 δ0 d2 := by rw [e3]; exact cs_12_37 L I
  have u5 := kp_I kp_r e3
  have v6 : q_V d2 = q_V δ := ((show q_V d2 = q_V δ by rw [e3]; rfl)).trans rfl
  have v7 := kr_N (kr_r (ad := ad)) (show q_R d2 = q_R δ by rw [e3]; rfl)
  refine ok_mono (kl_X12_findWorst_7 L hN   k_a0 _ (0 : Int32) d2 i4 (show 0 ≤ (x2).toInt by first | assumption | omega) (show (x2).toInt ≤ 16 by first | assumption | omega) (show 0 ≤ (0 : Int) by first | assumption | omega) (show (0 : Int) ≤ 17 by first | assumption | omega) (show 17 - (0 : Int) < _ by omega)) (fun r8 hr9 => ?_)
  obtain ⟨i10, ⟨u11, u12, u13⟩⟩ := hr9
  have u14 := kp_t u5 u11
  have v15 : q_V r8 = q_V δ := (u12).trans v6
  have v16 := kr_t v7 u13
  exact ⟨by assumption, ⟨kp_w (by decide) u14, v15, kr_w (by decide) v16⟩⟩
set_option maxHeartbeats 4000000 in
theorem k_X12_worst {ad : List Nat} {h : hp} (L : Lay TLx ad h) {δ0 : dp} {N : Nat} (hN : 10000000 ≤ N) {a0 : Nat} {x1 : Int32} {x2 : Int32} {x3 : Int32} (k_a0 : q_K h.1 a0 = 12) {δ : dp} (I : RI ad h.1 δ0 δ) : ok (D_X12_worst N h.1 a0 x1 x2 x3 δ) (fun r => RI ad h.1 δ0 r.2 ∧ (kp [(12, 0), (12, 36), (12, 37), (12, 38), (12, 39)] δ r.2 ∧ q_V r.2 = q_V δ ∧ kr ad [100, 119, 120, 121] δ r.2)) := by
  unfold D_X12_worst
  refine ok_bdv (fun d1 e2 => ?_)
  have i3 : RI ad h.1 δ0 d1 := by rw [e2]; exact cs_12_0 L I
  have u4 := kp_I kp_r e2
  have v5 : q_V d1 = q_V δ := ((show q_V d1 = q_V δ by rw [e2]; rfl)).trans rfl
  have v6 := kr_N (kr_r (ad := ad)) (show q_R d1 = q_R δ by rw [e2]; rfl)
  refine ok_bind (k_X12_isCall L hN (x0 := x1)  i3) (fun r7 hr8 => ?_)
  obtain ⟨i9, p10, p11⟩ := hr8
  try rw [i9]
  have f12 := bo_l p10
  have f13 := ti_b r7.1
  have f14 := ti_b x1
  have f15 := ti_b r7.1
  refine ok_ite (fun h16 => ?_) (fun h16 => ?_)
  · have c17 : r7.1.toInt = (0 : Int) := o_eq h16
    unfold J_X12_worst_34
    unfold J_X12_worst_35
    refine ok_bind (k_X12_may L hN (a0 := a0) (x1 := (0 : Int32)) (x2 := (1 : Int32)) (x3 := (2 : Int32)) k_a0 (show (1 : Int) ≠ 0 by first | assumption | omega) (show 0 ≤ (2 : Int) by first | assumption | omega) (show (2 : Int) ≤ 2 by first | assumption | omega) i3) (fun r18 hr19 => ?_)
    obtain ⟨i20, ⟨u24, u25, u26⟩, p21, p22, p23⟩ := hr19
    have u27 := kp_t u4 u24
    have v28 : q_V r18.2 = q_V δ := (u25).trans v5
    have v29 := kr_t v6 u26
    have f30 := bo_l p21
    have f31 := ti_b r18.1
    replace p22 : ((r18.1).toInt = 1 → (0 : Int) ≠ 0) := p22
    have f32 := ti_b (q_I d1 12 0 a0)
    have f33 : (q_I d1 12 0 a0).toInt = (0 : Int) := congrArg Int32.toInt (show q_I d1 12 0 a0 = (0 : Int32) by rw [e2]; exact rI_s)
    replace p23 : ((q_I d1 12 0 a0).toInt = 0 → (r18.1).toInt = 0 → (0 : Int) = 0) := p23
    have f34 := ti_b r18.1
    refine ok_ite (fun h35 => ?_) (fun h35 => ?_)
    · have c36 : r18.1.toInt = (0 : Int) := o_eq h35
      exact ok_some (show RI ad h.1 δ0 r18.2 ∧ (kp [(12, 0), (12, 36), (12, 37), (12, 38), (12, 39)] δ r18.2 ∧ q_V r18.2 = q_V δ ∧ kr ad [100, 119, 120, 121] δ r18.2) from ⟨i20, ⟨kp_w (by decide) u27, v28, kr_w (by decide) v29⟩⟩)
    · have c37 : r18.1.toInt ≠ (0 : Int) := o_ne h35
      have f40 := ti_b x2
      refine ok_bind (k_X12_findWorst L hN (a0 := a0) (x1 := x1) (x2 := x2) k_a0 (show 0 ≤ (x2).toInt by first | assumption | omega) (show (x2).toInt ≤ 16 by first | assumption | omega) i20) (fun r38 hr39 => ?_)
      obtain ⟨i41, ⟨u42, u43, u44⟩⟩ := hr39
      have u45 := kp_t u27 u42
      have v46 : q_V r38 = q_V δ := (u43).trans v28
      have v47 := kr_t v29 u44
      have f48 := ti_b x3
      refine ok_ite (fun h49 => ?_) (fun h49 => ?_)
      · have c50 : x3.toInt = (0 : Int) := o_eq h49
        unfold J_X12_worst_78
        exact ok_some (show RI ad h.1 δ0 r38 ∧ (kp [(12, 0), (12, 36), (12, 37), (12, 38), (12, 39)] δ r38 ∧ q_V r38 = q_V δ ∧ kr ad [100, 119, 120, 121] δ r38) from ⟨i41, ⟨kp_w (by decide) u45, v46, kr_w (by decide) v47⟩⟩)
      · have c51 : x3.toInt ≠ (0 : Int) := o_ne h49
        refine ok_ite (fun h52 => ?_) (fun h52 => ?_)
        · have c53 : x3.toInt = (1 : Int) := o_eq h52
          unfold J_X12_worst_78
          exact ok_some (show RI ad h.1 δ0 r38 ∧ (kp [(12, 0), (12, 36), (12, 37), (12, 38), (12, 39)] δ r38 ∧ q_V r38 = q_V δ ∧ kr ad [100, 119, 120, 121] δ r38) from ⟨i41, ⟨kp_w (by decide) u45, v46, kr_w (by decide) v47⟩⟩)
        · have c54 : x3.toInt ≠ (1 : Int) := o_ne h52
          unfold J_X12_worst_78
          exact ok_some (show RI ad h.1 δ0 r38 ∧ (kp [(12, 0), (12, 36), (12, 37), (12, 38), (12, 39)] δ r38 ∧ q_V r38 = q_V δ ∧ kr ad [100, 119, 120, 121] δ r38) from ⟨i41, ⟨kp_w (by decide) u45, v46, kr_w (by decide) v47⟩⟩)
  · have c55 : r7.1.toInt ≠ (0 : Int) := o_ne h16
    refine ok_bind (k_X12_isWorst L hN (a0 := a0) (x1 := x2) k_a0 i3) (fun r56 hr57 => ?_)
    obtain ⟨i58, p59, p60⟩ := hr57
    try rw [i58]
    have f61 := bo_l p59
    have f62 := ti_b r56.1
    have f63 := ti_b x2
    have f64 := ti_b r56.1
    refine ok_ite (fun h65 => ?_) (fun h65 => ?_)
    · have c66 : r56.1.toInt = (0 : Int) := o_eq h65
      unfold J_X12_worst_34
      unfold J_X12_worst_35
      refine ok_bind (k_X12_may L hN (a0 := a0) (x1 := (0 : Int32)) (x2 := (1 : Int32)) (x3 := (2 : Int32)) k_a0 (show (1 : Int) ≠ 0 by first | assumption | omega) (show 0 ≤ (2 : Int) by first | assumption | omega) (show (2 : Int) ≤ 2 by first | assumption | omega) i3) (fun r67 hr68 => ?_)
      obtain ⟨i69, ⟨u73, u74, u75⟩, p70, p71, p72⟩ := hr68
      have u76 := kp_t u4 u73
      have v77 : q_V r67.2 = q_V δ := (u74).trans v5
      have v78 := kr_t v6 u75
      have f79 := bo_l p70
      have f80 := ti_b r67.1
      replace p71 : ((r67.1).toInt = 1 → (0 : Int) ≠ 0) := p71
      have f81 := ti_b (q_I d1 12 0 a0)
      have f82 : (q_I d1 12 0 a0).toInt = (0 : Int) := congrArg Int32.toInt (show q_I d1 12 0 a0 = (0 : Int32) by rw [e2]; exact rI_s)
      replace p72 : ((q_I d1 12 0 a0).toInt = 0 → (r67.1).toInt = 0 → (0 : Int) = 0) := p72
      have f83 := ti_b r67.1
      refine ok_ite (fun h84 => ?_) (fun h84 => ?_)
      · have c85 : r67.1.toInt = (0 : Int) := o_eq h84
        exact ok_some (show RI ad h.1 δ0 r67.2 ∧ (kp [(12, 0), (12, 36), (12, 37), (12, 38), (12, 39)] δ r67.2 ∧ q_V r67.2 = q_V δ ∧ kr ad [100, 119, 120, 121] δ r67.2) from ⟨i69, ⟨kp_w (by decide) u76, v77, kr_w (by decide) v78⟩⟩)
      · have c86 : r67.1.toInt ≠ (0 : Int) := o_ne h84
        refine ok_bind (k_X12_findWorst L hN (a0 := a0) (x1 := x1) (x2 := x2) k_a0 (show 0 ≤ (x2).toInt by first | assumption | omega) (show (x2).toInt ≤ 16 by first | assumption | omega) i69) (fun r87 hr88 => ?_)
        obtain ⟨i89, ⟨u90, u91, u92⟩⟩ := hr88
        have u93 := kp_t u76 u90
        have v94 : q_V r87 = q_V δ := (u91).trans v77
        have v95 := kr_t v78 u92
        have f96 := ti_b x3
        refine ok_ite (fun h97 => ?_) (fun h97 => ?_)
        · have c98 : x3.toInt = (0 : Int) := o_eq h97
          unfold J_X12_worst_78
          exact ok_some (show RI ad h.1 δ0 r87 ∧ (kp [(12, 0), (12, 36), (12, 37), (12, 38), (12, 39)] δ r87 ∧ q_V r87 = q_V δ ∧ kr ad [100, 119, 120, 121] δ r87) from ⟨i89, ⟨kp_w (by decide) u93, v94, kr_w (by decide) v95⟩⟩)
        · have c99 : x3.toInt ≠ (0 : Int) := o_ne h97
          refine ok_ite (fun h100 => ?_) (fun h100 => ?_)
          · have c101 : x3.toInt = (1 : Int) := o_eq h100
            unfold J_X12_worst_78
            exact ok_some (show RI ad h.1 δ0 r87 ∧ (kp [(12, 0), (12, 36), (12, 37), (12, 38), (12, 39)] δ r87 ∧ q_V r87 = q_V δ ∧ kr ad [100, 119, 120, 121] δ r87) from ⟨i89, ⟨kp_w (by decide) u93, v94, kr_w (by decide) v95⟩⟩)
          · have c102 : x3.toInt ≠ (1 : Int) := o_ne h100
            unfold J_X12_worst_78
            exact ok_some (show RI ad h.1 δ0 r87 ∧ (kp [(12, 0), (12, 36), (12, 37), (12, 38), (12, 39)] δ r87 ∧ q_V r87 = q_V δ ∧ kr ad [100, 119, 120, 121] δ r87) from ⟨i89, ⟨kp_w (by decide) u93, v94, kr_w (by decide) v95⟩⟩)
    · have c103 : r56.1.toInt ≠ (0 : Int) := o_ne h65
      refine ok_bind (k_X12_within L hN (x0 := x3) (x1 := (0 : Int32)) (x2 := (2 : Int32))  i3) (fun r104 hr105 => ?_)
      obtain ⟨i106, p107, p108, p109⟩ := hr105
      try rw [i106]
      have f110 := bo_l p107
      have f111 := ti_b r104.1
      have f112 := ti_b x3
      replace p108 : ((r104.1).toInt = 1 → (0 : Int) ≤ (x3).toInt ∧ (x3).toInt ≤ (2 : Int)) := p108
      replace p109 : ((r104.1).toInt = 0 → (x3).toInt < (0 : Int) ∨ (2 : Int) < (x3).toInt) := p109
      have f113 := ti_b r104.1
      refine ok_ite (fun h114 => ?_) (fun h114 => ?_)
      · have c115 : r104.1.toInt = (0 : Int) := o_eq h114
        unfold J_X12_worst_34
        unfold J_X12_worst_35
        refine ok_bind (k_X12_may L hN (a0 := a0) (x1 := (0 : Int32)) (x2 := (1 : Int32)) (x3 := (2 : Int32)) k_a0 (show (1 : Int) ≠ 0 by first | assumption | omega) (show 0 ≤ (2 : Int) by first | assumption | omega) (show (2 : Int) ≤ 2 by first | assumption | omega) i3) (fun r116 hr117 => ?_)
        obtain ⟨i118, ⟨u122, u123, u124⟩, p119, p120, p121⟩ := hr117
        have u125 := kp_t u4 u122
        have v126 : q_V r116.2 = q_V δ := (u123).trans v5
        have v127 := kr_t v6 u124
        have f128 := bo_l p119
        have f129 := ti_b r116.1
        replace p120 : ((r116.1).toInt = 1 → (0 : Int) ≠ 0) := p120
        have f130 := ti_b (q_I d1 12 0 a0)
        have f131 : (q_I d1 12 0 a0).toInt = (0 : Int) := congrArg Int32.toInt (show q_I d1 12 0 a0 = (0 : Int32) by rw [e2]; exact rI_s)
        replace p121 : ((q_I d1 12 0 a0).toInt = 0 → (r116.1).toInt = 0 → (0 : Int) = 0) := p121
        have f132 := ti_b r116.1
        refine ok_ite (fun h133 => ?_) (fun h133 => ?_)
        · have c134 : r116.1.toInt = (0 : Int) := o_eq h133
          exact ok_some (show RI ad h.1 δ0 r116.2 ∧ (kp [(12, 0), (12, 36), (12, 37), (12, 38), (12, 39)] δ r116.2 ∧ q_V r116.2 = q_V δ ∧ kr ad [100, 119, 120, 121] δ r116.2) from ⟨i118, ⟨kp_w (by decide) u125, v126, kr_w (by decide) v127⟩⟩)
        · have c135 : r116.1.toInt ≠ (0 : Int) := o_ne h133
          refine ok_bind (k_X12_findWorst L hN (a0 := a0) (x1 := x1) (x2 := x2) k_a0 (show 0 ≤ (x2).toInt by first | assumption | omega) (show (x2).toInt ≤ 16 by first | assumption | omega) i118) (fun r136 hr137 => ?_)
          obtain ⟨i138, ⟨u139, u140, u141⟩⟩ := hr137
          have u142 := kp_t u125 u139
          have v143 : q_V r136 = q_V δ := (u140).trans v126
          have v144 := kr_t v127 u141
          refine ok_ite (fun h145 => ?_) (fun h145 => ?_)
          · have c146 : x3.toInt = (0 : Int) := o_eq h145
            unfold J_X12_worst_78
            exact ok_some (show RI ad h.1 δ0 r136 ∧ (kp [(12, 0), (12, 36), (12, 37), (12, 38), (12, 39)] δ r136 ∧ q_V r136 = q_V δ ∧ kr ad [100, 119, 120, 121] δ r136) from ⟨i138, ⟨kp_w (by decide) u142, v143, kr_w (by decide) v144⟩⟩)
          · have c147 : x3.toInt ≠ (0 : Int) := o_ne h145
            refine ok_ite (fun h148 => ?_) (fun h148 => ?_)
            · have c149 : x3.toInt = (1 : Int) := o_eq h148
              unfold J_X12_worst_78
              exact ok_some (show RI ad h.1 δ0 r136 ∧ (kp [(12, 0), (12, 36), (12, 37), (12, 38), (12, 39)] δ r136 ∧ q_V r136 = q_V δ ∧ kr ad [100, 119, 120, 121] δ r136) from ⟨i138, ⟨kp_w (by decide) u142, v143, kr_w (by decide) v144⟩⟩)
            · have c150 : x3.toInt ≠ (1 : Int) := o_ne h148
              unfold J_X12_worst_78
              exact ok_some (show RI ad h.1 δ0 r136 ∧ (kp [(12, 0), (12, 36), (12, 37), (12, 38), (12, 39)] δ r136 ∧ q_V r136 = q_V δ ∧ kr ad [100, 119, 120, 121] δ r136) from ⟨i138, ⟨kp_w (by decide) u142, v143, kr_w (by decide) v144⟩⟩)
      · have c151 : r104.1.toInt ≠ (0 : Int) := o_ne h114
        unfold J_X12_worst_35
        refine ok_bind (k_X12_may L hN (a0 := a0) (x1 := (1 : Int32)) (x2 := (1 : Int32)) (x3 := (2 : Int32)) k_a0 (show (1 : Int) ≠ 0 by first | assumption | omega) (show 0 ≤ (2 : Int) by first | assumption | omega) (show (2 : Int) ≤ 2 by first | assumption | omega) i3) (fun r152 hr153 => ?_)
        obtain ⟨i154, ⟨u158, u159, u160⟩, p155, p156, p157⟩ := hr153
        have u161 := kp_t u4 u158
        have v162 : q_V r152.2 = q_V δ := (u159).trans v5
        have v163 := kr_t v6 u160
        have f164 := bo_l p155
        have f165 := ti_b r152.1
        replace p156 : ((r152.1).toInt = 1 → (1 : Int) ≠ 0) := p156
        have f166 := ti_b (q_I d1 12 0 a0)
        have f167 : (q_I d1 12 0 a0).toInt = (0 : Int) := congrArg Int32.toInt (show q_I d1 12 0 a0 = (0 : Int32) by rw [e2]; exact rI_s)
        replace p157 : ((q_I d1 12 0 a0).toInt = 0 → (r152.1).toInt = 0 → (1 : Int) = 0) := p157
        have f168 := ti_b r152.1
        refine ok_ite (fun h169 => ?_) (fun h169 => ?_)
        · have c170 : r152.1.toInt = (0 : Int) := o_eq h169
          exact ok_some (show RI ad h.1 δ0 r152.2 ∧ (kp [(12, 0), (12, 36), (12, 37), (12, 38), (12, 39)] δ r152.2 ∧ q_V r152.2 = q_V δ ∧ kr ad [100, 119, 120, 121] δ r152.2) from ⟨i154, ⟨kp_w (by decide) u161, v162, kr_w (by decide) v163⟩⟩)
        · have c171 : r152.1.toInt ≠ (0 : Int) := o_ne h169
          refine ok_bind (k_X12_findWorst L hN (a0 := a0) (x1 := x1) (x2 := x2) k_a0 (show 0 ≤ (x2).toInt by first | assumption | omega) (show (x2).toInt ≤ 16 by first | assumption | omega) i154) (fun r172 hr173 => ?_)
          obtain ⟨i174, ⟨u175, u176, u177⟩⟩ := hr173
          have u178 := kp_t u161 u175
          have v179 : q_V r172 = q_V δ := (u176).trans v162
          have v180 := kr_t v163 u177
          refine ok_ite (fun h181 => ?_) (fun h181 => ?_)
          · have c182 : x3.toInt = (0 : Int) := o_eq h181
            unfold J_X12_worst_78
            exact ok_some (show RI ad h.1 δ0 r172 ∧ (kp [(12, 0), (12, 36), (12, 37), (12, 38), (12, 39)] δ r172 ∧ q_V r172 = q_V δ ∧ kr ad [100, 119, 120, 121] δ r172) from ⟨i174, ⟨kp_w (by decide) u178, v179, kr_w (by decide) v180⟩⟩)
          · have c183 : x3.toInt ≠ (0 : Int) := o_ne h181
            refine ok_ite (fun h184 => ?_) (fun h184 => ?_)
            · have c185 : x3.toInt = (1 : Int) := o_eq h184
              unfold J_X12_worst_78
              exact ok_some (show RI ad h.1 δ0 r172 ∧ (kp [(12, 0), (12, 36), (12, 37), (12, 38), (12, 39)] δ r172 ∧ q_V r172 = q_V δ ∧ kr ad [100, 119, 120, 121] δ r172) from ⟨i174, ⟨kp_w (by decide) u178, v179, kr_w (by decide) v180⟩⟩)
            · have c186 : x3.toInt ≠ (1 : Int) := o_ne h184
              unfold J_X12_worst_78
              exact ok_some (show RI ad h.1 δ0 r172 ∧ (kp [(12, 0), (12, 36), (12, 37), (12, 38), (12, 39)] δ r172 ∧ q_V r172 = q_V δ ∧ kr ad [100, 119, 120, 121] δ r172) from ⟨i174, ⟨kp_w (by decide) u178, v179, kr_w (by decide) v180⟩⟩)
set_option maxHeartbeats 4000000 in
theorem k_X12_bad {ad : List Nat} {h : hp} (L : Lay TLx ad h) {δ0 : dp} {N : Nat} (hN : 10000000 ≤ N) {a0 : Nat} {x1 : Int32} {x2 : Int32} {x3 : Int32} (k_a0 : q_K h.1 a0 = 12) {δ : dp} (I : RI ad h.1 δ0 δ) : ok (D_X12_bad N h.1 a0 x1 x2 x3 δ) (fun r => RI ad h.1 δ0 r.2 ∧ (kp [(12, 0), (12, 36), (12, 37), (12, 38), (12, 39)] δ r.2 ∧ q_V r.2 = q_V δ ∧ kr ad [100, 119, 120, 121] δ r.2)) := by
  unfold D_X12_bad
  refine ok_bdv (fun d1 e2 => ?_)
  have i3 : RI ad h.1 δ0 d1 := by rw [e2]; exact cs_12_0 L I
  have u4 := kp_I kp_r e2
  have v5 : q_V d1 = q_V δ := ((show q_V d1 = q_V δ by rw [e2]; rfl)).trans rfl
  have v6 := kr_N (kr_r (ad := ad)) (show q_R d1 = q_R δ by rw [e2]; rfl)
  refine ok_bind (k_X12_isCall L hN (x0 := x1)  i3) (fun r7 hr8 => ?_)
  obtain ⟨i9, p10, p11⟩ := hr8
  try rw [i9]
  have f12 := bo_l p10
  have f13 := ti_b r7.1
  have f14 := ti_b x1
  have f15 := ti_b r7.1
  refine ok_ite (fun h16 => ?_) (fun h16 => ?_)
  · have c17 : r7.1.toInt = (0 : Int) := o_eq h16
    unfold J_X12_bad_25
    unfold J_X12_bad_26
    refine ok_bind (k_X12_may L hN (a0 := a0) (x1 := (0 : Int32)) (x2 := (1 : Int32)) (x3 := (2 : Int32)) k_a0 (show (1 : Int) ≠ 0 by first | assumption | omega) (show 0 ≤ (2 : Int) by first | assumption | omega) (show (2 : Int) ≤ 2 by first | assumption | omega) i3) (fun r18 hr19 => ?_)
    obtain ⟨i20, ⟨u24, u25, u26⟩, p21, p22, p23⟩ := hr19
    have u27 := kp_t u4 u24
    have v28 : q_V r18.2 = q_V δ := (u25).trans v5
    have v29 := kr_t v6 u26
    have f30 := bo_l p21
    have f31 := ti_b r18.1
    replace p22 : ((r18.1).toInt = 1 → (0 : Int) ≠ 0) := p22
    have f32 := ti_b (q_I d1 12 0 a0)
    have f33 : (q_I d1 12 0 a0).toInt = (0 : Int) := congrArg Int32.toInt (show q_I d1 12 0 a0 = (0 : Int32) by rw [e2]; exact rI_s)
    replace p23 : ((q_I d1 12 0 a0).toInt = 0 → (r18.1).toInt = 0 → (0 : Int) = 0) := p23
    have f34 := ti_b r18.1
    refine ok_ite (fun h35 => ?_) (fun h35 => ?_)
    · have c36 : r18.1.toInt = (0 : Int) := o_eq h35
      exact ok_some (show RI ad h.1 δ0 r18.2 ∧ (kp [(12, 0), (12, 36), (12, 37), (12, 38), (12, 39)] δ r18.2 ∧ q_V r18.2 = q_V δ ∧ kr ad [100, 119, 120, 121] δ r18.2) from ⟨i20, ⟨kp_w (by decide) u27, v28, kr_w (by decide) v29⟩⟩)
    · have c37 : r18.1.toInt ≠ (0 : Int) := o_ne h35
      have f40 := ti_b x2
      refine ok_bind (k_X12_findWorst L hN (a0 := a0) (x1 := x1) (x2 := x2) k_a0 (show 0 ≤ (x2).toInt by first | assumption | omega) (show (x2).toInt ≤ 16 by first | assumption | omega) i20) (fun r38 hr39 => ?_)
      obtain ⟨i41, ⟨u42, u43, u44⟩⟩ := hr39
      have u45 := kp_t u27 u42
      have v46 : q_V r38 = q_V δ := (u43).trans v28
      have v47 := kr_t v29 u44
      refine ok_bind (k_X12_within L hN (x0 := x3) (x1 := (0 : Int32)) (x2 := ((q_I r38 12 38 a0) - (1 : Int32)))  i41) (fun r48 hr49 => ?_)
      obtain ⟨i50, p51, p52, p53⟩ := hr49
      try rw [i50]
      have f54 := bo_l p51
      have f55 := ti_b r48.1
      have f56 := ti_b x3
      have f57 := cb_12_38 i41 k_a0
      first | (have q59 := te_subc (c := 1) (n := 1) rfl (q_I r38 12 38 a0) (by omega) (by omega); obtain ⟨f60, f61, f62⟩ := q59) | (obtain ⟨q59, f60, f61, f62⟩ := ti_subc (c := 1) (n := 1) rfl (q_I r38 12 38 a0))
      replace p52 : ((r48.1).toInt = 1 → (0 : Int) ≤ (x3).toInt ∧ (x3).toInt ≤ (((q_I r38 12 38 a0) - (1 : Int32))).toInt) := p52
      replace p53 : ((r48.1).toInt = 0 → (x3).toInt < (0 : Int) ∨ (((q_I r38 12 38 a0) - (1 : Int32))).toInt < (x3).toInt) := p53
      have f63 := ti_b r48.1
      refine ok_ite (fun h64 => ?_) (fun h64 => ?_)
      · have c65 : r48.1.toInt = (0 : Int) := o_eq h64
        unfold J_X12_bad_66
        exact ok_some (show RI ad h.1 δ0 r38 ∧ (kp [(12, 0), (12, 36), (12, 37), (12, 38), (12, 39)] δ r38 ∧ q_V r38 = q_V δ ∧ kr ad [100, 119, 120, 121] δ r38) from ⟨i41, ⟨kp_w (by decide) u45, v46, kr_w (by decide) v47⟩⟩)
      · have c66 : r48.1.toInt ≠ (0 : Int) := o_ne h64
        obtain ⟨b67, o68, k69, n70, w71⟩ := gO_12_41 L k_a0
        obtain rfl := gS_12_41 L k_a0 o68
        refine ok_at o68 ?_
        have t72 := ti_tn x3
        refine ok_gd (fun hc73 => ?_) ?_
        · rcases hc73 with hc73 | hc73
          · have c74 : x3.toInt < (0 : Int) := o_lt hc73
            omega
          · omega
        unfold J_X12_bad_66
        exact ok_some (show RI ad h.1 δ0 r38 ∧ (kp [(12, 0), (12, 36), (12, 37), (12, 38), (12, 39)] δ r38 ∧ q_V r38 = q_V δ ∧ kr ad [100, 119, 120, 121] δ r38) from ⟨i41, ⟨kp_w (by decide) u45, v46, kr_w (by decide) v47⟩⟩)
  · have c75 : r7.1.toInt ≠ (0 : Int) := o_ne h16
    refine ok_bind (k_X12_isWorst L hN (a0 := a0) (x1 := x2) k_a0 i3) (fun r76 hr77 => ?_)
    obtain ⟨i78, p79, p80⟩ := hr77
    try rw [i78]
    have f81 := bo_l p79
    have f82 := ti_b r76.1
    have f83 := ti_b x2
    have f84 := ti_b r76.1
    refine ok_ite (fun h85 => ?_) (fun h85 => ?_)
    · have c86 : r76.1.toInt = (0 : Int) := o_eq h85
      unfold J_X12_bad_25
      unfold J_X12_bad_26
      refine ok_bind (k_X12_may L hN (a0 := a0) (x1 := (0 : Int32)) (x2 := (1 : Int32)) (x3 := (2 : Int32)) k_a0 (show (1 : Int) ≠ 0 by first | assumption | omega) (show 0 ≤ (2 : Int) by first | assumption | omega) (show (2 : Int) ≤ 2 by first | assumption | omega) i3) (fun r87 hr88 => ?_)
      obtain ⟨i89, ⟨u93, u94, u95⟩, p90, p91, p92⟩ := hr88
      have u96 := kp_t u4 u93
      have v97 : q_V r87.2 = q_V δ := (u94).trans v5
      have v98 := kr_t v6 u95
      have f99 := bo_l p90
      have f100 := ti_b r87.1
      replace p91 : ((r87.1).toInt = 1 → (0 : Int) ≠ 0) := p91
      have f101 := ti_b (q_I d1 12 0 a0)
      have f102 : (q_I d1 12 0 a0).toInt = (0 : Int) := congrArg Int32.toInt (show q_I d1 12 0 a0 = (0 : Int32) by rw [e2]; exact rI_s)
      replace p92 : ((q_I d1 12 0 a0).toInt = 0 → (r87.1).toInt = 0 → (0 : Int) = 0) := p92
      have f103 := ti_b r87.1
      refine ok_ite (fun h104 => ?_) (fun h104 => ?_)
      · have c105 : r87.1.toInt = (0 : Int) := o_eq h104
        exact ok_some (show RI ad h.1 δ0 r87.2 ∧ (kp [(12, 0), (12, 36), (12, 37), (12, 38), (12, 39)] δ r87.2 ∧ q_V r87.2 = q_V δ ∧ kr ad [100, 119, 120, 121] δ r87.2) from ⟨i89, ⟨kp_w (by decide) u96, v97, kr_w (by decide) v98⟩⟩)
      · have c106 : r87.1.toInt ≠ (0 : Int) := o_ne h104
        refine ok_bind (k_X12_findWorst L hN (a0 := a0) (x1 := x1) (x2 := x2) k_a0 (show 0 ≤ (x2).toInt by first | assumption | omega) (show (x2).toInt ≤ 16 by first | assumption | omega) i89) (fun r107 hr108 => ?_)
        obtain ⟨i109, ⟨u110, u111, u112⟩⟩ := hr108
        have u113 := kp_t u96 u110
        have v114 : q_V r107 = q_V δ := (u111).trans v97
        have v115 := kr_t v98 u112
        refine ok_bind (k_X12_within L hN (x0 := x3) (x1 := (0 : Int32)) (x2 := ((q_I r107 12 38 a0) - (1 : Int32)))  i109) (fun r116 hr117 => ?_)
        obtain ⟨i118, p119, p120, p121⟩ := hr117
        try rw [i118]
        have f122 := bo_l p119
        have f123 := ti_b r116.1
        have f124 := ti_b x3
        have f125 := cb_12_38 i109 k_a0
        first | (have q127 := te_subc (c := 1) (n := 1) rfl (q_I r107 12 38 a0) (by omega) (by omega); obtain ⟨f128, f129, f130⟩ := q127) | (obtain ⟨q127, f128, f129, f130⟩ := ti_subc (c := 1) (n := 1) rfl (q_I r107 12 38 a0))
        replace p120 : ((r116.1).toInt = 1 → (0 : Int) ≤ (x3).toInt ∧ (x3).toInt ≤ (((q_I r107 12 38 a0) - (1 : Int32))).toInt) := p120
        replace p121 : ((r116.1).toInt = 0 → (x3).toInt < (0 : Int) ∨ (((q_I r107 12 38 a0) - (1 : Int32))).toInt < (x3).toInt) := p121
        have f131 := ti_b r116.1
        refine ok_ite (fun h132 => ?_) (fun h132 => ?_)
        · have c133 : r116.1.toInt = (0 : Int) := o_eq h132
          unfold J_X12_bad_66
          exact ok_some (show RI ad h.1 δ0 r107 ∧ (kp [(12, 0), (12, 36), (12, 37), (12, 38), (12, 39)] δ r107 ∧ q_V r107 = q_V δ ∧ kr ad [100, 119, 120, 121] δ r107) from ⟨i109, ⟨kp_w (by decide) u113, v114, kr_w (by decide) v115⟩⟩)
        · have c134 : r116.1.toInt ≠ (0 : Int) := o_ne h132
          obtain ⟨b135, o136, k137, n138, w139⟩ := gO_12_41 L k_a0
          obtain rfl := gS_12_41 L k_a0 o136
          refine ok_at o136 ?_
          have t140 := ti_tn x3
          refine ok_gd (fun hc141 => ?_) ?_
          · rcases hc141 with hc141 | hc141
            · have c142 : x3.toInt < (0 : Int) := o_lt hc141
              omega
            · omega
          unfold J_X12_bad_66
          exact ok_some (show RI ad h.1 δ0 r107 ∧ (kp [(12, 0), (12, 36), (12, 37), (12, 38), (12, 39)] δ r107 ∧ q_V r107 = q_V δ ∧ kr ad [100, 119, 120, 121] δ r107) from ⟨i109, ⟨kp_w (by decide) u113, v114, kr_w (by decide) v115⟩⟩)
    · have c143 : r76.1.toInt ≠ (0 : Int) := o_ne h85
      unfold J_X12_bad_26
      refine ok_bind (k_X12_may L hN (a0 := a0) (x1 := (1 : Int32)) (x2 := (1 : Int32)) (x3 := (2 : Int32)) k_a0 (show (1 : Int) ≠ 0 by first | assumption | omega) (show 0 ≤ (2 : Int) by first | assumption | omega) (show (2 : Int) ≤ 2 by first | assumption | omega) i3) (fun r144 hr145 => ?_)
      obtain ⟨i146, ⟨u150, u151, u152⟩, p147, p148, p149⟩ := hr145
      have u153 := kp_t u4 u150
      have v154 : q_V r144.2 = q_V δ := (u151).trans v5
      have v155 := kr_t v6 u152
      have f156 := bo_l p147
      have f157 := ti_b r144.1
      replace p148 : ((r144.1).toInt = 1 → (1 : Int) ≠ 0) := p148
      have f158 := ti_b (q_I d1 12 0 a0)
      have f159 : (q_I d1 12 0 a0).toInt = (0 : Int) := congrArg Int32.toInt (show q_I d1 12 0 a0 = (0 : Int32) by rw [e2]; exact rI_s)
      replace p149 : ((q_I d1 12 0 a0).toInt = 0 → (r144.1).toInt = 0 → (1 : Int) = 0) := p149
      have f160 := ti_b r144.1
      refine ok_ite (fun h161 => ?_) (fun h161 => ?_)
      · have c162 : r144.1.toInt = (0 : Int) := o_eq h161
        exact ok_some (show RI ad h.1 δ0 r144.2 ∧ (kp [(12, 0), (12, 36), (12, 37), (12, 38), (12, 39)] δ r144.2 ∧ q_V r144.2 = q_V δ ∧ kr ad [100, 119, 120, 121] δ r144.2) from ⟨i146, ⟨kp_w (by decide) u153, v154, kr_w (by decide) v155⟩⟩)
      · have c163 : r144.1.toInt ≠ (0 : Int) := o_ne h161
        refine ok_bind (k_X12_findWorst L hN (a0 := a0) (x1 := x1) (x2 := x2) k_a0 (show 0 ≤ (x2).toInt by first | assumption | omega) (show (x2).toInt ≤ 16 by first | assumption | omega) i146) (fun r164 hr165 => ?_)
        obtain ⟨i166, ⟨u167, u168, u169⟩⟩ := hr165
        have u170 := kp_t u153 u167
        have v171 : q_V r164 = q_V δ := (u168).trans v154
        have v172 := kr_t v155 u169
        refine ok_bind (k_X12_within L hN (x0 := x3) (x1 := (0 : Int32)) (x2 := ((q_I r164 12 38 a0) - (1 : Int32)))  i166) (fun r173 hr174 => ?_)
        obtain ⟨i175, p176, p177, p178⟩ := hr174
        try rw [i175]
        have f179 := bo_l p176
        have f180 := ti_b r173.1
        have f181 := ti_b x3
        have f182 := cb_12_38 i166 k_a0
        first | (have q184 := te_subc (c := 1) (n := 1) rfl (q_I r164 12 38 a0) (by omega) (by omega); obtain ⟨f185, f186, f187⟩ := q184) | (obtain ⟨q184, f185, f186, f187⟩ := ti_subc (c := 1) (n := 1) rfl (q_I r164 12 38 a0))
        replace p177 : ((r173.1).toInt = 1 → (0 : Int) ≤ (x3).toInt ∧ (x3).toInt ≤ (((q_I r164 12 38 a0) - (1 : Int32))).toInt) := p177
        replace p178 : ((r173.1).toInt = 0 → (x3).toInt < (0 : Int) ∨ (((q_I r164 12 38 a0) - (1 : Int32))).toInt < (x3).toInt) := p178
        have f188 := ti_b r173.1
        refine ok_ite (fun h189 => ?_) (fun h189 => ?_)
        · have c190 : r173.1.toInt = (0 : Int) := o_eq h189
          unfold J_X12_bad_66
          exact ok_some (show RI ad h.1 δ0 r164 ∧ (kp [(12, 0), (12, 36), (12, 37), (12, 38), (12, 39)] δ r164 ∧ q_V r164 = q_V δ ∧ kr ad [100, 119, 120, 121] δ r164) from ⟨i166, ⟨kp_w (by decide) u170, v171, kr_w (by decide) v172⟩⟩)
        · have c191 : r173.1.toInt ≠ (0 : Int) := o_ne h189
          obtain ⟨b192, o193, k194, n195, w196⟩ := gO_12_41 L k_a0
          obtain rfl := gS_12_41 L k_a0 o193
          refine ok_at o193 ?_
          have t197 := ti_tn x3
          refine ok_gd (fun hc198 => ?_) ?_
          · rcases hc198 with hc198 | hc198
            · have c199 : x3.toInt < (0 : Int) := o_lt hc198
              omega
            · omega
          unfold J_X12_bad_66
          exact ok_some (show RI ad h.1 δ0 r164 ∧ (kp [(12, 0), (12, 36), (12, 37), (12, 38), (12, 39)] δ r164 ∧ q_V r164 = q_V δ ∧ kr ad [100, 119, 120, 121] δ r164) from ⟨i166, ⟨kp_w (by decide) u170, v171, kr_w (by decide) v172⟩⟩)
set_option maxHeartbeats 4000000 in
theorem k_X12_reached {ad : List Nat} {h : hp} (L : Lay TLx ad h) {δ0 : dp} {N : Nat} (hN : 10000000 ≤ N) {a0 : Nat} {x1 : Int32} (k_a0 : q_K h.1 a0 = 12) {δ : dp} (I : RI ad h.1 δ0 δ) : ok (D_X12_reached N h.1 a0 x1 δ) (fun r => RI ad h.1 δ0 r.2 ∧ (kp [(12, 0), (12, 36), (12, 37), (12, 38), (12, 39)] δ r.2 ∧ q_V r.2 = q_V δ ∧ kr ad [100, 119, 120, 121] δ r.2)) := by
  unfold D_X12_reached
  refine ok_bdv (fun d1 e2 => ?_)
  have i3 : RI ad h.1 δ0 d1 := by rw [e2]; exact cs_12_0 L I
  have u4 := kp_I kp_r e2
  have v5 : q_V d1 = q_V δ := ((show q_V d1 = q_V δ by rw [e2]; rfl)).trans rfl
  have v6 := kr_N (kr_r (ad := ad)) (show q_R d1 = q_R δ by rw [e2]; rfl)
  refine ok_bind (k_X12_isCall L hN (x0 := x1)  i3) (fun r7 hr8 => ?_)
  obtain ⟨i9, p10, p11⟩ := hr8
  try rw [i9]
  have f12 := bo_l p10
  have f13 := ti_b r7.1
  have f14 := ti_b x1
  have f15 := ti_b r7.1
  refine ok_ite (fun h16 => ?_) (fun h16 => ?_)
  · have c17 : r7.1.toInt = (0 : Int) := o_eq h16
    unfold J_X12_reached_26
    unfold J_X12_reached_27
    refine ok_bind (k_X12_may L hN (a0 := a0) (x1 := (0 : Int32)) (x2 := (1 : Int32)) (x3 := (2 : Int32)) k_a0 (show (1 : Int) ≠ 0 by first | assumption | omega) (show 0 ≤ (2 : Int) by first | assumption | omega) (show (2 : Int) ≤ 2 by first | assumption | omega) i3) (fun r18 hr19 => ?_)
    obtain ⟨i20, ⟨u24, u25, u26⟩, p21, p22, p23⟩ := hr19
    have u27 := kp_t u4 u24
    have v28 : q_V r18.2 = q_V δ := (u25).trans v5
    have v29 := kr_t v6 u26
    have f30 := bo_l p21
    have f31 := ti_b r18.1
    replace p22 : ((r18.1).toInt = 1 → (0 : Int) ≠ 0) := p22
    have f32 := ti_b (q_I d1 12 0 a0)
    have f33 : (q_I d1 12 0 a0).toInt = (0 : Int) := congrArg Int32.toInt (show q_I d1 12 0 a0 = (0 : Int32) by rw [e2]; exact rI_s)
    replace p23 : ((q_I d1 12 0 a0).toInt = 0 → (r18.1).toInt = 0 → (0 : Int) = 0) := p23
    have f34 := ti_b r18.1
    refine ok_ite (fun h35 => ?_) (fun h35 => ?_)
    · have c36 : r18.1.toInt = (0 : Int) := o_eq h35
      exact ok_some (show RI ad h.1 δ0 r18.2 ∧ (kp [(12, 0), (12, 36), (12, 37), (12, 38), (12, 39)] δ r18.2 ∧ q_V r18.2 = q_V δ ∧ kr ad [100, 119, 120, 121] δ r18.2) from ⟨i20, ⟨kp_w (by decide) u27, v28, kr_w (by decide) v29⟩⟩)
    · have c37 : r18.1.toInt ≠ (0 : Int) := o_ne h35
      refine ok_bind (k_X12_mostSet L hN (a0 := a0) k_a0 i20) (fun r38 hr39 => ?_)
      obtain ⟨i40, p41, p42⟩ := hr39
      try rw [i40]
      have f43 := ti_b r38.1
      have f44 := ti_b r38.1
      refine ok_bind (k_X12_findWorst L hN (a0 := a0) (x1 := x1) (x2 := r38.1) k_a0 (show 0 ≤ (r38.1).toInt by first | assumption | omega) (show (r38.1).toInt ≤ 16 by first | assumption | omega) i20) (fun r45 hr46 => ?_)
      obtain ⟨i47, ⟨u48, u49, u50⟩⟩ := hr46
      have u51 := kp_t u27 u48
      have v52 : q_V r45 = q_V δ := (u49).trans v28
      have v53 := kr_t v29 u50
      have f56 := cb_12_10 i47 k_a0
      have f57 : (q_I r45 12 10 a0).toInt = (q_I r18.2 12 10 a0).toInt := congrArg Int32.toInt (u48 12 10 a0 (by decide))
      have f58 := cb_12_10 i20 k_a0
      have f59 : (q_I r18.2 12 10 a0).toInt = (q_I d1 12 10 a0).toInt := congrArg Int32.toInt (u24 12 10 a0 (by decide))
      have f60 := cb_12_10 i3 k_a0
      have f61 : (q_I d1 12 10 a0).toInt = (q_I δ 12 10 a0).toInt := congrArg Int32.toInt (by rw [e2]; exact rI_o (by decide))
      have f62 := cb_12_10 I k_a0
      refine ok_bind (k_X12_boundOf L hN (a0 := a0) (x1 := x1) (x2 := (q_I r45 12 10 a0)) k_a0 (show 0 ≤ ((q_I r45 12 10 a0)).toInt by first | assumption | omega) (show ((q_I r45 12 10 a0)).toInt ≤ 16 by first | assumption | omega) (show ((q_I r45 12 10 a0)).toInt < 20 by first | assumption | omega) i47) (fun r54 hr55 => ?_)
      have i63 := hr55
      try rw [i63]
      have f64 := ti_b r54.1
      have f65 := ti_b (q_I r45 12 37 a0)
      refine ok_ite (fun h66 => ?_) (fun h66 => ?_)
      · have c67 : (q_I r45 12 37 a0).toInt = r54.1.toInt := o_eq h66
        unfold J_X12_reached_70
        exact ok_some (show RI ad h.1 δ0 r45 ∧ (kp [(12, 0), (12, 36), (12, 37), (12, 38), (12, 39)] δ r45 ∧ q_V r45 = q_V δ ∧ kr ad [100, 119, 120, 121] δ r45) from ⟨i47, ⟨kp_w (by decide) u51, v52, kr_w (by decide) v53⟩⟩)
      · have c68 : (q_I r45 12 37 a0).toInt ≠ r54.1.toInt := o_ne h66
        unfold J_X12_reached_70
        exact ok_some (show RI ad h.1 δ0 r45 ∧ (kp [(12, 0), (12, 36), (12, 37), (12, 38), (12, 39)] δ r45 ∧ q_V r45 = q_V δ ∧ kr ad [100, 119, 120, 121] δ r45) from ⟨i47, ⟨kp_w (by decide) u51, v52, kr_w (by decide) v53⟩⟩)
  · have c69 : r7.1.toInt ≠ (0 : Int) := o_ne h16
    have f70 := cb_12_10 i3 k_a0
    have f71 : (q_I d1 12 10 a0).toInt = (q_I δ 12 10 a0).toInt := congrArg Int32.toInt (by rw [e2]; exact rI_o (by decide))
    have f72 := cb_12_10 I k_a0
    refine ok_ite (fun h73 => ?_) (fun h73 => ?_)
    · have c74 : (6 : Int) < (q_I d1 12 10 a0).toInt := o_lt h73
      unfold J_X12_reached_26
      unfold J_X12_reached_27
      refine ok_bind (k_X12_may L hN (a0 := a0) (x1 := (0 : Int32)) (x2 := (1 : Int32)) (x3 := (2 : Int32)) k_a0 (show (1 : Int) ≠ 0 by first | assumption | omega) (show 0 ≤ (2 : Int) by first | assumption | omega) (show (2 : Int) ≤ 2 by first | assumption | omega) i3) (fun r75 hr76 => ?_)
      obtain ⟨i77, ⟨u81, u82, u83⟩, p78, p79, p80⟩ := hr76
      have u84 := kp_t u4 u81
      have v85 : q_V r75.2 = q_V δ := (u82).trans v5
      have v86 := kr_t v6 u83
      have f87 := bo_l p78
      have f88 := ti_b r75.1
      replace p79 : ((r75.1).toInt = 1 → (0 : Int) ≠ 0) := p79
      have f89 := ti_b (q_I d1 12 0 a0)
      have f90 : (q_I d1 12 0 a0).toInt = (0 : Int) := congrArg Int32.toInt (show q_I d1 12 0 a0 = (0 : Int32) by rw [e2]; exact rI_s)
      replace p80 : ((q_I d1 12 0 a0).toInt = 0 → (r75.1).toInt = 0 → (0 : Int) = 0) := p80
      have f91 := ti_b r75.1
      refine ok_ite (fun h92 => ?_) (fun h92 => ?_)
      · have c93 : r75.1.toInt = (0 : Int) := o_eq h92
        exact ok_some (show RI ad h.1 δ0 r75.2 ∧ (kp [(12, 0), (12, 36), (12, 37), (12, 38), (12, 39)] δ r75.2 ∧ q_V r75.2 = q_V δ ∧ kr ad [100, 119, 120, 121] δ r75.2) from ⟨i77, ⟨kp_w (by decide) u84, v85, kr_w (by decide) v86⟩⟩)
      · have c94 : r75.1.toInt ≠ (0 : Int) := o_ne h92
        refine ok_bind (k_X12_mostSet L hN (a0 := a0) k_a0 i77) (fun r95 hr96 => ?_)
        obtain ⟨i97, p98, p99⟩ := hr96
        try rw [i97]
        have f100 := ti_b r95.1
        have f101 := ti_b r95.1
        refine ok_bind (k_X12_findWorst L hN (a0 := a0) (x1 := x1) (x2 := r95.1) k_a0 (show 0 ≤ (r95.1).toInt by first | assumption | omega) (show (r95.1).toInt ≤ 16 by first | assumption | omega) i77) (fun r102 hr103 => ?_)
        obtain ⟨i104, ⟨u105, u106, u107⟩⟩ := hr103
        have u108 := kp_t u84 u105
        have v109 : q_V r102 = q_V δ := (u106).trans v85
        have v110 := kr_t v86 u107
        have f113 := cb_12_10 i104 k_a0
        have f114 : (q_I r102 12 10 a0).toInt = (q_I r75.2 12 10 a0).toInt := congrArg Int32.toInt (u105 12 10 a0 (by decide))
        have f115 := cb_12_10 i77 k_a0
        have f116 : (q_I r75.2 12 10 a0).toInt = (q_I d1 12 10 a0).toInt := congrArg Int32.toInt (u81 12 10 a0 (by decide))
        refine ok_bind (k_X12_boundOf L hN (a0 := a0) (x1 := x1) (x2 := (q_I r102 12 10 a0)) k_a0 (show 0 ≤ ((q_I r102 12 10 a0)).toInt by first | assumption | omega) (show ((q_I r102 12 10 a0)).toInt ≤ 16 by first | assumption | omega) (show ((q_I r102 12 10 a0)).toInt < 20 by first | assumption | omega) i104) (fun r111 hr112 => ?_)
        have i117 := hr112
        try rw [i117]
        have f118 := ti_b r111.1
        have f119 := ti_b (q_I r102 12 37 a0)
        refine ok_ite (fun h120 => ?_) (fun h120 => ?_)
        · have c121 : (q_I r102 12 37 a0).toInt = r111.1.toInt := o_eq h120
          unfold J_X12_reached_70
          exact ok_some (show RI ad h.1 δ0 r102 ∧ (kp [(12, 0), (12, 36), (12, 37), (12, 38), (12, 39)] δ r102 ∧ q_V r102 = q_V δ ∧ kr ad [100, 119, 120, 121] δ r102) from ⟨i104, ⟨kp_w (by decide) u108, v109, kr_w (by decide) v110⟩⟩)
        · have c122 : (q_I r102 12 37 a0).toInt ≠ r111.1.toInt := o_ne h120
          unfold J_X12_reached_70
          exact ok_some (show RI ad h.1 δ0 r102 ∧ (kp [(12, 0), (12, 36), (12, 37), (12, 38), (12, 39)] δ r102 ∧ q_V r102 = q_V δ ∧ kr ad [100, 119, 120, 121] δ r102) from ⟨i104, ⟨kp_w (by decide) u108, v109, kr_w (by decide) v110⟩⟩)
    · have c123 : (q_I d1 12 10 a0).toInt ≤ (6 : Int) := o_nlt h73
      unfold J_X12_reached_27
      refine ok_bind (k_X12_may L hN (a0 := a0) (x1 := (1 : Int32)) (x2 := (1 : Int32)) (x3 := (2 : Int32)) k_a0 (show (1 : Int) ≠ 0 by first | assumption | omega) (show 0 ≤ (2 : Int) by first | assumption | omega) (show (2 : Int) ≤ 2 by first | assumption | omega) i3) (fun r124 hr125 => ?_)
      obtain ⟨i126, ⟨u130, u131, u132⟩, p127, p128, p129⟩ := hr125
      have u133 := kp_t u4 u130
      have v134 : q_V r124.2 = q_V δ := (u131).trans v5
      have v135 := kr_t v6 u132
      have f136 := bo_l p127
      have f137 := ti_b r124.1
      replace p128 : ((r124.1).toInt = 1 → (1 : Int) ≠ 0) := p128
      have f138 := ti_b (q_I d1 12 0 a0)
      have f139 : (q_I d1 12 0 a0).toInt = (0 : Int) := congrArg Int32.toInt (show q_I d1 12 0 a0 = (0 : Int32) by rw [e2]; exact rI_s)
      replace p129 : ((q_I d1 12 0 a0).toInt = 0 → (r124.1).toInt = 0 → (1 : Int) = 0) := p129
      have f140 := ti_b r124.1
      refine ok_ite (fun h141 => ?_) (fun h141 => ?_)
      · have c142 : r124.1.toInt = (0 : Int) := o_eq h141
        exact ok_some (show RI ad h.1 δ0 r124.2 ∧ (kp [(12, 0), (12, 36), (12, 37), (12, 38), (12, 39)] δ r124.2 ∧ q_V r124.2 = q_V δ ∧ kr ad [100, 119, 120, 121] δ r124.2) from ⟨i126, ⟨kp_w (by decide) u133, v134, kr_w (by decide) v135⟩⟩)
      · have c143 : r124.1.toInt ≠ (0 : Int) := o_ne h141
        refine ok_bind (k_X12_mostSet L hN (a0 := a0) k_a0 i126) (fun r144 hr145 => ?_)
        obtain ⟨i146, p147, p148⟩ := hr145
        try rw [i146]
        have f149 := ti_b r144.1
        have f150 := ti_b r144.1
        refine ok_bind (k_X12_findWorst L hN (a0 := a0) (x1 := x1) (x2 := r144.1) k_a0 (show 0 ≤ (r144.1).toInt by first | assumption | omega) (show (r144.1).toInt ≤ 16 by first | assumption | omega) i126) (fun r151 hr152 => ?_)
        obtain ⟨i153, ⟨u154, u155, u156⟩⟩ := hr152
        have u157 := kp_t u133 u154
        have v158 : q_V r151 = q_V δ := (u155).trans v134
        have v159 := kr_t v135 u156
        have f162 := cb_12_10 i153 k_a0
        have f163 : (q_I r151 12 10 a0).toInt = (q_I r124.2 12 10 a0).toInt := congrArg Int32.toInt (u154 12 10 a0 (by decide))
        have f164 := cb_12_10 i126 k_a0
        have f165 : (q_I r124.2 12 10 a0).toInt = (q_I d1 12 10 a0).toInt := congrArg Int32.toInt (u130 12 10 a0 (by decide))
        refine ok_bind (k_X12_boundOf L hN (a0 := a0) (x1 := x1) (x2 := (q_I r151 12 10 a0)) k_a0 (show 0 ≤ ((q_I r151 12 10 a0)).toInt by first | assumption | omega) (show ((q_I r151 12 10 a0)).toInt ≤ 16 by first | assumption | omega) (show ((q_I r151 12 10 a0)).toInt < 20 by first | assumption | omega) i153) (fun r160 hr161 => ?_)
        have i166 := hr161
        try rw [i166]
        have f167 := ti_b r160.1
        have f168 := ti_b (q_I r151 12 37 a0)
        refine ok_ite (fun h169 => ?_) (fun h169 => ?_)
        · have c170 : (q_I r151 12 37 a0).toInt = r160.1.toInt := o_eq h169
          unfold J_X12_reached_70
          exact ok_some (show RI ad h.1 δ0 r151 ∧ (kp [(12, 0), (12, 36), (12, 37), (12, 38), (12, 39)] δ r151 ∧ q_V r151 = q_V δ ∧ kr ad [100, 119, 120, 121] δ r151) from ⟨i153, ⟨kp_w (by decide) u157, v158, kr_w (by decide) v159⟩⟩)
        · have c171 : (q_I r151 12 37 a0).toInt ≠ r160.1.toInt := o_ne h169
          unfold J_X12_reached_70
          exact ok_some (show RI ad h.1 δ0 r151 ∧ (kp [(12, 0), (12, 36), (12, 37), (12, 38), (12, 39)] δ r151 ∧ q_V r151 = q_V δ ∧ kr ad [100, 119, 120, 121] δ r151) from ⟨i153, ⟨kp_w (by decide) u157, v158, kr_w (by decide) v159⟩⟩)
set_option maxHeartbeats 4000000 in
theorem kl_X12_touchSet_8 {ad : List Nat} {h : hp} (L : Lay TLx ad h) {δ0 : dp} {N : Nat} (hN : 10000000 ≤ N) {a0 : Nat} {x1 : Int32} {x2 : Int32} {x3 : Int32} (k_a0 : q_K h.1 a0 = 12) : ∀ (n : Nat) (x4v : Int32) (δ : dp), RI ad h.1 δ0 δ → 0 ≤ (x4v).toInt → (x4v).toInt ≤ 16 → (q_I δ 12 36 a0).toInt ≤ (x4v).toInt → 16 - (x4v).toInt < (n : Int) → ok (L_X12_touchSet_8 N h.1 a0 x1 x2 x3 n x4v δ) (fun r => RI ad h.1 δ0 r.2 ∧ (kp [(12, 36)] δ r.2 ∧ q_V r.2 = q_V δ ∧ kr ad [119] δ r.2) ∧ 1 ≤ (r.1).toInt ∧ (r.1).toInt ≤ 61) := by
  intro n
  induction n with
  | zero =>
    intro x4v δ I j0 j1 j2 hm
    have f1 := ti_b x4v
    have f2 := cb_12_36 I k_a0
    exfalso; omega
  | succ n ih =>
    intro x4v δ I j0 j1 j2 hm
    unfold L_X12_touchSet_8
    have f1 := ti_b x4v
    have f2 := cb_12_36 I k_a0
    refine ok_ite (fun h3 => ?_) (fun h3 => ?_)
    · have c4 : (16 : Int) ≤ x4v.toInt := o_le h3
      have f7 := cb_12_10 I k_a0
      refine ok_bind (k_X12_touch L hN (a0 := a0) (x1 := x1) (x2 := x2) (x3 := (q_I δ 12 10 a0)) (x4 := (0 : Int32)) (x5 := (q_I δ 12 36 a0)) k_a0 (show 1 ≤ ((q_I δ 12 10 a0)).toInt by first | assumption | omega) (show ((q_I δ 12 10 a0)).toInt ≤ 16 by first | assumption | omega) (show 0 ≤ (0 : Int) by first | assumption | omega) (show (0 : Int) ≤ ((q_I δ 12 36 a0)).toInt by first | assumption | omega) (show ((q_I δ 12 36 a0)).toInt ≤ (0 : Int) + 2000 by first | assumption | omega) (show ((q_I δ 12 36 a0)).toInt ≤ (q_I δ 12 36 a0).toInt by first | assumption | omega) (show (q_I δ 12 36 a0).toInt ≤ 12000 by first | assumption | omega) (show 1 < ((q_I δ 12 10 a0)).toInt → (q_I δ 12 36 a0).toInt ≤ 10000 by first | assumption | omega) (show 2 < ((q_I δ 12 10 a0)).toInt → (q_I δ 12 36 a0).toInt ≤ 8000 by first | assumption | omega) (show 4 < ((q_I δ 12 10 a0)).toInt → (q_I δ 12 36 a0).toInt ≤ 6000 by first | assumption | omega) (show 8 < ((q_I δ 12 10 a0)).toInt → (q_I δ 12 36 a0).toInt ≤ 4000 by first | assumption | omega) (show ((q_I δ 12 10 a0)).toInt < 20 by first | assumption | omega) I) (fun r5 hr6 => ?_)
      obtain ⟨i8, ⟨u12, u13, u14⟩, p9, p10, p11⟩ := hr6
      have u15 := kp_t kp_r u12
      have v16 : q_V r5.2 = q_V δ := (u13).trans rfl
      have v17 := kr_t (kr_r (ad := ad)) u14
      have f18 := cb_12_36 i8 k_a0
      have f19 := ti_b r5.1
      have f20 := ti_b r5.1
      exact ok_some (show RI ad h.1 δ0 r5.2 ∧ (kp [(12, 36)] δ r5.2 ∧ q_V r5.2 = q_V δ ∧ kr ad [119] δ r5.2) ∧ 1 ≤ (r5.1).toInt ∧ (r5.1).toInt ≤ 61 from ⟨i8, ⟨kp_w (by decide) u15, v16, kr_w (by decide) v17⟩, by first | assumption | omega, by first | assumption | omega⟩)
    · have c21 : x4v.toInt < (16 : Int) := o_nle h3
      have f22 := ti_b ((x3 >>> (x4v &&& 31)) &&& (1 : Int32))
      refine ok_ite (fun h23 => ?_) (fun h23 => ?_)
      · have c24 : ((x3 >>> (x4v &&& 31)) &&& (1 : Int32)).toInt = (0 : Int) := o_eq h23
        unfold J_X12_touchSet_48
        refine ok_biv (fun vx25 e26 => ?_)
        first | (have q27 := te_addc (c := 1) (n := 1) rfl x4v (by omega) (by omega); rw [← e26] at q27; obtain ⟨f28, f29, f30⟩ := q27) | (obtain ⟨q27, f28, f29, f30⟩ : ∃ q : Int, vx25.toInt = x4v.toInt + (1 : Int) + 4294967296 * q ∧ -2147483648 ≤ vx25.toInt ∧ vx25.toInt ≤ 2147483647 := by rw [e26]; exact ti_addc (c := 1) (n := 1) rfl x4v)
        refine ok_mono (ih vx25 δ I (show 0 ≤ (vx25).toInt by first | assumption | omega) (show (vx25).toInt ≤ 16 by first | assumption | omega) (show (q_I δ 12 36 a0).toInt ≤ (vx25).toInt by first | assumption | omega) (show 16 - (vx25).toInt < _ by omega)) (fun r31 hr32 => ?_)
        obtain ⟨i33, ⟨u36, u37, u38⟩, p34, p35⟩ := hr32
        have u39 := kp_t kp_r u36
        have v40 : q_V r31.2 = q_V δ := (u37).trans rfl
        have v41 := kr_t (kr_r (ad := ad)) u38
        have f42 := ti_b r31.1
        have f43 := ti_b r31.1
        exact ⟨by assumption, ⟨kp_w (by decide) u39, v40, kr_w (by decide) v41⟩, by first | assumption | omega, by first | assumption | omega⟩
      · have c44 : ((x3 >>> (x4v &&& 31)) &&& (1 : Int32)).toInt ≠ (0 : Int) := o_ne h23
        obtain ⟨b45, o46, k47, n48, w49⟩ := gO_12_35 L k_a0
        obtain rfl := gS_12_35 L k_a0 o46
        refine ok_at o46 ?_
        have t50 := ti_tn (q_I δ 12 36 a0)
        refine ok_gd (fun hc51 => ?_) ?_
        · rcases hc51 with hc51 | hc51
          · have c52 : (q_I δ 12 36 a0).toInt < (0 : Int) := o_lt hc51
            omega
          · omega
        refine ok_bdv (fun d53 e54 => ?_)
        have i55 : RI ad h.1 δ0 d53 := by rw [e54]; exact RI.sR L I w49
        have u56 := kp_N kp_r (show q_I d53 = q_I δ by rw [e54]; rfl)
        have v57 : q_V d53 = q_V δ := ((show q_V d53 = q_V δ by rw [e54]; rfl)).trans rfl
        have v58 := kr_s L (by decide) (kr_r (ad := ad)) e54
        have f62 := cb_12_36 i55 k_a0
        have f63 : (q_I d53 12 36 a0).toInt = (q_I δ 12 36 a0).toInt := congrArg Int32.toInt (by rw [e54]; rfl)
        first | (have q65 := te_addc (c := 1) (n := 1) rfl (q_I d53 12 36 a0) (by omega) (by omega); obtain ⟨f66, f67, f68⟩ := q65) | (obtain ⟨q65, f66, f67, f68⟩ := ti_addc (c := 1) (n := 1) rfl (q_I d53 12 36 a0))
        refine ok_bdv (fun d59 e60 => ?_)
        have i61 : RI ad h.1 δ0 d59 := by rw [e60]; exact cs_12_36 L i55 k_a0 (show 0 ≤ ((q_I d53 12 36 a0) + (1 : Int32)).toInt by omega) (show ((q_I d53 12 36 a0) + (1 : Int32)).toInt ≤ 14000 by omega)
        have u69 := kp_I u56 e60
        have v70 : q_V d59 = q_V δ := ((show q_V d59 = q_V d53 by rw [e60]; rfl)).trans v57
        have v71 := kr_N v58 (show q_R d59 = q_R d53 by rw [e60]; rfl)
        unfold J_X12_touchSet_48
        refine ok_biv (fun vx72 e73 => ?_)
        first | (have q74 := te_addc (c := 1) (n := 1) rfl x4v (by omega) (by omega); rw [← e73] at q74; obtain ⟨f75, f76, f77⟩ := q74) | (obtain ⟨q74, f75, f76, f77⟩ : ∃ q : Int, vx72.toInt = x4v.toInt + (1 : Int) + 4294967296 * q ∧ -2147483648 ≤ vx72.toInt ∧ vx72.toInt ≤ 2147483647 := by rw [e73]; exact ti_addc (c := 1) (n := 1) rfl x4v)
        have f78 := cb_12_36 i61 k_a0
        have f79 : (q_I d59 12 36 a0).toInt = ((q_I d53 12 36 a0) + (1 : Int32)).toInt := congrArg Int32.toInt (show q_I d59 12 36 a0 = ((q_I d53 12 36 a0) + (1 : Int32)) by rw [e60]; exact rI_s)
        refine ok_mono (ih vx72 d59 i61 (show 0 ≤ (vx72).toInt by first | assumption | omega) (show (vx72).toInt ≤ 16 by first | assumption | omega) (show (q_I d59 12 36 a0).toInt ≤ (vx72).toInt by first | assumption | omega) (show 16 - (vx72).toInt < _ by omega)) (fun r80 hr81 => ?_)
        obtain ⟨i82, ⟨u85, u86, u87⟩, p83, p84⟩ := hr81
        have u88 := kp_t u69 u85
        have v89 : q_V r80.2 = q_V δ := (u86).trans v70
        have v90 := kr_t v71 u87
        have f91 := ti_b r80.1
        have f92 := ti_b r80.1
        exact ⟨by assumption, ⟨kp_w (by decide) u88, v89, kr_w (by decide) v90⟩, by first | assumption | omega, by first | assumption | omega⟩
set_option maxHeartbeats 4000000 in
theorem k_X12_touchSet {ad : List Nat} {h : hp} (L : Lay TLx ad h) {δ0 : dp} {N : Nat} (hN : 10000000 ≤ N) {a0 : Nat} {x1 : Int32} {x2 : Int32} {x3 : Int32} (k_a0 : q_K h.1 a0 = 12) {δ : dp} (I : RI ad h.1 δ0 δ) : ok (D_X12_touchSet N h.1 a0 x1 x2 x3 δ) (fun r => RI ad h.1 δ0 r.2 ∧ (kp [(12, 36)] δ r.2 ∧ q_V r.2 = q_V δ ∧ kr ad [119] δ r.2) ∧ 1 ≤ (r.1).toInt ∧ (r.1).toInt ≤ 61) := by
  unfold D_X12_touchSet
  refine ok_bdv (fun d1 e2 => ?_)
  have i3 : RI ad h.1 δ0 d1 := by rw [e2]; exact cs_12_36 L I k_a0 (show 0 ≤ (0 : Int) by omega) (show (0 : Int) ≤ 14000 by omega)
  have u4 := kp_I kp_r e2
  have v5 : q_V d1 = q_V δ := ((show q_V d1 = q_V δ by rw [e2]; rfl)).trans rfl
  have v6 := kr_N (kr_r (ad := ad)) (show q_R d1 = q_R δ by rw [e2]; rfl)
  have f7 := cb_12_36 i3 k_a0
  have f8 : (q_I d1 12 36 a0).toInt = (0 : Int) := congrArg Int32.toInt (show q_I d1 12 36 a0 = (0 : Int32) by rw [e2]; exact rI_s)
  refine ok_mono (kl_X12_touchSet_8 L hN   k_a0 _ (0 : Int32) d1 i3 (show 0 ≤ (0 : Int) by first | assumption | omega) (show (0 : Int) ≤ 16 by first | assumption | omega) (show (q_I d1 12 36 a0).toInt ≤ (0 : Int) by first | assumption | omega) (show 16 - (0 : Int) < _ by omega)) (fun r9 hr10 => ?_)
  obtain ⟨i11, ⟨u14, u15, u16⟩, p12, p13⟩ := hr10
  have u17 := kp_t u4 u14
  have v18 : q_V r9.2 = q_V δ := (u15).trans v5
  have v19 := kr_t v6 u16
  have f20 := ti_b r9.1
  have f21 := ti_b r9.1
  exact ⟨by assumption, ⟨kp_w (by decide) u17, v18, kr_w (by decide) v19⟩, by first | assumption | omega, by first | assumption | omega⟩
set_option maxHeartbeats 4000000 in
theorem k_X12_behind {ad : List Nat} {h : hp} (L : Lay TLx ad h) {δ0 : dp} {N : Nat} (hN : 10000000 ≤ N) {a0 : Nat} {x1 : Int32} {x2 : Int32} {x3 : Int32} (k_a0 : q_K h.1 a0 = 12) {δ : dp} (I : RI ad h.1 δ0 δ) : ok (D_X12_behind N h.1 a0 x1 x2 x3 δ) (fun r => r.2 = δ) := by
  unfold D_X12_behind
  have f1 := ti_b x1
  refine ok_ite (fun h2 => ?_) (fun h2 => ?_)
  · have c3 : x1.toInt = (0 : Int) := o_eq h2
    unfold J_X12_behind_28
    exact ok_some (show δ = δ from rfl)
  · have c4 : x1.toInt ≠ (0 : Int) := o_ne h2
    refine ok_ite (fun h5 => ?_) (fun h5 => ?_)
    · have c6 : x1.toInt = (1 : Int) := o_eq h5
      unfold J_X12_behind_28
      exact ok_some (show δ = δ from rfl)
    · have c7 : x1.toInt ≠ (1 : Int) := o_ne h5
      unfold J_X12_behind_28
      exact ok_some (show δ = δ from rfl)
set_option maxHeartbeats 4000000 in
theorem k_X12_isRow {ad : List Nat} {h : hp} (L : Lay TLx ad h) {δ0 : dp} {N : Nat} (hN : 10000000 ≤ N) {a0 : Nat} {x1 : Int32} (k_a0 : q_K h.1 a0 = 12) {δ : dp} (I : RI ad h.1 δ0 δ) : ok (D_X12_isRow N h.1 a0 x1 δ) (fun r => r.2 = δ ∧ bo (r.1) ∧ ((r.1).toInt = 1 → 1 ≤ (x1).toInt ∧ (x1).toInt ≤ 6) ∧ ((q_I δ 12 10 a0).toInt ≤ 4 ∨ (r.1).toInt = 0 ∨ (x1).toInt ≤ 2)) := by
  unfold D_X12_isRow
  have f1 := cb_12_10 I k_a0
  refine ok_ite (fun h2 => ?_) (fun h2 => ?_)
  · have c3 : (6 : Int) < (q_I δ 12 10 a0).toInt := o_lt h2
    unfold J_X12_isRow_35
    unfold J_X12_isRow_36
    refine ok_gp (by decide) ?_
    have f4 := ti_b x1
    exact ok_some (show δ = δ ∧ bo ((0 : Int32)) ∧ ((0 : Int) = 1 → 1 ≤ (x1).toInt ∧ (x1).toInt ≤ 6) ∧ ((q_I δ 12 10 a0).toInt ≤ 4 ∨ (0 : Int) = 0 ∨ (x1).toInt ≤ 2) from ⟨rfl, bo_0, by first | assumption | omega, by first | assumption | omega⟩)
  · have c5 : (q_I δ 12 10 a0).toInt ≤ (6 : Int) := o_nlt h2
    refine ok_ite (fun h6 => ?_) (fun h6 => ?_)
    · have c7 : (4 : Int) < (q_I δ 12 10 a0).toInt := o_lt h6
      unfold J_X12_isRow_25
      refine ok_bind (k_X12_within L hN (x0 := x1) (x1 := (1 : Int32)) (x2 := (2 : Int32))  I) (fun r8 hr9 => ?_)
      obtain ⟨i10, p11, p12, p13⟩ := hr9
      try rw [i10]
      have f14 := bo_l p11
      have f15 := ti_b r8.1
      have f16 := ti_b x1
      replace p12 : ((r8.1).toInt = 1 → (1 : Int) ≤ (x1).toInt ∧ (x1).toInt ≤ (2 : Int)) := p12
      replace p13 : ((r8.1).toInt = 0 → (x1).toInt < (1 : Int) ∨ (2 : Int) < (x1).toInt) := p13
      have f17 := ti_b r8.1
      refine ok_ite (fun h18 => ?_) (fun h18 => ?_)
      · have c19 : r8.1.toInt = (0 : Int) := o_eq h18
        unfold J_X12_isRow_35
        unfold J_X12_isRow_36
        refine ok_gp (by decide) ?_
        exact ok_some (show δ = δ ∧ bo ((0 : Int32)) ∧ ((0 : Int) = 1 → 1 ≤ (x1).toInt ∧ (x1).toInt ≤ 6) ∧ ((q_I δ 12 10 a0).toInt ≤ 4 ∨ (0 : Int) = 0 ∨ (x1).toInt ≤ 2) from ⟨rfl, bo_0, by first | assumption | omega, by first | assumption | omega⟩)
      · have c20 : r8.1.toInt ≠ (0 : Int) := o_ne h18
        unfold J_X12_isRow_36
        refine ok_gp (by decide) ?_
        exact ok_some (show δ = δ ∧ bo ((1 : Int32)) ∧ ((1 : Int) = 1 → 1 ≤ (x1).toInt ∧ (x1).toInt ≤ 6) ∧ ((q_I δ 12 10 a0).toInt ≤ 4 ∨ (1 : Int) = 0 ∨ (x1).toInt ≤ 2) from ⟨rfl, bo_1, by first | assumption | omega, by first | assumption | omega⟩)
    · have c21 : (q_I δ 12 10 a0).toInt ≤ (4 : Int) := o_nlt h6
      unfold J_X12_isRow_25
      refine ok_bind (k_X12_within L hN (x0 := x1) (x1 := (1 : Int32)) (x2 := (6 : Int32))  I) (fun r22 hr23 => ?_)
      obtain ⟨i24, p25, p26, p27⟩ := hr23
      try rw [i24]
      have f28 := bo_l p25
      have f29 := ti_b r22.1
      have f30 := ti_b x1
      replace p26 : ((r22.1).toInt = 1 → (1 : Int) ≤ (x1).toInt ∧ (x1).toInt ≤ (6 : Int)) := p26
      replace p27 : ((r22.1).toInt = 0 → (x1).toInt < (1 : Int) ∨ (6 : Int) < (x1).toInt) := p27
      have f31 := ti_b r22.1
      refine ok_ite (fun h32 => ?_) (fun h32 => ?_)
      · have c33 : r22.1.toInt = (0 : Int) := o_eq h32
        unfold J_X12_isRow_35
        unfold J_X12_isRow_36
        refine ok_gp (by decide) ?_
        exact ok_some (show δ = δ ∧ bo ((0 : Int32)) ∧ ((0 : Int) = 1 → 1 ≤ (x1).toInt ∧ (x1).toInt ≤ 6) ∧ ((q_I δ 12 10 a0).toInt ≤ 4 ∨ (0 : Int) = 0 ∨ (x1).toInt ≤ 2) from ⟨rfl, bo_0, by first | assumption | omega, by first | assumption | omega⟩)
      · have c34 : r22.1.toInt ≠ (0 : Int) := o_ne h32
        unfold J_X12_isRow_36
        refine ok_gp (by decide) ?_
        exact ok_some (show δ = δ ∧ bo ((1 : Int32)) ∧ ((1 : Int) = 1 → 1 ≤ (x1).toInt ∧ (x1).toInt ≤ 6) ∧ ((q_I δ 12 10 a0).toInt ≤ 4 ∨ (1 : Int) = 0 ∨ (x1).toInt ≤ 2) from ⟨rfl, bo_1, by first | assumption | omega, by first | assumption | omega⟩)
set_option maxHeartbeats 4000000 in
theorem kl_X12_findTwo_19 {ad : List Nat} {h : hp} (L : Lay TLx ad h) {δ0 : dp} {N : Nat} (hN : 10000000 ≤ N) {a0 : Nat} {x1 : Int32} {kt7 : Int32 → dp → Option (dp)} {K7 : Int} (h_kt7 : ∀ (x2v : Int32) (δ : dp), RI ad h.1 δ0 δ → 0 ≤ (x2v).toInt → (x2v).toInt ≤ 327680 → 327680 - (x2v).toInt < K7 → ok (kt7 x2v δ) (fun r => RI ad h.1 δ0 r ∧ (kp [(12, 36), (12, 45)] δ r ∧ q_V r = q_V δ ∧ kr ad [119, 123] δ r))) (k_a0 : q_K h.1 a0 = 12) : ∀ (n : Nat) (x2v : Int32) (x3v : Int32) (δ : dp), RI ad h.1 δ0 δ → 0 ≤ (x2v).toInt → (x2v).toInt < 327680 → 327680 - (x2v).toInt ≤ K7 → 0 ≤ (x3v).toInt → (x3v).toInt ≤ 327680 → 327680 - (x3v).toInt < (n : Int) → ok (L_X12_findTwo_19 N h.1 a0 x1 kt7 n x2v x3v δ) (fun r => RI ad h.1 δ0 r ∧ (kp [(12, 36), (12, 45)] δ r ∧ q_V r = q_V δ ∧ kr ad [119, 123] δ r)) := by
  intro n
  induction n with
  | zero =>
    intro x2v x3v δ I j0 j1 j2 j3 j4 hm
    have f1 := ti_b x2v
    have f2 := ti_b x3v
    exfalso; omega
  | succ n ih =>
    intro x2v x3v δ I j0 j1 j2 j3 j4 hm
    unfold L_X12_findTwo_19
    have f1 := ti_b x2v
    have f2 := ti_b x3v
    have f3 := ti_b x1
    refine ok_ite (fun h4 => ?_) (fun h4 => ?_)
    · have c5 : x1.toInt = (1 : Int) := o_eq h4
      unfold J_X12_findTwo_35
      refine ok_ite (fun h6 => ?_) (fun h6 => ?_)
      · have c7 : (1 : Int) ≤ x3v.toInt := o_le h6
        refine ok_biv (fun vx8 e9 => ?_)
        first | (have q10 := te_addc (c := 1) (n := 1) rfl x2v (by omega) (by omega); rw [← e9] at q10; obtain ⟨f11, f12, f13⟩ := q10) | (obtain ⟨q10, f11, f12, f13⟩ : ∃ q : Int, vx8.toInt = x2v.toInt + (1 : Int) + 4294967296 * q ∧ -2147483648 ≤ vx8.toInt ∧ vx8.toInt ≤ 2147483647 := by rw [e9]; exact ti_addc (c := 1) (n := 1) rfl x2v)
        refine ok_mono (h_kt7 vx8 δ I (show 0 ≤ (vx8).toInt by first | assumption | omega) (show (vx8).toInt ≤ 327680 by first | assumption | omega) (show 327680 - (vx8).toInt < _ by omega)) (fun r14 hr15 => ?_)
        obtain ⟨i16, ⟨u17, u18, u19⟩⟩ := hr15
        have u20 := kp_t kp_r u17
        have v21 : q_V r14 = q_V δ := (u18).trans rfl
        have v22 := kr_t (kr_r (ad := ad)) u19
        exact ⟨by assumption, ⟨kp_w (by decide) u20, v21, kr_w (by decide) v22⟩⟩
      · have c23 : x3v.toInt < (1 : Int) := o_nle h6
        obtain ⟨b24, o25, k26, n27, w28⟩ := gO_12_35 L k_a0
        obtain rfl := gS_12_35 L k_a0 o25
        refine ok_at o25 ?_
        have t29 : (0 : Int32).toNatClampNeg = 0 := rfl
        refine ok_gd (fun hc30 => ?_) ?_
        · rcases hc30 with hc30 | hc30
          · have c31 : (0 : Int) < (0 : Int) := o_lt hc30
            omega
          · omega
        refine ok_bdv (fun d32 e33 => ?_)
        have i34 : RI ad h.1 δ0 d32 := by rw [e33]; exact RI.sR L I w28
        have u35 := kp_N kp_r (show q_I d32 = q_I δ by rw [e33]; rfl)
        have v36 : q_V d32 = q_V δ := ((show q_V d32 = q_V δ by rw [e33]; rfl)).trans rfl
        have v37 := kr_s L (by decide) (kr_r (ad := ad)) e33
        refine ok_bind (k_X12_all L hN (a0 := a0) k_a0 i34) (fun r38 hr39 => ?_)
        obtain ⟨i40, p41, p42, p43, p44⟩ := hr39
        try rw [i40]
        have f45 := ti_b r38.1
        have f46 := cb_12_10 i34 k_a0
        have f47 : (q_I d32 12 10 a0).toInt = (q_I δ 12 10 a0).toInt := congrArg Int32.toInt (by rw [e33]; rfl)
        have f48 := cb_12_10 I k_a0
        have f49 := ti_b r38.1
        refine ok_ite (fun h50 => ?_) (fun h50 => ?_)
        · have c51 : r38.1.toInt ≤ x2v.toInt := o_le h50
          unfold J_X12_findTwo_59
          refine ok_bdv (fun d52 e53 => ?_)
          have i54 : RI ad h.1 δ0 d52 := by rw [e53]; exact cs_12_36 L i34 k_a0 (show 0 ≤ (0 : Int) by omega) (show (0 : Int) ≤ 14000 by omega)
          have u55 := kp_I u35 e53
          have v56 : q_V d52 = q_V δ := ((show q_V d52 = q_V d32 by rw [e53]; rfl)).trans v36
          have v57 := kr_N v37 (show q_R d52 = q_R d32 by rw [e53]; rfl)
          refine ok_ite (fun h58 => ?_) (fun h58 => ?_)
          · have c59 : x1.toInt = (1 : Int) := o_eq h58
            unfold J_X12_findTwo_97
            refine ok_biv (fun vx60 e61 => ?_)
            first | (have q62 := te_cadd (c := 1) (n := 1) rfl (0 : Int32) (by omega) (by omega); rw [← e61] at q62; obtain ⟨f63, f64, f65⟩ := q62) | (obtain ⟨q62, f63, f64, f65⟩ : ∃ q : Int, vx60.toInt = (1 : Int) + (0 : Int) + 4294967296 * q ∧ -2147483648 ≤ vx60.toInt ∧ vx60.toInt ≤ 2147483647 := by rw [e61]; exact ti_cadd (c := 1) (n := 1) rfl (0 : Int32))
            have f66 := ti_b (q_I d52 12 45 a0)
            have f67 : (q_I d52 12 45 a0).toInt = (q_I d32 12 45 a0).toInt := congrArg Int32.toInt (by rw [e53]; exact rI_o (by decide))
            have f68 := ti_b (q_I d32 12 45 a0)
            have f69 : (q_I d32 12 45 a0).toInt = (q_I δ 12 45 a0).toInt := congrArg Int32.toInt (by rw [e33]; rfl)
            have f70 := ti_b (q_I δ 12 45 a0)
            refine ok_ite (fun h71 => ?_) (fun h71 => ?_)
            · have c72 : (q_I d52 12 45 a0).toInt < vx60.toInt := o_lt h71
              refine ok_bdv (fun d73 e74 => ?_)
              have i75 : RI ad h.1 δ0 d73 := by rw [e74]; exact cs_12_45 L i54
              have u76 := kp_I u55 e74
              have v77 : q_V d73 = q_V δ := ((show q_V d73 = q_V d52 by rw [e74]; rfl)).trans v56
              have v78 := kr_N v57 (show q_R d73 = q_R d52 by rw [e74]; rfl)
              obtain ⟨b79, o80, k81, n82, w83⟩ := gO_12_44 L k_a0
              obtain rfl := gS_12_44 L k_a0 o80
              refine ok_at o80 ?_
              refine ok_gd (fun hc84 => ?_) ?_
              · rcases hc84 with hc84 | hc84
                · have c85 : (0 : Int) < (0 : Int) := o_lt hc84
                  omega
                · omega
              refine ok_bdv (fun d86 e87 => ?_)
              have i88 : RI ad h.1 δ0 d86 := by rw [e87]; exact RI.sR L i75 w83
              have u89 := kp_N u76 (show q_I d86 = q_I d73 by rw [e87]; rfl)
              have v90 : q_V d86 = q_V δ := ((show q_V d86 = q_V d73 by rw [e87]; rfl)).trans v77
              have v91 := kr_s L (by decide) v78 e87
              refine ok_at o80 ?_
              have t92 : (1 : Int32).toNatClampNeg = 1 := rfl
              refine ok_gd (fun hc93 => ?_) ?_
              · rcases hc93 with hc93 | hc93
                · have c94 : (1 : Int) < (0 : Int) := o_lt hc93
                  omega
                · omega
              refine ok_bdv (fun d95 e96 => ?_)
              have i97 : RI ad h.1 δ0 d95 := by rw [e96]; exact RI.sR L i88 w83
              have u98 := kp_N u89 (show q_I d95 = q_I d86 by rw [e96]; rfl)
              have v99 : q_V d95 = q_V δ := ((show q_V d95 = q_V d86 by rw [e96]; rfl)).trans v90
              have v100 := kr_s L (by decide) v91 e96
              unfold J_X12_findTwo_132
              refine ok_biv (fun vx101 e102 => ?_)
              first | (have q103 := te_addc (c := 1) (n := 1) rfl x3v (by omega) (by omega); rw [← e102] at q103; obtain ⟨f104, f105, f106⟩ := q103) | (obtain ⟨q103, f104, f105, f106⟩ : ∃ q : Int, vx101.toInt = x3v.toInt + (1 : Int) + 4294967296 * q ∧ -2147483648 ≤ vx101.toInt ∧ vx101.toInt ≤ 2147483647 := by rw [e102]; exact ti_addc (c := 1) (n := 1) rfl x3v)
              refine ok_mono (ih x2v vx101 d95 i97 (show 0 ≤ (x2v).toInt by first | assumption | omega) (show (x2v).toInt < 327680 by first | assumption | omega) (show 327680 - (x2v).toInt ≤ K7 by first | assumption | omega) (show 0 ≤ (vx101).toInt by first | assumption | omega) (show (vx101).toInt ≤ 327680 by first | assumption | omega) (show 327680 - (vx101).toInt < _ by omega)) (fun r107 hr108 => ?_)
              obtain ⟨i109, ⟨u110, u111, u112⟩⟩ := hr108
              have u113 := kp_t u98 u110
              have v114 : q_V r107 = q_V δ := (u111).trans v99
              have v115 := kr_t v100 u112
              exact ⟨by assumption, ⟨kp_w (by decide) u113, v114, kr_w (by decide) v115⟩⟩
            · have c116 : vx60.toInt ≤ (q_I d52 12 45 a0).toInt := o_nlt h71
              unfold J_X12_findTwo_132
              refine ok_biv (fun vx117 e118 => ?_)
              first | (have q119 := te_addc (c := 1) (n := 1) rfl x3v (by omega) (by omega); rw [← e118] at q119; obtain ⟨f120, f121, f122⟩ := q119) | (obtain ⟨q119, f120, f121, f122⟩ : ∃ q : Int, vx117.toInt = x3v.toInt + (1 : Int) + 4294967296 * q ∧ -2147483648 ≤ vx117.toInt ∧ vx117.toInt ≤ 2147483647 := by rw [e118]; exact ti_addc (c := 1) (n := 1) rfl x3v)
              refine ok_mono (ih x2v vx117 d52 i54 (show 0 ≤ (x2v).toInt by first | assumption | omega) (show (x2v).toInt < 327680 by first | assumption | omega) (show 327680 - (x2v).toInt ≤ K7 by first | assumption | omega) (show 0 ≤ (vx117).toInt by first | assumption | omega) (show (vx117).toInt ≤ 327680 by first | assumption | omega) (show 327680 - (vx117).toInt < _ by omega)) (fun r123 hr124 => ?_)
              obtain ⟨i125, ⟨u126, u127, u128⟩⟩ := hr124
              have u129 := kp_t u55 u126
              have v130 : q_V r123 = q_V δ := (u127).trans v56
              have v131 := kr_t v57 u128
              exact ⟨by assumption, ⟨kp_w (by decide) u129, v130, kr_w (by decide) v131⟩⟩
          · have c132 : x1.toInt ≠ (1 : Int) := o_ne h58
            refine ok_bind (k_X12_all L hN (a0 := a0) k_a0 i54) (fun r133 hr134 => ?_)
            obtain ⟨i135, p136, p137, p138, p139⟩ := hr134
            try rw [i135]
            have f140 := ti_b r133.1
            have f141 := cb_12_10 i54 k_a0
            have f142 : (q_I d52 12 10 a0).toInt = (q_I d32 12 10 a0).toInt := congrArg Int32.toInt (by rw [e53]; exact rI_o (by decide))
            have f143 := ti_b r133.1
            refine ok_gd (fun hc144 => ?_) ?_
            · have c145 : r133.1.toInt = (0 : Int) := o_eq hc144
              omega
            refine ok_bind (k_X12_all L hN (a0 := a0) k_a0 i54) (fun r146 hr147 => ?_)
            obtain ⟨i148, p149, p150, p151, p152⟩ := hr147
            try rw [i148]
            have f153 := ti_b r146.1
            have f154 := ti_b r146.1
            refine ok_gd (fun hc155 => ?_) ?_
            · have c156 : r146.1.toInt = (0 : Int) := o_eq hc155
              omega
            have f159 := cb_12_36 i54 k_a0
            have f160 : (q_I d52 12 36 a0).toInt = (0 : Int) := congrArg Int32.toInt (show q_I d52 12 36 a0 = (0 : Int32) by rw [e53]; exact rI_s)
            refine ok_bind (k_X12_touch L hN (a0 := a0) (x1 := (x3v / r133.1)) (x2 := (x3v - x3v / r146.1 * r146.1)) (x3 := (q_I d52 12 10 a0)) (x4 := (0 : Int32)) (x5 := (q_I d52 12 36 a0)) k_a0 (show 1 ≤ ((q_I d52 12 10 a0)).toInt by first | assumption | omega) (show ((q_I d52 12 10 a0)).toInt ≤ 16 by first | assumption | omega) (show 0 ≤ (0 : Int) by first | assumption | omega) (show (0 : Int) ≤ ((q_I d52 12 36 a0)).toInt by first | assumption | omega) (show ((q_I d52 12 36 a0)).toInt ≤ (0 : Int) + 2000 by first | assumption | omega) (show ((q_I d52 12 36 a0)).toInt ≤ (q_I d52 12 36 a0).toInt by first | assumption | omega) (show (q_I d52 12 36 a0).toInt ≤ 12000 by first | assumption | omega) (show 1 < ((q_I d52 12 10 a0)).toInt → (q_I d52 12 36 a0).toInt ≤ 10000 by first | assumption | omega) (show 2 < ((q_I d52 12 10 a0)).toInt → (q_I d52 12 36 a0).toInt ≤ 8000 by first | assumption | omega) (show 4 < ((q_I d52 12 10 a0)).toInt → (q_I d52 12 36 a0).toInt ≤ 6000 by first | assumption | omega) (show 8 < ((q_I d52 12 10 a0)).toInt → (q_I d52 12 36 a0).toInt ≤ 4000 by first | assumption | omega) (show ((q_I d52 12 10 a0)).toInt < 20 by first | assumption | omega) i54) (fun r157 hr158 => ?_)
            obtain ⟨i161, ⟨u165, u166, u167⟩, p162, p163, p164⟩ := hr158
            have u168 := kp_t u55 u165
            have v169 : q_V r157.2 = q_V δ := (u166).trans v56
            have v170 := kr_t v57 u167
            have f171 := cb_12_36 i161 k_a0
            have f172 := ti_b r157.1
            have f173 := ti_b r157.1
            unfold J_X12_findTwo_97
            refine ok_biv (fun vx174 e175 => ?_)
            first | (have q176 := te_cadd (c := 1) (n := 1) rfl r157.1 (by omega) (by omega); rw [← e175] at q176; obtain ⟨f177, f178, f179⟩ := q176) | (obtain ⟨q176, f177, f178, f179⟩ : ∃ q : Int, vx174.toInt = (1 : Int) + r157.1.toInt + 4294967296 * q ∧ -2147483648 ≤ vx174.toInt ∧ vx174.toInt ≤ 2147483647 := by rw [e175]; exact ti_cadd (c := 1) (n := 1) rfl r157.1)
            have f180 := ti_b (q_I r157.2 12 45 a0)
            have f181 : (q_I r157.2 12 45 a0).toInt = (q_I d52 12 45 a0).toInt := congrArg Int32.toInt (u165 12 45 a0 (by decide))
            have f182 := ti_b (q_I d52 12 45 a0)
            have f183 : (q_I d52 12 45 a0).toInt = (q_I d32 12 45 a0).toInt := congrArg Int32.toInt (by rw [e53]; exact rI_o (by decide))
            have f184 := ti_b (q_I d32 12 45 a0)
            have f185 : (q_I d32 12 45 a0).toInt = (q_I δ 12 45 a0).toInt := congrArg Int32.toInt (by rw [e33]; rfl)
            have f186 := ti_b (q_I δ 12 45 a0)
            refine ok_ite (fun h187 => ?_) (fun h187 => ?_)
            · have c188 : (q_I r157.2 12 45 a0).toInt < vx174.toInt := o_lt h187
              refine ok_bdv (fun d189 e190 => ?_)
              have i191 : RI ad h.1 δ0 d189 := by rw [e190]; exact cs_12_45 L i161
              have u192 := kp_I u168 e190
              have v193 : q_V d189 = q_V δ := ((show q_V d189 = q_V r157.2 by rw [e190]; rfl)).trans v169
              have v194 := kr_N v170 (show q_R d189 = q_R r157.2 by rw [e190]; rfl)
              obtain ⟨b195, o196, k197, n198, w199⟩ := gO_12_44 L k_a0
              obtain rfl := gS_12_44 L k_a0 o196
              refine ok_at o196 ?_
              refine ok_gd (fun hc200 => ?_) ?_
              · rcases hc200 with hc200 | hc200
                · have c201 : (0 : Int) < (0 : Int) := o_lt hc200
                  omega
                · omega
              refine ok_bdv (fun d202 e203 => ?_)
              have i204 : RI ad h.1 δ0 d202 := by rw [e203]; exact RI.sR L i191 w199
              have u205 := kp_N u192 (show q_I d202 = q_I d189 by rw [e203]; rfl)
              have v206 : q_V d202 = q_V δ := ((show q_V d202 = q_V d189 by rw [e203]; rfl)).trans v193
              have v207 := kr_s L (by decide) v194 e203
              refine ok_at o196 ?_
              have t208 : (1 : Int32).toNatClampNeg = 1 := rfl
              refine ok_gd (fun hc209 => ?_) ?_
              · rcases hc209 with hc209 | hc209
                · have c210 : (1 : Int) < (0 : Int) := o_lt hc209
                  omega
                · omega
              refine ok_bdv (fun d211 e212 => ?_)
              have i213 : RI ad h.1 δ0 d211 := by rw [e212]; exact RI.sR L i204 w199
              have u214 := kp_N u205 (show q_I d211 = q_I d202 by rw [e212]; rfl)
              have v215 : q_V d211 = q_V δ := ((show q_V d211 = q_V d202 by rw [e212]; rfl)).trans v206
              have v216 := kr_s L (by decide) v207 e212
              unfold J_X12_findTwo_132
              refine ok_biv (fun vx217 e218 => ?_)
              first | (have q219 := te_addc (c := 1) (n := 1) rfl x3v (by omega) (by omega); rw [← e218] at q219; obtain ⟨f220, f221, f222⟩ := q219) | (obtain ⟨q219, f220, f221, f222⟩ : ∃ q : Int, vx217.toInt = x3v.toInt + (1 : Int) + 4294967296 * q ∧ -2147483648 ≤ vx217.toInt ∧ vx217.toInt ≤ 2147483647 := by rw [e218]; exact ti_addc (c := 1) (n := 1) rfl x3v)
              refine ok_mono (ih x2v vx217 d211 i213 (show 0 ≤ (x2v).toInt by first | assumption | omega) (show (x2v).toInt < 327680 by first | assumption | omega) (show 327680 - (x2v).toInt ≤ K7 by first | assumption | omega) (show 0 ≤ (vx217).toInt by first | assumption | omega) (show (vx217).toInt ≤ 327680 by first | assumption | omega) (show 327680 - (vx217).toInt < _ by omega)) (fun r223 hr224 => ?_)
              obtain ⟨i225, ⟨u226, u227, u228⟩⟩ := hr224
              have u229 := kp_t u214 u226
              have v230 : q_V r223 = q_V δ := (u227).trans v215
              have v231 := kr_t v216 u228
              exact ⟨by assumption, ⟨kp_w (by decide) u229, v230, kr_w (by decide) v231⟩⟩
            · have c232 : vx174.toInt ≤ (q_I r157.2 12 45 a0).toInt := o_nlt h187
              unfold J_X12_findTwo_132
              refine ok_biv (fun vx233 e234 => ?_)
              first | (have q235 := te_addc (c := 1) (n := 1) rfl x3v (by omega) (by omega); rw [← e234] at q235; obtain ⟨f236, f237, f238⟩ := q235) | (obtain ⟨q235, f236, f237, f238⟩ : ∃ q : Int, vx233.toInt = x3v.toInt + (1 : Int) + 4294967296 * q ∧ -2147483648 ≤ vx233.toInt ∧ vx233.toInt ≤ 2147483647 := by rw [e234]; exact ti_addc (c := 1) (n := 1) rfl x3v)
              refine ok_mono (ih x2v vx233 r157.2 i161 (show 0 ≤ (x2v).toInt by first | assumption | omega) (show (x2v).toInt < 327680 by first | assumption | omega) (show 327680 - (x2v).toInt ≤ K7 by first | assumption | omega) (show 0 ≤ (vx233).toInt by first | assumption | omega) (show (vx233).toInt ≤ 327680 by first | assumption | omega) (show 327680 - (vx233).toInt < _ by omega)) (fun r239 hr240 => ?_)
              obtain ⟨i241, ⟨u242, u243, u244⟩⟩ := hr240
              have u245 := kp_t u168 u242
              have v246 : q_V r239 = q_V δ := (u243).trans v169
              have v247 := kr_t v170 u244
              exact ⟨by assumption, ⟨kp_w (by decide) u245, v246, kr_w (by decide) v247⟩⟩
        · have c248 : x2v.toInt < r38.1.toInt := o_nle h50
          unfold J_X12_findTwo_59
          refine ok_bdv (fun d249 e250 => ?_)
          have i251 : RI ad h.1 δ0 d249 := by rw [e250]; exact cs_12_36 L i34 k_a0 (show 0 ≤ (1 : Int) by omega) (show (1 : Int) ≤ 14000 by omega)
          have u252 := kp_I u35 e250
          have v253 : q_V d249 = q_V δ := ((show q_V d249 = q_V d32 by rw [e250]; rfl)).trans v36
          have v254 := kr_N v37 (show q_R d249 = q_R d32 by rw [e250]; rfl)
          refine ok_ite (fun h255 => ?_) (fun h255 => ?_)
          · have c256 : x1.toInt = (1 : Int) := o_eq h255
            unfold J_X12_findTwo_97
            refine ok_biv (fun vx257 e258 => ?_)
            first | (have q259 := te_cadd (c := 1) (n := 1) rfl (0 : Int32) (by omega) (by omega); rw [← e258] at q259; obtain ⟨f260, f261, f262⟩ := q259) | (obtain ⟨q259, f260, f261, f262⟩ : ∃ q : Int, vx257.toInt = (1 : Int) + (0 : Int) + 4294967296 * q ∧ -2147483648 ≤ vx257.toInt ∧ vx257.toInt ≤ 2147483647 := by rw [e258]; exact ti_cadd (c := 1) (n := 1) rfl (0 : Int32))
            have f263 := ti_b (q_I d249 12 45 a0)
            have f264 : (q_I d249 12 45 a0).toInt = (q_I d32 12 45 a0).toInt := congrArg Int32.toInt (by rw [e250]; exact rI_o (by decide))
            have f265 := ti_b (q_I d32 12 45 a0)
            have f266 : (q_I d32 12 45 a0).toInt = (q_I δ 12 45 a0).toInt := congrArg Int32.toInt (by rw [e33]; rfl)
            have f267 := ti_b (q_I δ 12 45 a0)
            refine ok_ite (fun h268 => ?_) (fun h268 => ?_)
            · have c269 : (q_I d249 12 45 a0).toInt < vx257.toInt := o_lt h268
              refine ok_bdv (fun d270 e271 => ?_)
              have i272 : RI ad h.1 δ0 d270 := by rw [e271]; exact cs_12_45 L i251
              have u273 := kp_I u252 e271
              have v274 : q_V d270 = q_V δ := ((show q_V d270 = q_V d249 by rw [e271]; rfl)).trans v253
              have v275 := kr_N v254 (show q_R d270 = q_R d249 by rw [e271]; rfl)
              obtain ⟨b276, o277, k278, n279, w280⟩ := gO_12_44 L k_a0
              obtain rfl := gS_12_44 L k_a0 o277
              refine ok_at o277 ?_
              refine ok_gd (fun hc281 => ?_) ?_
              · rcases hc281 with hc281 | hc281
                · have c282 : (0 : Int) < (0 : Int) := o_lt hc281
                  omega
                · omega
              refine ok_bdv (fun d283 e284 => ?_)
              have i285 : RI ad h.1 δ0 d283 := by rw [e284]; exact RI.sR L i272 w280
              have u286 := kp_N u273 (show q_I d283 = q_I d270 by rw [e284]; rfl)
              have v287 : q_V d283 = q_V δ := ((show q_V d283 = q_V d270 by rw [e284]; rfl)).trans v274
              have v288 := kr_s L (by decide) v275 e284
              refine ok_at o277 ?_
              have t289 : (1 : Int32).toNatClampNeg = 1 := rfl
              refine ok_gd (fun hc290 => ?_) ?_
              · rcases hc290 with hc290 | hc290
                · have c291 : (1 : Int) < (0 : Int) := o_lt hc290
                  omega
                · omega
              refine ok_bdv (fun d292 e293 => ?_)
              have i294 : RI ad h.1 δ0 d292 := by rw [e293]; exact RI.sR L i285 w280
              have u295 := kp_N u286 (show q_I d292 = q_I d283 by rw [e293]; rfl)
              have v296 : q_V d292 = q_V δ := ((show q_V d292 = q_V d283 by rw [e293]; rfl)).trans v287
              have v297 := kr_s L (by decide) v288 e293
              unfold J_X12_findTwo_132
              refine ok_biv (fun vx298 e299 => ?_)
              first | (have q300 := te_addc (c := 1) (n := 1) rfl x3v (by omega) (by omega); rw [← e299] at q300; obtain ⟨f301, f302, f303⟩ := q300) | (obtain ⟨q300, f301, f302, f303⟩ : ∃ q : Int, vx298.toInt = x3v.toInt + (1 : Int) + 4294967296 * q ∧ -2147483648 ≤ vx298.toInt ∧ vx298.toInt ≤ 2147483647 := by rw [e299]; exact ti_addc (c := 1) (n := 1) rfl x3v)
              refine ok_mono (ih x2v vx298 d292 i294 (show 0 ≤ (x2v).toInt by first | assumption | omega) (show (x2v).toInt < 327680 by first | assumption | omega) (show 327680 - (x2v).toInt ≤ K7 by first | assumption | omega) (show 0 ≤ (vx298).toInt by first | assumption | omega) (show (vx298).toInt ≤ 327680 by first | assumption | omega) (show 327680 - (vx298).toInt < _ by omega)) (fun r304 hr305 => ?_)
              obtain ⟨i306, ⟨u307, u308, u309⟩⟩ := hr305
              have u310 := kp_t u295 u307
              have v311 : q_V r304 = q_V δ := (u308).trans v296
              have v312 := kr_t v297 u309
              exact ⟨by assumption, ⟨kp_w (by decide) u310, v311, kr_w (by decide) v312⟩⟩
            · have c313 : vx257.toInt ≤ (q_I d249 12 45 a0).toInt := o_nlt h268
              unfold J_X12_findTwo_132
              refine ok_biv (fun vx314 e315 => ?_)
              first | (have q316 := te_addc (c := 1) (n := 1) rfl x3v (by omega) (by omega); rw [← e315] at q316; obtain ⟨f317, f318, f319⟩ := q316) | (obtain ⟨q316, f317, f318, f319⟩ : ∃ q : Int, vx314.toInt = x3v.toInt + (1 : Int) + 4294967296 * q ∧ -2147483648 ≤ vx314.toInt ∧ vx314.toInt ≤ 2147483647 := by rw [e315]; exact ti_addc (c := 1) (n := 1) rfl x3v)
              refine ok_mono (ih x2v vx314 d249 i251 (show 0 ≤ (x2v).toInt by first | assumption | omega) (show (x2v).toInt < 327680 by first | assumption | omega) (show 327680 - (x2v).toInt ≤ K7 by first | assumption | omega) (show 0 ≤ (vx314).toInt by first | assumption | omega) (show (vx314).toInt ≤ 327680 by first | assumption | omega) (show 327680 - (vx314).toInt < _ by omega)) (fun r320 hr321 => ?_)
              obtain ⟨i322, ⟨u323, u324, u325⟩⟩ := hr321
              have u326 := kp_t u252 u323
              have v327 : q_V r320 = q_V δ := (u324).trans v253
              have v328 := kr_t v254 u325
              exact ⟨by assumption, ⟨kp_w (by decide) u326, v327, kr_w (by decide) v328⟩⟩
          · have c329 : x1.toInt ≠ (1 : Int) := o_ne h255
            refine ok_bind (k_X12_all L hN (a0 := a0) k_a0 i251) (fun r330 hr331 => ?_)
            obtain ⟨i332, p333, p334, p335, p336⟩ := hr331
            try rw [i332]
            have f337 := ti_b r330.1
            have f338 := cb_12_10 i251 k_a0
            have f339 : (q_I d249 12 10 a0).toInt = (q_I d32 12 10 a0).toInt := congrArg Int32.toInt (by rw [e250]; exact rI_o (by decide))
            have f340 := ti_b r330.1
            refine ok_gd (fun hc341 => ?_) ?_
            · have c342 : r330.1.toInt = (0 : Int) := o_eq hc341
              omega
            refine ok_bind (k_X12_all L hN (a0 := a0) k_a0 i251) (fun r343 hr344 => ?_)
            obtain ⟨i345, p346, p347, p348, p349⟩ := hr344
            try rw [i345]
            have f350 := ti_b r343.1
            have f351 := ti_b r343.1
            refine ok_gd (fun hc352 => ?_) ?_
            · have c353 : r343.1.toInt = (0 : Int) := o_eq hc352
              omega
            have f356 := cb_12_36 i251 k_a0
            have f357 : (q_I d249 12 36 a0).toInt = (1 : Int) := congrArg Int32.toInt (show q_I d249 12 36 a0 = (1 : Int32) by rw [e250]; exact rI_s)
            refine ok_bind (k_X12_touch L hN (a0 := a0) (x1 := (x3v / r330.1)) (x2 := (x3v - x3v / r343.1 * r343.1)) (x3 := (q_I d249 12 10 a0)) (x4 := (0 : Int32)) (x5 := (q_I d249 12 36 a0)) k_a0 (show 1 ≤ ((q_I d249 12 10 a0)).toInt by first | assumption | omega) (show ((q_I d249 12 10 a0)).toInt ≤ 16 by first | assumption | omega) (show 0 ≤ (0 : Int) by first | assumption | omega) (show (0 : Int) ≤ ((q_I d249 12 36 a0)).toInt by first | assumption | omega) (show ((q_I d249 12 36 a0)).toInt ≤ (0 : Int) + 2000 by first | assumption | omega) (show ((q_I d249 12 36 a0)).toInt ≤ (q_I d249 12 36 a0).toInt by first | assumption | omega) (show (q_I d249 12 36 a0).toInt ≤ 12000 by first | assumption | omega) (show 1 < ((q_I d249 12 10 a0)).toInt → (q_I d249 12 36 a0).toInt ≤ 10000 by first | assumption | omega) (show 2 < ((q_I d249 12 10 a0)).toInt → (q_I d249 12 36 a0).toInt ≤ 8000 by first | assumption | omega) (show 4 < ((q_I d249 12 10 a0)).toInt → (q_I d249 12 36 a0).toInt ≤ 6000 by first | assumption | omega) (show 8 < ((q_I d249 12 10 a0)).toInt → (q_I d249 12 36 a0).toInt ≤ 4000 by first | assumption | omega) (show ((q_I d249 12 10 a0)).toInt < 20 by first | assumption | omega) i251) (fun r354 hr355 => ?_)
            obtain ⟨i358, ⟨u362, u363, u364⟩, p359, p360, p361⟩ := hr355
            have u365 := kp_t u252 u362
            have v366 : q_V r354.2 = q_V δ := (u363).trans v253
            have v367 := kr_t v254 u364
            have f368 := cb_12_36 i358 k_a0
            have f369 := ti_b r354.1
            have f370 := ti_b r354.1
            unfold J_X12_findTwo_97
            refine ok_biv (fun vx371 e372 => ?_)
            first | (have q373 := te_cadd (c := 1) (n := 1) rfl r354.1 (by omega) (by omega); rw [← e372] at q373; obtain ⟨f374, f375, f376⟩ := q373) | (obtain ⟨q373, f374, f375, f376⟩ : ∃ q : Int, vx371.toInt = (1 : Int) + r354.1.toInt + 4294967296 * q ∧ -2147483648 ≤ vx371.toInt ∧ vx371.toInt ≤ 2147483647 := by rw [e372]; exact ti_cadd (c := 1) (n := 1) rfl r354.1)
            have f377 := ti_b (q_I r354.2 12 45 a0)
            have f378 : (q_I r354.2 12 45 a0).toInt = (q_I d249 12 45 a0).toInt := congrArg Int32.toInt (u362 12 45 a0 (by decide))
            have f379 := ti_b (q_I d249 12 45 a0)
            have f380 : (q_I d249 12 45 a0).toInt = (q_I d32 12 45 a0).toInt := congrArg Int32.toInt (by rw [e250]; exact rI_o (by decide))
            have f381 := ti_b (q_I d32 12 45 a0)
            have f382 : (q_I d32 12 45 a0).toInt = (q_I δ 12 45 a0).toInt := congrArg Int32.toInt (by rw [e33]; rfl)
            have f383 := ti_b (q_I δ 12 45 a0)
            refine ok_ite (fun h384 => ?_) (fun h384 => ?_)
            · have c385 : (q_I r354.2 12 45 a0).toInt < vx371.toInt := o_lt h384
              refine ok_bdv (fun d386 e387 => ?_)
              have i388 : RI ad h.1 δ0 d386 := by rw [e387]; exact cs_12_45 L i358
              have u389 := kp_I u365 e387
              have v390 : q_V d386 = q_V δ := ((show q_V d386 = q_V r354.2 by rw [e387]; rfl)).trans v366
              have v391 := kr_N v367 (show q_R d386 = q_R r354.2 by rw [e387]; rfl)
              obtain ⟨b392, o393, k394, n395, w396⟩ := gO_12_44 L k_a0
              obtain rfl := gS_12_44 L k_a0 o393
              refine ok_at o393 ?_
              refine ok_gd (fun hc397 => ?_) ?_
              · rcases hc397 with hc397 | hc397
                · have c398 : (0 : Int) < (0 : Int) := o_lt hc397
                  omega
                · omega
              refine ok_bdv (fun d399 e400 => ?_)
              have i401 : RI ad h.1 δ0 d399 := by rw [e400]; exact RI.sR L i388 w396
              have u402 := kp_N u389 (show q_I d399 = q_I d386 by rw [e400]; rfl)
              have v403 : q_V d399 = q_V δ := ((show q_V d399 = q_V d386 by rw [e400]; rfl)).trans v390
              have v404 := kr_s L (by decide) v391 e400
              refine ok_at o393 ?_
              have t405 : (1 : Int32).toNatClampNeg = 1 := rfl
              refine ok_gd (fun hc406 => ?_) ?_
              · rcases hc406 with hc406 | hc406
                · have c407 : (1 : Int) < (0 : Int) := o_lt hc406
                  omega
                · omega
              refine ok_bdv (fun d408 e409 => ?_)
              have i410 : RI ad h.1 δ0 d408 := by rw [e409]; exact RI.sR L i401 w396
              have u411 := kp_N u402 (show q_I d408 = q_I d399 by rw [e409]; rfl)
              have v412 : q_V d408 = q_V δ := ((show q_V d408 = q_V d399 by rw [e409]; rfl)).trans v403
              have v413 := kr_s L (by decide) v404 e409
              unfold J_X12_findTwo_132
              refine ok_biv (fun vx414 e415 => ?_)
              first | (have q416 := te_addc (c := 1) (n := 1) rfl x3v (by omega) (by omega); rw [← e415] at q416; obtain ⟨f417, f418, f419⟩ := q416) | (obtain ⟨q416, f417, f418, f419⟩ : ∃ q : Int, vx414.toInt = x3v.toInt + (1 : Int) + 4294967296 * q ∧ -2147483648 ≤ vx414.toInt ∧ vx414.toInt ≤ 2147483647 := by rw [e415]; exact ti_addc (c := 1) (n := 1) rfl x3v)
              refine ok_mono (ih x2v vx414 d408 i410 (show 0 ≤ (x2v).toInt by first | assumption | omega) (show (x2v).toInt < 327680 by first | assumption | omega) (show 327680 - (x2v).toInt ≤ K7 by first | assumption | omega) (show 0 ≤ (vx414).toInt by first | assumption | omega) (show (vx414).toInt ≤ 327680 by first | assumption | omega) (show 327680 - (vx414).toInt < _ by omega)) (fun r420 hr421 => ?_)
              obtain ⟨i422, ⟨u423, u424, u425⟩⟩ := hr421
              have u426 := kp_t u411 u423
              have v427 : q_V r420 = q_V δ := (u424).trans v412
              have v428 := kr_t v413 u425
              exact ⟨by assumption, ⟨kp_w (by decide) u426, v427, kr_w (by decide) v428⟩⟩
            · have c429 : vx371.toInt ≤ (q_I r354.2 12 45 a0).toInt := o_nlt h384
              unfold J_X12_findTwo_132
              refine ok_biv (fun vx430 e431 => ?_)
              first | (have q432 := te_addc (c := 1) (n := 1) rfl x3v (by omega) (by omega); rw [← e431] at q432; obtain ⟨f433, f434, f435⟩ := q432) | (obtain ⟨q432, f433, f434, f435⟩ : ∃ q : Int, vx430.toInt = x3v.toInt + (1 : Int) + 4294967296 * q ∧ -2147483648 ≤ vx430.toInt ∧ vx430.toInt ≤ 2147483647 := by rw [e431]; exact ti_addc (c := 1) (n := 1) rfl x3v)
              refine ok_mono (ih x2v vx430 r354.2 i358 (show 0 ≤ (x2v).toInt by first | assumption | omega) (show (x2v).toInt < 327680 by first | assumption | omega) (show 327680 - (x2v).toInt ≤ K7 by first | assumption | omega) (show 0 ≤ (vx430).toInt by first | assumption | omega) (show (vx430).toInt ≤ 327680 by first | assumption | omega) (show 327680 - (vx430).toInt < _ by omega)) (fun r436 hr437 => ?_)
              obtain ⟨i438, ⟨u439, u440, u441⟩⟩ := hr437
              have u442 := kp_t u365 u439
              have v443 : q_V r436 = q_V δ := (u440).trans v366
              have v444 := kr_t v367 u441
              exact ⟨by assumption, ⟨kp_w (by decide) u442, v443, kr_w (by decide) v444⟩⟩
    · have c445 : x1.toInt ≠ (1 : Int) := o_ne h4
      refine ok_bind (k_X12_all L hN (a0 := a0) k_a0 I) (fun r446 hr447 => ?_)
      obtain ⟨i448, p449, p450, p451, p452⟩ := hr447
      try rw [i448]
      have f453 := ti_b r446.1
      have f454 := cb_12_10 I k_a0
      have f455 := ti_b r446.1
      unfold J_X12_findTwo_35
      first | (have q457 := te_mulc (c := 5) (n := 5) rfl r446.1 (by omega) (by omega); obtain ⟨f458, f459, f460⟩ := q457) | (obtain ⟨q457, f458, f459, f460⟩ := ti_mulc (c := 5) (n := 5) rfl r446.1)
      refine ok_ite (fun h461 => ?_) (fun h461 => ?_)
      · have c462 : ((5 : Int32) * r446.1).toInt ≤ x3v.toInt := o_le h461
        refine ok_biv (fun vx463 e464 => ?_)
        first | (have q465 := te_addc (c := 1) (n := 1) rfl x2v (by omega) (by omega); rw [← e464] at q465; obtain ⟨f466, f467, f468⟩ := q465) | (obtain ⟨q465, f466, f467, f468⟩ : ∃ q : Int, vx463.toInt = x2v.toInt + (1 : Int) + 4294967296 * q ∧ -2147483648 ≤ vx463.toInt ∧ vx463.toInt ≤ 2147483647 := by rw [e464]; exact ti_addc (c := 1) (n := 1) rfl x2v)
        refine ok_mono (h_kt7 vx463 δ I (show 0 ≤ (vx463).toInt by first | assumption | omega) (show (vx463).toInt ≤ 327680 by first | assumption | omega) (show 327680 - (vx463).toInt < _ by omega)) (fun r469 hr470 => ?_)
        obtain ⟨i471, ⟨u472, u473, u474⟩⟩ := hr470
        have u475 := kp_t kp_r u472
        have v476 : q_V r469 = q_V δ := (u473).trans rfl
        have v477 := kr_t (kr_r (ad := ad)) u474
        exact ⟨by assumption, ⟨kp_w (by decide) u475, v476, kr_w (by decide) v477⟩⟩
      · have c478 : x3v.toInt < ((5 : Int32) * r446.1).toInt := o_nle h461
        obtain ⟨b479, o480, k481, n482, w483⟩ := gO_12_35 L k_a0
        obtain rfl := gS_12_35 L k_a0 o480
        refine ok_at o480 ?_
        have t484 : (0 : Int32).toNatClampNeg = 0 := rfl
        refine ok_gd (fun hc485 => ?_) ?_
        · rcases hc485 with hc485 | hc485
          · have c486 : (0 : Int) < (0 : Int) := o_lt hc485
            omega
          · omega
        refine ok_bdv (fun d487 e488 => ?_)
        have i489 : RI ad h.1 δ0 d487 := by rw [e488]; exact RI.sR L I w483
        have u490 := kp_N kp_r (show q_I d487 = q_I δ by rw [e488]; rfl)
        have v491 : q_V d487 = q_V δ := ((show q_V d487 = q_V δ by rw [e488]; rfl)).trans rfl
        have v492 := kr_s L (by decide) (kr_r (ad := ad)) e488
        refine ok_bind (k_X12_all L hN (a0 := a0) k_a0 i489) (fun r493 hr494 => ?_)
        obtain ⟨i495, p496, p497, p498, p499⟩ := hr494
        try rw [i495]
        have f500 := ti_b r493.1
        have f501 := cb_12_10 i489 k_a0
        have f502 : (q_I d487 12 10 a0).toInt = (q_I δ 12 10 a0).toInt := congrArg Int32.toInt (by rw [e488]; rfl)
        have f503 := ti_b r493.1
        refine ok_ite (fun h504 => ?_) (fun h504 => ?_)
        · have c505 : r493.1.toInt ≤ x2v.toInt := o_le h504
          unfold J_X12_findTwo_59
          refine ok_bdv (fun d506 e507 => ?_)
          have i508 : RI ad h.1 δ0 d506 := by rw [e507]; exact cs_12_36 L i489 k_a0 (show 0 ≤ (0 : Int) by omega) (show (0 : Int) ≤ 14000 by omega)
          have u509 := kp_I u490 e507
          have v510 : q_V d506 = q_V δ := ((show q_V d506 = q_V d487 by rw [e507]; rfl)).trans v491
          have v511 := kr_N v492 (show q_R d506 = q_R d487 by rw [e507]; rfl)
          refine ok_ite (fun h512 => ?_) (fun h512 => ?_)
          · have c513 : x1.toInt = (1 : Int) := o_eq h512
            unfold J_X12_findTwo_97
            refine ok_biv (fun vx514 e515 => ?_)
            first | (have q516 := te_cadd (c := 1) (n := 1) rfl (0 : Int32) (by omega) (by omega); rw [← e515] at q516; obtain ⟨f517, f518, f519⟩ := q516) | (obtain ⟨q516, f517, f518, f519⟩ : ∃ q : Int, vx514.toInt = (1 : Int) + (0 : Int) + 4294967296 * q ∧ -2147483648 ≤ vx514.toInt ∧ vx514.toInt ≤ 2147483647 := by rw [e515]; exact ti_cadd (c := 1) (n := 1) rfl (0 : Int32))
            have f520 := ti_b (q_I d506 12 45 a0)
            have f521 : (q_I d506 12 45 a0).toInt = (q_I d487 12 45 a0).toInt := congrArg Int32.toInt (by rw [e507]; exact rI_o (by decide))
            have f522 := ti_b (q_I d487 12 45 a0)
            have f523 : (q_I d487 12 45 a0).toInt = (q_I δ 12 45 a0).toInt := congrArg Int32.toInt (by rw [e488]; rfl)
            have f524 := ti_b (q_I δ 12 45 a0)
            refine ok_ite (fun h525 => ?_) (fun h525 => ?_)
            · have c526 : (q_I d506 12 45 a0).toInt < vx514.toInt := o_lt h525
              refine ok_bdv (fun d527 e528 => ?_)
              have i529 : RI ad h.1 δ0 d527 := by rw [e528]; exact cs_12_45 L i508
              have u530 := kp_I u509 e528
              have v531 : q_V d527 = q_V δ := ((show q_V d527 = q_V d506 by rw [e528]; rfl)).trans v510
              have v532 := kr_N v511 (show q_R d527 = q_R d506 by rw [e528]; rfl)
              obtain ⟨b533, o534, k535, n536, w537⟩ := gO_12_44 L k_a0
              obtain rfl := gS_12_44 L k_a0 o534
              refine ok_at o534 ?_
              refine ok_gd (fun hc538 => ?_) ?_
              · rcases hc538 with hc538 | hc538
                · have c539 : (0 : Int) < (0 : Int) := o_lt hc538
                  omega
                · omega
              refine ok_bdv (fun d540 e541 => ?_)
              have i542 : RI ad h.1 δ0 d540 := by rw [e541]; exact RI.sR L i529 w537
              have u543 := kp_N u530 (show q_I d540 = q_I d527 by rw [e541]; rfl)
              have v544 : q_V d540 = q_V δ := ((show q_V d540 = q_V d527 by rw [e541]; rfl)).trans v531
              have v545 := kr_s L (by decide) v532 e541
              refine ok_at o534 ?_
              have t546 : (1 : Int32).toNatClampNeg = 1 := rfl
              refine ok_gd (fun hc547 => ?_) ?_
              · rcases hc547 with hc547 | hc547
                · have c548 : (1 : Int) < (0 : Int) := o_lt hc547
                  omega
                · omega
              refine ok_bdv (fun d549 e550 => ?_)
              have i551 : RI ad h.1 δ0 d549 := by rw [e550]; exact RI.sR L i542 w537
              have u552 := kp_N u543 (show q_I d549 = q_I d540 by rw [e550]; rfl)
              have v553 : q_V d549 = q_V δ := ((show q_V d549 = q_V d540 by rw [e550]; rfl)).trans v544
              have v554 := kr_s L (by decide) v545 e550
              unfold J_X12_findTwo_132
              refine ok_biv (fun vx555 e556 => ?_)
              first | (have q557 := te_addc (c := 1) (n := 1) rfl x3v (by omega) (by omega); rw [← e556] at q557; obtain ⟨f558, f559, f560⟩ := q557) | (obtain ⟨q557, f558, f559, f560⟩ : ∃ q : Int, vx555.toInt = x3v.toInt + (1 : Int) + 4294967296 * q ∧ -2147483648 ≤ vx555.toInt ∧ vx555.toInt ≤ 2147483647 := by rw [e556]; exact ti_addc (c := 1) (n := 1) rfl x3v)
              refine ok_mono (ih x2v vx555 d549 i551 (show 0 ≤ (x2v).toInt by first | assumption | omega) (show (x2v).toInt < 327680 by first | assumption | omega) (show 327680 - (x2v).toInt ≤ K7 by first | assumption | omega) (show 0 ≤ (vx555).toInt by first | assumption | omega) (show (vx555).toInt ≤ 327680 by first | assumption | omega) (show 327680 - (vx555).toInt < _ by omega)) (fun r561 hr562 => ?_)
              obtain ⟨i563, ⟨u564, u565, u566⟩⟩ := hr562
              have u567 := kp_t u552 u564
              have v568 : q_V r561 = q_V δ := (u565).trans v553
              have v569 := kr_t v554 u566
              exact ⟨by assumption, ⟨kp_w (by decide) u567, v568, kr_w (by decide) v569⟩⟩
            · have c570 : vx514.toInt ≤ (q_I d506 12 45 a0).toInt := o_nlt h525
              unfold J_X12_findTwo_132
              refine ok_biv (fun vx571 e572 => ?_)
              first | (have q573 := te_addc (c := 1) (n := 1) rfl x3v (by omega) (by omega); rw [← e572] at q573; obtain ⟨f574, f575, f576⟩ := q573) | (obtain ⟨q573, f574, f575, f576⟩ : ∃ q : Int, vx571.toInt = x3v.toInt + (1 : Int) + 4294967296 * q ∧ -2147483648 ≤ vx571.toInt ∧ vx571.toInt ≤ 2147483647 := by rw [e572]; exact ti_addc (c := 1) (n := 1) rfl x3v)
              refine ok_mono (ih x2v vx571 d506 i508 (show 0 ≤ (x2v).toInt by first | assumption | omega) (show (x2v).toInt < 327680 by first | assumption | omega) (show 327680 - (x2v).toInt ≤ K7 by first | assumption | omega) (show 0 ≤ (vx571).toInt by first | assumption | omega) (show (vx571).toInt ≤ 327680 by first | assumption | omega) (show 327680 - (vx571).toInt < _ by omega)) (fun r577 hr578 => ?_)
              obtain ⟨i579, ⟨u580, u581, u582⟩⟩ := hr578
              have u583 := kp_t u509 u580
              have v584 : q_V r577 = q_V δ := (u581).trans v510
              have v585 := kr_t v511 u582
              exact ⟨by assumption, ⟨kp_w (by decide) u583, v584, kr_w (by decide) v585⟩⟩
          · have c586 : x1.toInt ≠ (1 : Int) := o_ne h512
            refine ok_bind (k_X12_all L hN (a0 := a0) k_a0 i508) (fun r587 hr588 => ?_)
            obtain ⟨i589, p590, p591, p592, p593⟩ := hr588
            try rw [i589]
            have f594 := ti_b r587.1
            have f595 := cb_12_10 i508 k_a0
            have f596 : (q_I d506 12 10 a0).toInt = (q_I d487 12 10 a0).toInt := congrArg Int32.toInt (by rw [e507]; exact rI_o (by decide))
            have f597 := ti_b r587.1
            refine ok_gd (fun hc598 => ?_) ?_
            · have c599 : r587.1.toInt = (0 : Int) := o_eq hc598
              omega
            refine ok_bind (k_X12_all L hN (a0 := a0) k_a0 i508) (fun r600 hr601 => ?_)
            obtain ⟨i602, p603, p604, p605, p606⟩ := hr601
            try rw [i602]
            have f607 := ti_b r600.1
            have f608 := ti_b r600.1
            refine ok_gd (fun hc609 => ?_) ?_
            · have c610 : r600.1.toInt = (0 : Int) := o_eq hc609
              omega
            have f613 := cb_12_36 i508 k_a0
            have f614 : (q_I d506 12 36 a0).toInt = (0 : Int) := congrArg Int32.toInt (show q_I d506 12 36 a0 = (0 : Int32) by rw [e507]; exact rI_s)
            refine ok_bind (k_X12_touch L hN (a0 := a0) (x1 := (x3v / r587.1)) (x2 := (x3v - x3v / r600.1 * r600.1)) (x3 := (q_I d506 12 10 a0)) (x4 := (0 : Int32)) (x5 := (q_I d506 12 36 a0)) k_a0 (show 1 ≤ ((q_I d506 12 10 a0)).toInt by first | assumption | omega) (show ((q_I d506 12 10 a0)).toInt ≤ 16 by first | assumption | omega) (show 0 ≤ (0 : Int) by first | assumption | omega) (show (0 : Int) ≤ ((q_I d506 12 36 a0)).toInt by first | assumption | omega) (show ((q_I d506 12 36 a0)).toInt ≤ (0 : Int) + 2000 by first | assumption | omega) (show ((q_I d506 12 36 a0)).toInt ≤ (q_I d506 12 36 a0).toInt by first | assumption | omega) (show (q_I d506 12 36 a0).toInt ≤ 12000 by first | assumption | omega) (show 1 < ((q_I d506 12 10 a0)).toInt → (q_I d506 12 36 a0).toInt ≤ 10000 by first | assumption | omega) (show 2 < ((q_I d506 12 10 a0)).toInt → (q_I d506 12 36 a0).toInt ≤ 8000 by first | assumption | omega) (show 4 < ((q_I d506 12 10 a0)).toInt → (q_I d506 12 36 a0).toInt ≤ 6000 by first | assumption | omega) (show 8 < ((q_I d506 12 10 a0)).toInt → (q_I d506 12 36 a0).toInt ≤ 4000 by first | assumption | omega) (show ((q_I d506 12 10 a0)).toInt < 20 by first | assumption | omega) i508) (fun r611 hr612 => ?_)
            obtain ⟨i615, ⟨u619, u620, u621⟩, p616, p617, p618⟩ := hr612
            have u622 := kp_t u509 u619
            have v623 : q_V r611.2 = q_V δ := (u620).trans v510
            have v624 := kr_t v511 u621
            have f625 := cb_12_36 i615 k_a0
            have f626 := ti_b r611.1
            have f627 := ti_b r611.1
            unfold J_X12_findTwo_97
            refine ok_biv (fun vx628 e629 => ?_)
            first | (have q630 := te_cadd (c := 1) (n := 1) rfl r611.1 (by omega) (by omega); rw [← e629] at q630; obtain ⟨f631, f632, f633⟩ := q630) | (obtain ⟨q630, f631, f632, f633⟩ : ∃ q : Int, vx628.toInt = (1 : Int) + r611.1.toInt + 4294967296 * q ∧ -2147483648 ≤ vx628.toInt ∧ vx628.toInt ≤ 2147483647 := by rw [e629]; exact ti_cadd (c := 1) (n := 1) rfl r611.1)
            have f634 := ti_b (q_I r611.2 12 45 a0)
            have f635 : (q_I r611.2 12 45 a0).toInt = (q_I d506 12 45 a0).toInt := congrArg Int32.toInt (u619 12 45 a0 (by decide))
            have f636 := ti_b (q_I d506 12 45 a0)
            have f637 : (q_I d506 12 45 a0).toInt = (q_I d487 12 45 a0).toInt := congrArg Int32.toInt (by rw [e507]; exact rI_o (by decide))
            have f638 := ti_b (q_I d487 12 45 a0)
            have f639 : (q_I d487 12 45 a0).toInt = (q_I δ 12 45 a0).toInt := congrArg Int32.toInt (by rw [e488]; rfl)
            have f640 := ti_b (q_I δ 12 45 a0)
            refine ok_ite (fun h641 => ?_) (fun h641 => ?_)
            · have c642 : (q_I r611.2 12 45 a0).toInt < vx628.toInt := o_lt h641
              refine ok_bdv (fun d643 e644 => ?_)
              have i645 : RI ad h.1 δ0 d643 := by rw [e644]; exact cs_12_45 L i615
              have u646 := kp_I u622 e644
              have v647 : q_V d643 = q_V δ := ((show q_V d643 = q_V r611.2 by rw [e644]; rfl)).trans v623
              have v648 := kr_N v624 (show q_R d643 = q_R r611.2 by rw [e644]; rfl)
              obtain ⟨b649, o650, k651, n652, w653⟩ := gO_12_44 L k_a0
              obtain rfl := gS_12_44 L k_a0 o650
              refine ok_at o650 ?_
              refine ok_gd (fun hc654 => ?_) ?_
              · rcases hc654 with hc654 | hc654
                · have c655 : (0 : Int) < (0 : Int) := o_lt hc654
                  omega
                · omega
              refine ok_bdv (fun d656 e657 => ?_)
              have i658 : RI ad h.1 δ0 d656 := by rw [e657]; exact RI.sR L i645 w653
              have u659 := kp_N u646 (show q_I d656 = q_I d643 by rw [e657]; rfl)
              have v660 : q_V d656 = q_V δ := ((show q_V d656 = q_V d643 by rw [e657]; rfl)).trans v647
              have v661 := kr_s L (by decide) v648 e657
              refine ok_at o650 ?_
              have t662 : (1 : Int32).toNatClampNeg = 1 := rfl
              refine ok_gd (fun hc663 => ?_) ?_
              · rcases hc663 with hc663 | hc663
                · have c664 : (1 : Int) < (0 : Int) := o_lt hc663
                  omega
                · omega
              refine ok_bdv (fun d665 e666 => ?_)
              have i667 : RI ad h.1 δ0 d665 := by rw [e666]; exact RI.sR L i658 w653
              have u668 := kp_N u659 (show q_I d665 = q_I d656 by rw [e666]; rfl)
              have v669 : q_V d665 = q_V δ := ((show q_V d665 = q_V d656 by rw [e666]; rfl)).trans v660
              have v670 := kr_s L (by decide) v661 e666
              unfold J_X12_findTwo_132
              refine ok_biv (fun vx671 e672 => ?_)
              first | (have q673 := te_addc (c := 1) (n := 1) rfl x3v (by omega) (by omega); rw [← e672] at q673; obtain ⟨f674, f675, f676⟩ := q673) | (obtain ⟨q673, f674, f675, f676⟩ : ∃ q : Int, vx671.toInt = x3v.toInt + (1 : Int) + 4294967296 * q ∧ -2147483648 ≤ vx671.toInt ∧ vx671.toInt ≤ 2147483647 := by rw [e672]; exact ti_addc (c := 1) (n := 1) rfl x3v)
              refine ok_mono (ih x2v vx671 d665 i667 (show 0 ≤ (x2v).toInt by first | assumption | omega) (show (x2v).toInt < 327680 by first | assumption | omega) (show 327680 - (x2v).toInt ≤ K7 by first | assumption | omega) (show 0 ≤ (vx671).toInt by first | assumption | omega) (show (vx671).toInt ≤ 327680 by first | assumption | omega) (show 327680 - (vx671).toInt < _ by omega)) (fun r677 hr678 => ?_)
              obtain ⟨i679, ⟨u680, u681, u682⟩⟩ := hr678
              have u683 := kp_t u668 u680
              have v684 : q_V r677 = q_V δ := (u681).trans v669
              have v685 := kr_t v670 u682
              exact ⟨by assumption, ⟨kp_w (by decide) u683, v684, kr_w (by decide) v685⟩⟩
            · have c686 : vx628.toInt ≤ (q_I r611.2 12 45 a0).toInt := o_nlt h641
              unfold J_X12_findTwo_132
              refine ok_biv (fun vx687 e688 => ?_)
              first | (have q689 := te_addc (c := 1) (n := 1) rfl x3v (by omega) (by omega); rw [← e688] at q689; obtain ⟨f690, f691, f692⟩ := q689) | (obtain ⟨q689, f690, f691, f692⟩ : ∃ q : Int, vx687.toInt = x3v.toInt + (1 : Int) + 4294967296 * q ∧ -2147483648 ≤ vx687.toInt ∧ vx687.toInt ≤ 2147483647 := by rw [e688]; exact ti_addc (c := 1) (n := 1) rfl x3v)
              refine ok_mono (ih x2v vx687 r611.2 i615 (show 0 ≤ (x2v).toInt by first | assumption | omega) (show (x2v).toInt < 327680 by first | assumption | omega) (show 327680 - (x2v).toInt ≤ K7 by first | assumption | omega) (show 0 ≤ (vx687).toInt by first | assumption | omega) (show (vx687).toInt ≤ 327680 by first | assumption | omega) (show 327680 - (vx687).toInt < _ by omega)) (fun r693 hr694 => ?_)
              obtain ⟨i695, ⟨u696, u697, u698⟩⟩ := hr694
              have u699 := kp_t u622 u696
              have v700 : q_V r693 = q_V δ := (u697).trans v623
              have v701 := kr_t v624 u698
              exact ⟨by assumption, ⟨kp_w (by decide) u699, v700, kr_w (by decide) v701⟩⟩
        · have c702 : x2v.toInt < r493.1.toInt := o_nle h504
          unfold J_X12_findTwo_59
          refine ok_bdv (fun d703 e704 => ?_)
          have i705 : RI ad h.1 δ0 d703 := by rw [e704]; exact cs_12_36 L i489 k_a0 (show 0 ≤ (1 : Int) by omega) (show (1 : Int) ≤ 14000 by omega)
          have u706 := kp_I u490 e704
          have v707 : q_V d703 = q_V δ := ((show q_V d703 = q_V d487 by rw [e704]; rfl)).trans v491
          have v708 := kr_N v492 (show q_R d703 = q_R d487 by rw [e704]; rfl)
          refine ok_ite (fun h709 => ?_) (fun h709 => ?_)
          · have c710 : x1.toInt = (1 : Int) := o_eq h709
            unfold J_X12_findTwo_97
            refine ok_biv (fun vx711 e712 => ?_)
            first | (have q713 := te_cadd (c := 1) (n := 1) rfl (0 : Int32) (by omega) (by omega); rw [← e712] at q713; obtain ⟨f714, f715, f716⟩ := q713) | (obtain ⟨q713, f714, f715, f716⟩ : ∃ q : Int, vx711.toInt = (1 : Int) + (0 : Int) + 4294967296 * q ∧ -2147483648 ≤ vx711.toInt ∧ vx711.toInt ≤ 2147483647 := by rw [e712]; exact ti_cadd (c := 1) (n := 1) rfl (0 : Int32))
            have f717 := ti_b (q_I d703 12 45 a0)
            have f718 : (q_I d703 12 45 a0).toInt = (q_I d487 12 45 a0).toInt := congrArg Int32.toInt (by rw [e704]; exact rI_o (by decide))
            have f719 := ti_b (q_I d487 12 45 a0)
            have f720 : (q_I d487 12 45 a0).toInt = (q_I δ 12 45 a0).toInt := congrArg Int32.toInt (by rw [e488]; rfl)
            have f721 := ti_b (q_I δ 12 45 a0)
            refine ok_ite (fun h722 => ?_) (fun h722 => ?_)
            · have c723 : (q_I d703 12 45 a0).toInt < vx711.toInt := o_lt h722
              refine ok_bdv (fun d724 e725 => ?_)
              have i726 : RI ad h.1 δ0 d724 := by rw [e725]; exact cs_12_45 L i705
              have u727 := kp_I u706 e725
              have v728 : q_V d724 = q_V δ := ((show q_V d724 = q_V d703 by rw [e725]; rfl)).trans v707
              have v729 := kr_N v708 (show q_R d724 = q_R d703 by rw [e725]; rfl)
              obtain ⟨b730, o731, k732, n733, w734⟩ := gO_12_44 L k_a0
              obtain rfl := gS_12_44 L k_a0 o731
              refine ok_at o731 ?_
              refine ok_gd (fun hc735 => ?_) ?_
              · rcases hc735 with hc735 | hc735
                · have c736 : (0 : Int) < (0 : Int) := o_lt hc735
                  omega
                · omega
              refine ok_bdv (fun d737 e738 => ?_)
              have i739 : RI ad h.1 δ0 d737 := by rw [e738]; exact RI.sR L i726 w734
              have u740 := kp_N u727 (show q_I d737 = q_I d724 by rw [e738]; rfl)
              have v741 : q_V d737 = q_V δ := ((show q_V d737 = q_V d724 by rw [e738]; rfl)).trans v728
              have v742 := kr_s L (by decide) v729 e738
              refine ok_at o731 ?_
              have t743 : (1 : Int32).toNatClampNeg = 1 := rfl
              refine ok_gd (fun hc744 => ?_) ?_
              · rcases hc744 with hc744 | hc744
                · have c745 : (1 : Int) < (0 : Int) := o_lt hc744
                  omega
                · omega
              refine ok_bdv (fun d746 e747 => ?_)
              have i748 : RI ad h.1 δ0 d746 := by rw [e747]; exact RI.sR L i739 w734
              have u749 := kp_N u740 (show q_I d746 = q_I d737 by rw [e747]; rfl)
              have v750 : q_V d746 = q_V δ := ((show q_V d746 = q_V d737 by rw [e747]; rfl)).trans v741
              have v751 := kr_s L (by decide) v742 e747
              unfold J_X12_findTwo_132
              refine ok_biv (fun vx752 e753 => ?_)
              first | (have q754 := te_addc (c := 1) (n := 1) rfl x3v (by omega) (by omega); rw [← e753] at q754; obtain ⟨f755, f756, f757⟩ := q754) | (obtain ⟨q754, f755, f756, f757⟩ : ∃ q : Int, vx752.toInt = x3v.toInt + (1 : Int) + 4294967296 * q ∧ -2147483648 ≤ vx752.toInt ∧ vx752.toInt ≤ 2147483647 := by rw [e753]; exact ti_addc (c := 1) (n := 1) rfl x3v)
              refine ok_mono (ih x2v vx752 d746 i748 (show 0 ≤ (x2v).toInt by first | assumption | omega) (show (x2v).toInt < 327680 by first | assumption | omega) (show 327680 - (x2v).toInt ≤ K7 by first | assumption | omega) (show 0 ≤ (vx752).toInt by first | assumption | omega) (show (vx752).toInt ≤ 327680 by first | assumption | omega) (show 327680 - (vx752).toInt < _ by omega)) (fun r758 hr759 => ?_)
              obtain ⟨i760, ⟨u761, u762, u763⟩⟩ := hr759
              have u764 := kp_t u749 u761
              have v765 : q_V r758 = q_V δ := (u762).trans v750
              have v766 := kr_t v751 u763
              exact ⟨by assumption, ⟨kp_w (by decide) u764, v765, kr_w (by decide) v766⟩⟩
            · have c767 : vx711.toInt ≤ (q_I d703 12 45 a0).toInt := o_nlt h722
              unfold J_X12_findTwo_132
              refine ok_biv (fun vx768 e769 => ?_)
              first | (have q770 := te_addc (c := 1) (n := 1) rfl x3v (by omega) (by omega); rw [← e769] at q770; obtain ⟨f771, f772, f773⟩ := q770) | (obtain ⟨q770, f771, f772, f773⟩ : ∃ q : Int, vx768.toInt = x3v.toInt + (1 : Int) + 4294967296 * q ∧ -2147483648 ≤ vx768.toInt ∧ vx768.toInt ≤ 2147483647 := by rw [e769]; exact ti_addc (c := 1) (n := 1) rfl x3v)
              refine ok_mono (ih x2v vx768 d703 i705 (show 0 ≤ (x2v).toInt by first | assumption | omega) (show (x2v).toInt < 327680 by first | assumption | omega) (show 327680 - (x2v).toInt ≤ K7 by first | assumption | omega) (show 0 ≤ (vx768).toInt by first | assumption | omega) (show (vx768).toInt ≤ 327680 by first | assumption | omega) (show 327680 - (vx768).toInt < _ by omega)) (fun r774 hr775 => ?_)
              obtain ⟨i776, ⟨u777, u778, u779⟩⟩ := hr775
              have u780 := kp_t u706 u777
              have v781 : q_V r774 = q_V δ := (u778).trans v707
              have v782 := kr_t v708 u779
              exact ⟨by assumption, ⟨kp_w (by decide) u780, v781, kr_w (by decide) v782⟩⟩
          · have c783 : x1.toInt ≠ (1 : Int) := o_ne h709
            refine ok_bind (k_X12_all L hN (a0 := a0) k_a0 i705) (fun r784 hr785 => ?_)
            obtain ⟨i786, p787, p788, p789, p790⟩ := hr785
            try rw [i786]
            have f791 := ti_b r784.1
            have f792 := cb_12_10 i705 k_a0
            have f793 : (q_I d703 12 10 a0).toInt = (q_I d487 12 10 a0).toInt := congrArg Int32.toInt (by rw [e704]; exact rI_o (by decide))
            have f794 := ti_b r784.1
            refine ok_gd (fun hc795 => ?_) ?_
            · have c796 : r784.1.toInt = (0 : Int) := o_eq hc795
              omega
            refine ok_bind (k_X12_all L hN (a0 := a0) k_a0 i705) (fun r797 hr798 => ?_)
            obtain ⟨i799, p800, p801, p802, p803⟩ := hr798
            try rw [i799]
            have f804 := ti_b r797.1
            have f805 := ti_b r797.1
            refine ok_gd (fun hc806 => ?_) ?_
            · have c807 : r797.1.toInt = (0 : Int) := o_eq hc806
              omega
            have f810 := cb_12_36 i705 k_a0
            have f811 : (q_I d703 12 36 a0).toInt = (1 : Int) := congrArg Int32.toInt (show q_I d703 12 36 a0 = (1 : Int32) by rw [e704]; exact rI_s)
            refine ok_bind (k_X12_touch L hN (a0 := a0) (x1 := (x3v / r784.1)) (x2 := (x3v - x3v / r797.1 * r797.1)) (x3 := (q_I d703 12 10 a0)) (x4 := (0 : Int32)) (x5 := (q_I d703 12 36 a0)) k_a0 (show 1 ≤ ((q_I d703 12 10 a0)).toInt by first | assumption | omega) (show ((q_I d703 12 10 a0)).toInt ≤ 16 by first | assumption | omega) (show 0 ≤ (0 : Int) by first | assumption | omega) (show (0 : Int) ≤ ((q_I d703 12 36 a0)).toInt by first | assumption | omega) (show ((q_I d703 12 36 a0)).toInt ≤ (0 : Int) + 2000 by first | assumption | omega) (show ((q_I d703 12 36 a0)).toInt ≤ (q_I d703 12 36 a0).toInt by first | assumption | omega) (show (q_I d703 12 36 a0).toInt ≤ 12000 by first | assumption | omega) (show 1 < ((q_I d703 12 10 a0)).toInt → (q_I d703 12 36 a0).toInt ≤ 10000 by first | assumption | omega) (show 2 < ((q_I d703 12 10 a0)).toInt → (q_I d703 12 36 a0).toInt ≤ 8000 by first | assumption | omega) (show 4 < ((q_I d703 12 10 a0)).toInt → (q_I d703 12 36 a0).toInt ≤ 6000 by first | assumption | omega) (show 8 < ((q_I d703 12 10 a0)).toInt → (q_I d703 12 36 a0).toInt ≤ 4000 by first | assumption | omega) (show ((q_I d703 12 10 a0)).toInt < 20 by first | assumption | omega) i705) (fun r808 hr809 => ?_)
            obtain ⟨i812, ⟨u816, u817, u818⟩, p813, p814, p815⟩ := hr809
            have u819 := kp_t u706 u816
            have v820 : q_V r808.2 = q_V δ := (u817).trans v707
            have v821 := kr_t v708 u818
            have f822 := cb_12_36 i812 k_a0
            have f823 := ti_b r808.1
            have f824 := ti_b r808.1
            unfold J_X12_findTwo_97
            refine ok_biv (fun vx825 e826 => ?_)
            first | (have q827 := te_cadd (c := 1) (n := 1) rfl r808.1 (by omega) (by omega); rw [← e826] at q827; obtain ⟨f828, f829, f830⟩ := q827) | (obtain ⟨q827, f828, f829, f830⟩ : ∃ q : Int, vx825.toInt = (1 : Int) + r808.1.toInt + 4294967296 * q ∧ -2147483648 ≤ vx825.toInt ∧ vx825.toInt ≤ 2147483647 := by rw [e826]; exact ti_cadd (c := 1) (n := 1) rfl r808.1)
            have f831 := ti_b (q_I r808.2 12 45 a0)
            have f832 : (q_I r808.2 12 45 a0).toInt = (q_I d703 12 45 a0).toInt := congrArg Int32.toInt (u816 12 45 a0 (by decide))
            have f833 := ti_b (q_I d703 12 45 a0)
            have f834 : (q_I d703 12 45 a0).toInt = (q_I d487 12 45 a0).toInt := congrArg Int32.toInt (by rw [e704]; exact rI_o (by decide))
            have f835 := ti_b (q_I d487 12 45 a0)
            have f836 : (q_I d487 12 45 a0).toInt = (q_I δ 12 45 a0).toInt := congrArg Int32.toInt (by rw [e488]; rfl)
            have f837 := ti_b (q_I δ 12 45 a0)
            refine ok_ite (fun h838 => ?_) (fun h838 => ?_)
            · have c839 : (q_I r808.2 12 45 a0).toInt < vx825.toInt := o_lt h838
              refine ok_bdv (fun d840 e841 => ?_)
              have i842 : RI ad h.1 δ0 d840 := by rw [e841]; exact cs_12_45 L i812
              have u843 := kp_I u819 e841
              have v844 : q_V d840 = q_V δ := ((show q_V d840 = q_V r808.2 by rw [e841]; rfl)).trans v820
              have v845 := kr_N v821 (show q_R d840 = q_R r808.2 by rw [e841]; rfl)
              obtain ⟨b846, o847, k848, n849, w850⟩ := gO_12_44 L k_a0
              obtain rfl := gS_12_44 L k_a0 o847
              refine ok_at o847 ?_
              refine ok_gd (fun hc851 => ?_) ?_
              · rcases hc851 with hc851 | hc851
                · have c852 : (0 : Int) < (0 : Int) := o_lt hc851
                  omega
                · omega
              refine ok_bdv (fun d853 e854 => ?_)
              have i855 : RI ad h.1 δ0 d853 := by rw [e854]; exact RI.sR L i842 w850
              have u856 := kp_N u843 (show q_I d853 = q_I d840 by rw [e854]; rfl)
              have v857 : q_V d853 = q_V δ := ((show q_V d853 = q_V d840 by rw [e854]; rfl)).trans v844
              have v858 := kr_s L (by decide) v845 e854
              refine ok_at o847 ?_
              have t859 : (1 : Int32).toNatClampNeg = 1 := rfl
              refine ok_gd (fun hc860 => ?_) ?_
              · rcases hc860 with hc860 | hc860
                · have c861 : (1 : Int) < (0 : Int) := o_lt hc860
                  omega
                · omega
              refine ok_bdv (fun d862 e863 => ?_)
              have i864 : RI ad h.1 δ0 d862 := by rw [e863]; exact RI.sR L i855 w850
              have u865 := kp_N u856 (show q_I d862 = q_I d853 by rw [e863]; rfl)
              have v866 : q_V d862 = q_V δ := ((show q_V d862 = q_V d853 by rw [e863]; rfl)).trans v857
              have v867 := kr_s L (by decide) v858 e863
              unfold J_X12_findTwo_132
              refine ok_biv (fun vx868 e869 => ?_)
              first | (have q870 := te_addc (c := 1) (n := 1) rfl x3v (by omega) (by omega); rw [← e869] at q870; obtain ⟨f871, f872, f873⟩ := q870) | (obtain ⟨q870, f871, f872, f873⟩ : ∃ q : Int, vx868.toInt = x3v.toInt + (1 : Int) + 4294967296 * q ∧ -2147483648 ≤ vx868.toInt ∧ vx868.toInt ≤ 2147483647 := by rw [e869]; exact ti_addc (c := 1) (n := 1) rfl x3v)
              refine ok_mono (ih x2v vx868 d862 i864 (show 0 ≤ (x2v).toInt by first | assumption | omega) (show (x2v).toInt < 327680 by first | assumption | omega) (show 327680 - (x2v).toInt ≤ K7 by first | assumption | omega) (show 0 ≤ (vx868).toInt by first | assumption | omega) (show (vx868).toInt ≤ 327680 by first | assumption | omega) (show 327680 - (vx868).toInt < _ by omega)) (fun r874 hr875 => ?_)
              obtain ⟨i876, ⟨u877, u878, u879⟩⟩ := hr875
              have u880 := kp_t u865 u877
              have v881 : q_V r874 = q_V δ := (u878).trans v866
              have v882 := kr_t v867 u879
              exact ⟨by assumption, ⟨kp_w (by decide) u880, v881, kr_w (by decide) v882⟩⟩
            · have c883 : vx825.toInt ≤ (q_I r808.2 12 45 a0).toInt := o_nlt h838
              unfold J_X12_findTwo_132
              refine ok_biv (fun vx884 e885 => ?_)
              first | (have q886 := te_addc (c := 1) (n := 1) rfl x3v (by omega) (by omega); rw [← e885] at q886; obtain ⟨f887, f888, f889⟩ := q886) | (obtain ⟨q886, f887, f888, f889⟩ : ∃ q : Int, vx884.toInt = x3v.toInt + (1 : Int) + 4294967296 * q ∧ -2147483648 ≤ vx884.toInt ∧ vx884.toInt ≤ 2147483647 := by rw [e885]; exact ti_addc (c := 1) (n := 1) rfl x3v)
              refine ok_mono (ih x2v vx884 r808.2 i812 (show 0 ≤ (x2v).toInt by first | assumption | omega) (show (x2v).toInt < 327680 by first | assumption | omega) (show 327680 - (x2v).toInt ≤ K7 by first | assumption | omega) (show 0 ≤ (vx884).toInt by first | assumption | omega) (show (vx884).toInt ≤ 327680 by first | assumption | omega) (show 327680 - (vx884).toInt < _ by omega)) (fun r890 hr891 => ?_)
              obtain ⟨i892, ⟨u893, u894, u895⟩⟩ := hr891
              have u896 := kp_t u819 u893
              have v897 : q_V r890 = q_V δ := (u894).trans v820
              have v898 := kr_t v821 u895
              exact ⟨by assumption, ⟨kp_w (by decide) u896, v897, kr_w (by decide) v898⟩⟩
set_option maxHeartbeats 4000000 in
theorem kl_X12_findTwo_7 {ad : List Nat} {h : hp} (L : Lay TLx ad h) {δ0 : dp} {N : Nat} (hN : 10000000 ≤ N) {a0 : Nat} {x1 : Int32} (k_a0 : q_K h.1 a0 = 12) : ∀ (n : Nat) (x2v : Int32) (δ : dp), RI ad h.1 δ0 δ → 0 ≤ (x2v).toInt → (x2v).toInt ≤ 327680 → 327680 - (x2v).toInt < (n : Int) → ok (L_X12_findTwo_7 N h.1 a0 x1 n x2v δ) (fun r => RI ad h.1 δ0 r ∧ (kp [(12, 36), (12, 45)] δ r ∧ q_V r = q_V δ ∧ kr ad [119, 123] δ r)) := by
  intro n
  induction n with
  | zero =>
    intro x2v δ I j0 j1 hm
    have f1 := ti_b x2v
    exfalso; omega
  | succ n ih =>
    intro x2v δ I j0 j1 hm
    unfold L_X12_findTwo_7
    have f1 := ti_b x2v
    refine ok_bind (k_X12_all L hN (a0 := a0) k_a0 I) (fun r2 hr3 => ?_)
    obtain ⟨i4, p5, p6, p7, p8⟩ := hr3
    try rw [i4]
    have f9 := ti_b r2.1
    have f10 := cb_12_10 I k_a0
    have f11 := ti_b r2.1
    first | (have q13 := te_mulc (c := 5) (n := 5) rfl r2.1 (by omega) (by omega); obtain ⟨f14, f15, f16⟩ := q13) | (obtain ⟨q13, f14, f15, f16⟩ := ti_mulc (c := 5) (n := 5) rfl r2.1)
    refine ok_ite (fun h17 => ?_) (fun h17 => ?_)
    · have c18 : ((5 : Int32) * r2.1).toInt ≤ x2v.toInt := o_le h17
      exact ok_some (show RI ad h.1 δ0 δ ∧ (kp [(12, 36), (12, 45)] δ δ ∧ q_V δ = q_V δ ∧ kr ad [119, 123] δ δ) from ⟨I, ⟨kp_w (by decide) kp_r, rfl, kr_w (by decide) (kr_r (ad := ad))⟩⟩)
    · have c19 : x2v.toInt < ((5 : Int32) * r2.1).toInt := o_nle h17
      refine ok_mono (kl_X12_findTwo_19 L hN (K7 := (n : Int)) ih k_a0 _ x2v (0 : Int32) δ I (show 0 ≤ (x2v).toInt by first | assumption | omega) (show (x2v).toInt < 327680 by first | assumption | omega) (show 327680 - (x2v).toInt ≤ (n : Int) by first | assumption | omega) (show 0 ≤ (0 : Int) by first | assumption | omega) (show (0 : Int) ≤ 327680 by first | assumption | omega) (show 327680 - (0 : Int) < _ by omega)) (fun r20 hr21 => ?_)
      obtain ⟨i22, ⟨u23, u24, u25⟩⟩ := hr21
      have u26 := kp_t kp_r u23
      have v27 : q_V r20 = q_V δ := (u24).trans rfl
      have v28 := kr_t (kr_r (ad := ad)) u25
      exact ⟨by assumption, ⟨kp_w (by decide) u26, v27, kr_w (by decide) v28⟩⟩
set_option maxHeartbeats 4000000 in
theorem k_X12_findTwo {ad : List Nat} {h : hp} (L : Lay TLx ad h) {δ0 : dp} {N : Nat} (hN : 10000000 ≤ N) {a0 : Nat} {x1 : Int32} (k_a0 : q_K h.1 a0 = 12) {δ : dp} (I : RI ad h.1 δ0 δ) : ok (D_X12_findTwo N h.1 a0 x1 δ) (fun r => RI ad h.1 δ0 r ∧ (kp [(12, 36), (12, 45)] δ r ∧ q_V r = q_V δ ∧ kr ad [119, 123] δ r)) := by
  unfold D_X12_findTwo
  refine ok_bdv (fun d1 e2 => ?_)
  have i3 : RI ad h.1 δ0 d1 := by rw [e2]; exact cs_12_45 L I
  have u4 := kp_I kp_r e2
  have v5 : q_V d1 = q_V δ := ((show q_V d1 = q_V δ by rw [e2]; rfl)).trans rfl
  have v6 := kr_N (kr_r (ad := ad)) (show q_R d1 = q_R δ by rw [e2]; rfl)
  refine ok_mono (kl_X12_findTwo_7 L hN   k_a0 _ (0 : Int32) d1 i3 (show 0 ≤ (0 : Int) by first | assumption | omega) (show (0 : Int) ≤ 327680 by first | assumption | omega) (show 327680 - (0 : Int) < _ by omega)) (fun r7 hr8 => ?_)
  obtain ⟨i9, ⟨u10, u11, u12⟩⟩ := hr8
  have u13 := kp_t u4 u10
  have v14 : q_V r7 = q_V δ := (u11).trans v5
  have v15 := kr_t v6 u12
  exact ⟨by assumption, ⟨kp_w (by decide) u13, v14, kr_w (by decide) v15⟩⟩
set_option maxHeartbeats 4000000 in
theorem kl_X12_room_60 {ad : List Nat} {h : hp} (L : Lay TLx ad h) {δ0 : dp} {N : Nat} (hN : 10000000 ≤ N) {a0 : Nat} {x1 : Int32} {x2 : Int32} (k_a0 : q_K h.1 a0 = 12) : ∀ (n : Nat) (x3v : Int32) (x4v : Int32) (δ : dp), RI ad h.1 δ0 δ → 0 ≤ (x1).toInt → (x1).toInt ≤ 3 → 0 ≤ (x4v).toInt → (x4v).toInt ≤ 1000 → -(x4v).toInt ≤ (q_R δ (Ad ad 103) (x1).toNatClampNeg).toInt → (q_R δ (Ad ad 103) (x1).toNatClampNeg).toInt ≤ (x4v).toInt → 1000 - (x4v).toInt < (n : Int) → ok (L_X12_room_60 N h.1 a0 x1 x2 n x3v x4v δ) (fun r => RI ad h.1 δ0 r.2 ∧ (kp [(12, 0), (12, 36), (12, 47)] δ r.2 ∧ q_V r.2 = q_V δ ∧ kr ad [100, 102, 103, 119, 124] δ r.2)) := by
  intro n
  induction n with
  | zero =>
    intro x3v x4v δ I j0 j1 j2 j3 j4 j5 hm
    have f1 := ti_b x1
    have f2 := ti_b x4v
    have t3 := ti_tn x1
    have f4 := rb_103 L I (x1).toNatClampNeg
    exfalso; omega
  | succ n ih =>
    intro x3v x4v δ I j0 j1 j2 j3 j4 j5 hm
    unfold L_X12_room_60
    have f1 := ti_b x1
    have f2 := ti_b x4v
    have t3 := ti_tn x1
    have f4 := rb_103 L I (x1).toNatClampNeg
    obtain ⟨b5, o6, k7, n8⟩ := gO_12_17 L k_a0
    obtain rfl := gS_12_17 L k_a0 o6
    refine ok_at o6 ?_
    have t9 := ti_tn x1
    refine ok_gd (fun hc10 => ?_) ?_
    · rcases hc10 with hc10 | hc10
      · have c11 : x1.toInt < (0 : Int) := o_lt hc10
        omega
      · omega
    have f12 := rb_106 L I x1.toNatClampNeg
    refine ok_ite (fun h13 => ?_) (fun h13 => ?_)
    · have c14 : (q_R δ (Ad ad 106) x1.toNatClampNeg).toInt ≤ x4v.toInt := o_le h13
      refine ok_bind (k_X12_comesBack L hN (a0 := a0) (x1 := x1) k_a0 (show 0 ≤ (x1).toInt by first | assumption | omega) (show (x1).toInt ≤ 3 by first | assumption | omega) I) (fun r15 hr16 => ?_)
      obtain ⟨i17, ⟨u18, u19, u20⟩⟩ := hr16
      have u21 := kp_t kp_r u18
      have v22 : q_V r15 = q_V δ := (u19).trans rfl
      have v23 := kr_t (kr_r (ad := ad)) u20
      exact ok_some (show RI ad h.1 δ0 r15 ∧ (kp [(12, 0), (12, 36), (12, 47)] δ r15 ∧ q_V r15 = q_V δ ∧ kr ad [100, 102, 103, 119, 124] δ r15) from ⟨i17, ⟨kp_w (by decide) u21, v22, kr_w (by decide) v23⟩⟩)
    · have c24 : x4v.toInt < (q_R δ (Ad ad 106) x1.toNatClampNeg).toInt := o_nle h13
      obtain ⟨b25, o26, k27, n28, w29⟩ := gO_12_16 L k_a0
      obtain rfl := gS_12_16 L k_a0 o26
      refine ok_at o26 ?_
      first | (have q31 := te_mulc (c := 1000) (n := 1000) rfl x1 (by omega) (by omega); obtain ⟨f32, f33, f34⟩ := q31) | (obtain ⟨q31, f32, f33, f34⟩ := ti_mulc (c := 1000) (n := 1000) rfl x1)
      first | (have q36 := te_add ((1000 : Int32) * x1) x4v (by omega) (by omega); obtain ⟨f37, f38, f39⟩ := q36) | (obtain ⟨q36, f37, f38, f39⟩ := ti_add ((1000 : Int32) * x1) x4v)
      have t40 := ti_tn (((1000 : Int32) * x1) + x4v)
      refine ok_gd (fun hc41 => ?_) ?_
      · rcases hc41 with hc41 | hc41
        · have c42 : (((1000 : Int32) * x1) + x4v).toInt < (0 : Int) := o_lt hc41
          omega
        · omega
      have f43 := ti_b (q_R δ (Ad ad 105) (((1000 : Int32) * x1) + x4v).toNatClampNeg)
      refine ok_ite (fun h44 => ?_) (fun h44 => ?_)
      · have c45 : (q_R δ (Ad ad 105) (((1000 : Int32) * x1) + x4v).toNatClampNeg).toInt = (1 : Int) := o_eq h44
        unfold J_X12_room_96
        obtain ⟨b46, o47, k48, n49, w50⟩ := gO_12_15 L k_a0
        obtain rfl := gS_12_15 L k_a0 o47
        refine ok_at o47 ?_
        refine ok_gd (fun hc51 => ?_) ?_
        · rcases hc51 with hc51 | hc51
          · have c52 : (((1000 : Int32) * x1) + x4v).toInt < (0 : Int) := o_lt hc51
            omega
          · omega
        refine ok_bind (k_X12_halves L hN (a0 := a0) (x1 := x1) (x2 := (0 : Int32)) (x3 := (q_R δ (Ad ad 104) (((1000 : Int32) * x1) + x4v).toNatClampNeg)) k_a0 (show 0 ≤ (x1).toInt by first | assumption | omega) (show (x1).toInt ≤ 3 by first | assumption | omega) I) (fun r53 hr54 => ?_)
        obtain ⟨i55, ⟨u56, u57, u58⟩⟩ := hr54
        have u59 := kp_t kp_r u56
        have v60 : q_V r53.2 = q_V δ := (u57).trans rfl
        have v61 := kr_t (kr_r (ad := ad)) u58
        have f62 := ti_b r53.1
        have f65 := ti_b x3v
        refine ok_biv (fun vx63 e64 => ?_)
        first | (have q66 := te_add x3v r53.1 (by omega) (by omega); rw [← e64] at q66; obtain ⟨f67, f68, f69⟩ := q66) | (obtain ⟨q66, f67, f68, f69⟩ : ∃ q : Int, vx63.toInt = x3v.toInt + r53.1.toInt + 4294967296 * q ∧ -2147483648 ≤ vx63.toInt ∧ vx63.toInt ≤ 2147483647 := by rw [e64]; exact ti_add x3v r53.1)
        have f72 : (q_R r53.2 (Ad ad 103) (x1).toNatClampNeg).toInt = (q_R δ (Ad ad 103) (x1).toNatClampNeg).toInt := congrArg Int32.toInt (congrFun (u58 103 (by decide) (by decide) (by decide)) _)
        have f73 := rb_103 L i55 (x1).toNatClampNeg
        refine ok_bind (k_X12_changes L hN (a0 := a0) (x1 := x1) (x2 := x4v) k_a0 (show 0 ≤ (x1).toInt by first | assumption | omega) (show (x1).toInt ≤ 3 by first | assumption | omega) (show 0 ≤ (x4v).toInt by first | assumption | omega) (show (x4v).toInt < 1000 by first | assumption | omega) (show -999 ≤ (q_R r53.2 (Ad ad 103) (x1).toNatClampNeg).toInt by first | assumption | omega) (show (q_R r53.2 (Ad ad 103) (x1).toNatClampNeg).toInt < 2000 by first | assumption | omega) i55) (fun r70 hr71 => ?_)
        obtain ⟨i74, ⟨u77, u78, u79⟩, p75, p76⟩ := hr71
        have u80 := kp_t u59 u77
        have v81 : q_V r70 = q_V δ := (u78).trans v60
        have v82 := kr_t v61 u79
        have f83 := rb_103 L i74 (x1).toNatClampNeg
        refine ok_biv (fun vx84 e85 => ?_)
        first | (have q86 := te_addc (c := 1) (n := 1) rfl x4v (by omega) (by omega); rw [← e85] at q86; obtain ⟨f87, f88, f89⟩ := q86) | (obtain ⟨q86, f87, f88, f89⟩ : ∃ q : Int, vx84.toInt = x4v.toInt + (1 : Int) + 4294967296 * q ∧ -2147483648 ≤ vx84.toInt ∧ vx84.toInt ≤ 2147483647 := by rw [e85]; exact ti_addc (c := 1) (n := 1) rfl x4v)
        refine ok_mono (ih vx63 vx84 r70 i74 (show 0 ≤ (x1).toInt by first | assumption | omega) (show (x1).toInt ≤ 3 by first | assumption | omega) (show 0 ≤ (vx84).toInt by first | assumption | omega) (show (vx84).toInt ≤ 1000 by first | assumption | omega) (show -(vx84).toInt ≤ (q_R r70 (Ad ad 103) (x1).toNatClampNeg).toInt by first | assumption | omega) (show (q_R r70 (Ad ad 103) (x1).toNatClampNeg).toInt ≤ (vx84).toInt by first | assumption | omega) (show 1000 - (vx84).toInt < _ by omega)) (fun r90 hr91 => ?_)
        obtain ⟨i92, ⟨u93, u94, u95⟩⟩ := hr91
        have u96 := kp_t u80 u93
        have v97 : q_V r90.2 = q_V δ := (u94).trans v81
        have v98 := kr_t v82 u95
        have f99 := ti_b r90.1
        exact ⟨by assumption, ⟨kp_w (by decide) u96, v97, kr_w (by decide) v98⟩⟩
      · have c100 : (q_R δ (Ad ad 105) (((1000 : Int32) * x1) + x4v).toNatClampNeg).toInt ≠ (1 : Int) := o_ne h44
        unfold J_X12_room_96
        obtain ⟨b101, o102, k103, n104, w105⟩ := gO_12_15 L k_a0
        obtain rfl := gS_12_15 L k_a0 o102
        refine ok_at o102 ?_
        refine ok_gd (fun hc106 => ?_) ?_
        · rcases hc106 with hc106 | hc106
          · have c107 : (((1000 : Int32) * x1) + x4v).toInt < (0 : Int) := o_lt hc106
            omega
          · omega
        refine ok_bind (k_X12_halves L hN (a0 := a0) (x1 := x1) (x2 := (1 : Int32)) (x3 := (q_R δ (Ad ad 104) (((1000 : Int32) * x1) + x4v).toNatClampNeg)) k_a0 (show 0 ≤ (x1).toInt by first | assumption | omega) (show (x1).toInt ≤ 3 by first | assumption | omega) I) (fun r108 hr109 => ?_)
        obtain ⟨i110, ⟨u111, u112, u113⟩⟩ := hr109
        have u114 := kp_t kp_r u111
        have v115 : q_V r108.2 = q_V δ := (u112).trans rfl
        have v116 := kr_t (kr_r (ad := ad)) u113
        have f117 := ti_b r108.1
        have f120 := ti_b x3v
        refine ok_biv (fun vx118 e119 => ?_)
        first | (have q121 := te_add x3v r108.1 (by omega) (by omega); rw [← e119] at q121; obtain ⟨f122, f123, f124⟩ := q121) | (obtain ⟨q121, f122, f123, f124⟩ : ∃ q : Int, vx118.toInt = x3v.toInt + r108.1.toInt + 4294967296 * q ∧ -2147483648 ≤ vx118.toInt ∧ vx118.toInt ≤ 2147483647 := by rw [e119]; exact ti_add x3v r108.1)
        have f127 : (q_R r108.2 (Ad ad 103) (x1).toNatClampNeg).toInt = (q_R δ (Ad ad 103) (x1).toNatClampNeg).toInt := congrArg Int32.toInt (congrFun (u113 103 (by decide) (by decide) (by decide)) _)
        have f128 := rb_103 L i110 (x1).toNatClampNeg
        refine ok_bind (k_X12_changes L hN (a0 := a0) (x1 := x1) (x2 := x4v) k_a0 (show 0 ≤ (x1).toInt by first | assumption | omega) (show (x1).toInt ≤ 3 by first | assumption | omega) (show 0 ≤ (x4v).toInt by first | assumption | omega) (show (x4v).toInt < 1000 by first | assumption | omega) (show -999 ≤ (q_R r108.2 (Ad ad 103) (x1).toNatClampNeg).toInt by first | assumption | omega) (show (q_R r108.2 (Ad ad 103) (x1).toNatClampNeg).toInt < 2000 by first | assumption | omega) i110) (fun r125 hr126 => ?_)
        obtain ⟨i129, ⟨u132, u133, u134⟩, p130, p131⟩ := hr126
        have u135 := kp_t u114 u132
        have v136 : q_V r125 = q_V δ := (u133).trans v115
        have v137 := kr_t v116 u134
        have f138 := rb_103 L i129 (x1).toNatClampNeg
        refine ok_biv (fun vx139 e140 => ?_)
        first | (have q141 := te_addc (c := 1) (n := 1) rfl x4v (by omega) (by omega); rw [← e140] at q141; obtain ⟨f142, f143, f144⟩ := q141) | (obtain ⟨q141, f142, f143, f144⟩ : ∃ q : Int, vx139.toInt = x4v.toInt + (1 : Int) + 4294967296 * q ∧ -2147483648 ≤ vx139.toInt ∧ vx139.toInt ≤ 2147483647 := by rw [e140]; exact ti_addc (c := 1) (n := 1) rfl x4v)
        refine ok_mono (ih vx118 vx139 r125 i129 (show 0 ≤ (x1).toInt by first | assumption | omega) (show (x1).toInt ≤ 3 by first | assumption | omega) (show 0 ≤ (vx139).toInt by first | assumption | omega) (show (vx139).toInt ≤ 1000 by first | assumption | omega) (show -(vx139).toInt ≤ (q_R r125 (Ad ad 103) (x1).toNatClampNeg).toInt by first | assumption | omega) (show (q_R r125 (Ad ad 103) (x1).toNatClampNeg).toInt ≤ (vx139).toInt by first | assumption | omega) (show 1000 - (vx139).toInt < _ by omega)) (fun r145 hr146 => ?_)
        obtain ⟨i147, ⟨u148, u149, u150⟩⟩ := hr146
        have u151 := kp_t u135 u148
        have v152 : q_V r145.2 = q_V δ := (u149).trans v136
        have v153 := kr_t v137 u150
        have f154 := ti_b r145.1
        exact ⟨by assumption, ⟨kp_w (by decide) u151, v152, kr_w (by decide) v153⟩⟩
set_option maxHeartbeats 4000000 in
theorem k_X12_room {ad : List Nat} {h : hp} (L : Lay TLx ad h) {δ0 : dp} {N : Nat} (hN : 10000000 ≤ N) {a0 : Nat} {x1 : Int32} {x2 : Int32} (k_a0 : q_K h.1 a0 = 12) {δ : dp} (I : RI ad h.1 δ0 δ) : ok (D_X12_room N h.1 a0 x1 x2 δ) (fun r => RI ad h.1 δ0 r.2 ∧ (kp [(12, 0), (12, 36), (12, 47)] δ r.2 ∧ q_V r.2 = q_V δ ∧ kr ad [100, 102, 103, 119, 124] δ r.2)) := by
  unfold D_X12_room
  refine ok_bdv (fun d1 e2 => ?_)
  have i3 : RI ad h.1 δ0 d1 := by rw [e2]; exact cs_12_0 L I
  have u4 := kp_I kp_r e2
  have v5 : q_V d1 = q_V δ := ((show q_V d1 = q_V δ by rw [e2]; rfl)).trans rfl
  have v6 := kr_N (kr_r (ad := ad)) (show q_R d1 = q_R δ by rw [e2]; rfl)
  refine ok_bind (k_X12_isHouse L hN (a0 := a0) (x1 := x1) (x2 := (1 : Int32)) k_a0 (show (1 : Int) ≠ 0 by first | assumption | omega) i3) (fun r7 hr8 => ?_)
  obtain ⟨i9, ⟨u12, u13, u14⟩, p10, p11⟩ := hr8
  have u15 := kp_t u4 u12
  have v16 : q_V r7.2 = q_V δ := (u13).trans v5
  have v17 := kr_t v6 u14
  have f18 := bo_l p10
  have f19 := ti_b r7.1
  have f20 := ti_b x1
  have f21 := ti_b r7.1
  refine ok_ite (fun h22 => ?_) (fun h22 => ?_)
  · have c23 : r7.1.toInt = (0 : Int) := o_eq h22
    unfold J_X12_room_29
    exact ok_some (show RI ad h.1 δ0 r7.2 ∧ (kp [(12, 0), (12, 36), (12, 47)] δ r7.2 ∧ q_V r7.2 = q_V δ ∧ kr ad [100, 102, 103, 119, 124] δ r7.2) from ⟨i9, ⟨kp_w (by decide) u15, v16, kr_w (by decide) v17⟩⟩)
  · have c24 : r7.1.toInt ≠ (0 : Int) := o_ne h22
    refine ok_bind (k_X12_within L hN (x0 := x2) (x1 := (0 : Int32)) (x2 := (1 : Int32))  i9) (fun r25 hr26 => ?_)
    obtain ⟨i27, p28, p29, p30⟩ := hr26
    try rw [i27]
    have f31 := bo_l p28
    have f32 := ti_b r25.1
    have f33 := ti_b x2
    replace p29 : ((r25.1).toInt = 1 → (0 : Int) ≤ (x2).toInt ∧ (x2).toInt ≤ (1 : Int)) := p29
    replace p30 : ((r25.1).toInt = 0 → (x2).toInt < (0 : Int) ∨ (1 : Int) < (x2).toInt) := p30
    have f34 := ti_b r25.1
    refine ok_bind (k_X12_may L hN (a0 := a0) (x1 := r25.1) (x2 := (2 : Int32)) (x3 := (2 : Int32)) k_a0 (show (2 : Int) ≠ 0 by first | assumption | omega) (show 0 ≤ (2 : Int) by first | assumption | omega) (show (2 : Int) ≤ 2 by first | assumption | omega) i9) (fun r35 hr36 => ?_)
    obtain ⟨i37, ⟨u41, u42, u43⟩, p38, p39, p40⟩ := hr36
    have u44 := kp_t u15 u41
    have v45 : q_V r35.2 = q_V δ := (u42).trans v16
    have v46 := kr_t v17 u43
    have f47 := bo_l p38
    have f48 := ti_b r35.1
    have f49 := ti_b (q_I r7.2 12 0 a0)
    have f50 := ti_b r35.1
    refine ok_ite (fun h51 => ?_) (fun h51 => ?_)
    · have c52 : r35.1.toInt = (0 : Int) := o_eq h51
      unfold J_X12_room_29
      exact ok_some (show RI ad h.1 δ0 r35.2 ∧ (kp [(12, 0), (12, 36), (12, 47)] δ r35.2 ∧ q_V r35.2 = q_V δ ∧ kr ad [100, 102, 103, 119, 124] δ r35.2) from ⟨i37, ⟨kp_w (by decide) u44, v45, kr_w (by decide) v46⟩⟩)
    · have c53 : r35.1.toInt ≠ (0 : Int) := o_ne h51
      refine ok_ite (fun h54 => ?_) (fun h54 => ?_)
      · have c55 : x2.toInt = (1 : Int) := o_eq h54
        obtain ⟨b56, o57, k58, n59⟩ := gO_12_17 L k_a0
        obtain rfl := gS_12_17 L k_a0 o57
        refine ok_at o57 ?_
        have t60 := ti_tn x1
        refine ok_gd (fun hc61 => ?_) ?_
        · rcases hc61 with hc61 | hc61
          · have c62 : x1.toInt < (0 : Int) := o_lt hc61
            omega
          · omega
        exact ok_some (show RI ad h.1 δ0 r35.2 ∧ (kp [(12, 0), (12, 36), (12, 47)] δ r35.2 ∧ q_V r35.2 = q_V δ ∧ kr ad [100, 102, 103, 119, 124] δ r35.2) from ⟨i37, ⟨kp_w (by decide) u44, v45, kr_w (by decide) v46⟩⟩)
      · have c63 : x2.toInt ≠ (1 : Int) := o_ne h54
        refine ok_bind (k_X12_keeps L hN (a0 := a0) (x1 := x1) k_a0 (show 0 ≤ (x1).toInt by first | assumption | omega) (show (x1).toInt ≤ 3 by first | assumption | omega) i37) (fun r64 hr65 => ?_)
        obtain ⟨i66, ⟨u68, u69, u70⟩, p67⟩ := hr65
        have u71 := kp_t u44 u68
        have v72 : q_V r64 = q_V δ := (u69).trans v45
        have v73 := kr_t v46 u70
        have f74 := cb_12_47 i66 k_a0
        have t75 := ti_tn x1
        have f76 : (q_R r35.2 (Ad ad 103) (x1).toNatClampNeg).toInt = (q_R r7.2 (Ad ad 103) (x1).toNatClampNeg).toInt := congrArg Int32.toInt (congrFun (u43 103 (by decide) (by decide) (by decide)) _)
        have f77 : (q_R r7.2 (Ad ad 103) (x1).toNatClampNeg).toInt = (q_R d1 (Ad ad 103) (x1).toNatClampNeg).toInt := congrArg Int32.toInt (congrFun (u14 103 (by decide) (by decide) (by decide)) _)
        have f78 : (q_R d1 (Ad ad 103) (x1).toNatClampNeg).toInt = (q_R δ (Ad ad 103) (x1).toNatClampNeg).toInt := congrArg Int32.toInt (show q_R d1 (Ad ad 103) (x1).toNatClampNeg = _ by rw [e2]; rfl)
        have f79 := rb_103 L I (x1).toNatClampNeg
        have f80 := rb_103 L i3 (x1).toNatClampNeg
        have f81 := rb_103 L i9 (x1).toNatClampNeg
        have f82 := rb_103 L i37 (x1).toNatClampNeg
        obtain ⟨b83, o84, k85, n86⟩ := gO_12_14 L k_a0
        obtain rfl := gS_12_14 L k_a0 o84
        refine ok_at o84 ?_
        have t87 := ti_tn x1
        refine ok_gd (fun hc88 => ?_) ?_
        · rcases hc88 with hc88 | hc88
          · have c89 : x1.toInt < (0 : Int) := o_lt hc88
            omega
          · omega
        refine ok_bdv (fun d90 e91 => ?_)
        have i92 : RI ad h.1 δ0 d90 := by rw [e91]; exact cr_103 L i66 (show -1000 ≤ (0 : Int) by omega) (show (0 : Int) ≤ 2000 by omega)
        have u93 := kp_N u71 (show q_I d90 = q_I r64 by rw [e91]; rfl)
        have v94 : q_V d90 = q_V δ := ((show q_V d90 = q_V r64 by rw [e91]; rfl)).trans v72
        have v95 := kr_s L (by decide) v73 e91
        have f96 : (q_R d90 (Ad ad 103) (x1).toNatClampNeg).toInt = (0 : Int) := congrArg Int32.toInt (show q_R d90 (Ad ad 103) (x1).toNatClampNeg = (0 : Int32) by rw [e91, qR_sR, if_pos ⟨rfl, rfl⟩])
        have f97 := rb_103 L i92 (x1).toNatClampNeg
        refine ok_mono (kl_X12_room_60 L hN   k_a0 _ (0 : Int32) (0 : Int32) d90 i92 (show 0 ≤ (x1).toInt by first | assumption | omega) (show (x1).toInt ≤ 3 by first | assumption | omega) (show 0 ≤ (0 : Int) by first | assumption | omega) (show (0 : Int) ≤ 1000 by first | assumption | omega) (show -(0 : Int) ≤ (q_R d90 (Ad ad 103) (x1).toNatClampNeg).toInt by first | assumption | omega) (show (q_R d90 (Ad ad 103) (x1).toNatClampNeg).toInt ≤ (0 : Int) by first | assumption | omega) (show 1000 - (0 : Int) < _ by omega)) (fun r98 hr99 => ?_)
        obtain ⟨i100, ⟨u101, u102, u103⟩⟩ := hr99
        have u104 := kp_t u93 u101
        have v105 : q_V r98.2 = q_V δ := (u102).trans v94
        have v106 := kr_t v95 u103
        have f107 := ti_b r98.1
        exact ⟨by assumption, ⟨kp_w (by decide) u104, v105, kr_w (by decide) v106⟩⟩
