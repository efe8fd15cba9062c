/-! 77.kX12d (by gen_safe.py) -/
set_option maxHeartbeats 4000000 in
theorem k_X12_mostSet {ad : List Nat} {h : hp} (L : Lay TLx ad h) {δ0 : dp} {N : Nat} (hN : 10000000 ≤ N) {a0 : Nat} (k_a0 : q_K h.1 a0 = 12) {δ : dp} (I : RI ad h.1 δ0 δ) : ok (D_X12_mostSet N h.1 a0 δ) (fun r => r.2 = δ ∧ 3 ≤ (r.1).toInt ∧ (r.1).toInt ≤ 16) := by
  unfold D_X12_mostSet
  have f1 := cb_12_10 I k_a0
  refine ok_ite (fun h2 => ?_) (fun h2 => ?_)
  · have c3 : (4 : Int) < (q_I δ 12 10 a0).toInt := o_lt h2
    unfold J_X12_mostSet_14
    exact ok_some (show δ = δ ∧ 3 ≤ (3 : Int) ∧ (3 : Int) ≤ 16 from ⟨rfl, by first | with_reducible assumption | omega, by first | with_reducible assumption | omega⟩)
  · have c4 : (q_I δ 12 10 a0).toInt ≤ (4 : Int) := o_nlt h2
    unfold J_X12_mostSet_14
    exact ok_some (show δ = δ ∧ 3 ≤ (16 : Int) ∧ (16 : Int) ≤ 16 from ⟨rfl, by first | with_reducible assumption | omega, by first | with_reducible assumption | omega⟩)
set_option maxHeartbeats 4000000 in
theorem k_X12_isWorst {ad : List Nat} {h : hp} (L : Lay TLx ad h) {δ0 : dp} {N : Nat} (hN : 10000000 ≤ N) {a0 : Nat} {x1 : Int32} (k_a0 : q_K h.1 a0 = 12) {δ : dp} (I : RI ad h.1 δ0 δ) : ok (D_X12_isWorst N h.1 a0 x1 δ) (fun r => r.2 = δ ∧ bo (r.1) ∧ ((r.1).toInt = 1 → 0 ≤ (x1).toInt ∧ (x1).toInt ≤ 16)) := by
  unfold D_X12_isWorst
  have f1 := cb_12_10 I k_a0
  refine ok_ite (fun h2 => ?_) (fun h2 => ?_)
  · have c3 : (6 : Int) < (q_I δ 12 10 a0).toInt := o_lt h2
    unfold J_X12_isWorst_25
    unfold J_X12_isWorst_26
    refine ok_gp (by decide) ?_
    have f4 := ti_b x1
    exact ok_some (show δ = δ ∧ bo ((0 : Int32)) ∧ ((0 : Int) = 1 → 0 ≤ (x1).toInt ∧ (x1).toInt ≤ 16) from ⟨rfl, bo_0, by first | with_reducible assumption | omega⟩)
  · have c5 : (q_I δ 12 10 a0).toInt ≤ (6 : Int) := o_nlt h2
    refine ok_bind (k_X12_mostSet L hN (a0 := a0) k_a0 I) (fun r6 hr7 => ?_)
    obtain ⟨i8, p9, p10⟩ := hr7
    try rw [i8]
    have f11 := ti_b r6.1
    refine ok_bind (k_X12_within L hN (x0 := x1) (x1 := (0 : Int32)) (x2 := r6.1)  I) (fun r12 hr13 => ?_)
    obtain ⟨i14, p15, p16, p17⟩ := hr13
    try rw [i14]
    have f18 := bo_l p15
    have f19 := ti_b r12.1
    have f20 := ti_b x1
    replace p16 : ((r12.1).toInt = 1 → (0 : Int) ≤ (x1).toInt ∧ (x1).toInt ≤ (r6.1).toInt) := p16
    replace p17 : ((r12.1).toInt = 0 → (x1).toInt < (0 : Int) ∨ (r6.1).toInt < (x1).toInt) := p17
    refine ok_ite (fun h21 => ?_) (fun h21 => ?_)
    · have c22 : r12.1.toInt = (0 : Int) := o_eq h21
      unfold J_X12_isWorst_25
      unfold J_X12_isWorst_26
      refine ok_gp (by decide) ?_
      exact ok_some (show δ = δ ∧ bo ((0 : Int32)) ∧ ((0 : Int) = 1 → 0 ≤ (x1).toInt ∧ (x1).toInt ≤ 16) from ⟨rfl, bo_0, by first | with_reducible assumption | omega⟩)
    · have c23 : r12.1.toInt ≠ (0 : Int) := o_ne h21
      unfold J_X12_isWorst_26
      refine ok_gp (by decide) ?_
      exact ok_some (show δ = δ ∧ bo ((1 : Int32)) ∧ ((1 : Int) = 1 → 0 ≤ (x1).toInt ∧ (x1).toInt ≤ 16) from ⟨rfl, bo_1, by first | with_reducible assumption | omega⟩)
set_option maxHeartbeats 4000000 in
theorem kl_X12_asks_104 {ad : List Nat} {h : hp} (L : Lay TLx ad h) {δ0 : dp} {N : Nat} (hN : 10000000 ≤ N) {a0 : Nat} {x1 : Int32} {x2 : Int32} {kt2 : Int32 → dp → Option (dp)} {K2 : Int} (h_kt2 : ∀ (x3v : Int32) (δ : dp), RI ad h.1 δ0 δ → 0 ≤ (x2).toInt → (x2).toInt ≤ 16 → 0 ≤ (x3v).toInt → (x3v).toInt ≤ 65536 → 65536 - (x3v).toInt < K2 → ok (kt2 x3v δ) (fun r => RI ad h.1 δ0 r ∧ (kp [(12, 36), (12, 37), (12, 38), (12, 39)] δ r ∧ q_V r = q_V δ ∧ kr ad [119, 120] δ r))) (k_a0 : q_K h.1 a0 = 12) : ∀ (n : Nat) (x3v : Int32) (x5v : Int32) (δ : dp), RI ad h.1 δ0 δ → 0 ≤ (x2).toInt → (x2).toInt ≤ 16 → 0 ≤ (x3v).toInt → (x3v).toInt < 65536 → 65536 - (x3v).toInt ≤ K2 → 0 ≤ (x5v).toInt → (x5v).toInt ≤ 16 → 16 - (x5v).toInt < (n : Int) → ok (L_X12_asks_104 N h.1 a0 x1 x2 kt2 n x3v x5v δ) (fun r => RI ad h.1 δ0 r ∧ (kp [(12, 36), (12, 37), (12, 38), (12, 39)] δ r ∧ q_V r = q_V δ ∧ kr ad [119, 120] δ r)) := by
  intro n
  induction n with
  | zero =>
    intro x3v x5v δ I j0 j1 j2 j3 j4 j5 j6 hm
    have f1 := ti_b x2
    have f2 := ti_b x3v
    have f3 := ti_b x5v
    exfalso; omega
  | succ n ih =>
    intro x3v x5v δ I j0 j1 j2 j3 j4 j5 j6 hm
    unfold L_X12_asks_104
    have f1 := ti_b x2
    have f2 := ti_b x3v
    have f3 := ti_b x5v
    refine ok_ite (fun h4 => ?_) (fun h4 => ?_)
    · have c5 : x2.toInt ≤ x5v.toInt := o_le h4
      unfold J_X12_asks_130
      refine ok_biv (fun vx6 e7 => ?_)
      first | (have q8 := te_addc (c := 1) (n := 1) rfl x3v (by omega) (by omega); rw [← e7] at q8; obtain ⟨f9, f10, f11⟩ := q8) | (obtain ⟨q8, f9, f10, f11⟩ : ∃ q : Int, vx6.toInt = x3v.toInt + (1 : Int) + 4294967296 * q ∧ -2147483648 ≤ vx6.toInt ∧ vx6.toInt ≤ 2147483647 := by rw [e7]; exact ti_addc (c := 1) (n := 1) rfl x3v)
      refine ok_mono (h_kt2 vx6 δ I (show 0 ≤ (x2).toInt by first | with_reducible assumption | omega) (show (x2).toInt ≤ 16 by first | with_reducible assumption | omega) (show 0 ≤ (vx6).toInt by first | with_reducible assumption | omega) (show (vx6).toInt ≤ 65536 by first | with_reducible assumption | omega) (show 65536 - (vx6).toInt < _ by omega)) (fun r12 hr13 => ?_)
      obtain ⟨i14, ⟨u15, u16, u17⟩⟩ := hr13
      have u18 := kp_t kp_r u15
      have v19 : q_V r12 = q_V δ := (u16).trans rfl
      have v20 := kr_t (kr_r (ad := ad)) u17
      exact ⟨by first | with_reducible assumption | assumption, ⟨kp_w (by decide) u18, v19, kr_w (by decide) v20⟩⟩
    · have c21 : x5v.toInt < x2.toInt := o_nle h4
      obtain ⟨b22, o23, k24, n25, w26⟩ := gO_12_41 L k_a0
      obtain rfl := gS_12_41 L k_a0 o23
      refine ok_at o23 ?_
      obtain ⟨b27, o28, k29, n30, w31⟩ := gO_12_42 L k_a0
      obtain rfl := gS_12_42 L k_a0 o28
      refine ok_at o28 ?_
      have t32 := ti_tn x5v
      refine ok_gd (fun hc33 => ?_) ?_
      · rcases hc33 with hc33 | hc33
        · have c34 : x5v.toInt < (0 : Int) := o_lt hc33
          omega
        · omega
      refine ok_gd (fun hc35 => ?_) ?_
      · rcases hc35 with hc35 | hc35
        · have c36 : x5v.toInt < (0 : Int) := o_lt hc35
          omega
        · omega
      refine ok_bdv (fun d37 e38 => ?_)
      have i39 : RI ad h.1 δ0 d37 := by rw [e38]; exact RI.sR L I w26
      have u40 := kp_N kp_r (show q_I d37 = q_I δ by rw [e38]; rfl)
      have v41 : q_V d37 = q_V δ := ((show q_V d37 = q_V δ by rw [e38]; rfl)).trans rfl
      have v42 := kr_s L (by decide) (kr_r (ad := ad)) e38
      refine ok_biv (fun vx43 e44 => ?_)
      first | (have q45 := te_addc (c := 1) (n := 1) rfl x5v (by omega) (by omega); rw [← e44] at q45; obtain ⟨f46, f47, f48⟩ := q45) | (obtain ⟨q45, f46, f47, f48⟩ : ∃ q : Int, vx43.toInt = x5v.toInt + (1 : Int) + 4294967296 * q ∧ -2147483648 ≤ vx43.toInt ∧ vx43.toInt ≤ 2147483647 := by rw [e44]; exact ti_addc (c := 1) (n := 1) rfl x5v)
      refine ok_mono (ih x3v vx43 d37 i39 (show 0 ≤ (x2).toInt by first | with_reducible assumption | omega) (show (x2).toInt ≤ 16 by first | with_reducible assumption | omega) (show 0 ≤ (x3v).toInt by first | with_reducible assumption | omega) (show (x3v).toInt < 65536 by first | with_reducible assumption | omega) (show 65536 - (x3v).toInt ≤ K2 by first | with_reducible assumption | omega) (show 0 ≤ (vx43).toInt by first | with_reducible assumption | omega) (show (vx43).toInt ≤ 16 by first | with_reducible assumption | omega) (show 16 - (vx43).toInt < _ by omega)) (fun r49 hr50 => ?_)
      obtain ⟨i51, ⟨u52, u53, u54⟩⟩ := hr50
      have u55 := kp_t u40 u52
      have v56 : q_V r49 = q_V δ := (u53).trans v41
      have v57 := kr_t v42 u54
      exact ⟨by first | with_reducible assumption | assumption, ⟨kp_w (by decide) u55, v56, kr_w (by decide) v57⟩⟩
set_option maxHeartbeats 4000000 in
theorem kl_X12_asks_18 {ad : List Nat} {h : hp} (L : Lay TLx ad h) {δ0 : dp} {N : Nat} (hN : 10000000 ≤ N) {a0 : Nat} {x1 : Int32} {x2 : Int32} {kt2 : Int32 → dp → Option (dp)} {K2 : Int} (h_kt2 : ∀ (x3v : Int32) (δ : dp), RI ad h.1 δ0 δ → 0 ≤ (x2).toInt → (x2).toInt ≤ 16 → 0 ≤ (x3v).toInt → (x3v).toInt ≤ 65536 → 65536 - (x3v).toInt < K2 → ok (kt2 x3v δ) (fun r => RI ad h.1 δ0 r ∧ (kp [(12, 36), (12, 37), (12, 38), (12, 39)] δ r ∧ q_V r = q_V δ ∧ kr ad [119, 120] δ r))) (k_a0 : q_K h.1 a0 = 12) : ∀ (n : Nat) (x3v : Int32) (x4v : Int32) (δ : dp), RI ad h.1 δ0 δ → 0 ≤ (x2).toInt → (x2).toInt ≤ 16 → 0 ≤ (x3v).toInt → (x3v).toInt < 65536 → 65536 - (x3v).toInt ≤ K2 → 0 ≤ (x4v).toInt → (x4v).toInt ≤ 16 → (q_I δ 12 36 a0).toInt = (x4v).toInt → 16 - (x4v).toInt < (n : Int) → ok (L_X12_asks_18 N h.1 a0 x1 x2 kt2 n x3v x4v δ) (fun r => RI ad h.1 δ0 r ∧ (kp [(12, 36), (12, 37), (12, 38), (12, 39)] δ r ∧ q_V r = q_V δ ∧ kr ad [119, 120] δ r)) := by
  intro n
  induction n with
  | zero =>
    intro x3v x4v δ I j0 j1 j2 j3 j4 j5 j6 j7 hm
    have f1 := ti_b x2
    have f2 := ti_b x3v
    have f3 := ti_b x4v
    have f4 := cb_12_36 I k_a0
    exfalso; omega
  | succ n ih =>
    intro x3v x4v δ I j0 j1 j2 j3 j4 j5 j6 j7 hm
    unfold L_X12_asks_18
    have f1 := ti_b x2
    have f2 := ti_b x3v
    have f3 := ti_b x4v
    have f4 := cb_12_36 I k_a0
    refine ok_ite (fun h5 => ?_) (fun h5 => ?_)
    · have c6 : x2.toInt ≤ x4v.toInt := o_le h5
      have f9 := cb_12_10 I k_a0
      have f10 := lgb ((q_I δ 12 10 a0)).toInt
      refine ok_bind (k_X12_touch L hN (a0 := a0) (x1 := x1) (x2 := x3v) (x3 := (q_I δ 12 10 a0)) (x4 := (0 : Int32)) (x5 := (q_I δ 12 36 a0)) k_a0 (show 1 ≤ ((q_I δ 12 10 a0)).toInt by first | with_reducible assumption | omega) (show ((q_I δ 12 10 a0)).toInt ≤ 16 by first | with_reducible assumption | omega) (show 0 ≤ (0 : Int) by first | with_reducible assumption | omega) (show (0 : Int) ≤ ((q_I δ 12 36 a0)).toInt by first | with_reducible assumption | omega) (show ((q_I δ 12 36 a0)).toInt ≤ (0 : Int) + 2000 by first | with_reducible assumption | omega) (show ((q_I δ 12 36 a0)).toInt ≤ (q_I δ 12 36 a0).toInt by first | with_reducible assumption | omega) (show (q_I δ 12 36 a0).toInt + 2000 * LGf ((q_I δ 12 10 a0)).toInt ≤ 12000 by first | with_reducible assumption | omega) (show ((q_I δ 12 10 a0)).toInt < 20 by first | with_reducible assumption | omega) I) (fun r7 hr8 => ?_)
      obtain ⟨i11, ⟨u15, u16, u17⟩, p12, p13, p14⟩ := hr8
      have u18 := kp_t kp_r u15
      have v19 : q_V r7.2 = q_V δ := (u16).trans rfl
      have v20 := kr_t (kr_r (ad := ad)) u17
      have f21 := cb_12_36 i11 k_a0
      have f22 := ti_b r7.1
      have f23 : (q_I r7.2 12 37 a0).toInt = (q_I δ 12 37 a0).toInt := congrArg Int32.toInt (u15 12 37 a0 (by decide))
      have f24 := ti_b (q_I δ 12 37 a0)
      refine ok_ite (fun h25 => ?_) (fun h25 => ?_)
      · have c26 : (q_I r7.2 12 37 a0).toInt < r7.1.toInt := o_lt h25
        refine ok_bdv (fun d27 e28 => ?_)
        have i29 : RI ad h.1 δ0 d27 := by rw [e28]; exact cs_12_37 L i11
        have u30 := kp_I u18 e28
        have v31 : q_V d27 = q_V δ := ((show q_V d27 = q_V r7.2 by rw [e28]; rfl)).trans v19
        have v32 := kr_N v20 (show q_R d27 = q_R r7.2 by rw [e28]; rfl)
        refine ok_bdv (fun d33 e34 => ?_)
        have i35 : RI ad h.1 δ0 d33 := by rw [e34]; exact cs_12_38 L i29 k_a0 (show 0 ≤ x2.toInt by omega) (show x2.toInt ≤ 16 by omega)
        have u36 := kp_I u30 e34
        have v37 : q_V d33 = q_V δ := ((show q_V d33 = q_V d27 by rw [e34]; rfl)).trans v31
        have v38 := kr_N v32 (show q_R d33 = q_R d27 by rw [e34]; rfl)
        refine ok_bdv (fun d39 e40 => ?_)
        have i41 : RI ad h.1 δ0 d39 := by rw [e40]; exact cs_12_39 L i35
        have u42 := kp_I u36 e40
        have v43 : q_V d39 = q_V δ := ((show q_V d39 = q_V d33 by rw [e40]; rfl)).trans v37
        have v44 := kr_N v38 (show q_R d39 = q_R d33 by rw [e40]; rfl)
        refine ok_mono (kl_X12_asks_104 L hN (K2 := K2) h_kt2 k_a0 _ x3v (0 : Int32) d39 i41 (show 0 ≤ (x2).toInt by first | with_reducible assumption | omega) (show (x2).toInt ≤ 16 by first | with_reducible assumption | omega) (show 0 ≤ (x3v).toInt by first | with_reducible assumption | omega) (show (x3v).toInt < 65536 by first | with_reducible assumption | omega) (show 65536 - (x3v).toInt ≤ K2 by first | with_reducible assumption | omega) (show 0 ≤ (0 : Int) by first | with_reducible assumption | omega) (show (0 : Int) ≤ 16 by first | with_reducible assumption | omega) (show 16 - (0 : Int) < _ by omega)) (fun r45 hr46 => ?_)
        obtain ⟨i47, ⟨u48, u49, u50⟩⟩ := hr46
        have u51 := kp_t u42 u48
        have v52 : q_V r45 = q_V δ := (u49).trans v43
        have v53 := kr_t v44 u50
        exact ⟨by first | with_reducible assumption | assumption, ⟨kp_w (by decide) u51, v52, kr_w (by decide) v53⟩⟩
      · have c54 : r7.1.toInt ≤ (q_I r7.2 12 37 a0).toInt := o_nlt h25
        unfold J_X12_asks_130
        refine ok_biv (fun vx55 e56 => ?_)
        first | (have q57 := te_addc (c := 1) (n := 1) rfl x3v (by omega) (by omega); rw [← e56] at q57; obtain ⟨f58, f59, f60⟩ := q57) | (obtain ⟨q57, f58, f59, f60⟩ : ∃ q : Int, vx55.toInt = x3v.toInt + (1 : Int) + 4294967296 * q ∧ -2147483648 ≤ vx55.toInt ∧ vx55.toInt ≤ 2147483647 := by rw [e56]; exact ti_addc (c := 1) (n := 1) rfl x3v)
        refine ok_mono (h_kt2 vx55 r7.2 i11 (show 0 ≤ (x2).toInt by first | with_reducible assumption | omega) (show (x2).toInt ≤ 16 by first | with_reducible assumption | omega) (show 0 ≤ (vx55).toInt by first | with_reducible assumption | omega) (show (vx55).toInt ≤ 65536 by first | with_reducible assumption | omega) (show 65536 - (vx55).toInt < _ by omega)) (fun r61 hr62 => ?_)
        obtain ⟨i63, ⟨u64, u65, u66⟩⟩ := hr62
        have u67 := kp_t u18 u64
        have v68 : q_V r61 = q_V δ := (u65).trans v19
        have v69 := kr_t v20 u66
        exact ⟨by first | with_reducible assumption | assumption, ⟨kp_w (by decide) u67, v68, kr_w (by decide) v69⟩⟩
    · have c70 : x4v.toInt < x2.toInt := o_nle h5
      obtain ⟨b71, o72, k73, n74, w75⟩ := gO_12_35 L k_a0
      obtain rfl := gS_12_35 L k_a0 o72
      refine ok_at o72 ?_
      obtain ⟨b76, o77, k78, n79, w80⟩ := gO_12_42 L k_a0
      obtain rfl := gS_12_42 L k_a0 o77
      refine ok_at o77 ?_
      have t81 := ti_tn x4v
      refine ok_gd (fun hc82 => ?_) ?_
      · rcases hc82 with hc82 | hc82
        · have c83 : x4v.toInt < (0 : Int) := o_lt hc82
          omega
        · omega
      have t84 := ti_tn (q_I δ 12 36 a0)
      refine ok_gd (fun hc85 => ?_) ?_
      · rcases hc85 with hc85 | hc85
        · have c86 : (q_I δ 12 36 a0).toInt < (0 : Int) := o_lt hc85
          omega
        · omega
      refine ok_bdv (fun d87 e88 => ?_)
      have i89 : RI ad h.1 δ0 d87 := by rw [e88]; exact RI.sR L I w75
      have u90 := kp_N kp_r (show q_I d87 = q_I δ by rw [e88]; rfl)
      have v91 : q_V d87 = q_V δ := ((show q_V d87 = q_V δ by rw [e88]; rfl)).trans rfl
      have v92 := kr_s L (by decide) (kr_r (ad := ad)) e88
      have f96 : (q_I d87 12 36 a0).toInt = (q_I δ 12 36 a0).toInt := congrArg Int32.toInt (by rw [e88]; rfl)
      first | (have q98 := te_addc (c := 1) (n := 1) rfl (q_I d87 12 36 a0) (by omega) (by omega); obtain ⟨f99, f100, f101⟩ := q98) | (obtain ⟨q98, f99, f100, f101⟩ := ti_addc (c := 1) (n := 1) rfl (q_I d87 12 36 a0))
      refine ok_bdv (fun d93 e94 => ?_)
      have i95 : RI ad h.1 δ0 d93 := by rw [e94]; exact cs_12_36 L i89 k_a0 (show 0 ≤ ((q_I d87 12 36 a0) + (1 : Int32)).toInt by omega) (show ((q_I d87 12 36 a0) + (1 : Int32)).toInt ≤ 14000 by omega)
      have u102 := kp_I u90 e94
      have v103 : q_V d93 = q_V δ := ((show q_V d93 = q_V d87 by rw [e94]; rfl)).trans v91
      have v104 := kr_N v92 (show q_R d93 = q_R d87 by rw [e94]; rfl)
      refine ok_biv (fun vx105 e106 => ?_)
      first | (have q107 := te_addc (c := 1) (n := 1) rfl x4v (by omega) (by omega); rw [← e106] at q107; obtain ⟨f108, f109, f110⟩ := q107) | (obtain ⟨q107, f108, f109, f110⟩ : ∃ q : Int, vx105.toInt = x4v.toInt + (1 : Int) + 4294967296 * q ∧ -2147483648 ≤ vx105.toInt ∧ vx105.toInt ≤ 2147483647 := by rw [e106]; exact ti_addc (c := 1) (n := 1) rfl x4v)
      have f111 := cb_12_36 i95 k_a0
      have f112 : (q_I d93 12 36 a0).toInt = ((q_I d87 12 36 a0) + (1 : Int32)).toInt := congrArg Int32.toInt (show q_I d93 12 36 a0 = ((q_I d87 12 36 a0) + (1 : Int32)) by rw [e94]; exact rI_s)
      refine ok_mono (ih x3v vx105 d93 i95 (show 0 ≤ (x2).toInt by first | with_reducible assumption | omega) (show (x2).toInt ≤ 16 by first | with_reducible assumption | omega) (show 0 ≤ (x3v).toInt by first | with_reducible assumption | omega) (show (x3v).toInt < 65536 by first | with_reducible assumption | omega) (show 65536 - (x3v).toInt ≤ K2 by first | with_reducible assumption | omega) (show 0 ≤ (vx105).toInt by first | with_reducible assumption | omega) (show (vx105).toInt ≤ 16 by first | with_reducible assumption | omega) (show (q_I d93 12 36 a0).toInt = (vx105).toInt by first | with_reducible assumption | omega) (show 16 - (vx105).toInt < _ by omega)) (fun r113 hr114 => ?_)
      obtain ⟨i115, ⟨u116, u117, u118⟩⟩ := hr114
      have u119 := kp_t u102 u116
      have v120 : q_V r113 = q_V δ := (u117).trans v103
      have v121 := kr_t v104 u118
      exact ⟨by first | with_reducible assumption | assumption, ⟨kp_w (by decide) u119, v120, kr_w (by decide) v121⟩⟩
set_option maxHeartbeats 4000000 in
theorem kl_X12_asks_2 {ad : List Nat} {h : hp} (L : Lay TLx ad h) {δ0 : dp} {N : Nat} (hN : 10000000 ≤ N) {a0 : Nat} {x1 : Int32} {x2 : Int32} (k_a0 : q_K h.1 a0 = 12) : ∀ (n : Nat) (x3v : Int32) (δ : dp), RI ad h.1 δ0 δ → 0 ≤ (x2).toInt → (x2).toInt ≤ 16 → 0 ≤ (x3v).toInt → (x3v).toInt ≤ 65536 → 65536 - (x3v).toInt < (n : Int) → ok (L_X12_asks_2 N h.1 a0 x1 x2 n x3v δ) (fun r => RI ad h.1 δ0 r ∧ (kp [(12, 36), (12, 37), (12, 38), (12, 39)] δ r ∧ q_V r = q_V δ ∧ kr ad [119, 120] δ r)) := by
  intro n
  induction n with
  | zero =>
    intro x3v δ I j0 j1 j2 j3 hm
    have f1 := ti_b x2
    have f2 := ti_b x3v
    exfalso; omega
  | succ n ih =>
    intro x3v δ I j0 j1 j2 j3 hm
    unfold L_X12_asks_2
    have f1 := ti_b x2
    have f2 := ti_b x3v
    refine ok_bind (k_X12_all L hN (a0 := a0) k_a0 I) (fun r3 hr4 => ?_)
    obtain ⟨i5, p6, p7, p8, p9⟩ := hr4
    try rw [i5]
    have f10 := ti_b r3.1
    have f11 := cb_12_10 I k_a0
    refine ok_ite (fun h12 => ?_) (fun h12 => ?_)
    · have c13 : r3.1.toInt ≤ x3v.toInt := o_le h12
      exact ok_some (show RI ad h.1 δ0 δ ∧ (kp [(12, 36), (12, 37), (12, 38), (12, 39)] δ δ ∧ q_V δ = q_V δ ∧ kr ad [119, 120] δ δ) from ⟨I, ⟨kp_w (by decide) kp_r, rfl, kr_w (by decide) (kr_r (ad := ad))⟩⟩)
    · have c14 : x3v.toInt < r3.1.toInt := o_nle h12
      refine ok_bdv (fun d15 e16 => ?_)
      have i17 : RI ad h.1 δ0 d15 := by rw [e16]; exact cs_12_36 L I k_a0 (show 0 ≤ (0 : Int) by omega) (show (0 : Int) ≤ 14000 by omega)
      have u18 := kp_I kp_r e16
      have v19 : q_V d15 = q_V δ := ((show q_V d15 = q_V δ by rw [e16]; rfl)).trans rfl
      have v20 := kr_N (kr_r (ad := ad)) (show q_R d15 = q_R δ by rw [e16]; rfl)
      have f21 := cb_12_36 i17 k_a0
      have f22 : (q_I d15 12 36 a0).toInt = (0 : Int) := congrArg Int32.toInt (show q_I d15 12 36 a0 = (0 : Int32) by rw [e16]; exact rI_s)
      refine ok_mono (kl_X12_asks_18 L hN (K2 := (n : Int)) ih k_a0 _ x3v (0 : Int32) d15 i17 (show 0 ≤ (x2).toInt by first | with_reducible assumption | omega) (show (x2).toInt ≤ 16 by first | with_reducible assumption | omega) (show 0 ≤ (x3v).toInt by first | with_reducible assumption | omega) (show (x3v).toInt < 65536 by first | with_reducible assumption | omega) (show 65536 - (x3v).toInt ≤ (n : Int) by first | with_reducible assumption | omega) (show 0 ≤ (0 : Int) by first | with_reducible assumption | omega) (show (0 : Int) ≤ 16 by first | with_reducible assumption | omega) (show (q_I d15 12 36 a0).toInt = (0 : Int) by first | with_reducible assumption | omega) (show 16 - (0 : Int) < _ by omega)) (fun r23 hr24 => ?_)
      obtain ⟨i25, ⟨u26, u27, u28⟩⟩ := hr24
      have u29 := kp_t u18 u26
      have v30 : q_V r23 = q_V δ := (u27).trans v19
      have v31 := kr_t v20 u28
      exact ⟨by first | with_reducible assumption | assumption, ⟨kp_w (by decide) u29, v30, kr_w (by decide) v31⟩⟩
set_option maxHeartbeats 4000000 in
theorem k_X12_asks {ad : List Nat} {h : hp} (L : Lay TLx ad h) {δ0 : dp} {N : Nat} (hN : 10000000 ≤ N) {a0 : Nat} {x1 : Int32} {x2 : Int32} (k_a0 : q_K h.1 a0 = 12) {δ : dp} (z0 : 0 ≤ (x2).toInt) (z1 : (x2).toInt ≤ 16) (I : RI ad h.1 δ0 δ) : ok (D_X12_asks N h.1 a0 x1 x2 δ) (fun r => RI ad h.1 δ0 r ∧ (kp [(12, 36), (12, 37), (12, 38), (12, 39)] δ r ∧ q_V r = q_V δ ∧ kr ad [119, 120] δ r)) := by
  unfold D_X12_asks
  have f1 := ti_b x2
  refine ok_mono (kl_X12_asks_2 L hN   k_a0 _ (0 : Int32) δ I (show 0 ≤ (x2).toInt by first | with_reducible assumption | omega) (show (x2).toInt ≤ 16 by first | with_reducible assumption | omega) (show 0 ≤ (0 : Int) by first | with_reducible assumption | omega) (show (0 : Int) ≤ 65536 by first | with_reducible assumption | omega) (show 65536 - (0 : Int) < _ by omega)) (fun r2 hr3 => ?_)
  obtain ⟨i4, ⟨u5, u6, u7⟩⟩ := hr3
  have u8 := kp_t kp_r u5
  have v9 : q_V r2 = q_V δ := (u6).trans rfl
  have v10 := kr_t (kr_r (ad := ad)) u7
  exact ⟨by first | with_reducible assumption | assumption, ⟨kp_w (by decide) u8, v9, kr_w (by decide) v10⟩⟩
set_option maxHeartbeats 4000000 in
theorem kl_X12_sets_14 {ad : List Nat} {h : hp} (L : Lay TLx ad h) {δ0 : dp} {N : Nat} (hN : 10000000 ≤ N) {T : Nat → Int32 → Int32 → Int32 → Int32 → dp → Option (dp)} {K : Int} (hT : ∀ (a0 : Nat) (x1 : Int32) (x2 : Int32) (x3 : Int32) (x4 : Int32) (δ : dp), q_K h.1 a0 = 12 → 0 ≤ (x2).toInt → (x2).toInt ≤ 16 → -1 ≤ (x3).toInt → (x3).toInt ≤ 15 → (x4).toInt ≤ 65536 → (x3).toInt + 1 < K → RI ad h.1 δ0 δ → ok (T a0 x1 x2 x3 x4 δ) (fun r => RI ad h.1 δ0 r ∧ (kp [(12, 36), (12, 37), (12, 38), (12, 39)] δ r ∧ q_V r = q_V δ ∧ kr ad [119, 120, 121] δ r))) {a0 : Nat} {x1 : Int32} {x2 : Int32} {x3 : Int32} {x4 : Int32} (k_a0 : q_K h.1 a0 = 12) : ∀ (n : Nat) (x5v : Int32) (δ : dp), RI ad h.1 δ0 δ → 0 ≤ (x2).toInt → (x2).toInt ≤ 16 → 0 ≤ (x3).toInt → (x3).toInt ≤ 15 → (x4).toInt ≤ 65536 → (x3).toInt + 1 ≤ K → 0 ≤ (x5v).toInt → (x5v).toInt ≤ 65536 → 65536 - (x5v).toInt < (n : Int) → ok (L_X12_sets_14 N h.1 T a0 x1 x2 x3 x4 n x5v δ) (fun r => RI ad h.1 δ0 r ∧ (kp [(12, 36), (12, 37), (12, 38), (12, 39)] δ r ∧ q_V r = q_V δ ∧ kr ad [119, 120, 121] δ r)) := by
  intro n
  induction n with
  | zero =>
    intro x5v δ I j0 j1 j2 j3 j4 j5 j6 j7 hm
    have f1 := ti_b x2
    have f2 := ti_b x3
    have f3 := ti_b x4
    have f4 := ti_b x5v
    exfalso; omega
  | succ n ih =>
    intro x5v δ I j0 j1 j2 j3 j4 j5 j6 j7 hm
    unfold L_X12_sets_14
    have f1 := ti_b x2
    have f2 := ti_b x3
    have f3 := ti_b x4
    have f4 := ti_b x5v
    refine ok_ite (fun h5 => ?_) (fun h5 => ?_)
    · have c6 : x4.toInt ≤ x5v.toInt := o_le h5
      exact ok_some (show RI ad h.1 δ0 δ ∧ (kp [(12, 36), (12, 37), (12, 38), (12, 39)] δ δ ∧ q_V δ = q_V δ ∧ kr ad [119, 120, 121] δ δ) from ⟨I, ⟨kp_w (by decide) kp_r, rfl, kr_w (by decide) (kr_r (ad := ad))⟩⟩)
    · have c7 : x5v.toInt < x4.toInt := o_nle h5
      obtain ⟨b8, o9, k10, n11, w12⟩ := gO_12_42 L k_a0
      obtain rfl := gS_12_42 L k_a0 o9
      refine ok_at o9 ?_
      have t13 := ti_tn x3
      refine ok_gd (fun hc14 => ?_) ?_
      · rcases hc14 with hc14 | hc14
        · have c15 : x3.toInt < (0 : Int) := o_lt hc14
          omega
        · omega
      refine ok_bdv (fun d16 e17 => ?_)
      have i18 : RI ad h.1 δ0 d16 := by rw [e17]; exact RI.sR L I w12
      have u19 := kp_N kp_r (show q_I d16 = q_I δ by rw [e17]; rfl)
      have v20 : q_V d16 = q_V δ := ((show q_V d16 = q_V δ by rw [e17]; rfl)).trans rfl
      have v21 := kr_s L (by decide) (kr_r (ad := ad)) e17
      first | (have q25 := te_subc (c := 1) (n := 1) rfl x3 (by omega) (by omega); obtain ⟨f26, f27, f28⟩ := q25) | (obtain ⟨q25, f26, f27, f28⟩ := ti_subc (c := 1) (n := 1) rfl x3)
      refine ok_bind (hT a0 x1 x2 (x3 - (1 : Int32)) x5v d16 k_a0 (show 0 ≤ (x2).toInt by first | with_reducible assumption | omega) (show (x2).toInt ≤ 16 by first | with_reducible assumption | omega) (show -1 ≤ ((x3 - (1 : Int32))).toInt by first | with_reducible assumption | omega) (show ((x3 - (1 : Int32))).toInt ≤ 15 by first | with_reducible assumption | omega) (show (x5v).toInt ≤ 65536 by first | with_reducible assumption | omega) (show ((x3 - (1 : Int32))).toInt + 1 < _ by first | with_reducible assumption | omega) i18) (fun r22 hr23 => ?_)
      obtain ⟨i29, ⟨u30, u31, u32⟩⟩ := hr23
      have u33 := kp_t u19 u30
      have v34 : q_V r22 = q_V δ := (u31).trans v20
      have v35 := kr_t v21 u32
      refine ok_biv (fun vx36 e37 => ?_)
      first | (have q38 := te_addc (c := 1) (n := 1) rfl x5v (by omega) (by omega); rw [← e37] at q38; obtain ⟨f39, f40, f41⟩ := q38) | (obtain ⟨q38, f39, f40, f41⟩ : ∃ q : Int, vx36.toInt = x5v.toInt + (1 : Int) + 4294967296 * q ∧ -2147483648 ≤ vx36.toInt ∧ vx36.toInt ≤ 2147483647 := by rw [e37]; exact ti_addc (c := 1) (n := 1) rfl x5v)
      refine ok_mono (ih vx36 r22 i29 (show 0 ≤ (x2).toInt by first | with_reducible assumption | omega) (show (x2).toInt ≤ 16 by first | with_reducible assumption | omega) (show 0 ≤ (x3).toInt by first | with_reducible assumption | omega) (show (x3).toInt ≤ 15 by first | with_reducible assumption | omega) (show (x4).toInt ≤ 65536 by first | with_reducible assumption | omega) (show (x3).toInt + 1 ≤ K by first | with_reducible assumption | omega) (show 0 ≤ (vx36).toInt by first | with_reducible assumption | omega) (show (vx36).toInt ≤ 65536 by first | with_reducible assumption | omega) (show 65536 - (vx36).toInt < _ by omega)) (fun r42 hr43 => ?_)
      obtain ⟨i44, ⟨u45, u46, u47⟩⟩ := hr43
      have u48 := kp_t u33 u45
      have v49 : q_V r42 = q_V δ := (u46).trans v34
      have v50 := kr_t v35 u47
      exact ⟨by first | with_reducible assumption | assumption, ⟨kp_w (by decide) u48, v49, kr_w (by decide) v50⟩⟩
set_option maxHeartbeats 4000000 in
theorem ke_X12_sets {ad : List Nat} {h : hp} (L : Lay TLx ad h) {δ0 : dp} {N : Nat} (hN : 10000000 ≤ N) : ∀ (k : Nat), ∀ (a0 : Nat) (x1 : Int32) (x2 : Int32) (x3 : Int32) (x4 : Int32) (δ : dp), q_K h.1 a0 = 12 → 0 ≤ (x2).toInt → (x2).toInt ≤ 16 → -1 ≤ (x3).toInt → (x3).toInt ≤ 15 → (x4).toInt ≤ 65536 → (x3).toInt + 1 < (k : Int) → RI ad h.1 δ0 δ → ok (E_X12_sets N h.1 k a0 x1 x2 x3 x4 δ) (fun r => RI ad h.1 δ0 r ∧ (kp [(12, 36), (12, 37), (12, 38), (12, 39)] δ r ∧ q_V r = q_V δ ∧ kr ad [119, 120, 121] δ r)) := by
  intro k
  induction k with
  | zero =>
    intro a0 x1 x2 x3 x4 δ k_a0 z0 z1 z2 z3 z4 hd I
    exfalso; omega
  | succ k ih =>
    intro a0 x1 x2 x3 x4 δ k_a0 z0 z1 z2 z3 z4 hd I
    unfold E_X12_sets B_X12_sets
    have f1 := ti_b x2
    have f2 := ti_b x3
    have f3 := ti_b x4
    refine ok_ite (fun h4 => ?_) (fun h4 => ?_)
    · have c5 : (0 : Int) ≤ x3.toInt := o_le h4
      refine ok_mono (kl_X12_sets_14 L hN   ih k_a0 _ x3 δ I (show 0 ≤ (x2).toInt by first | with_reducible assumption | omega) (show (x2).toInt ≤ 16 by first | with_reducible assumption | omega) (show 0 ≤ (x3).toInt by first | with_reducible assumption | omega) (show (x3).toInt ≤ 15 by first | with_reducible assumption | omega) (show (x4).toInt ≤ 65536 by first | with_reducible assumption | omega) (show (x3).toInt + 1 ≤ (k : Int) by first | with_reducible assumption | omega) (show 0 ≤ (x3).toInt by first | with_reducible assumption | omega) (show (x3).toInt ≤ 65536 by first | with_reducible assumption | omega) (show 65536 - (x3).toInt < _ by omega)) (fun r6 hr7 => ?_)
      obtain ⟨i8, ⟨u9, u10, u11⟩⟩ := hr7
      have u12 := kp_t kp_r u9
      have v13 : q_V r6 = q_V δ := (u10).trans rfl
      have v14 := kr_t (kr_r (ad := ad)) u11
      exact ⟨by first | with_reducible assumption | assumption, ⟨kp_w (by decide) u12, v13, kr_w (by decide) v14⟩⟩
    · have c15 : x3.toInt < (0 : Int) := o_nle h4
      refine ok_bind (k_X12_asks L hN (a0 := a0) (x1 := x1) (x2 := x2) k_a0 (show 0 ≤ (x2).toInt by first | with_reducible assumption | omega) (show (x2).toInt ≤ 16 by first | with_reducible assumption | omega) I) (fun r16 hr17 => ?_)
      obtain ⟨i18, ⟨u19, u20, u21⟩⟩ := hr17
      have u22 := kp_t kp_r u19
      have v23 : q_V r16 = q_V δ := (u20).trans rfl
      have v24 := kr_t (kr_r (ad := ad)) u21
      exact ok_some (show RI ad h.1 δ0 r16 ∧ (kp [(12, 36), (12, 37), (12, 38), (12, 39)] δ r16 ∧ q_V r16 = q_V δ ∧ kr ad [119, 120, 121] δ r16) from ⟨i18, ⟨kp_w (by decide) u22, v23, kr_w (by decide) v24⟩⟩)
set_option maxHeartbeats 4000000 in
theorem k_X12_sets {ad : List Nat} {h : hp} (L : Lay TLx ad h) {δ0 : dp} {N : Nat} (hN : 10000000 ≤ N) {a0 : Nat} {x1 : Int32} {x2 : Int32} {x3 : Int32} {x4 : Int32} (k_a0 : q_K h.1 a0 = 12) {δ : dp} (z0 : 0 ≤ (x2).toInt) (z1 : (x2).toInt ≤ 16) (z2 : -1 ≤ (x3).toInt) (z3 : (x3).toInt ≤ 15) (z4 : (x4).toInt ≤ 65536) (hd : (x3).toInt + 1 < 20) (I : RI ad h.1 δ0 δ) : ok (D_X12_sets N h.1 a0 x1 x2 x3 x4 δ) (fun r => RI ad h.1 δ0 r ∧ (kp [(12, 36), (12, 37), (12, 38), (12, 39)] δ r ∧ q_V r = q_V δ ∧ kr ad [119, 120, 121] δ r)) := ke_X12_sets L hN 20 a0 x1 x2 x3 x4 δ k_a0 z0 z1 z2 z3 z4 hd I
set_option maxHeartbeats 4000000 in
theorem kl_X12_findWorst_7 {ad : List Nat} {h : hp} (L : Lay TLx ad h) {δ0 : dp} {N : Nat} (hN : 10000000 ≤ N) {a0 : Nat} {x1 : Int32} {x2 : Int32} (k_a0 : q_K h.1 a0 = 12) : ∀ (n : Nat) (x3v : Int32) (δ : dp), RI ad h.1 δ0 δ → 0 ≤ (x2).toInt → (x2).toInt ≤ 16 → 0 ≤ (x3v).toInt → (x3v).toInt ≤ 17 → 17 - (x3v).toInt < (n : Int) → ok (L_X12_findWorst_7 N h.1 a0 x1 x2 n x3v δ) (fun r => RI ad h.1 δ0 r ∧ (kp [(12, 36), (12, 37), (12, 38), (12, 39)] δ r ∧ q_V r = q_V δ ∧ kr ad [119, 120, 121] δ r)) := by
  intro n
  induction n with
  | zero =>
    intro x3v δ I j0 j1 j2 j3 hm
    have f1 := ti_b x2
    have f2 := ti_b x3v
    exfalso; omega
  | succ n ih =>
    intro x3v δ I j0 j1 j2 j3 hm
    unfold L_X12_findWorst_7
    have f1 := ti_b x2
    have f2 := ti_b x3v
    refine ok_ite (fun h3 => ?_) (fun h3 => ?_)
    · have c4 : x2.toInt < x3v.toInt := o_lt h3
      unfold J_X12_findWorst_39
      exact ok_some (show RI ad h.1 δ0 δ ∧ (kp [(12, 36), (12, 37), (12, 38), (12, 39)] δ δ ∧ q_V δ = q_V δ ∧ kr ad [119, 120, 121] δ δ) from ⟨I, ⟨kp_w (by decide) kp_r, rfl, kr_w (by decide) (kr_r (ad := ad))⟩⟩)
    · have c5 : x3v.toInt ≤ x2.toInt := o_nlt h3
      refine ok_bind (k_X12_all L hN (a0 := a0) k_a0 I) (fun r6 hr7 => ?_)
      obtain ⟨i8, p9, p10, p11, p12⟩ := hr7
      try rw [i8]
      have f13 := ti_b r6.1
      have f14 := cb_12_10 I k_a0
      refine ok_ite (fun h15 => ?_) (fun h15 => ?_)
      · have c16 : r6.1.toInt < x3v.toInt := o_lt h15
        unfold J_X12_findWorst_39
        exact ok_some (show RI ad h.1 δ0 δ ∧ (kp [(12, 36), (12, 37), (12, 38), (12, 39)] δ δ ∧ q_V δ = q_V δ ∧ kr ad [119, 120, 121] δ δ) from ⟨I, ⟨kp_w (by decide) kp_r, rfl, kr_w (by decide) (kr_r (ad := ad))⟩⟩)
      · have c17 : x3v.toInt ≤ r6.1.toInt := o_nlt h15
        refine ok_bind (k_X12_all L hN (a0 := a0) k_a0 I) (fun r18 hr19 => ?_)
        obtain ⟨i20, p21, p22, p23, p24⟩ := hr19
        try rw [i20]
        have f25 := ti_b r18.1
        first | (have q29 := te_subc (c := 1) (n := 1) rfl x3v (by omega) (by omega); obtain ⟨f30, f31, f32⟩ := q29) | (obtain ⟨q29, f30, f31, f32⟩ := ti_subc (c := 1) (n := 1) rfl x3v)
        refine ok_bind (k_X12_sets L hN (a0 := a0) (x1 := x1) (x2 := x3v) (x3 := (x3v - (1 : Int32))) (x4 := r18.1) k_a0 (show 0 ≤ (x3v).toInt by first | with_reducible assumption | omega) (show (x3v).toInt ≤ 16 by first | with_reducible assumption | omega) (show -1 ≤ ((x3v - (1 : Int32))).toInt by first | with_reducible assumption | omega) (show ((x3v - (1 : Int32))).toInt ≤ 15 by first | with_reducible assumption | omega) (show (r18.1).toInt ≤ 65536 by first | with_reducible assumption | omega) (show ((x3v - (1 : Int32))).toInt + 1 < 20 by first | with_reducible assumption | omega) I) (fun r26 hr27 => ?_)
        obtain ⟨i33, ⟨u34, u35, u36⟩⟩ := hr27
        have u37 := kp_t kp_r u34
        have v38 : q_V r26 = q_V δ := (u35).trans rfl
        have v39 := kr_t (kr_r (ad := ad)) u36
        refine ok_biv (fun vx40 e41 => ?_)
        first | (have q42 := te_addc (c := 1) (n := 1) rfl x3v (by omega) (by omega); rw [← e41] at q42; obtain ⟨f43, f44, f45⟩ := q42) | (obtain ⟨q42, f43, f44, f45⟩ : ∃ q : Int, vx40.toInt = x3v.toInt + (1 : Int) + 4294967296 * q ∧ -2147483648 ≤ vx40.toInt ∧ vx40.toInt ≤ 2147483647 := by rw [e41]; exact ti_addc (c := 1) (n := 1) rfl x3v)
        refine ok_mono (ih vx40 r26 i33 (show 0 ≤ (x2).toInt by first | with_reducible assumption | omega) (show (x2).toInt ≤ 16 by first | with_reducible assumption | omega) (show 0 ≤ (vx40).toInt by first | with_reducible assumption | omega) (show (vx40).toInt ≤ 17 by first | with_reducible assumption | omega) (show 17 - (vx40).toInt < _ by omega)) (fun r46 hr47 => ?_)
        obtain ⟨i48, ⟨u49, u50, u51⟩⟩ := hr47
        have u52 := kp_t u37 u49
        have v53 : q_V r46 = q_V δ := (u50).trans v38
        have v54 := kr_t v39 u51
        exact ⟨by first | with_reducible assumption | assumption, ⟨kp_w (by decide) u52, v53, kr_w (by decide) v54⟩⟩
set_option maxHeartbeats 4000000 in
theorem k_X12_findWorst {ad : List Nat} {h : hp} (L : Lay TLx ad h) {δ0 : dp} {N : Nat} (hN : 10000000 ≤ N) {a0 : Nat} {x1 : Int32} {x2 : Int32} (k_a0 : q_K h.1 a0 = 12) {δ : dp} (z0 : 0 ≤ (x2).toInt) (z1 : (x2).toInt ≤ 16) (I : RI ad h.1 δ0 δ) : ok (D_X12_findWorst N h.1 a0 x1 x2 δ) (fun r => RI ad h.1 δ0 r ∧ (kp [(12, 36), (12, 37), (12, 38), (12, 39)] δ r ∧ q_V r = q_V δ ∧ kr ad [119, 120, 121] δ r)) := by
  unfold D_X12_findWorst
  have f1 := ti_b x2
  refine ok_bdv (fun d2 e3 => ?_)
  have i4 : RI ad h.1 δ0 d2 := by rw [e3]; exact cs_12_37 L I
  have u5 := kp_I kp_r e3
  have v6 : q_V d2 = q_V δ := ((show q_V d2 = q_V δ by rw [e3]; rfl)).trans rfl
  have v7 := kr_N (kr_r (ad := ad)) (show q_R d2 = q_R δ by rw [e3]; rfl)
  refine ok_mono (kl_X12_findWorst_7 L hN   k_a0 _ (0 : Int32) d2 i4 (show 0 ≤ (x2).toInt by first | with_reducible assumption | omega) (show (x2).toInt ≤ 16 by first | with_reducible assumption | omega) (show 0 ≤ (0 : Int) by first | with_reducible assumption | omega) (show (0 : Int) ≤ 17 by first | with_reducible assumption | omega) (show 17 - (0 : Int) < _ by omega)) (fun r8 hr9 => ?_)
  obtain ⟨i10, ⟨u11, u12, u13⟩⟩ := hr9
  have u14 := kp_t u5 u11
  have v15 : q_V r8 = q_V δ := (u12).trans v6
  have v16 := kr_t v7 u13
  exact ⟨by first | with_reducible assumption | assumption, ⟨kp_w (by decide) u14, v15, kr_w (by decide) v16⟩⟩
set_option maxHeartbeats 4000000 in
theorem k_X12_worst {ad : List Nat} {h : hp} (L : Lay TLx ad h) {δ0 : dp} {N : Nat} (hN : 10000000 ≤ N) {a0 : Nat} {x1 : Int32} {x2 : Int32} {x3 : Int32} (k_a0 : q_K h.1 a0 = 12) {δ : dp} (I : RI ad h.1 δ0 δ) : ok (D_X12_worst N h.1 a0 x1 x2 x3 δ) (fun r => RI ad h.1 δ0 r.2 ∧ (kp [(12, 0), (12, 36), (12, 37), (12, 38), (12, 39)] δ r.2 ∧ q_V r.2 = q_V δ ∧ kr ad [100, 119, 120, 121] δ r.2)) := by
  unfold D_X12_worst
  refine ok_bdv (fun d1 e2 => ?_)
  have i3 : RI ad h.1 δ0 d1 := by rw [e2]; exact cs_12_0 L I
  have u4 := kp_I kp_r e2
  have v5 : q_V d1 = q_V δ := ((show q_V d1 = q_V δ by rw [e2]; rfl)).trans rfl
  have v6 := kr_N (kr_r (ad := ad)) (show q_R d1 = q_R δ by rw [e2]; rfl)
  refine ok_bind (k_X12_isCall L hN (x0 := x1)  i3) (fun r7 hr8 => ?_)
  obtain ⟨i9, p10, p11⟩ := hr8
  try rw [i9]
  have f12 := bo_l p10
  have f13 := ti_b r7.1
  have f14 := ti_b x1
  refine ok_ite (fun h15 => ?_) (fun h15 => ?_)
  · have c16 : r7.1.toInt = (0 : Int) := o_eq h15
    unfold J_X12_worst_34
    unfold J_X12_worst_35
    refine ok_bind (k_X12_may L hN (a0 := a0) (x1 := (0 : Int32)) (x2 := (1 : Int32)) (x3 := (2 : Int32)) k_a0 (show (1 : Int) ≠ 0 by first | with_reducible assumption | omega) (show 0 ≤ (2 : Int) by first | with_reducible assumption | omega) (show (2 : Int) ≤ 2 by first | with_reducible assumption | omega) i3) (fun r17 hr18 => ?_)
    obtain ⟨i19, ⟨u23, u24, u25⟩, p20, p21, p22⟩ := hr18
    have u26 := kp_t u4 u23
    have v27 : q_V r17.2 = q_V δ := (u24).trans v5
    have v28 := kr_t v6 u25
    have f29 := bo_l p20
    have f30 := ti_b r17.1
    replace p21 : ((r17.1).toInt = 1 → (0 : Int) ≠ 0) := p21
    have f31 := ti_b (q_I d1 12 0 a0)
    have f32 : (q_I d1 12 0 a0).toInt = (0 : Int) := congrArg Int32.toInt (show q_I d1 12 0 a0 = (0 : Int32) by rw [e2]; exact rI_s)
    replace p22 : ((q_I d1 12 0 a0).toInt = 0 → (r17.1).toInt = 0 → (0 : Int) = 0) := p22
    refine ok_ite (fun h33 => ?_) (fun h33 => ?_)
    · have c34 : r17.1.toInt = (0 : Int) := o_eq h33
      exact ok_some (show RI ad h.1 δ0 r17.2 ∧ (kp [(12, 0), (12, 36), (12, 37), (12, 38), (12, 39)] δ r17.2 ∧ q_V r17.2 = q_V δ ∧ kr ad [100, 119, 120, 121] δ r17.2) from ⟨i19, ⟨kp_w (by decide) u26, v27, kr_w (by decide) v28⟩⟩)
    · have c35 : r17.1.toInt ≠ (0 : Int) := o_ne h33
      have f38 := ti_b x2
      refine ok_bind (k_X12_findWorst L hN (a0 := a0) (x1 := x1) (x2 := x2) k_a0 (show 0 ≤ (x2).toInt by first | with_reducible assumption | omega) (show (x2).toInt ≤ 16 by first | with_reducible assumption | omega) i19) (fun r36 hr37 => ?_)
      obtain ⟨i39, ⟨u40, u41, u42⟩⟩ := hr37
      have u43 := kp_t u26 u40
      have v44 : q_V r36 = q_V δ := (u41).trans v27
      have v45 := kr_t v28 u42
      have f46 := ti_b x3
      refine ok_ite (fun h47 => ?_) (fun h47 => ?_)
      · have c48 : x3.toInt = (0 : Int) := o_eq h47
        unfold J_X12_worst_78
        exact ok_some (show RI ad h.1 δ0 r36 ∧ (kp [(12, 0), (12, 36), (12, 37), (12, 38), (12, 39)] δ r36 ∧ q_V r36 = q_V δ ∧ kr ad [100, 119, 120, 121] δ r36) from ⟨i39, ⟨kp_w (by decide) u43, v44, kr_w (by decide) v45⟩⟩)
      · have c49 : x3.toInt ≠ (0 : Int) := o_ne h47
        refine ok_ite (fun h50 => ?_) (fun h50 => ?_)
        · have c51 : x3.toInt = (1 : Int) := o_eq h50
          unfold J_X12_worst_78
          exact ok_some (show RI ad h.1 δ0 r36 ∧ (kp [(12, 0), (12, 36), (12, 37), (12, 38), (12, 39)] δ r36 ∧ q_V r36 = q_V δ ∧ kr ad [100, 119, 120, 121] δ r36) from ⟨i39, ⟨kp_w (by decide) u43, v44, kr_w (by decide) v45⟩⟩)
        · have c52 : x3.toInt ≠ (1 : Int) := o_ne h50
          unfold J_X12_worst_78
          exact ok_some (show RI ad h.1 δ0 r36 ∧ (kp [(12, 0), (12, 36), (12, 37), (12, 38), (12, 39)] δ r36 ∧ q_V r36 = q_V δ ∧ kr ad [100, 119, 120, 121] δ r36) from ⟨i39, ⟨kp_w (by decide) u43, v44, kr_w (by decide) v45⟩⟩)
  · have c53 : r7.1.toInt ≠ (0 : Int) := o_ne h15
    refine ok_bind (k_X12_isWorst L hN (a0 := a0) (x1 := x2) k_a0 i3) (fun r54 hr55 => ?_)
    obtain ⟨i56, p57, p58⟩ := hr55
    try rw [i56]
    have f59 := bo_l p57
    have f60 := ti_b r54.1
    have f61 := ti_b x2
    refine ok_ite (fun h62 => ?_) (fun h62 => ?_)
    · have c63 : r54.1.toInt = (0 : Int) := o_eq h62
      unfold J_X12_worst_34
      unfold J_X12_worst_35
      refine ok_bind (k_X12_may L hN (a0 := a0) (x1 := (0 : Int32)) (x2 := (1 : Int32)) (x3 := (2 : Int32)) k_a0 (show (1 : Int) ≠ 0 by first | with_reducible assumption | omega) (show 0 ≤ (2 : Int) by first | with_reducible assumption | omega) (show (2 : Int) ≤ 2 by first | with_reducible assumption | omega) i3) (fun r64 hr65 => ?_)
      obtain ⟨i66, ⟨u70, u71, u72⟩, p67, p68, p69⟩ := hr65
      have u73 := kp_t u4 u70
      have v74 : q_V r64.2 = q_V δ := (u71).trans v5
      have v75 := kr_t v6 u72
      have f76 := bo_l p67
      have f77 := ti_b r64.1
      replace p68 : ((r64.1).toInt = 1 → (0 : Int) ≠ 0) := p68
      have f78 := ti_b (q_I d1 12 0 a0)
      have f79 : (q_I d1 12 0 a0).toInt = (0 : Int) := congrArg Int32.toInt (show q_I d1 12 0 a0 = (0 : Int32) by rw [e2]; exact rI_s)
      replace p69 : ((q_I d1 12 0 a0).toInt = 0 → (r64.1).toInt = 0 → (0 : Int) = 0) := p69
      refine ok_ite (fun h80 => ?_) (fun h80 => ?_)
      · have c81 : r64.1.toInt = (0 : Int) := o_eq h80
        exact ok_some (show RI ad h.1 δ0 r64.2 ∧ (kp [(12, 0), (12, 36), (12, 37), (12, 38), (12, 39)] δ r64.2 ∧ q_V r64.2 = q_V δ ∧ kr ad [100, 119, 120, 121] δ r64.2) from ⟨i66, ⟨kp_w (by decide) u73, v74, kr_w (by decide) v75⟩⟩)
      · have c82 : r64.1.toInt ≠ (0 : Int) := o_ne h80
        refine ok_bind (k_X12_findWorst L hN (a0 := a0) (x1 := x1) (x2 := x2) k_a0 (show 0 ≤ (x2).toInt by first | with_reducible assumption | omega) (show (x2).toInt ≤ 16 by first | with_reducible assumption | omega) i66) (fun r83 hr84 => ?_)
        obtain ⟨i85, ⟨u86, u87, u88⟩⟩ := hr84
        have u89 := kp_t u73 u86
        have v90 : q_V r83 = q_V δ := (u87).trans v74
        have v91 := kr_t v75 u88
        have f92 := ti_b x3
        refine ok_ite (fun h93 => ?_) (fun h93 => ?_)
        · have c94 : x3.toInt = (0 : Int) := o_eq h93
          unfold J_X12_worst_78
          exact ok_some (show RI ad h.1 δ0 r83 ∧ (kp [(12, 0), (12, 36), (12, 37), (12, 38), (12, 39)] δ r83 ∧ q_V r83 = q_V δ ∧ kr ad [100, 119, 120, 121] δ r83) from ⟨i85, ⟨kp_w (by decide) u89, v90, kr_w (by decide) v91⟩⟩)
        · have c95 : x3.toInt ≠ (0 : Int) := o_ne h93
          refine ok_ite (fun h96 => ?_) (fun h96 => ?_)
          · have c97 : x3.toInt = (1 : Int) := o_eq h96
            unfold J_X12_worst_78
            exact ok_some (show RI ad h.1 δ0 r83 ∧ (kp [(12, 0), (12, 36), (12, 37), (12, 38), (12, 39)] δ r83 ∧ q_V r83 = q_V δ ∧ kr ad [100, 119, 120, 121] δ r83) from ⟨i85, ⟨kp_w (by decide) u89, v90, kr_w (by decide) v91⟩⟩)
          · have c98 : x3.toInt ≠ (1 : Int) := o_ne h96
            unfold J_X12_worst_78
            exact ok_some (show RI ad h.1 δ0 r83 ∧ (kp [(12, 0), (12, 36), (12, 37), (12, 38), (12, 39)] δ r83 ∧ q_V r83 = q_V δ ∧ kr ad [100, 119, 120, 121] δ r83) from ⟨i85, ⟨kp_w (by decide) u89, v90, kr_w (by decide) v91⟩⟩)
    · have c99 : r54.1.toInt ≠ (0 : Int) := o_ne h62
      refine ok_bind (k_X12_within L hN (x0 := x3) (x1 := (0 : Int32)) (x2 := (2 : Int32))  i3) (fun r100 hr101 => ?_)
      obtain ⟨i102, p103, p104, p105⟩ := hr101
      try rw [i102]
      have f106 := bo_l p103
      have f107 := ti_b r100.1
      have f108 := ti_b x3
      replace p104 : ((r100.1).toInt = 1 → (0 : Int) ≤ (x3).toInt ∧ (x3).toInt ≤ (2 : Int)) := p104
      replace p105 : ((r100.1).toInt = 0 → (x3).toInt < (0 : Int) ∨ (2 : Int) < (x3).toInt) := p105
      refine ok_ite (fun h109 => ?_) (fun h109 => ?_)
      · have c110 : r100.1.toInt = (0 : Int) := o_eq h109
        unfold J_X12_worst_34
        unfold J_X12_worst_35
        refine ok_bind (k_X12_may L hN (a0 := a0) (x1 := (0 : Int32)) (x2 := (1 : Int32)) (x3 := (2 : Int32)) k_a0 (show (1 : Int) ≠ 0 by first | with_reducible assumption | omega) (show 0 ≤ (2 : Int) by first | with_reducible assumption | omega) (show (2 : Int) ≤ 2 by first | with_reducible assumption | omega) i3) (fun r111 hr112 => ?_)
        obtain ⟨i113, ⟨u117, u118, u119⟩, p114, p115, p116⟩ := hr112
        have u120 := kp_t u4 u117
        have v121 : q_V r111.2 = q_V δ := (u118).trans v5
        have v122 := kr_t v6 u119
        have f123 := bo_l p114
        have f124 := ti_b r111.1
        replace p115 : ((r111.1).toInt = 1 → (0 : Int) ≠ 0) := p115
        have f125 := ti_b (q_I d1 12 0 a0)
        have f126 : (q_I d1 12 0 a0).toInt = (0 : Int) := congrArg Int32.toInt (show q_I d1 12 0 a0 = (0 : Int32) by rw [e2]; exact rI_s)
        replace p116 : ((q_I d1 12 0 a0).toInt = 0 → (r111.1).toInt = 0 → (0 : Int) = 0) := p116
        refine ok_ite (fun h127 => ?_) (fun h127 => ?_)
        · have c128 : r111.1.toInt = (0 : Int) := o_eq h127
          exact ok_some (show RI ad h.1 δ0 r111.2 ∧ (kp [(12, 0), (12, 36), (12, 37), (12, 38), (12, 39)] δ r111.2 ∧ q_V r111.2 = q_V δ ∧ kr ad [100, 119, 120, 121] δ r111.2) from ⟨i113, ⟨kp_w (by decide) u120, v121, kr_w (by decide) v122⟩⟩)
        · have c129 : r111.1.toInt ≠ (0 : Int) := o_ne h127
          refine ok_bind (k_X12_findWorst L hN (a0 := a0) (x1 := x1) (x2 := x2) k_a0 (show 0 ≤ (x2).toInt by first | with_reducible assumption | omega) (show (x2).toInt ≤ 16 by first | with_reducible assumption | omega) i113) (fun r130 hr131 => ?_)
          obtain ⟨i132, ⟨u133, u134, u135⟩⟩ := hr131
          have u136 := kp_t u120 u133
          have v137 : q_V r130 = q_V δ := (u134).trans v121
          have v138 := kr_t v122 u135
          refine ok_ite (fun h139 => ?_) (fun h139 => ?_)
          · have c140 : x3.toInt = (0 : Int) := o_eq h139
            unfold J_X12_worst_78
            exact ok_some (show RI ad h.1 δ0 r130 ∧ (kp [(12, 0), (12, 36), (12, 37), (12, 38), (12, 39)] δ r130 ∧ q_V r130 = q_V δ ∧ kr ad [100, 119, 120, 121] δ r130) from ⟨i132, ⟨kp_w (by decide) u136, v137, kr_w (by decide) v138⟩⟩)
          · have c141 : x3.toInt ≠ (0 : Int) := o_ne h139
            refine ok_ite (fun h142 => ?_) (fun h142 => ?_)
            · have c143 : x3.toInt = (1 : Int) := o_eq h142
              unfold J_X12_worst_78
              exact ok_some (show RI ad h.1 δ0 r130 ∧ (kp [(12, 0), (12, 36), (12, 37), (12, 38), (12, 39)] δ r130 ∧ q_V r130 = q_V δ ∧ kr ad [100, 119, 120, 121] δ r130) from ⟨i132, ⟨kp_w (by decide) u136, v137, kr_w (by decide) v138⟩⟩)
            · have c144 : x3.toInt ≠ (1 : Int) := o_ne h142
              unfold J_X12_worst_78
              exact ok_some (show RI ad h.1 δ0 r130 ∧ (kp [(12, 0), (12, 36), (12, 37), (12, 38), (12, 39)] δ r130 ∧ q_V r130 = q_V δ ∧ kr ad [100, 119, 120, 121] δ r130) from ⟨i132, ⟨kp_w (by decide) u136, v137, kr_w (by decide) v138⟩⟩)
      · have c145 : r100.1.toInt ≠ (0 : Int) := o_ne h109
        unfold J_X12_worst_35
        refine ok_bind (k_X12_may L hN (a0 := a0) (x1 := (1 : Int32)) (x2 := (1 : Int32)) (x3 := (2 : Int32)) k_a0 (show (1 : Int) ≠ 0 by first | with_reducible assumption | omega) (show 0 ≤ (2 : Int) by first | with_reducible assumption | omega) (show (2 : Int) ≤ 2 by first | with_reducible assumption | omega) i3) (fun r146 hr147 => ?_)
        obtain ⟨i148, ⟨u152, u153, u154⟩, p149, p150, p151⟩ := hr147
        have u155 := kp_t u4 u152
        have v156 : q_V r146.2 = q_V δ := (u153).trans v5
        have v157 := kr_t v6 u154
        have f158 := bo_l p149
        have f159 := ti_b r146.1
        replace p150 : ((r146.1).toInt = 1 → (1 : Int) ≠ 0) := p150
        have f160 := ti_b (q_I d1 12 0 a0)
        have f161 : (q_I d1 12 0 a0).toInt = (0 : Int) := congrArg Int32.toInt (show q_I d1 12 0 a0 = (0 : Int32) by rw [e2]; exact rI_s)
        replace p151 : ((q_I d1 12 0 a0).toInt = 0 → (r146.1).toInt = 0 → (1 : Int) = 0) := p151
        refine ok_ite (fun h162 => ?_) (fun h162 => ?_)
        · have c163 : r146.1.toInt = (0 : Int) := o_eq h162
          exact ok_some (show RI ad h.1 δ0 r146.2 ∧ (kp [(12, 0), (12, 36), (12, 37), (12, 38), (12, 39)] δ r146.2 ∧ q_V r146.2 = q_V δ ∧ kr ad [100, 119, 120, 121] δ r146.2) from ⟨i148, ⟨kp_w (by decide) u155, v156, kr_w (by decide) v157⟩⟩)
        · have c164 : r146.1.toInt ≠ (0 : Int) := o_ne h162
          refine ok_bind (k_X12_findWorst L hN (a0 := a0) (x1 := x1) (x2 := x2) k_a0 (show 0 ≤ (x2).toInt by first | with_reducible assumption | omega) (show (x2).toInt ≤ 16 by first | with_reducible assumption | omega) i148) (fun r165 hr166 => ?_)
          obtain ⟨i167, ⟨u168, u169, u170⟩⟩ := hr166
          have u171 := kp_t u155 u168
          have v172 : q_V r165 = q_V δ := (u169).trans v156
          have v173 := kr_t v157 u170
          refine ok_ite (fun h174 => ?_) (fun h174 => ?_)
          · have c175 : x3.toInt = (0 : Int) := o_eq h174
            unfold J_X12_worst_78
            exact ok_some (show RI ad h.1 δ0 r165 ∧ (kp [(12, 0), (12, 36), (12, 37), (12, 38), (12, 39)] δ r165 ∧ q_V r165 = q_V δ ∧ kr ad [100, 119, 120, 121] δ r165) from ⟨i167, ⟨kp_w (by decide) u171, v172, kr_w (by decide) v173⟩⟩)
          · have c176 : x3.toInt ≠ (0 : Int) := o_ne h174
            refine ok_ite (fun h177 => ?_) (fun h177 => ?_)
            · have c178 : x3.toInt = (1 : Int) := o_eq h177
              unfold J_X12_worst_78
              exact ok_some (show RI ad h.1 δ0 r165 ∧ (kp [(12, 0), (12, 36), (12, 37), (12, 38), (12, 39)] δ r165 ∧ q_V r165 = q_V δ ∧ kr ad [100, 119, 120, 121] δ r165) from ⟨i167, ⟨kp_w (by decide) u171, v172, kr_w (by decide) v173⟩⟩)
            · have c179 : x3.toInt ≠ (1 : Int) := o_ne h177
              unfold J_X12_worst_78
              exact ok_some (show RI ad h.1 δ0 r165 ∧ (kp [(12, 0), (12, 36), (12, 37), (12, 38), (12, 39)] δ r165 ∧ q_V r165 = q_V δ ∧ kr ad [100, 119, 120, 121] δ r165) from ⟨i167, ⟨kp_w (by decide) u171, v172, kr_w (by decide) v173⟩⟩)
set_option maxHeartbeats 4000000 in
theorem k_X12_bad {ad : List Nat} {h : hp} (L : Lay TLx ad h) {δ0 : dp} {N : Nat} (hN : 10000000 ≤ N) {a0 : Nat} {x1 : Int32} {x2 : Int32} {x3 : Int32} (k_a0 : q_K h.1 a0 = 12) {δ : dp} (I : RI ad h.1 δ0 δ) : ok (D_X12_bad N h.1 a0 x1 x2 x3 δ) (fun r => RI ad h.1 δ0 r.2 ∧ (kp [(12, 0), (12, 36), (12, 37), (12, 38), (12, 39)] δ r.2 ∧ q_V r.2 = q_V δ ∧ kr ad [100, 119, 120, 121] δ r.2)) := by
  unfold D_X12_bad
  refine ok_bdv (fun d1 e2 => ?_)
  have i3 : RI ad h.1 δ0 d1 := by rw [e2]; exact cs_12_0 L I
  have u4 := kp_I kp_r e2
  have v5 : q_V d1 = q_V δ := ((show q_V d1 = q_V δ by rw [e2]; rfl)).trans rfl
  have v6 := kr_N (kr_r (ad := ad)) (show q_R d1 = q_R δ by rw [e2]; rfl)
  refine ok_bind (k_X12_isCall L hN (x0 := x1)  i3) (fun r7 hr8 => ?_)
  obtain ⟨i9, p10, p11⟩ := hr8
  try rw [i9]
  have f12 := bo_l p10
  have f13 := ti_b r7.1
  have f14 := ti_b x1
  refine ok_ite (fun h15 => ?_) (fun h15 => ?_)
  · have c16 : r7.1.toInt = (0 : Int) := o_eq h15
    unfold J_X12_bad_25
    unfold J_X12_bad_26
    refine ok_bind (k_X12_may L hN (a0 := a0) (x1 := (0 : Int32)) (x2 := (1 : Int32)) (x3 := (2 : Int32)) k_a0 (show (1 : Int) ≠ 0 by first | with_reducible assumption | omega) (show 0 ≤ (2 : Int) by first | with_reducible assumption | omega) (show (2 : Int) ≤ 2 by first | with_reducible assumption | omega) i3) (fun r17 hr18 => ?_)
    obtain ⟨i19, ⟨u23, u24, u25⟩, p20, p21, p22⟩ := hr18
    have u26 := kp_t u4 u23
    have v27 : q_V r17.2 = q_V δ := (u24).trans v5
    have v28 := kr_t v6 u25
    have f29 := bo_l p20
    have f30 := ti_b r17.1
    replace p21 : ((r17.1).toInt = 1 → (0 : Int) ≠ 0) := p21
    have f31 := ti_b (q_I d1 12 0 a0)
    have f32 : (q_I d1 12 0 a0).toInt = (0 : Int) := congrArg Int32.toInt (show q_I d1 12 0 a0 = (0 : Int32) by rw [e2]; exact rI_s)
    replace p22 : ((q_I d1 12 0 a0).toInt = 0 → (r17.1).toInt = 0 → (0 : Int) = 0) := p22
    refine ok_ite (fun h33 => ?_) (fun h33 => ?_)
    · have c34 : r17.1.toInt = (0 : Int) := o_eq h33
      exact ok_some (show RI ad h.1 δ0 r17.2 ∧ (kp [(12, 0), (12, 36), (12, 37), (12, 38), (12, 39)] δ r17.2 ∧ q_V r17.2 = q_V δ ∧ kr ad [100, 119, 120, 121] δ r17.2) from ⟨i19, ⟨kp_w (by decide) u26, v27, kr_w (by decide) v28⟩⟩)
    · have c35 : r17.1.toInt ≠ (0 : Int) := o_ne h33
      have f38 := ti_b x2
      refine ok_bind (k_X12_findWorst L hN (a0 := a0) (x1 := x1) (x2 := x2) k_a0 (show 0 ≤ (x2).toInt by first | with_reducible assumption | omega) (show (x2).toInt ≤ 16 by first | with_reducible assumption | omega) i19) (fun r36 hr37 => ?_)
      obtain ⟨i39, ⟨u40, u41, u42⟩⟩ := hr37
      have u43 := kp_t u26 u40
      have v44 : q_V r36 = q_V δ := (u41).trans v27
      have v45 := kr_t v28 u42
      refine ok_bind (k_X12_within L hN (x0 := x3) (x1 := (0 : Int32)) (x2 := ((q_I r36 12 38 a0) - (1 : Int32)))  i39) (fun r46 hr47 => ?_)
      obtain ⟨i48, p49, p50, p51⟩ := hr47
      try rw [i48]
      have f52 := bo_l p49
      have f53 := ti_b r46.1
      have f54 := ti_b x3
      have f55 := cb_12_38 i39 k_a0
      first | (have q57 := te_subc (c := 1) (n := 1) rfl (q_I r36 12 38 a0) (by omega) (by omega); obtain ⟨f58, f59, f60⟩ := q57) | (obtain ⟨q57, f58, f59, f60⟩ := ti_subc (c := 1) (n := 1) rfl (q_I r36 12 38 a0))
      replace p50 : ((r46.1).toInt = 1 → (0 : Int) ≤ (x3).toInt ∧ (x3).toInt ≤ (((q_I r36 12 38 a0) - (1 : Int32))).toInt) := p50
      replace p51 : ((r46.1).toInt = 0 → (x3).toInt < (0 : Int) ∨ (((q_I r36 12 38 a0) - (1 : Int32))).toInt < (x3).toInt) := p51
      refine ok_ite (fun h61 => ?_) (fun h61 => ?_)
      · have c62 : r46.1.toInt = (0 : Int) := o_eq h61
        unfold J_X12_bad_66
        exact ok_some (show RI ad h.1 δ0 r36 ∧ (kp [(12, 0), (12, 36), (12, 37), (12, 38), (12, 39)] δ r36 ∧ q_V r36 = q_V δ ∧ kr ad [100, 119, 120, 121] δ r36) from ⟨i39, ⟨kp_w (by decide) u43, v44, kr_w (by decide) v45⟩⟩)
      · have c63 : r46.1.toInt ≠ (0 : Int) := o_ne h61
        obtain ⟨b64, o65, k66, n67, w68⟩ := gO_12_41 L k_a0
        obtain rfl := gS_12_41 L k_a0 o65
        refine ok_at o65 ?_
        have t69 := ti_tn x3
        refine ok_gd (fun hc70 => ?_) ?_
        · rcases hc70 with hc70 | hc70
          · have c71 : x3.toInt < (0 : Int) := o_lt hc70
            omega
          · omega
        unfold J_X12_bad_66
        exact ok_some (show RI ad h.1 δ0 r36 ∧ (kp [(12, 0), (12, 36), (12, 37), (12, 38), (12, 39)] δ r36 ∧ q_V r36 = q_V δ ∧ kr ad [100, 119, 120, 121] δ r36) from ⟨i39, ⟨kp_w (by decide) u43, v44, kr_w (by decide) v45⟩⟩)
  · have c72 : r7.1.toInt ≠ (0 : Int) := o_ne h15
    refine ok_bind (k_X12_isWorst L hN (a0 := a0) (x1 := x2) k_a0 i3) (fun r73 hr74 => ?_)
    obtain ⟨i75, p76, p77⟩ := hr74
    try rw [i75]
    have f78 := bo_l p76
    have f79 := ti_b r73.1
    have f80 := ti_b x2
    refine ok_ite (fun h81 => ?_) (fun h81 => ?_)
    · have c82 : r73.1.toInt = (0 : Int) := o_eq h81
      unfold J_X12_bad_25
      unfold J_X12_bad_26
      refine ok_bind (k_X12_may L hN (a0 := a0) (x1 := (0 : Int32)) (x2 := (1 : Int32)) (x3 := (2 : Int32)) k_a0 (show (1 : Int) ≠ 0 by first | with_reducible assumption | omega) (show 0 ≤ (2 : Int) by first | with_reducible assumption | omega) (show (2 : Int) ≤ 2 by first | with_reducible assumption | omega) i3) (fun r83 hr84 => ?_)
      obtain ⟨i85, ⟨u89, u90, u91⟩, p86, p87, p88⟩ := hr84
      have u92 := kp_t u4 u89
      have v93 : q_V r83.2 = q_V δ := (u90).trans v5
      have v94 := kr_t v6 u91
      have f95 := bo_l p86
      have f96 := ti_b r83.1
      replace p87 : ((r83.1).toInt = 1 → (0 : Int) ≠ 0) := p87
      have f97 := ti_b (q_I d1 12 0 a0)
      have f98 : (q_I d1 12 0 a0).toInt = (0 : Int) := congrArg Int32.toInt (show q_I d1 12 0 a0 = (0 : Int32) by rw [e2]; exact rI_s)
      replace p88 : ((q_I d1 12 0 a0).toInt = 0 → (r83.1).toInt = 0 → (0 : Int) = 0) := p88
      refine ok_ite (fun h99 => ?_) (fun h99 => ?_)
      · have c100 : r83.1.toInt = (0 : Int) := o_eq h99
        exact ok_some (show RI ad h.1 δ0 r83.2 ∧ (kp [(12, 0), (12, 36), (12, 37), (12, 38), (12, 39)] δ r83.2 ∧ q_V r83.2 = q_V δ ∧ kr ad [100, 119, 120, 121] δ r83.2) from ⟨i85, ⟨kp_w (by decide) u92, v93, kr_w (by decide) v94⟩⟩)
      · have c101 : r83.1.toInt ≠ (0 : Int) := o_ne h99
        refine ok_bind (k_X12_findWorst L hN (a0 := a0) (x1 := x1) (x2 := x2) k_a0 (show 0 ≤ (x2).toInt by first | with_reducible assumption | omega) (show (x2).toInt ≤ 16 by first | with_reducible assumption | omega) i85) (fun r102 hr103 => ?_)
        obtain ⟨i104, ⟨u105, u106, u107⟩⟩ := hr103
        have u108 := kp_t u92 u105
        have v109 : q_V r102 = q_V δ := (u106).trans v93
        have v110 := kr_t v94 u107
        refine ok_bind (k_X12_within L hN (x0 := x3) (x1 := (0 : Int32)) (x2 := ((q_I r102 12 38 a0) - (1 : Int32)))  i104) (fun r111 hr112 => ?_)
        obtain ⟨i113, p114, p115, p116⟩ := hr112
        try rw [i113]
        have f117 := bo_l p114
        have f118 := ti_b r111.1
        have f119 := ti_b x3
        have f120 := cb_12_38 i104 k_a0
        first | (have q122 := te_subc (c := 1) (n := 1) rfl (q_I r102 12 38 a0) (by omega) (by omega); obtain ⟨f123, f124, f125⟩ := q122) | (obtain ⟨q122, f123, f124, f125⟩ := ti_subc (c := 1) (n := 1) rfl (q_I r102 12 38 a0))
        replace p115 : ((r111.1).toInt = 1 → (0 : Int) ≤ (x3).toInt ∧ (x3).toInt ≤ (((q_I r102 12 38 a0) - (1 : Int32))).toInt) := p115
        replace p116 : ((r111.1).toInt = 0 → (x3).toInt < (0 : Int) ∨ (((q_I r102 12 38 a0) - (1 : Int32))).toInt < (x3).toInt) := p116
        refine ok_ite (fun h126 => ?_) (fun h126 => ?_)
        · have c127 : r111.1.toInt = (0 : Int) := o_eq h126
          unfold J_X12_bad_66
          exact ok_some (show RI ad h.1 δ0 r102 ∧ (kp [(12, 0), (12, 36), (12, 37), (12, 38), (12, 39)] δ r102 ∧ q_V r102 = q_V δ ∧ kr ad [100, 119, 120, 121] δ r102) from ⟨i104, ⟨kp_w (by decide) u108, v109, kr_w (by decide) v110⟩⟩)
        · have c128 : r111.1.toInt ≠ (0 : Int) := o_ne h126
          obtain ⟨b129, o130, k131, n132, w133⟩ := gO_12_41 L k_a0
          obtain rfl := gS_12_41 L k_a0 o130
          refine ok_at o130 ?_
          have t134 := ti_tn x3
          refine ok_gd (fun hc135 => ?_) ?_
          · rcases hc135 with hc135 | hc135
            · have c136 : x3.toInt < (0 : Int) := o_lt hc135
              omega
            · omega
          unfold J_X12_bad_66
          exact ok_some (show RI ad h.1 δ0 r102 ∧ (kp [(12, 0), (12, 36), (12, 37), (12, 38), (12, 39)] δ r102 ∧ q_V r102 = q_V δ ∧ kr ad [100, 119, 120, 121] δ r102) from ⟨i104, ⟨kp_w (by decide) u108, v109, kr_w (by decide) v110⟩⟩)
    · have c137 : r73.1.toInt ≠ (0 : Int) := o_ne h81
      unfold J_X12_bad_26
      refine ok_bind (k_X12_may L hN (a0 := a0) (x1 := (1 : Int32)) (x2 := (1 : Int32)) (x3 := (2 : Int32)) k_a0 (show (1 : Int) ≠ 0 by first | with_reducible assumption | omega) (show 0 ≤ (2 : Int) by first | with_reducible assumption | omega) (show (2 : Int) ≤ 2 by first | with_reducible assumption | omega) i3) (fun r138 hr139 => ?_)
      obtain ⟨i140, ⟨u144, u145, u146⟩, p141, p142, p143⟩ := hr139
      have u147 := kp_t u4 u144
      have v148 : q_V r138.2 = q_V δ := (u145).trans v5
      have v149 := kr_t v6 u146
      have f150 := bo_l p141
      have f151 := ti_b r138.1
      replace p142 : ((r138.1).toInt = 1 → (1 : Int) ≠ 0) := p142
      have f152 := ti_b (q_I d1 12 0 a0)
      have f153 : (q_I d1 12 0 a0).toInt = (0 : Int) := congrArg Int32.toInt (show q_I d1 12 0 a0 = (0 : Int32) by rw [e2]; exact rI_s)
      replace p143 : ((q_I d1 12 0 a0).toInt = 0 → (r138.1).toInt = 0 → (1 : Int) = 0) := p143
      refine ok_ite (fun h154 => ?_) (fun h154 => ?_)
      · have c155 : r138.1.toInt = (0 : Int) := o_eq h154
        exact ok_some (show RI ad h.1 δ0 r138.2 ∧ (kp [(12, 0), (12, 36), (12, 37), (12, 38), (12, 39)] δ r138.2 ∧ q_V r138.2 = q_V δ ∧ kr ad [100, 119, 120, 121] δ r138.2) from ⟨i140, ⟨kp_w (by decide) u147, v148, kr_w (by decide) v149⟩⟩)
      · have c156 : r138.1.toInt ≠ (0 : Int) := o_ne h154
        refine ok_bind (k_X12_findWorst L hN (a0 := a0) (x1 := x1) (x2 := x2) k_a0 (show 0 ≤ (x2).toInt by first | with_reducible assumption | omega) (show (x2).toInt ≤ 16 by first | with_reducible assumption | omega) i140) (fun r157 hr158 => ?_)
        obtain ⟨i159, ⟨u160, u161, u162⟩⟩ := hr158
        have u163 := kp_t u147 u160
        have v164 : q_V r157 = q_V δ := (u161).trans v148
        have v165 := kr_t v149 u162
        refine ok_bind (k_X12_within L hN (x0 := x3) (x1 := (0 : Int32)) (x2 := ((q_I r157 12 38 a0) - (1 : Int32)))  i159) (fun r166 hr167 => ?_)
        obtain ⟨i168, p169, p170, p171⟩ := hr167
        try rw [i168]
        have f172 := bo_l p169
        have f173 := ti_b r166.1
        have f174 := ti_b x3
        have f175 := cb_12_38 i159 k_a0
        first | (have q177 := te_subc (c := 1) (n := 1) rfl (q_I r157 12 38 a0) (by omega) (by omega); obtain ⟨f178, f179, f180⟩ := q177) | (obtain ⟨q177, f178, f179, f180⟩ := ti_subc (c := 1) (n := 1) rfl (q_I r157 12 38 a0))
        replace p170 : ((r166.1).toInt = 1 → (0 : Int) ≤ (x3).toInt ∧ (x3).toInt ≤ (((q_I r157 12 38 a0) - (1 : Int32))).toInt) := p170
        replace p171 : ((r166.1).toInt = 0 → (x3).toInt < (0 : Int) ∨ (((q_I r157 12 38 a0) - (1 : Int32))).toInt < (x3).toInt) := p171
        refine ok_ite (fun h181 => ?_) (fun h181 => ?_)
        · have c182 : r166.1.toInt = (0 : Int) := o_eq h181
          unfold J_X12_bad_66
          exact ok_some (show RI ad h.1 δ0 r157 ∧ (kp [(12, 0), (12, 36), (12, 37), (12, 38), (12, 39)] δ r157 ∧ q_V r157 = q_V δ ∧ kr ad [100, 119, 120, 121] δ r157) from ⟨i159, ⟨kp_w (by decide) u163, v164, kr_w (by decide) v165⟩⟩)
        · have c183 : r166.1.toInt ≠ (0 : Int) := o_ne h181
          obtain ⟨b184, o185, k186, n187, w188⟩ := gO_12_41 L k_a0
          obtain rfl := gS_12_41 L k_a0 o185
          refine ok_at o185 ?_
          have t189 := ti_tn x3
          refine ok_gd (fun hc190 => ?_) ?_
          · rcases hc190 with hc190 | hc190
            · have c191 : x3.toInt < (0 : Int) := o_lt hc190
              omega
            · omega
          unfold J_X12_bad_66
          exact ok_some (show RI ad h.1 δ0 r157 ∧ (kp [(12, 0), (12, 36), (12, 37), (12, 38), (12, 39)] δ r157 ∧ q_V r157 = q_V δ ∧ kr ad [100, 119, 120, 121] δ r157) from ⟨i159, ⟨kp_w (by decide) u163, v164, kr_w (by decide) v165⟩⟩)
set_option maxHeartbeats 4000000 in
theorem k_X12_reached {ad : List Nat} {h : hp} (L : Lay TLx ad h) {δ0 : dp} {N : Nat} (hN : 10000000 ≤ N) {a0 : Nat} {x1 : Int32} (k_a0 : q_K h.1 a0 = 12) {δ : dp} (I : RI ad h.1 δ0 δ) : ok (D_X12_reached N h.1 a0 x1 δ) (fun r => RI ad h.1 δ0 r.2 ∧ (kp [(12, 0), (12, 36), (12, 37), (12, 38), (12, 39)] δ r.2 ∧ q_V r.2 = q_V δ ∧ kr ad [100, 119, 120, 121] δ r.2)) := by
  unfold D_X12_reached
  refine ok_bdv (fun d1 e2 => ?_)
  have i3 : RI ad h.1 δ0 d1 := by rw [e2]; exact cs_12_0 L I
  have u4 := kp_I kp_r e2
  have v5 : q_V d1 = q_V δ := ((show q_V d1 = q_V δ by rw [e2]; rfl)).trans rfl
  have v6 := kr_N (kr_r (ad := ad)) (show q_R d1 = q_R δ by rw [e2]; rfl)
  refine ok_bind (k_X12_isCall L hN (x0 := x1)  i3) (fun r7 hr8 => ?_)
  obtain ⟨i9, p10, p11⟩ := hr8
  try rw [i9]
  have f12 := bo_l p10
  have f13 := ti_b r7.1
  have f14 := ti_b x1
  refine ok_ite (fun h15 => ?_) (fun h15 => ?_)
  · have c16 : r7.1.toInt = (0 : Int) := o_eq h15
    unfold J_X12_reached_26
    unfold J_X12_reached_27
    refine ok_bind (k_X12_may L hN (a0 := a0) (x1 := (0 : Int32)) (x2 := (1 : Int32)) (x3 := (2 : Int32)) k_a0 (show (1 : Int) ≠ 0 by first | with_reducible assumption | omega) (show 0 ≤ (2 : Int) by first | with_reducible assumption | omega) (show (2 : Int) ≤ 2 by first | with_reducible assumption | omega) i3) (fun r17 hr18 => ?_)
    obtain ⟨i19, ⟨u23, u24, u25⟩, p20, p21, p22⟩ := hr18
    have u26 := kp_t u4 u23
    have v27 : q_V r17.2 = q_V δ := (u24).trans v5
    have v28 := kr_t v6 u25
    have f29 := bo_l p20
    have f30 := ti_b r17.1
    replace p21 : ((r17.1).toInt = 1 → (0 : Int) ≠ 0) := p21
    have f31 := ti_b (q_I d1 12 0 a0)
    have f32 : (q_I d1 12 0 a0).toInt = (0 : Int) := congrArg Int32.toInt (show q_I d1 12 0 a0 = (0 : Int32) by rw [e2]; exact rI_s)
    replace p22 : ((q_I d1 12 0 a0).toInt = 0 → (r17.1).toInt = 0 → (0 : Int) = 0) := p22
    refine ok_ite (fun h33 => ?_) (fun h33 => ?_)
    · have c34 : r17.1.toInt = (0 : Int) := o_eq h33
      exact ok_some (show RI ad h.1 δ0 r17.2 ∧ (kp [(12, 0), (12, 36), (12, 37), (12, 38), (12, 39)] δ r17.2 ∧ q_V r17.2 = q_V δ ∧ kr ad [100, 119, 120, 121] δ r17.2) from ⟨i19, ⟨kp_w (by decide) u26, v27, kr_w (by decide) v28⟩⟩)
    · have c35 : r17.1.toInt ≠ (0 : Int) := o_ne h33
      refine ok_bind (k_X12_mostSet L hN (a0 := a0) k_a0 i19) (fun r36 hr37 => ?_)
      obtain ⟨i38, p39, p40⟩ := hr37
      try rw [i38]
      have f41 := ti_b r36.1
      refine ok_bind (k_X12_findWorst L hN (a0 := a0) (x1 := x1) (x2 := r36.1) k_a0 (show 0 ≤ (r36.1).toInt by first | with_reducible assumption | omega) (show (r36.1).toInt ≤ 16 by first | with_reducible assumption | omega) i19) (fun r42 hr43 => ?_)
      obtain ⟨i44, ⟨u45, u46, u47⟩⟩ := hr43
      have u48 := kp_t u26 u45
      have v49 : q_V r42 = q_V δ := (u46).trans v27
      have v50 := kr_t v28 u47
      have f53 : (q_I r42 12 10 a0).toInt = (q_I δ 12 10 a0).toInt := ((show (q_I r42 12 10 a0).toInt = (q_I r17.2 12 10 a0).toInt from congrArg Int32.toInt (u45 12 10 a0 (by decide))).trans ((show (q_I r17.2 12 10 a0).toInt = (q_I d1 12 10 a0).toInt from congrArg Int32.toInt (u23 12 10 a0 (by decide))).trans (show (q_I d1 12 10 a0).toInt = (q_I δ 12 10 a0).toInt from congrArg Int32.toInt (by rw [e2]; exact rI_o (by decide)))))
      have f54 := cb_12_10 I k_a0
      refine ok_bind (k_X12_boundOf L hN (a0 := a0) (x1 := x1) (x2 := (q_I r42 12 10 a0)) k_a0 (show 0 ≤ ((q_I r42 12 10 a0)).toInt by first | with_reducible assumption | omega) (show ((q_I r42 12 10 a0)).toInt ≤ 16 by first | with_reducible assumption | omega) (show ((q_I r42 12 10 a0)).toInt < 20 by first | with_reducible assumption | omega) i44) (fun r51 hr52 => ?_)
      have i55 := hr52
      try rw [i55]
      have f56 := ti_b r51.1
      have f57 := ti_b (q_I r42 12 37 a0)
      refine ok_ite (fun h58 => ?_) (fun h58 => ?_)
      · have c59 : (q_I r42 12 37 a0).toInt = r51.1.toInt := o_eq h58
        unfold J_X12_reached_70
        exact ok_some (show RI ad h.1 δ0 r42 ∧ (kp [(12, 0), (12, 36), (12, 37), (12, 38), (12, 39)] δ r42 ∧ q_V r42 = q_V δ ∧ kr ad [100, 119, 120, 121] δ r42) from ⟨i44, ⟨kp_w (by decide) u48, v49, kr_w (by decide) v50⟩⟩)
      · have c60 : (q_I r42 12 37 a0).toInt ≠ r51.1.toInt := o_ne h58
        unfold J_X12_reached_70
        exact ok_some (show RI ad h.1 δ0 r42 ∧ (kp [(12, 0), (12, 36), (12, 37), (12, 38), (12, 39)] δ r42 ∧ q_V r42 = q_V δ ∧ kr ad [100, 119, 120, 121] δ r42) from ⟨i44, ⟨kp_w (by decide) u48, v49, kr_w (by decide) v50⟩⟩)
  · have c61 : r7.1.toInt ≠ (0 : Int) := o_ne h15
    have f62 : (q_I d1 12 10 a0).toInt = (q_I δ 12 10 a0).toInt := congrArg Int32.toInt (by rw [e2]; exact rI_o (by decide))
    have f63 := cb_12_10 I k_a0
    refine ok_ite (fun h64 => ?_) (fun h64 => ?_)
    · have c65 : (6 : Int) < (q_I d1 12 10 a0).toInt := o_lt h64
      unfold J_X12_reached_26
      unfold J_X12_reached_27
      refine ok_bind (k_X12_may L hN (a0 := a0) (x1 := (0 : Int32)) (x2 := (1 : Int32)) (x3 := (2 : Int32)) k_a0 (show (1 : Int) ≠ 0 by first | with_reducible assumption | omega) (show 0 ≤ (2 : Int) by first | with_reducible assumption | omega) (show (2 : Int) ≤ 2 by first | with_reducible assumption | omega) i3) (fun r66 hr67 => ?_)
      obtain ⟨i68, ⟨u72, u73, u74⟩, p69, p70, p71⟩ := hr67
      have u75 := kp_t u4 u72
      have v76 : q_V r66.2 = q_V δ := (u73).trans v5
      have v77 := kr_t v6 u74
      have f78 := bo_l p69
      have f79 := ti_b r66.1
      replace p70 : ((r66.1).toInt = 1 → (0 : Int) ≠ 0) := p70
      have f80 := ti_b (q_I d1 12 0 a0)
      have f81 : (q_I d1 12 0 a0).toInt = (0 : Int) := congrArg Int32.toInt (show q_I d1 12 0 a0 = (0 : Int32) by rw [e2]; exact rI_s)
      replace p71 : ((q_I d1 12 0 a0).toInt = 0 → (r66.1).toInt = 0 → (0 : Int) = 0) := p71
      refine ok_ite (fun h82 => ?_) (fun h82 => ?_)
      · have c83 : r66.1.toInt = (0 : Int) := o_eq h82
        exact ok_some (show RI ad h.1 δ0 r66.2 ∧ (kp [(12, 0), (12, 36), (12, 37), (12, 38), (12, 39)] δ r66.2 ∧ q_V r66.2 = q_V δ ∧ kr ad [100, 119, 120, 121] δ r66.2) from ⟨i68, ⟨kp_w (by decide) u75, v76, kr_w (by decide) v77⟩⟩)
      · have c84 : r66.1.toInt ≠ (0 : Int) := o_ne h82
        refine ok_bind (k_X12_mostSet L hN (a0 := a0) k_a0 i68) (fun r85 hr86 => ?_)
        obtain ⟨i87, p88, p89⟩ := hr86
        try rw [i87]
        have f90 := ti_b r85.1
        refine ok_bind (k_X12_findWorst L hN (a0 := a0) (x1 := x1) (x2 := r85.1) k_a0 (show 0 ≤ (r85.1).toInt by first | with_reducible assumption | omega) (show (r85.1).toInt ≤ 16 by first | with_reducible assumption | omega) i68) (fun r91 hr92 => ?_)
        obtain ⟨i93, ⟨u94, u95, u96⟩⟩ := hr92
        have u97 := kp_t u75 u94
        have v98 : q_V r91 = q_V δ := (u95).trans v76
        have v99 := kr_t v77 u96
        have f102 : (q_I r91 12 10 a0).toInt = (q_I d1 12 10 a0).toInt := ((show (q_I r91 12 10 a0).toInt = (q_I r66.2 12 10 a0).toInt from congrArg Int32.toInt (u94 12 10 a0 (by decide))).trans (show (q_I r66.2 12 10 a0).toInt = (q_I d1 12 10 a0).toInt from congrArg Int32.toInt (u72 12 10 a0 (by decide))))
        refine ok_bind (k_X12_boundOf L hN (a0 := a0) (x1 := x1) (x2 := (q_I r91 12 10 a0)) k_a0 (show 0 ≤ ((q_I r91 12 10 a0)).toInt by first | with_reducible assumption | omega) (show ((q_I r91 12 10 a0)).toInt ≤ 16 by first | with_reducible assumption | omega) (show ((q_I r91 12 10 a0)).toInt < 20 by first | with_reducible assumption | omega) i93) (fun r100 hr101 => ?_)
        have i103 := hr101
        try rw [i103]
        have f104 := ti_b r100.1
        have f105 := ti_b (q_I r91 12 37 a0)
        refine ok_ite (fun h106 => ?_) (fun h106 => ?_)
        · have c107 : (q_I r91 12 37 a0).toInt = r100.1.toInt := o_eq h106
          unfold J_X12_reached_70
          exact ok_some (show RI ad h.1 δ0 r91 ∧ (kp [(12, 0), (12, 36), (12, 37), (12, 38), (12, 39)] δ r91 ∧ q_V r91 = q_V δ ∧ kr ad [100, 119, 120, 121] δ r91) from ⟨i93, ⟨kp_w (by decide) u97, v98, kr_w (by decide) v99⟩⟩)
        · have c108 : (q_I r91 12 37 a0).toInt ≠ r100.1.toInt := o_ne h106
          unfold J_X12_reached_70
          exact ok_some (show RI ad h.1 δ0 r91 ∧ (kp [(12, 0), (12, 36), (12, 37), (12, 38), (12, 39)] δ r91 ∧ q_V r91 = q_V δ ∧ kr ad [100, 119, 120, 121] δ r91) from ⟨i93, ⟨kp_w (by decide) u97, v98, kr_w (by decide) v99⟩⟩)
    · have c109 : (q_I d1 12 10 a0).toInt ≤ (6 : Int) := o_nlt h64
      unfold J_X12_reached_27
      refine ok_bind (k_X12_may L hN (a0 := a0) (x1 := (1 : Int32)) (x2 := (1 : Int32)) (x3 := (2 : Int32)) k_a0 (show (1 : Int) ≠ 0 by first | with_reducible assumption | omega) (show 0 ≤ (2 : Int) by first | with_reducible assumption | omega) (show (2 : Int) ≤ 2 by first | with_reducible assumption | omega) i3) (fun r110 hr111 => ?_)
      obtain ⟨i112, ⟨u116, u117, u118⟩, p113, p114, p115⟩ := hr111
      have u119 := kp_t u4 u116
      have v120 : q_V r110.2 = q_V δ := (u117).trans v5
      have v121 := kr_t v6 u118
      have f122 := bo_l p113
      have f123 := ti_b r110.1
      replace p114 : ((r110.1).toInt = 1 → (1 : Int) ≠ 0) := p114
      have f124 := ti_b (q_I d1 12 0 a0)
      have f125 : (q_I d1 12 0 a0).toInt = (0 : Int) := congrArg Int32.toInt (show q_I d1 12 0 a0 = (0 : Int32) by rw [e2]; exact rI_s)
      replace p115 : ((q_I d1 12 0 a0).toInt = 0 → (r110.1).toInt = 0 → (1 : Int) = 0) := p115
      refine ok_ite (fun h126 => ?_) (fun h126 => ?_)
      · have c127 : r110.1.toInt = (0 : Int) := o_eq h126
        exact ok_some (show RI ad h.1 δ0 r110.2 ∧ (kp [(12, 0), (12, 36), (12, 37), (12, 38), (12, 39)] δ r110.2 ∧ q_V r110.2 = q_V δ ∧ kr ad [100, 119, 120, 121] δ r110.2) from ⟨i112, ⟨kp_w (by decide) u119, v120, kr_w (by decide) v121⟩⟩)
      · have c128 : r110.1.toInt ≠ (0 : Int) := o_ne h126
        refine ok_bind (k_X12_mostSet L hN (a0 := a0) k_a0 i112) (fun r129 hr130 => ?_)
        obtain ⟨i131, p132, p133⟩ := hr130
        try rw [i131]
        have f134 := ti_b r129.1
        refine ok_bind (k_X12_findWorst L hN (a0 := a0) (x1 := x1) (x2 := r129.1) k_a0 (show 0 ≤ (r129.1).toInt by first | with_reducible assumption | omega) (show (r129.1).toInt ≤ 16 by first | with_reducible assumption | omega) i112) (fun r135 hr136 => ?_)
        obtain ⟨i137, ⟨u138, u139, u140⟩⟩ := hr136
        have u141 := kp_t u119 u138
        have v142 : q_V r135 = q_V δ := (u139).trans v120
        have v143 := kr_t v121 u140
        have f146 : (q_I r135 12 10 a0).toInt = (q_I d1 12 10 a0).toInt := ((show (q_I r135 12 10 a0).toInt = (q_I r110.2 12 10 a0).toInt from congrArg Int32.toInt (u138 12 10 a0 (by decide))).trans (show (q_I r110.2 12 10 a0).toInt = (q_I d1 12 10 a0).toInt from congrArg Int32.toInt (u116 12 10 a0 (by decide))))
        refine ok_bind (k_X12_boundOf L hN (a0 := a0) (x1 := x1) (x2 := (q_I r135 12 10 a0)) k_a0 (show 0 ≤ ((q_I r135 12 10 a0)).toInt by first | with_reducible assumption | omega) (show ((q_I r135 12 10 a0)).toInt ≤ 16 by first | with_reducible assumption | omega) (show ((q_I r135 12 10 a0)).toInt < 20 by first | with_reducible assumption | omega) i137) (fun r144 hr145 => ?_)
        have i147 := hr145
        try rw [i147]
        have f148 := ti_b r144.1
        have f149 := ti_b (q_I r135 12 37 a0)
        refine ok_ite (fun h150 => ?_) (fun h150 => ?_)
        · have c151 : (q_I r135 12 37 a0).toInt = r144.1.toInt := o_eq h150
          unfold J_X12_reached_70
          exact ok_some (show RI ad h.1 δ0 r135 ∧ (kp [(12, 0), (12, 36), (12, 37), (12, 38), (12, 39)] δ r135 ∧ q_V r135 = q_V δ ∧ kr ad [100, 119, 120, 121] δ r135) from ⟨i137, ⟨kp_w (by decide) u141, v142, kr_w (by decide) v143⟩⟩)
        · have c152 : (q_I r135 12 37 a0).toInt ≠ r144.1.toInt := o_ne h150
          unfold J_X12_reached_70
          exact ok_some (show RI ad h.1 δ0 r135 ∧ (kp [(12, 0), (12, 36), (12, 37), (12, 38), (12, 39)] δ r135 ∧ q_V r135 = q_V δ ∧ kr ad [100, 119, 120, 121] δ r135) from ⟨i137, ⟨kp_w (by decide) u141, v142, kr_w (by decide) v143⟩⟩)
set_option maxHeartbeats 4000000 in
theorem kl_X12_touchSet_8 {ad : List Nat} {h : hp} (L : Lay TLx ad h) {δ0 : dp} {N : Nat} (hN : 10000000 ≤ N) {a0 : Nat} {x1 : Int32} {x2 : Int32} {x3 : Int32} (k_a0 : q_K h.1 a0 = 12) : ∀ (n : Nat) (x4v : Int32) (δ : dp), RI ad h.1 δ0 δ → 0 ≤ (x4v).toInt → (x4v).toInt ≤ 16 → (q_I δ 12 36 a0).toInt ≤ (x4v).toInt → 16 - (x4v).toInt < (n : Int) → ok (L_X12_touchSet_8 N h.1 a0 x1 x2 x3 n x4v δ) (fun r => RI ad h.1 δ0 r.2 ∧ (kp [(12, 36)] δ r.2 ∧ q_V r.2 = q_V δ ∧ kr ad [119] δ r.2) ∧ 1 ≤ (r.1).toInt ∧ (r.1).toInt ≤ 61) := by
  intro n
  induction n with
  | zero =>
    intro x4v δ I j0 j1 j2 hm
    have f1 := ti_b x4v
    have f2 := cb_12_36 I k_a0
    exfalso; omega
  | succ n ih =>
    intro x4v δ I j0 j1 j2 hm
    unfold L_X12_touchSet_8
    have f1 := ti_b x4v
    have f2 := cb_12_36 I k_a0
    refine ok_ite (fun h3 => ?_) (fun h3 => ?_)
    · have c4 : (16 : Int) ≤ x4v.toInt := o_le h3
      have f7 := cb_12_10 I k_a0
      have f8 := lgb ((q_I δ 12 10 a0)).toInt
      refine ok_bind (k_X12_touch L hN (a0 := a0) (x1 := x1) (x2 := x2) (x3 := (q_I δ 12 10 a0)) (x4 := (0 : Int32)) (x5 := (q_I δ 12 36 a0)) k_a0 (show 1 ≤ ((q_I δ 12 10 a0)).toInt by first | with_reducible assumption | omega) (show ((q_I δ 12 10 a0)).toInt ≤ 16 by first | with_reducible assumption | omega) (show 0 ≤ (0 : Int) by first | with_reducible assumption | omega) (show (0 : Int) ≤ ((q_I δ 12 36 a0)).toInt by first | with_reducible assumption | omega) (show ((q_I δ 12 36 a0)).toInt ≤ (0 : Int) + 2000 by first | with_reducible assumption | omega) (show ((q_I δ 12 36 a0)).toInt ≤ (q_I δ 12 36 a0).toInt by first | with_reducible assumption | omega) (show (q_I δ 12 36 a0).toInt + 2000 * LGf ((q_I δ 12 10 a0)).toInt ≤ 12000 by first | with_reducible assumption | omega) (show ((q_I δ 12 10 a0)).toInt < 20 by first | with_reducible assumption | omega) I) (fun r5 hr6 => ?_)
      obtain ⟨i9, ⟨u13, u14, u15⟩, p10, p11, p12⟩ := hr6
      have u16 := kp_t kp_r u13
      have v17 : q_V r5.2 = q_V δ := (u14).trans rfl
      have v18 := kr_t (kr_r (ad := ad)) u15
      have f19 := cb_12_36 i9 k_a0
      have f20 := ti_b r5.1
      exact ok_some (show RI ad h.1 δ0 r5.2 ∧ (kp [(12, 36)] δ r5.2 ∧ q_V r5.2 = q_V δ ∧ kr ad [119] δ r5.2) ∧ 1 ≤ (r5.1).toInt ∧ (r5.1).toInt ≤ 61 from ⟨i9, ⟨kp_w (by decide) u16, v17, kr_w (by decide) v18⟩, by first | with_reducible assumption | omega, by first | with_reducible assumption | omega⟩)
    · have c21 : x4v.toInt < (16 : Int) := o_nle h3
      have f22 := ti_b ((x3 >>> (x4v &&& 31)) &&& (1 : Int32))
      refine ok_ite (fun h23 => ?_) (fun h23 => ?_)
      · have c24 : ((x3 >>> (x4v &&& 31)) &&& (1 : Int32)).toInt = (0 : Int) := o_eq h23
        unfold J_X12_touchSet_48
        refine ok_biv (fun vx25 e26 => ?_)
        first | (have q27 := te_addc (c := 1) (n := 1) rfl x4v (by omega) (by omega); rw [← e26] at q27; obtain ⟨f28, f29, f30⟩ := q27) | (obtain ⟨q27, f28, f29, f30⟩ : ∃ q : Int, vx25.toInt = x4v.toInt + (1 : Int) + 4294967296 * q ∧ -2147483648 ≤ vx25.toInt ∧ vx25.toInt ≤ 2147483647 := by rw [e26]; exact ti_addc (c := 1) (n := 1) rfl x4v)
        refine ok_mono (ih vx25 δ I (show 0 ≤ (vx25).toInt by first | with_reducible assumption | omega) (show (vx25).toInt ≤ 16 by first | with_reducible assumption | omega) (show (q_I δ 12 36 a0).toInt ≤ (vx25).toInt by first | with_reducible assumption | omega) (show 16 - (vx25).toInt < _ by omega)) (fun r31 hr32 => ?_)
        obtain ⟨i33, ⟨u36, u37, u38⟩, p34, p35⟩ := hr32
        have u39 := kp_t kp_r u36
        have v40 : q_V r31.2 = q_V δ := (u37).trans rfl
        have v41 := kr_t (kr_r (ad := ad)) u38
        have f42 := ti_b r31.1
        exact ⟨by first | with_reducible assumption | assumption, ⟨kp_w (by decide) u39, v40, kr_w (by decide) v41⟩, by first | with_reducible assumption | omega, by first | with_reducible assumption | omega⟩
      · have c43 : ((x3 >>> (x4v &&& 31)) &&& (1 : Int32)).toInt ≠ (0 : Int) := o_ne h23
        obtain ⟨b44, o45, k46, n47, w48⟩ := gO_12_35 L k_a0
        obtain rfl := gS_12_35 L k_a0 o45
        refine ok_at o45 ?_
        have t49 := ti_tn (q_I δ 12 36 a0)
        refine ok_gd (fun hc50 => ?_) ?_
        · rcases hc50 with hc50 | hc50
          · have c51 : (q_I δ 12 36 a0).toInt < (0 : Int) := o_lt hc50
            omega
          · omega
        refine ok_bdv (fun d52 e53 => ?_)
        have i54 : RI ad h.1 δ0 d52 := by rw [e53]; exact RI.sR L I w48
        have u55 := kp_N kp_r (show q_I d52 = q_I δ by rw [e53]; rfl)
        have v56 : q_V d52 = q_V δ := ((show q_V d52 = q_V δ by rw [e53]; rfl)).trans rfl
        have v57 := kr_s L (by decide) (kr_r (ad := ad)) e53
        have f61 : (q_I d52 12 36 a0).toInt = (q_I δ 12 36 a0).toInt := congrArg Int32.toInt (by rw [e53]; rfl)
        first | (have q63 := te_addc (c := 1) (n := 1) rfl (q_I d52 12 36 a0) (by omega) (by omega); obtain ⟨f64, f65, f66⟩ := q63) | (obtain ⟨q63, f64, f65, f66⟩ := ti_addc (c := 1) (n := 1) rfl (q_I d52 12 36 a0))
        refine ok_bdv (fun d58 e59 => ?_)
        have i60 : RI ad h.1 δ0 d58 := by rw [e59]; exact cs_12_36 L i54 k_a0 (show 0 ≤ ((q_I d52 12 36 a0) + (1 : Int32)).toInt by omega) (show ((q_I d52 12 36 a0) + (1 : Int32)).toInt ≤ 14000 by omega)
        have u67 := kp_I u55 e59
        have v68 : q_V d58 = q_V δ := ((show q_V d58 = q_V d52 by rw [e59]; rfl)).trans v56
        have v69 := kr_N v57 (show q_R d58 = q_R d52 by rw [e59]; rfl)
        unfold J_X12_touchSet_48
        refine ok_biv (fun vx70 e71 => ?_)
        first | (have q72 := te_addc (c := 1) (n := 1) rfl x4v (by omega) (by omega); rw [← e71] at q72; obtain ⟨f73, f74, f75⟩ := q72) | (obtain ⟨q72, f73, f74, f75⟩ : ∃ q : Int, vx70.toInt = x4v.toInt + (1 : Int) + 4294967296 * q ∧ -2147483648 ≤ vx70.toInt ∧ vx70.toInt ≤ 2147483647 := by rw [e71]; exact ti_addc (c := 1) (n := 1) rfl x4v)
        have f76 := cb_12_36 i60 k_a0
        have f77 : (q_I d58 12 36 a0).toInt = ((q_I d52 12 36 a0) + (1 : Int32)).toInt := congrArg Int32.toInt (show q_I d58 12 36 a0 = ((q_I d52 12 36 a0) + (1 : Int32)) by rw [e59]; exact rI_s)
        refine ok_mono (ih vx70 d58 i60 (show 0 ≤ (vx70).toInt by first | with_reducible assumption | omega) (show (vx70).toInt ≤ 16 by first | with_reducible assumption | omega) (show (q_I d58 12 36 a0).toInt ≤ (vx70).toInt by first | with_reducible assumption | omega) (show 16 - (vx70).toInt < _ by omega)) (fun r78 hr79 => ?_)
        obtain ⟨i80, ⟨u83, u84, u85⟩, p81, p82⟩ := hr79
        have u86 := kp_t u67 u83
        have v87 : q_V r78.2 = q_V δ := (u84).trans v68
        have v88 := kr_t v69 u85
        have f89 := ti_b r78.1
        exact ⟨by first | with_reducible assumption | assumption, ⟨kp_w (by decide) u86, v87, kr_w (by decide) v88⟩, by first | with_reducible assumption | omega, by first | with_reducible assumption | omega⟩
set_option maxHeartbeats 4000000 in
theorem k_X12_touchSet {ad : List Nat} {h : hp} (L : Lay TLx ad h) {δ0 : dp} {N : Nat} (hN : 10000000 ≤ N) {a0 : Nat} {x1 : Int32} {x2 : Int32} {x3 : Int32} (k_a0 : q_K h.1 a0 = 12) {δ : dp} (I : RI ad h.1 δ0 δ) : ok (D_X12_touchSet N h.1 a0 x1 x2 x3 δ) (fun r => RI ad h.1 δ0 r.2 ∧ (kp [(12, 36)] δ r.2 ∧ q_V r.2 = q_V δ ∧ kr ad [119] δ r.2) ∧ 1 ≤ (r.1).toInt ∧ (r.1).toInt ≤ 61) := by
  unfold D_X12_touchSet
  refine ok_bdv (fun d1 e2 => ?_)
  have i3 : RI ad h.1 δ0 d1 := by rw [e2]; exact cs_12_36 L I k_a0 (show 0 ≤ (0 : Int) by omega) (show (0 : Int) ≤ 14000 by omega)
  have u4 := kp_I kp_r e2
  have v5 : q_V d1 = q_V δ := ((show q_V d1 = q_V δ by rw [e2]; rfl)).trans rfl
  have v6 := kr_N (kr_r (ad := ad)) (show q_R d1 = q_R δ by rw [e2]; rfl)
  have f7 := cb_12_36 i3 k_a0
  have f8 : (q_I d1 12 36 a0).toInt = (0 : Int) := congrArg Int32.toInt (show q_I d1 12 36 a0 = (0 : Int32) by rw [e2]; exact rI_s)
  refine ok_mono (kl_X12_touchSet_8 L hN   k_a0 _ (0 : Int32) d1 i3 (show 0 ≤ (0 : Int) by first | with_reducible assumption | omega) (show (0 : Int) ≤ 16 by first | with_reducible assumption | omega) (show (q_I d1 12 36 a0).toInt ≤ (0 : Int) by first | with_reducible assumption | omega) (show 16 - (0 : Int) < _ by omega)) (fun r9 hr10 => ?_)
  obtain ⟨i11, ⟨u14, u15, u16⟩, p12, p13⟩ := hr10
  have u17 := kp_t u4 u14
  have v18 : q_V r9.2 = q_V δ := (u15).trans v5
  have v19 := kr_t v6 u16
  have f20 := ti_b r9.1
  exact ⟨by first | with_reducible assumption | assumption, ⟨kp_w (by decide) u17, v18, kr_w (by decide) v19⟩, by first | with_reducible assumption | omega, by first | with_reducible assumption | omega⟩
set_option maxHeartbeats 4000000 in
theorem k_X12_behind {ad : List Nat} {h : hp} (L : Lay TLx ad h) {δ0 : dp} {N : Nat} (hN : 10000000 ≤ N) {a0 : Nat} {x1 : Int32} {x2 : Int32} {x3 : Int32} (k_a0 : q_K h.1 a0 = 12) {δ : dp} (I : RI ad h.1 δ0 δ) : ok (D_X12_behind N h.1 a0 x1 x2 x3 δ) (fun r => r.2 = δ) := by
  unfold D_X12_behind
  have f1 := ti_b x1
  refine ok_ite (fun h2 => ?_) (fun h2 => ?_)
  · have c3 : x1.toInt = (0 : Int) := o_eq h2
    unfold J_X12_behind_28
    exact ok_some (show δ = δ from rfl)
  · have c4 : x1.toInt ≠ (0 : Int) := o_ne h2
    refine ok_ite (fun h5 => ?_) (fun h5 => ?_)
    · have c6 : x1.toInt = (1 : Int) := o_eq h5
      unfold J_X12_behind_28
      exact ok_some (show δ = δ from rfl)
    · have c7 : x1.toInt ≠ (1 : Int) := o_ne h5
      unfold J_X12_behind_28
      exact ok_some (show δ = δ from rfl)
set_option maxHeartbeats 4000000 in
theorem k_X12_isRow {ad : List Nat} {h : hp} (L : Lay TLx ad h) {δ0 : dp} {N : Nat} (hN : 10000000 ≤ N) {a0 : Nat} {x1 : Int32} (k_a0 : q_K h.1 a0 = 12) {δ : dp} (I : RI ad h.1 δ0 δ) : ok (D_X12_isRow N h.1 a0 x1 δ) (fun r => r.2 = δ ∧ bo (r.1) ∧ ((r.1).toInt = 1 → 1 ≤ (x1).toInt ∧ (x1).toInt ≤ 6) ∧ ((q_I δ 12 10 a0).toInt ≤ 4 ∨ (r.1).toInt = 0 ∨ (x1).toInt ≤ 2)) := by
  unfold D_X12_isRow
  have f1 := cb_12_10 I k_a0
  refine ok_ite (fun h2 => ?_) (fun h2 => ?_)
  · have c3 : (6 : Int) < (q_I δ 12 10 a0).toInt := o_lt h2
    unfold J_X12_isRow_35
    unfold J_X12_isRow_36
    refine ok_gp (by decide) ?_
    have f4 := ti_b x1
    exact ok_some (show δ = δ ∧ bo ((0 : Int32)) ∧ ((0 : Int) = 1 → 1 ≤ (x1).toInt ∧ (x1).toInt ≤ 6) ∧ ((q_I δ 12 10 a0).toInt ≤ 4 ∨ (0 : Int) = 0 ∨ (x1).toInt ≤ 2) from ⟨rfl, bo_0, by first | with_reducible assumption | omega, by first | with_reducible assumption | omega⟩)
  · have c5 : (q_I δ 12 10 a0).toInt ≤ (6 : Int) := o_nlt h2
    refine ok_ite (fun h6 => ?_) (fun h6 => ?_)
    · have c7 : (4 : Int) < (q_I δ 12 10 a0).toInt := o_lt h6
      unfold J_X12_isRow_25
      refine ok_bind (k_X12_within L hN (x0 := x1) (x1 := (1 : Int32)) (x2 := (2 : Int32))  I) (fun r8 hr9 => ?_)
      obtain ⟨i10, p11, p12, p13⟩ := hr9
      try rw [i10]
      have f14 := bo_l p11
      have f15 := ti_b r8.1
      have f16 := ti_b x1
      replace p12 : ((r8.1).toInt = 1 → (1 : Int) ≤ (x1).toInt ∧ (x1).toInt ≤ (2 : Int)) := p12
      replace p13 : ((r8.1).toInt = 0 → (x1).toInt < (1 : Int) ∨ (2 : Int) < (x1).toInt) := p13
      refine ok_ite (fun h17 => ?_) (fun h17 => ?_)
      · have c18 : r8.1.toInt = (0 : Int) := o_eq h17
        unfold J_X12_isRow_35
        unfold J_X12_isRow_36
        refine ok_gp (by decide) ?_
        exact ok_some (show δ = δ ∧ bo ((0 : Int32)) ∧ ((0 : Int) = 1 → 1 ≤ (x1).toInt ∧ (x1).toInt ≤ 6) ∧ ((q_I δ 12 10 a0).toInt ≤ 4 ∨ (0 : Int) = 0 ∨ (x1).toInt ≤ 2) from ⟨rfl, bo_0, by first | with_reducible assumption | omega, by first | with_reducible assumption | omega⟩)
      · have c19 : r8.1.toInt ≠ (0 : Int) := o_ne h17
        unfold J_X12_isRow_36
        refine ok_gp (by decide) ?_
        exact ok_some (show δ = δ ∧ bo ((1 : Int32)) ∧ ((1 : Int) = 1 → 1 ≤ (x1).toInt ∧ (x1).toInt ≤ 6) ∧ ((q_I δ 12 10 a0).toInt ≤ 4 ∨ (1 : Int) = 0 ∨ (x1).toInt ≤ 2) from ⟨rfl, bo_1, by first | with_reducible assumption | omega, by first | with_reducible assumption | omega⟩)
    · have c20 : (q_I δ 12 10 a0).toInt ≤ (4 : Int) := o_nlt h6
      unfold J_X12_isRow_25
      refine ok_bind (k_X12_within L hN (x0 := x1) (x1 := (1 : Int32)) (x2 := (6 : Int32))  I) (fun r21 hr22 => ?_)
      obtain ⟨i23, p24, p25, p26⟩ := hr22
      try rw [i23]
      have f27 := bo_l p24
      have f28 := ti_b r21.1
      have f29 := ti_b x1
      replace p25 : ((r21.1).toInt = 1 → (1 : Int) ≤ (x1).toInt ∧ (x1).toInt ≤ (6 : Int)) := p25
      replace p26 : ((r21.1).toInt = 0 → (x1).toInt < (1 : Int) ∨ (6 : Int) < (x1).toInt) := p26
      refine ok_ite (fun h30 => ?_) (fun h30 => ?_)
      · have c31 : r21.1.toInt = (0 : Int) := o_eq h30
        unfold J_X12_isRow_35
        unfold J_X12_isRow_36
        refine ok_gp (by decide) ?_
        exact ok_some (show δ = δ ∧ bo ((0 : Int32)) ∧ ((0 : Int) = 1 → 1 ≤ (x1).toInt ∧ (x1).toInt ≤ 6) ∧ ((q_I δ 12 10 a0).toInt ≤ 4 ∨ (0 : Int) = 0 ∨ (x1).toInt ≤ 2) from ⟨rfl, bo_0, by first | with_reducible assumption | omega, by first | with_reducible assumption | omega⟩)
      · have c32 : r21.1.toInt ≠ (0 : Int) := o_ne h30
        unfold J_X12_isRow_36
        refine ok_gp (by decide) ?_
        exact ok_some (show δ = δ ∧ bo ((1 : Int32)) ∧ ((1 : Int) = 1 → 1 ≤ (x1).toInt ∧ (x1).toInt ≤ 6) ∧ ((q_I δ 12 10 a0).toInt ≤ 4 ∨ (1 : Int) = 0 ∨ (x1).toInt ≤ 2) from ⟨rfl, bo_1, by first | with_reducible assumption | omega, by first | with_reducible assumption | omega⟩)
set_option maxHeartbeats 4000000 in
theorem kl_X12_findTwo_19 {ad : List Nat} {h : hp} (L : Lay TLx ad h) {δ0 : dp} {N : Nat} (hN : 10000000 ≤ N) {a0 : Nat} {x1 : Int32} {kt7 : Int32 → dp → Option (dp)} {K7 : Int} (h_kt7 : ∀ (x2v : Int32) (δ : dp), RI ad h.1 δ0 δ → 0 ≤ (x2v).toInt → (x2v).toInt ≤ 327680 → 327680 - (x2v).toInt < K7 → ok (kt7 x2v δ) (fun r => RI ad h.1 δ0 r ∧ (kp [(12, 36), (12, 45)] δ r ∧ q_V r = q_V δ ∧ kr ad [119, 123] δ r))) (k_a0 : q_K h.1 a0 = 12) : ∀ (n : Nat) (x2v : Int32) (x3v : Int32) (δ : dp), RI ad h.1 δ0 δ → 0 ≤ (x2v).toInt → (x2v).toInt < 327680 → 327680 - (x2v).toInt ≤ K7 → 0 ≤ (x3v).toInt → (x3v).toInt ≤ 327680 → 327680 - (x3v).toInt < (n : Int) → ok (L_X12_findTwo_19 N h.1 a0 x1 kt7 n x2v x3v δ) (fun r => RI ad h.1 δ0 r ∧ (kp [(12, 36), (12, 45)] δ r ∧ q_V r = q_V δ ∧ kr ad [119, 123] δ r)) := by
  intro n
  induction n with
  | zero =>
    intro x2v x3v δ I j0 j1 j2 j3 j4 hm
    have f1 := ti_b x2v
    have f2 := ti_b x3v
    exfalso; omega
  | succ n ih =>
    intro x2v x3v δ I j0 j1 j2 j3 j4 hm
    unfold L_X12_findTwo_19
    have f1 := ti_b x2v
    have f2 := ti_b x3v
    have f3 := ti_b x1
    refine ok_ite (fun h4 => ?_) (fun h4 => ?_)
    · have c5 : x1.toInt = (1 : Int) := o_eq h4
      unfold J_X12_findTwo_35
      refine ok_ite (fun h6 => ?_) (fun h6 => ?_)
      · have c7 : (1 : Int) ≤ x3v.toInt := o_le h6
        refine ok_biv (fun vx8 e9 => ?_)
        first | (have q10 := te_addc (c := 1) (n := 1) rfl x2v (by omega) (by omega); rw [← e9] at q10; obtain ⟨f11, f12, f13⟩ := q10) | (obtain ⟨q10, f11, f12, f13⟩ : ∃ q : Int, vx8.toInt = x2v.toInt + (1 : Int) + 4294967296 * q ∧ -2147483648 ≤ vx8.toInt ∧ vx8.toInt ≤ 2147483647 := by rw [e9]; exact ti_addc (c := 1) (n := 1) rfl x2v)
        refine ok_mono (h_kt7 vx8 δ I (show 0 ≤ (vx8).toInt by first | with_reducible assumption | omega) (show (vx8).toInt ≤ 327680 by first | with_reducible assumption | omega) (show 327680 - (vx8).toInt < _ by omega)) (fun r14 hr15 => ?_)
        obtain ⟨i16, ⟨u17, u18, u19⟩⟩ := hr15
        have u20 := kp_t kp_r u17
        have v21 : q_V r14 = q_V δ := (u18).trans rfl
        have v22 := kr_t (kr_r (ad := ad)) u19
        exact ⟨by first | with_reducible assumption | assumption, ⟨kp_w (by decide) u20, v21, kr_w (by decide) v22⟩⟩
      · have c23 : x3v.toInt < (1 : Int) := o_nle h6
        obtain ⟨b24, o25, k26, n27, w28⟩ := gO_12_35 L k_a0
        obtain rfl := gS_12_35 L k_a0 o25
        refine ok_at o25 ?_
        have t29 : (0 : Int32).toNatClampNeg = 0 := rfl
        refine ok_gd (fun hc30 => ?_) ?_
        · rcases hc30 with hc30 | hc30
          · have c31 : (0 : Int) < (0 : Int) := o_lt hc30
            omega
          · omega
        refine ok_bdv (fun d32 e33 => ?_)
        have i34 : RI ad h.1 δ0 d32 := by rw [e33]; exact RI.sR L I w28
        have u35 := kp_N kp_r (show q_I d32 = q_I δ by rw [e33]; rfl)
        have v36 : q_V d32 = q_V δ := ((show q_V d32 = q_V δ by rw [e33]; rfl)).trans rfl
        have v37 := kr_s L (by decide) (kr_r (ad := ad)) e33
        refine ok_bind (k_X12_all L hN (a0 := a0) k_a0 i34) (fun r38 hr39 => ?_)
        obtain ⟨i40, p41, p42, p43, p44⟩ := hr39
        try rw [i40]
        have f45 := ti_b r38.1
        have f46 : (q_I d32 12 10 a0).toInt = (q_I δ 12 10 a0).toInt := congrArg Int32.toInt (by rw [e33]; rfl)
        have f47 := cb_12_10 I k_a0
        refine ok_ite (fun h48 => ?_) (fun h48 => ?_)
        · have c49 : r38.1.toInt ≤ x2v.toInt := o_le h48
          unfold J_X12_findTwo_59
          refine ok_bdv (fun d50 e51 => ?_)
          have i52 : RI ad h.1 δ0 d50 := by rw [e51]; exact cs_12_36 L i34 k_a0 (show 0 ≤ (0 : Int) by omega) (show (0 : Int) ≤ 14000 by omega)
          have u53 := kp_I u35 e51
          have v54 : q_V d50 = q_V δ := ((show q_V d50 = q_V d32 by rw [e51]; rfl)).trans v36
          have v55 := kr_N v37 (show q_R d50 = q_R d32 by rw [e51]; rfl)
          refine ok_ite (fun h56 => ?_) (fun h56 => ?_)
          · have c57 : x1.toInt = (1 : Int) := o_eq h56
            unfold J_X12_findTwo_97
            refine ok_biv (fun vx58 e59 => ?_)
            first | (have q60 := te_cadd (c := 1) (n := 1) rfl (0 : Int32) (by omega) (by omega); rw [← e59] at q60; obtain ⟨f61, f62, f63⟩ := q60) | (obtain ⟨q60, f61, f62, f63⟩ : ∃ q : Int, vx58.toInt = (1 : Int) + (0 : Int) + 4294967296 * q ∧ -2147483648 ≤ vx58.toInt ∧ vx58.toInt ≤ 2147483647 := by rw [e59]; exact ti_cadd (c := 1) (n := 1) rfl (0 : Int32))
            have f64 : (q_I d50 12 45 a0).toInt = (q_I δ 12 45 a0).toInt := ((show (q_I d50 12 45 a0).toInt = (q_I d32 12 45 a0).toInt from congrArg Int32.toInt (by rw [e51]; exact rI_o (by decide))).trans (show (q_I d32 12 45 a0).toInt = (q_I δ 12 45 a0).toInt from congrArg Int32.toInt (by rw [e33]; rfl)))
            have f65 := ti_b (q_I δ 12 45 a0)
            refine ok_ite (fun h66 => ?_) (fun h66 => ?_)
            · have c67 : (q_I d50 12 45 a0).toInt < vx58.toInt := o_lt h66
              refine ok_bdv (fun d68 e69 => ?_)
              have i70 : RI ad h.1 δ0 d68 := by rw [e69]; exact cs_12_45 L i52
              have u71 := kp_I u53 e69
              have v72 : q_V d68 = q_V δ := ((show q_V d68 = q_V d50 by rw [e69]; rfl)).trans v54
              have v73 := kr_N v55 (show q_R d68 = q_R d50 by rw [e69]; rfl)
              obtain ⟨b74, o75, k76, n77, w78⟩ := gO_12_44 L k_a0
              obtain rfl := gS_12_44 L k_a0 o75
              refine ok_at o75 ?_
              refine ok_gd (fun hc79 => ?_) ?_
              · rcases hc79 with hc79 | hc79
                · have c80 : (0 : Int) < (0 : Int) := o_lt hc79
                  omega
                · omega
              refine ok_bdv (fun d81 e82 => ?_)
              have i83 : RI ad h.1 δ0 d81 := by rw [e82]; exact RI.sR L i70 w78
              have u84 := kp_N u71 (show q_I d81 = q_I d68 by rw [e82]; rfl)
              have v85 : q_V d81 = q_V δ := ((show q_V d81 = q_V d68 by rw [e82]; rfl)).trans v72
              have v86 := kr_s L (by decide) v73 e82
              refine ok_at o75 ?_
              have t87 : (1 : Int32).toNatClampNeg = 1 := rfl
              refine ok_gd (fun hc88 => ?_) ?_
              · rcases hc88 with hc88 | hc88
                · have c89 : (1 : Int) < (0 : Int) := o_lt hc88
                  omega
                · omega
              refine ok_bdv (fun d90 e91 => ?_)
              have i92 : RI ad h.1 δ0 d90 := by rw [e91]; exact RI.sR L i83 w78
              have u93 := kp_N u84 (show q_I d90 = q_I d81 by rw [e91]; rfl)
              have v94 : q_V d90 = q_V δ := ((show q_V d90 = q_V d81 by rw [e91]; rfl)).trans v85
              have v95 := kr_s L (by decide) v86 e91
              unfold J_X12_findTwo_132
              refine ok_biv (fun vx96 e97 => ?_)
              first | (have q98 := te_addc (c := 1) (n := 1) rfl x3v (by omega) (by omega); rw [← e97] at q98; obtain ⟨f99, f100, f101⟩ := q98) | (obtain ⟨q98, f99, f100, f101⟩ : ∃ q : Int, vx96.toInt = x3v.toInt + (1 : Int) + 4294967296 * q ∧ -2147483648 ≤ vx96.toInt ∧ vx96.toInt ≤ 2147483647 := by rw [e97]; exact ti_addc (c := 1) (n := 1) rfl x3v)
              refine ok_mono (ih x2v vx96 d90 i92 (show 0 ≤ (x2v).toInt by first | with_reducible assumption | omega) (show (x2v).toInt < 327680 by first | with_reducible assumption | omega) (show 327680 - (x2v).toInt ≤ K7 by first | with_reducible assumption | omega) (show 0 ≤ (vx96).toInt by first | with_reducible assumption | omega) (show (vx96).toInt ≤ 327680 by first | with_reducible assumption | omega) (show 327680 - (vx96).toInt < _ by omega)) (fun r102 hr103 => ?_)
              obtain ⟨i104, ⟨u105, u106, u107⟩⟩ := hr103
              have u108 := kp_t u93 u105
              have v109 : q_V r102 = q_V δ := (u106).trans v94
              have v110 := kr_t v95 u107
              exact ⟨by first | with_reducible assumption | assumption, ⟨kp_w (by decide) u108, v109, kr_w (by decide) v110⟩⟩
            · have c111 : vx58.toInt ≤ (q_I d50 12 45 a0).toInt := o_nlt h66
              unfold J_X12_findTwo_132
              refine ok_biv (fun vx112 e113 => ?_)
              first | (have q114 := te_addc (c := 1) (n := 1) rfl x3v (by omega) (by omega); rw [← e113] at q114; obtain ⟨f115, f116, f117⟩ := q114) | (obtain ⟨q114, f115, f116, f117⟩ : ∃ q : Int, vx112.toInt = x3v.toInt + (1 : Int) + 4294967296 * q ∧ -2147483648 ≤ vx112.toInt ∧ vx112.toInt ≤ 2147483647 := by rw [e113]; exact ti_addc (c := 1) (n := 1) rfl x3v)
              refine ok_mono (ih x2v vx112 d50 i52 (show 0 ≤ (x2v).toInt by first | with_reducible assumption | omega) (show (x2v).toInt < 327680 by first | with_reducible assumption | omega) (show 327680 - (x2v).toInt ≤ K7 by first | with_reducible assumption | omega) (show 0 ≤ (vx112).toInt by first | with_reducible assumption | omega) (show (vx112).toInt ≤ 327680 by first | with_reducible assumption | omega) (show 327680 - (vx112).toInt < _ by omega)) (fun r118 hr119 => ?_)
              obtain ⟨i120, ⟨u121, u122, u123⟩⟩ := hr119
              have u124 := kp_t u53 u121
              have v125 : q_V r118 = q_V δ := (u122).trans v54
              have v126 := kr_t v55 u123
              exact ⟨by first | with_reducible assumption | assumption, ⟨kp_w (by decide) u124, v125, kr_w (by decide) v126⟩⟩
          · have c127 : x1.toInt ≠ (1 : Int) := o_ne h56
            refine ok_bind (k_X12_all L hN (a0 := a0) k_a0 i52) (fun r128 hr129 => ?_)
            obtain ⟨i130, p131, p132, p133, p134⟩ := hr129
            try rw [i130]
            have f135 := ti_b r128.1
            have f136 : (q_I d50 12 10 a0).toInt = (q_I d32 12 10 a0).toInt := congrArg Int32.toInt (by rw [e51]; exact rI_o (by decide))
            refine ok_gd (fun hc137 => ?_) ?_
            · have c138 : r128.1.toInt = (0 : Int) := o_eq hc137
              omega
            refine ok_bind (k_X12_all L hN (a0 := a0) k_a0 i52) (fun r139 hr140 => ?_)
            obtain ⟨i141, p142, p143, p144, p145⟩ := hr140
            try rw [i141]
            have f146 := ti_b r139.1
            refine ok_gd (fun hc147 => ?_) ?_
            · have c148 : r139.1.toInt = (0 : Int) := o_eq hc147
              omega
            have f151 := cb_12_36 i52 k_a0
            have f152 : (q_I d50 12 36 a0).toInt = (0 : Int) := congrArg Int32.toInt (show q_I d50 12 36 a0 = (0 : Int32) by rw [e51]; exact rI_s)
            have f153 := lgb ((q_I d50 12 10 a0)).toInt
            refine ok_bind (k_X12_touch L hN (a0 := a0) (x1 := (x3v / r128.1)) (x2 := (x3v - x3v / r139.1 * r139.1)) (x3 := (q_I d50 12 10 a0)) (x4 := (0 : Int32)) (x5 := (q_I d50 12 36 a0)) k_a0 (show 1 ≤ ((q_I d50 12 10 a0)).toInt by first | with_reducible assumption | omega) (show ((q_I d50 12 10 a0)).toInt ≤ 16 by first | with_reducible assumption | omega) (show 0 ≤ (0 : Int) by first | with_reducible assumption | omega) (show (0 : Int) ≤ ((q_I d50 12 36 a0)).toInt by first | with_reducible assumption | omega) (show ((q_I d50 12 36 a0)).toInt ≤ (0 : Int) + 2000 by first | with_reducible assumption | omega) (show ((q_I d50 12 36 a0)).toInt ≤ (q_I d50 12 36 a0).toInt by first | with_reducible assumption | omega) (show (q_I d50 12 36 a0).toInt + 2000 * LGf ((q_I d50 12 10 a0)).toInt ≤ 12000 by first | with_reducible assumption | omega) (show ((q_I d50 12 10 a0)).toInt < 20 by first | with_reducible assumption | omega) i52) (fun r149 hr150 => ?_)
            obtain ⟨i154, ⟨u158, u159, u160⟩, p155, p156, p157⟩ := hr150
            have u161 := kp_t u53 u158
            have v162 : q_V r149.2 = q_V δ := (u159).trans v54
            have v163 := kr_t v55 u160
            have f164 := cb_12_36 i154 k_a0
            have f165 := ti_b r149.1
            unfold J_X12_findTwo_97
            refine ok_biv (fun vx166 e167 => ?_)
            first | (have q168 := te_cadd (c := 1) (n := 1) rfl r149.1 (by omega) (by omega); rw [← e167] at q168; obtain ⟨f169, f170, f171⟩ := q168) | (obtain ⟨q168, f169, f170, f171⟩ : ∃ q : Int, vx166.toInt = (1 : Int) + r149.1.toInt + 4294967296 * q ∧ -2147483648 ≤ vx166.toInt ∧ vx166.toInt ≤ 2147483647 := by rw [e167]; exact ti_cadd (c := 1) (n := 1) rfl r149.1)
            have f172 : (q_I r149.2 12 45 a0).toInt = (q_I δ 12 45 a0).toInt := ((show (q_I r149.2 12 45 a0).toInt = (q_I d50 12 45 a0).toInt from congrArg Int32.toInt (u158 12 45 a0 (by decide))).trans ((show (q_I d50 12 45 a0).toInt = (q_I d32 12 45 a0).toInt from congrArg Int32.toInt (by rw [e51]; exact rI_o (by decide))).trans (show (q_I d32 12 45 a0).toInt = (q_I δ 12 45 a0).toInt from congrArg Int32.toInt (by rw [e33]; rfl))))
            have f173 := ti_b (q_I δ 12 45 a0)
            refine ok_ite (fun h174 => ?_) (fun h174 => ?_)
            · have c175 : (q_I r149.2 12 45 a0).toInt < vx166.toInt := o_lt h174
              refine ok_bdv (fun d176 e177 => ?_)
              have i178 : RI ad h.1 δ0 d176 := by rw [e177]; exact cs_12_45 L i154
              have u179 := kp_I u161 e177
              have v180 : q_V d176 = q_V δ := ((show q_V d176 = q_V r149.2 by rw [e177]; rfl)).trans v162
              have v181 := kr_N v163 (show q_R d176 = q_R r149.2 by rw [e177]; rfl)
              obtain ⟨b182, o183, k184, n185, w186⟩ := gO_12_44 L k_a0
              obtain rfl := gS_12_44 L k_a0 o183
              refine ok_at o183 ?_
              refine ok_gd (fun hc187 => ?_) ?_
              · rcases hc187 with hc187 | hc187
                · have c188 : (0 : Int) < (0 : Int) := o_lt hc187
                  omega
                · omega
              refine ok_bdv (fun d189 e190 => ?_)
              have i191 : RI ad h.1 δ0 d189 := by rw [e190]; exact RI.sR L i178 w186
              have u192 := kp_N u179 (show q_I d189 = q_I d176 by rw [e190]; rfl)
              have v193 : q_V d189 = q_V δ := ((show q_V d189 = q_V d176 by rw [e190]; rfl)).trans v180
              have v194 := kr_s L (by decide) v181 e190
              refine ok_at o183 ?_
              have t195 : (1 : Int32).toNatClampNeg = 1 := rfl
              refine ok_gd (fun hc196 => ?_) ?_
              · rcases hc196 with hc196 | hc196
                · have c197 : (1 : Int) < (0 : Int) := o_lt hc196
                  omega
                · omega
              refine ok_bdv (fun d198 e199 => ?_)
              have i200 : RI ad h.1 δ0 d198 := by rw [e199]; exact RI.sR L i191 w186
              have u201 := kp_N u192 (show q_I d198 = q_I d189 by rw [e199]; rfl)
              have v202 : q_V d198 = q_V δ := ((show q_V d198 = q_V d189 by rw [e199]; rfl)).trans v193
              have v203 := kr_s L (by decide) v194 e199
              unfold J_X12_findTwo_132
              refine ok_biv (fun vx204 e205 => ?_)
              first | (have q206 := te_addc (c := 1) (n := 1) rfl x3v (by omega) (by omega); rw [← e205] at q206; obtain ⟨f207, f208, f209⟩ := q206) | (obtain ⟨q206, f207, f208, f209⟩ : ∃ q : Int, vx204.toInt = x3v.toInt + (1 : Int) + 4294967296 * q ∧ -2147483648 ≤ vx204.toInt ∧ vx204.toInt ≤ 2147483647 := by rw [e205]; exact ti_addc (c := 1) (n := 1) rfl x3v)
              refine ok_mono (ih x2v vx204 d198 i200 (show 0 ≤ (x2v).toInt by first | with_reducible assumption | omega) (show (x2v).toInt < 327680 by first | with_reducible assumption | omega) (show 327680 - (x2v).toInt ≤ K7 by first | with_reducible assumption | omega) (show 0 ≤ (vx204).toInt by first | with_reducible assumption | omega) (show (vx204).toInt ≤ 327680 by first | with_reducible assumption | omega) (show 327680 - (vx204).toInt < _ by omega)) (fun r210 hr211 => ?_)
              obtain ⟨i212, ⟨u213, u214, u215⟩⟩ := hr211
              have u216 := kp_t u201 u213
              have v217 : q_V r210 = q_V δ := (u214).trans v202
              have v218 := kr_t v203 u215
              exact ⟨by first | with_reducible assumption | assumption, ⟨kp_w (by decide) u216, v217, kr_w (by decide) v218⟩⟩
            · have c219 : vx166.toInt ≤ (q_I r149.2 12 45 a0).toInt := o_nlt h174
              unfold J_X12_findTwo_132
              refine ok_biv (fun vx220 e221 => ?_)
              first | (have q222 := te_addc (c := 1) (n := 1) rfl x3v (by omega) (by omega); rw [← e221] at q222; obtain ⟨f223, f224, f225⟩ := q222) | (obtain ⟨q222, f223, f224, f225⟩ : ∃ q : Int, vx220.toInt = x3v.toInt + (1 : Int) + 4294967296 * q ∧ -2147483648 ≤ vx220.toInt ∧ vx220.toInt ≤ 2147483647 := by rw [e221]; exact ti_addc (c := 1) (n := 1) rfl x3v)
              refine ok_mono (ih x2v vx220 r149.2 i154 (show 0 ≤ (x2v).toInt by first | with_reducible assumption | omega) (show (x2v).toInt < 327680 by first | with_reducible assumption | omega) (show 327680 - (x2v).toInt ≤ K7 by first | with_reducible assumption | omega) (show 0 ≤ (vx220).toInt by first | with_reducible assumption | omega) (show (vx220).toInt ≤ 327680 by first | with_reducible assumption | omega) (show 327680 - (vx220).toInt < _ by omega)) (fun r226 hr227 => ?_)
              obtain ⟨i228, ⟨u229, u230, u231⟩⟩ := hr227
              have u232 := kp_t u161 u229
              have v233 : q_V r226 = q_V δ := (u230).trans v162
              have v234 := kr_t v163 u231
              exact ⟨by first | with_reducible assumption | assumption, ⟨kp_w (by decide) u232, v233, kr_w (by decide) v234⟩⟩
        · have c235 : x2v.toInt < r38.1.toInt := o_nle h48
          unfold J_X12_findTwo_59
          refine ok_bdv (fun d236 e237 => ?_)
          have i238 : RI ad h.1 δ0 d236 := by rw [e237]; exact cs_12_36 L i34 k_a0 (show 0 ≤ (1 : Int) by omega) (show (1 : Int) ≤ 14000 by omega)
          have u239 := kp_I u35 e237
          have v240 : q_V d236 = q_V δ := ((show q_V d236 = q_V d32 by rw [e237]; rfl)).trans v36
          have v241 := kr_N v37 (show q_R d236 = q_R d32 by rw [e237]; rfl)
          refine ok_ite (fun h242 => ?_) (fun h242 => ?_)
          · have c243 : x1.toInt = (1 : Int) := o_eq h242
            unfold J_X12_findTwo_97
            refine ok_biv (fun vx244 e245 => ?_)
            first | (have q246 := te_cadd (c := 1) (n := 1) rfl (0 : Int32) (by omega) (by omega); rw [← e245] at q246; obtain ⟨f247, f248, f249⟩ := q246) | (obtain ⟨q246, f247, f248, f249⟩ : ∃ q : Int, vx244.toInt = (1 : Int) + (0 : Int) + 4294967296 * q ∧ -2147483648 ≤ vx244.toInt ∧ vx244.toInt ≤ 2147483647 := by rw [e245]; exact ti_cadd (c := 1) (n := 1) rfl (0 : Int32))
            have f250 : (q_I d236 12 45 a0).toInt = (q_I δ 12 45 a0).toInt := ((show (q_I d236 12 45 a0).toInt = (q_I d32 12 45 a0).toInt from congrArg Int32.toInt (by rw [e237]; exact rI_o (by decide))).trans (show (q_I d32 12 45 a0).toInt = (q_I δ 12 45 a0).toInt from congrArg Int32.toInt (by rw [e33]; rfl)))
            have f251 := ti_b (q_I δ 12 45 a0)
            refine ok_ite (fun h252 => ?_) (fun h252 => ?_)
            · have c253 : (q_I d236 12 45 a0).toInt < vx244.toInt := o_lt h252
              refine ok_bdv (fun d254 e255 => ?_)
              have i256 : RI ad h.1 δ0 d254 := by rw [e255]; exact cs_12_45 L i238
              have u257 := kp_I u239 e255
              have v258 : q_V d254 = q_V δ := ((show q_V d254 = q_V d236 by rw [e255]; rfl)).trans v240
              have v259 := kr_N v241 (show q_R d254 = q_R d236 by rw [e255]; rfl)
              obtain ⟨b260, o261, k262, n263, w264⟩ := gO_12_44 L k_a0
              obtain rfl := gS_12_44 L k_a0 o261
              refine ok_at o261 ?_
              refine ok_gd (fun hc265 => ?_) ?_
              · rcases hc265 with hc265 | hc265
                · have c266 : (0 : Int) < (0 : Int) := o_lt hc265
                  omega
                · omega
              refine ok_bdv (fun d267 e268 => ?_)
              have i269 : RI ad h.1 δ0 d267 := by rw [e268]; exact RI.sR L i256 w264
              have u270 := kp_N u257 (show q_I d267 = q_I d254 by rw [e268]; rfl)
              have v271 : q_V d267 = q_V δ := ((show q_V d267 = q_V d254 by rw [e268]; rfl)).trans v258
              have v272 := kr_s L (by decide) v259 e268
              refine ok_at o261 ?_
              have t273 : (1 : Int32).toNatClampNeg = 1 := rfl
              refine ok_gd (fun hc274 => ?_) ?_
              · rcases hc274 with hc274 | hc274
                · have c275 : (1 : Int) < (0 : Int) := o_lt hc274
                  omega
                · omega
              refine ok_bdv (fun d276 e277 => ?_)
              have i278 : RI ad h.1 δ0 d276 := by rw [e277]; exact RI.sR L i269 w264
              have u279 := kp_N u270 (show q_I d276 = q_I d267 by rw [e277]; rfl)
              have v280 : q_V d276 = q_V δ := ((show q_V d276 = q_V d267 by rw [e277]; rfl)).trans v271
              have v281 := kr_s L (by decide) v272 e277
              unfold J_X12_findTwo_132
              refine ok_biv (fun vx282 e283 => ?_)
              first | (have q284 := te_addc (c := 1) (n := 1) rfl x3v (by omega) (by omega); rw [← e283] at q284; obtain ⟨f285, f286, f287⟩ := q284) | (obtain ⟨q284, f285, f286, f287⟩ : ∃ q : Int, vx282.toInt = x3v.toInt + (1 : Int) + 4294967296 * q ∧ -2147483648 ≤ vx282.toInt ∧ vx282.toInt ≤ 2147483647 := by rw [e283]; exact ti_addc (c := 1) (n := 1) rfl x3v)
              refine ok_mono (ih x2v vx282 d276 i278 (show 0 ≤ (x2v).toInt by first | with_reducible assumption | omega) (show (x2v).toInt < 327680 by first | with_reducible assumption | omega) (show 327680 - (x2v).toInt ≤ K7 by first | with_reducible assumption | omega) (show 0 ≤ (vx282).toInt by first | with_reducible assumption | omega) (show (vx282).toInt ≤ 327680 by first | with_reducible assumption | omega) (show 327680 - (vx282).toInt < _ by omega)) (fun r288 hr289 => ?_)
              obtain ⟨i290, ⟨u291, u292, u293⟩⟩ := hr289
              have u294 := kp_t u279 u291
              have v295 : q_V r288 = q_V δ := (u292).trans v280
              have v296 := kr_t v281 u293
              exact ⟨by first | with_reducible assumption | assumption, ⟨kp_w (by decide) u294, v295, kr_w (by decide) v296⟩⟩
            · have c297 : vx244.toInt ≤ (q_I d236 12 45 a0).toInt := o_nlt h252
              unfold J_X12_findTwo_132
              refine ok_biv (fun vx298 e299 => ?_)
              first | (have q300 := te_addc (c := 1) (n := 1) rfl x3v (by omega) (by omega); rw [← e299] at q300; obtain ⟨f301, f302, f303⟩ := q300) | (obtain ⟨q300, f301, f302, f303⟩ : ∃ q : Int, vx298.toInt = x3v.toInt + (1 : Int) + 4294967296 * q ∧ -2147483648 ≤ vx298.toInt ∧ vx298.toInt ≤ 2147483647 := by rw [e299]; exact ti_addc (c := 1) (n := 1) rfl x3v)
              refine ok_mono (ih x2v vx298 d236 i238 (show 0 ≤ (x2v).toInt by first | with_reducible assumption | omega) (show (x2v).toInt < 327680 by first | with_reducible assumption | omega) (show 327680 - (x2v).toInt ≤ K7 by first | with_reducible assumption | omega) (show 0 ≤ (vx298).toInt by first | with_reducible assumption | omega) (show (vx298).toInt ≤ 327680 by first | with_reducible assumption | omega) (show 327680 - (vx298).toInt < _ by omega)) (fun r304 hr305 => ?_)
              obtain ⟨i306, ⟨u307, u308, u309⟩⟩ := hr305
              have u310 := kp_t u239 u307
              have v311 : q_V r304 = q_V δ := (u308).trans v240
              have v312 := kr_t v241 u309
              exact ⟨by first | with_reducible assumption | assumption, ⟨kp_w (by decide) u310, v311, kr_w (by decide) v312⟩⟩
          · have c313 : x1.toInt ≠ (1 : Int) := o_ne h242
            refine ok_bind (k_X12_all L hN (a0 := a0) k_a0 i238) (fun r314 hr315 => ?_)
            obtain ⟨i316, p317, p318, p319, p320⟩ := hr315
            try rw [i316]
            have f321 := ti_b r314.1
            have f322 : (q_I d236 12 10 a0).toInt = (q_I d32 12 10 a0).toInt := congrArg Int32.toInt (by rw [e237]; exact rI_o (by decide))
            refine ok_gd (fun hc323 => ?_) ?_
            · have c324 : r314.1.toInt = (0 : Int) := o_eq hc323
              omega
            refine ok_bind (k_X12_all L hN (a0 := a0) k_a0 i238) (fun r325 hr326 => ?_)
            obtain ⟨i327, p328, p329, p330, p331⟩ := hr326
            try rw [i327]
            have f332 := ti_b r325.1
            refine ok_gd (fun hc333 => ?_) ?_
            · have c334 : r325.1.toInt = (0 : Int) := o_eq hc333
              omega
            have f337 := cb_12_36 i238 k_a0
            have f338 : (q_I d236 12 36 a0).toInt = (1 : Int) := congrArg Int32.toInt (show q_I d236 12 36 a0 = (1 : Int32) by rw [e237]; exact rI_s)
            have f339 := lgb ((q_I d236 12 10 a0)).toInt
            refine ok_bind (k_X12_touch L hN (a0 := a0) (x1 := (x3v / r314.1)) (x2 := (x3v - x3v / r325.1 * r325.1)) (x3 := (q_I d236 12 10 a0)) (x4 := (0 : Int32)) (x5 := (q_I d236 12 36 a0)) k_a0 (show 1 ≤ ((q_I d236 12 10 a0)).toInt by first | with_reducible assumption | omega) (show ((q_I d236 12 10 a0)).toInt ≤ 16 by first | with_reducible assumption | omega) (show 0 ≤ (0 : Int) by first | with_reducible assumption | omega) (show (0 : Int) ≤ ((q_I d236 12 36 a0)).toInt by first | with_reducible assumption | omega) (show ((q_I d236 12 36 a0)).toInt ≤ (0 : Int) + 2000 by first | with_reducible assumption | omega) (show ((q_I d236 12 36 a0)).toInt ≤ (q_I d236 12 36 a0).toInt by first | with_reducible assumption | omega) (show (q_I d236 12 36 a0).toInt + 2000 * LGf ((q_I d236 12 10 a0)).toInt ≤ 12000 by first | with_reducible assumption | omega) (show ((q_I d236 12 10 a0)).toInt < 20 by first | with_reducible assumption | omega) i238) (fun r335 hr336 => ?_)
            obtain ⟨i340, ⟨u344, u345, u346⟩, p341, p342, p343⟩ := hr336
            have u347 := kp_t u239 u344
            have v348 : q_V r335.2 = q_V δ := (u345).trans v240
            have v349 := kr_t v241 u346
            have f350 := cb_12_36 i340 k_a0
            have f351 := ti_b r335.1
            unfold J_X12_findTwo_97
            refine ok_biv (fun vx352 e353 => ?_)
            first | (have q354 := te_cadd (c := 1) (n := 1) rfl r335.1 (by omega) (by omega); rw [← e353] at q354; obtain ⟨f355, f356, f357⟩ := q354) | (obtain ⟨q354, f355, f356, f357⟩ : ∃ q : Int, vx352.toInt = (1 : Int) + r335.1.toInt + 4294967296 * q ∧ -2147483648 ≤ vx352.toInt ∧ vx352.toInt ≤ 2147483647 := by rw [e353]; exact ti_cadd (c := 1) (n := 1) rfl r335.1)
            have f358 : (q_I r335.2 12 45 a0).toInt = (q_I δ 12 45 a0).toInt := ((show (q_I r335.2 12 45 a0).toInt = (q_I d236 12 45 a0).toInt from congrArg Int32.toInt (u344 12 45 a0 (by decide))).trans ((show (q_I d236 12 45 a0).toInt = (q_I d32 12 45 a0).toInt from congrArg Int32.toInt (by rw [e237]; exact rI_o (by decide))).trans (show (q_I d32 12 45 a0).toInt = (q_I δ 12 45 a0).toInt from congrArg Int32.toInt (by rw [e33]; rfl))))
            have f359 := ti_b (q_I δ 12 45 a0)
            refine ok_ite (fun h360 => ?_) (fun h360 => ?_)
            · have c361 : (q_I r335.2 12 45 a0).toInt < vx352.toInt := o_lt h360
              refine ok_bdv (fun d362 e363 => ?_)
              have i364 : RI ad h.1 δ0 d362 := by rw [e363]; exact cs_12_45 L i340
              have u365 := kp_I u347 e363
              have v366 : q_V d362 = q_V δ := ((show q_V d362 = q_V r335.2 by rw [e363]; rfl)).trans v348
              have v367 := kr_N v349 (show q_R d362 = q_R r335.2 by rw [e363]; rfl)
              obtain ⟨b368, o369, k370, n371, w372⟩ := gO_12_44 L k_a0
              obtain rfl := gS_12_44 L k_a0 o369
              refine ok_at o369 ?_
              refine ok_gd (fun hc373 => ?_) ?_
              · rcases hc373 with hc373 | hc373
                · have c374 : (0 : Int) < (0 : Int) := o_lt hc373
                  omega
                · omega
              refine ok_bdv (fun d375 e376 => ?_)
              have i377 : RI ad h.1 δ0 d375 := by rw [e376]; exact RI.sR L i364 w372
              have u378 := kp_N u365 (show q_I d375 = q_I d362 by rw [e376]; rfl)
              have v379 : q_V d375 = q_V δ := ((show q_V d375 = q_V d362 by rw [e376]; rfl)).trans v366
              have v380 := kr_s L (by decide) v367 e376
              refine ok_at o369 ?_
              have t381 : (1 : Int32).toNatClampNeg = 1 := rfl
              refine ok_gd (fun hc382 => ?_) ?_
              · rcases hc382 with hc382 | hc382
                · have c383 : (1 : Int) < (0 : Int) := o_lt hc382
                  omega
                · omega
              refine ok_bdv (fun d384 e385 => ?_)
              have i386 : RI ad h.1 δ0 d384 := by rw [e385]; exact RI.sR L i377 w372
              have u387 := kp_N u378 (show q_I d384 = q_I d375 by rw [e385]; rfl)
              have v388 : q_V d384 = q_V δ := ((show q_V d384 = q_V d375 by rw [e385]; rfl)).trans v379
              have v389 := kr_s L (by decide) v380 e385
              unfold J_X12_findTwo_132
              refine ok_biv (fun vx390 e391 => ?_)
              first | (have q392 := te_addc (c := 1) (n := 1) rfl x3v (by omega) (by omega); rw [← e391] at q392; obtain ⟨f393, f394, f395⟩ := q392) | (obtain ⟨q392, f393, f394, f395⟩ : ∃ q : Int, vx390.toInt = x3v.toInt + (1 : Int) + 4294967296 * q ∧ -2147483648 ≤ vx390.toInt ∧ vx390.toInt ≤ 2147483647 := by rw [e391]; exact ti_addc (c := 1) (n := 1) rfl x3v)
              refine ok_mono (ih x2v vx390 d384 i386 (show 0 ≤ (x2v).toInt by first | with_reducible assumption | omega) (show (x2v).toInt < 327680 by first | with_reducible assumption | omega) (show 327680 - (x2v).toInt ≤ K7 by first | with_reducible assumption | omega) (show 0 ≤ (vx390).toInt by first | with_reducible assumption | omega) (show (vx390).toInt ≤ 327680 by first | with_reducible assumption | omega) (show 327680 - (vx390).toInt < _ by omega)) (fun r396 hr397 => ?_)
              obtain ⟨i398, ⟨u399, u400, u401⟩⟩ := hr397
              have u402 := kp_t u387 u399
              have v403 : q_V r396 = q_V δ := (u400).trans v388
              have v404 := kr_t v389 u401
              exact ⟨by first | with_reducible assumption | assumption, ⟨kp_w (by decide) u402, v403, kr_w (by decide) v404⟩⟩
            · have c405 : vx352.toInt ≤ (q_I r335.2 12 45 a0).toInt := o_nlt h360
              unfold J_X12_findTwo_132
              refine ok_biv (fun vx406 e407 => ?_)
              first | (have q408 := te_addc (c := 1) (n := 1) rfl x3v (by omega) (by omega); rw [← e407] at q408; obtain ⟨f409, f410, f411⟩ := q408) | (obtain ⟨q408, f409, f410, f411⟩ : ∃ q : Int, vx406.toInt = x3v.toInt + (1 : Int) + 4294967296 * q ∧ -2147483648 ≤ vx406.toInt ∧ vx406.toInt ≤ 2147483647 := by rw [e407]; exact ti_addc (c := 1) (n := 1) rfl x3v)
              refine ok_mono (ih x2v vx406 r335.2 i340 (show 0 ≤ (x2v).toInt by first | with_reducible assumption | omega) (show (x2v).toInt < 327680 by first | with_reducible assumption | omega) (show 327680 - (x2v).toInt ≤ K7 by first | with_reducible assumption | omega) (show 0 ≤ (vx406).toInt by first | with_reducible assumption | omega) (show (vx406).toInt ≤ 327680 by first | with_reducible assumption | omega) (show 327680 - (vx406).toInt < _ by omega)) (fun r412 hr413 => ?_)
              obtain ⟨i414, ⟨u415, u416, u417⟩⟩ := hr413
              have u418 := kp_t u347 u415
              have v419 : q_V r412 = q_V δ := (u416).trans v348
              have v420 := kr_t v349 u417
              exact ⟨by first | with_reducible assumption | assumption, ⟨kp_w (by decide) u418, v419, kr_w (by decide) v420⟩⟩
    · have c421 : x1.toInt ≠ (1 : Int) := o_ne h4
      refine ok_bind (k_X12_all L hN (a0 := a0) k_a0 I) (fun r422 hr423 => ?_)
      obtain ⟨i424, p425, p426, p427, p428⟩ := hr423
      try rw [i424]
      have f429 := ti_b r422.1
      have f430 := cb_12_10 I k_a0
      unfold J_X12_findTwo_35
      first | (have q432 := te_mulc (c := 5) (n := 5) rfl r422.1 (by omega) (by omega); obtain ⟨f433, f434, f435⟩ := q432) | (obtain ⟨q432, f433, f434, f435⟩ := ti_mulc (c := 5) (n := 5) rfl r422.1)
      refine ok_ite (fun h436 => ?_) (fun h436 => ?_)
      · have c437 : ((5 : Int32) * r422.1).toInt ≤ x3v.toInt := o_le h436
        refine ok_biv (fun vx438 e439 => ?_)
        first | (have q440 := te_addc (c := 1) (n := 1) rfl x2v (by omega) (by omega); rw [← e439] at q440; obtain ⟨f441, f442, f443⟩ := q440) | (obtain ⟨q440, f441, f442, f443⟩ : ∃ q : Int, vx438.toInt = x2v.toInt + (1 : Int) + 4294967296 * q ∧ -2147483648 ≤ vx438.toInt ∧ vx438.toInt ≤ 2147483647 := by rw [e439]; exact ti_addc (c := 1) (n := 1) rfl x2v)
        refine ok_mono (h_kt7 vx438 δ I (show 0 ≤ (vx438).toInt by first | with_reducible assumption | omega) (show (vx438).toInt ≤ 327680 by first | with_reducible assumption | omega) (show 327680 - (vx438).toInt < _ by omega)) (fun r444 hr445 => ?_)
        obtain ⟨i446, ⟨u447, u448, u449⟩⟩ := hr445
        have u450 := kp_t kp_r u447
        have v451 : q_V r444 = q_V δ := (u448).trans rfl
        have v452 := kr_t (kr_r (ad := ad)) u449
        exact ⟨by first | with_reducible assumption | assumption, ⟨kp_w (by decide) u450, v451, kr_w (by decide) v452⟩⟩
      · have c453 : x3v.toInt < ((5 : Int32) * r422.1).toInt := o_nle h436
        obtain ⟨b454, o455, k456, n457, w458⟩ := gO_12_35 L k_a0
        obtain rfl := gS_12_35 L k_a0 o455
        refine ok_at o455 ?_
        have t459 : (0 : Int32).toNatClampNeg = 0 := rfl
        refine ok_gd (fun hc460 => ?_) ?_
        · rcases hc460 with hc460 | hc460
          · have c461 : (0 : Int) < (0 : Int) := o_lt hc460
            omega
          · omega
        refine ok_bdv (fun d462 e463 => ?_)
        have i464 : RI ad h.1 δ0 d462 := by rw [e463]; exact RI.sR L I w458
        have u465 := kp_N kp_r (show q_I d462 = q_I δ by rw [e463]; rfl)
        have v466 : q_V d462 = q_V δ := ((show q_V d462 = q_V δ by rw [e463]; rfl)).trans rfl
        have v467 := kr_s L (by decide) (kr_r (ad := ad)) e463
        refine ok_bind (k_X12_all L hN (a0 := a0) k_a0 i464) (fun r468 hr469 => ?_)
        obtain ⟨i470, p471, p472, p473, p474⟩ := hr469
        try rw [i470]
        have f475 := ti_b r468.1
        have f476 : (q_I d462 12 10 a0).toInt = (q_I δ 12 10 a0).toInt := congrArg Int32.toInt (by rw [e463]; rfl)
        refine ok_ite (fun h477 => ?_) (fun h477 => ?_)
        · have c478 : r468.1.toInt ≤ x2v.toInt := o_le h477
          unfold J_X12_findTwo_59
          refine ok_bdv (fun d479 e480 => ?_)
          have i481 : RI ad h.1 δ0 d479 := by rw [e480]; exact cs_12_36 L i464 k_a0 (show 0 ≤ (0 : Int) by omega) (show (0 : Int) ≤ 14000 by omega)
          have u482 := kp_I u465 e480
          have v483 : q_V d479 = q_V δ := ((show q_V d479 = q_V d462 by rw [e480]; rfl)).trans v466
          have v484 := kr_N v467 (show q_R d479 = q_R d462 by rw [e480]; rfl)
          refine ok_ite (fun h485 => ?_) (fun h485 => ?_)
          · have c486 : x1.toInt = (1 : Int) := o_eq h485
            unfold J_X12_findTwo_97
            refine ok_biv (fun vx487 e488 => ?_)
            first | (have q489 := te_cadd (c := 1) (n := 1) rfl (0 : Int32) (by omega) (by omega); rw [← e488] at q489; obtain ⟨f490, f491, f492⟩ := q489) | (obtain ⟨q489, f490, f491, f492⟩ : ∃ q : Int, vx487.toInt = (1 : Int) + (0 : Int) + 4294967296 * q ∧ -2147483648 ≤ vx487.toInt ∧ vx487.toInt ≤ 2147483647 := by rw [e488]; exact ti_cadd (c := 1) (n := 1) rfl (0 : Int32))
            have f493 : (q_I d479 12 45 a0).toInt = (q_I δ 12 45 a0).toInt := ((show (q_I d479 12 45 a0).toInt = (q_I d462 12 45 a0).toInt from congrArg Int32.toInt (by rw [e480]; exact rI_o (by decide))).trans (show (q_I d462 12 45 a0).toInt = (q_I δ 12 45 a0).toInt from congrArg Int32.toInt (by rw [e463]; rfl)))
            have f494 := ti_b (q_I δ 12 45 a0)
            refine ok_ite (fun h495 => ?_) (fun h495 => ?_)
            · have c496 : (q_I d479 12 45 a0).toInt < vx487.toInt := o_lt h495
              refine ok_bdv (fun d497 e498 => ?_)
              have i499 : RI ad h.1 δ0 d497 := by rw [e498]; exact cs_12_45 L i481
              have u500 := kp_I u482 e498
              have v501 : q_V d497 = q_V δ := ((show q_V d497 = q_V d479 by rw [e498]; rfl)).trans v483
              have v502 := kr_N v484 (show q_R d497 = q_R d479 by rw [e498]; rfl)
              obtain ⟨b503, o504, k505, n506, w507⟩ := gO_12_44 L k_a0
              obtain rfl := gS_12_44 L k_a0 o504
              refine ok_at o504 ?_
              refine ok_gd (fun hc508 => ?_) ?_
              · rcases hc508 with hc508 | hc508
                · have c509 : (0 : Int) < (0 : Int) := o_lt hc508
                  omega
                · omega
              refine ok_bdv (fun d510 e511 => ?_)
              have i512 : RI ad h.1 δ0 d510 := by rw [e511]; exact RI.sR L i499 w507
              have u513 := kp_N u500 (show q_I d510 = q_I d497 by rw [e511]; rfl)
              have v514 : q_V d510 = q_V δ := ((show q_V d510 = q_V d497 by rw [e511]; rfl)).trans v501
              have v515 := kr_s L (by decide) v502 e511
              refine ok_at o504 ?_
              have t516 : (1 : Int32).toNatClampNeg = 1 := rfl
              refine ok_gd (fun hc517 => ?_) ?_
              · rcases hc517 with hc517 | hc517
                · have c518 : (1 : Int) < (0 : Int) := o_lt hc517
                  omega
                · omega
              refine ok_bdv (fun d519 e520 => ?_)
              have i521 : RI ad h.1 δ0 d519 := by rw [e520]; exact RI.sR L i512 w507
              have u522 := kp_N u513 (show q_I d519 = q_I d510 by rw [e520]; rfl)
              have v523 : q_V d519 = q_V δ := ((show q_V d519 = q_V d510 by rw [e520]; rfl)).trans v514
              have v524 := kr_s L (by decide) v515 e520
              unfold J_X12_findTwo_132
              refine ok_biv (fun vx525 e526 => ?_)
              first | (have q527 := te_addc (c := 1) (n := 1) rfl x3v (by omega) (by omega); rw [← e526] at q527; obtain ⟨f528, f529, f530⟩ := q527) | (obtain ⟨q527, f528, f529, f530⟩ : ∃ q : Int, vx525.toInt = x3v.toInt + (1 : Int) + 4294967296 * q ∧ -2147483648 ≤ vx525.toInt ∧ vx525.toInt ≤ 2147483647 := by rw [e526]; exact ti_addc (c := 1) (n := 1) rfl x3v)
              refine ok_mono (ih x2v vx525 d519 i521 (show 0 ≤ (x2v).toInt by first | with_reducible assumption | omega) (show (x2v).toInt < 327680 by first | with_reducible assumption | omega) (show 327680 - (x2v).toInt ≤ K7 by first | with_reducible assumption | omega) (show 0 ≤ (vx525).toInt by first | with_reducible assumption | omega) (show (vx525).toInt ≤ 327680 by first | with_reducible assumption | omega) (show 327680 - (vx525).toInt < _ by omega)) (fun r531 hr532 => ?_)
              obtain ⟨i533, ⟨u534, u535, u536⟩⟩ := hr532
              have u537 := kp_t u522 u534
              have v538 : q_V r531 = q_V δ := (u535).trans v523
              have v539 := kr_t v524 u536
              exact ⟨by first | with_reducible assumption | assumption, ⟨kp_w (by decide) u537, v538, kr_w (by decide) v539⟩⟩
            · have c540 : vx487.toInt ≤ (q_I d479 12 45 a0).toInt := o_nlt h495
              unfold J_X12_findTwo_132
              refine ok_biv (fun vx541 e542 => ?_)
              first | (have q543 := te_addc (c := 1) (n := 1) rfl x3v (by omega) (by omega); rw [← e542] at q543; obtain ⟨f544, f545, f546⟩ := q543) | (obtain ⟨q543, f544, f545, f546⟩ : ∃ q : Int, vx541.toInt = x3v.toInt + (1 : Int) + 4294967296 * q ∧ -2147483648 ≤ vx541.toInt ∧ vx541.toInt ≤ 2147483647 := by rw [e542]; exact ti_addc (c := 1) (n := 1) rfl x3v)
              refine ok_mono (ih x2v vx541 d479 i481 (show 0 ≤ (x2v).toInt by first | with_reducible assumption | omega) (show (x2v).toInt < 327680 by first | with_reducible assumption | omega) (show 327680 - (x2v).toInt ≤ K7 by first | with_reducible assumption | omega) (show 0 ≤ (vx541).toInt by first | with_reducible assumption | omega) (show (vx541).toInt ≤ 327680 by first | with_reducible assumption | omega) (show 327680 - (vx541).toInt < _ by omega)) (fun r547 hr548 => ?_)
              obtain ⟨i549, ⟨u550, u551, u552⟩⟩ := hr548
              have u553 := kp_t u482 u550
              have v554 : q_V r547 = q_V δ := (u551).trans v483
              have v555 := kr_t v484 u552
              exact ⟨by first | with_reducible assumption | assumption, ⟨kp_w (by decide) u553, v554, kr_w (by decide) v555⟩⟩
          · have c556 : x1.toInt ≠ (1 : Int) := o_ne h485
            refine ok_bind (k_X12_all L hN (a0 := a0) k_a0 i481) (fun r557 hr558 => ?_)
            obtain ⟨i559, p560, p561, p562, p563⟩ := hr558
            try rw [i559]
            have f564 := ti_b r557.1
            have f565 : (q_I d479 12 10 a0).toInt = (q_I d462 12 10 a0).toInt := congrArg Int32.toInt (by rw [e480]; exact rI_o (by decide))
            refine ok_gd (fun hc566 => ?_) ?_
            · have c567 : r557.1.toInt = (0 : Int) := o_eq hc566
              omega
            refine ok_bind (k_X12_all L hN (a0 := a0) k_a0 i481) (fun r568 hr569 => ?_)
            obtain ⟨i570, p571, p572, p573, p574⟩ := hr569
            try rw [i570]
            have f575 := ti_b r568.1
            refine ok_gd (fun hc576 => ?_) ?_
            · have c577 : r568.1.toInt = (0 : Int) := o_eq hc576
              omega
            have f580 := cb_12_36 i481 k_a0
            have f581 : (q_I d479 12 36 a0).toInt = (0 : Int) := congrArg Int32.toInt (show q_I d479 12 36 a0 = (0 : Int32) by rw [e480]; exact rI_s)
            have f582 := lgb ((q_I d479 12 10 a0)).toInt
            refine ok_bind (k_X12_touch L hN (a0 := a0) (x1 := (x3v / r557.1)) (x2 := (x3v - x3v / r568.1 * r568.1)) (x3 := (q_I d479 12 10 a0)) (x4 := (0 : Int32)) (x5 := (q_I d479 12 36 a0)) k_a0 (show 1 ≤ ((q_I d479 12 10 a0)).toInt by first | with_reducible assumption | omega) (show ((q_I d479 12 10 a0)).toInt ≤ 16 by first | with_reducible assumption | omega) (show 0 ≤ (0 : Int) by first | with_reducible assumption | omega) (show (0 : Int) ≤ ((q_I d479 12 36 a0)).toInt by first | with_reducible assumption | omega) (show ((q_I d479 12 36 a0)).toInt ≤ (0 : Int) + 2000 by first | with_reducible assumption | omega) (show ((q_I d479 12 36 a0)).toInt ≤ (q_I d479 12 36 a0).toInt by first | with_reducible assumption | omega) (show (q_I d479 12 36 a0).toInt + 2000 * LGf ((q_I d479 12 10 a0)).toInt ≤ 12000 by first | with_reducible assumption | omega) (show ((q_I d479 12 10 a0)).toInt < 20 by first | with_reducible assumption | omega) i481) (fun r578 hr579 => ?_)
            obtain ⟨i583, ⟨u587, u588, u589⟩, p584, p585, p586⟩ := hr579
            have u590 := kp_t u482 u587
            have v591 : q_V r578.2 = q_V δ := (u588).trans v483
            have v592 := kr_t v484 u589
            have f593 := cb_12_36 i583 k_a0
            have f594 := ti_b r578.1
            unfold J_X12_findTwo_97
            refine ok_biv (fun vx595 e596 => ?_)
            first | (have q597 := te_cadd (c := 1) (n := 1) rfl r578.1 (by omega) (by omega); rw [← e596] at q597; obtain ⟨f598, f599, f600⟩ := q597) | (obtain ⟨q597, f598, f599, f600⟩ : ∃ q : Int, vx595.toInt = (1 : Int) + r578.1.toInt + 4294967296 * q ∧ -2147483648 ≤ vx595.toInt ∧ vx595.toInt ≤ 2147483647 := by rw [e596]; exact ti_cadd (c := 1) (n := 1) rfl r578.1)
            have f601 : (q_I r578.2 12 45 a0).toInt = (q_I δ 12 45 a0).toInt := ((show (q_I r578.2 12 45 a0).toInt = (q_I d479 12 45 a0).toInt from congrArg Int32.toInt (u587 12 45 a0 (by decide))).trans ((show (q_I d479 12 45 a0).toInt = (q_I d462 12 45 a0).toInt from congrArg Int32.toInt (by rw [e480]; exact rI_o (by decide))).trans (show (q_I d462 12 45 a0).toInt = (q_I δ 12 45 a0).toInt from congrArg Int32.toInt (by rw [e463]; rfl))))
            have f602 := ti_b (q_I δ 12 45 a0)
            refine ok_ite (fun h603 => ?_) (fun h603 => ?_)
            · have c604 : (q_I r578.2 12 45 a0).toInt < vx595.toInt := o_lt h603
              refine ok_bdv (fun d605 e606 => ?_)
              have i607 : RI ad h.1 δ0 d605 := by rw [e606]; exact cs_12_45 L i583
              have u608 := kp_I u590 e606
              have v609 : q_V d605 = q_V δ := ((show q_V d605 = q_V r578.2 by rw [e606]; rfl)).trans v591
              have v610 := kr_N v592 (show q_R d605 = q_R r578.2 by rw [e606]; rfl)
              obtain ⟨b611, o612, k613, n614, w615⟩ := gO_12_44 L k_a0
              obtain rfl := gS_12_44 L k_a0 o612
              refine ok_at o612 ?_
              refine ok_gd (fun hc616 => ?_) ?_
              · rcases hc616 with hc616 | hc616
                · have c617 : (0 : Int) < (0 : Int) := o_lt hc616
                  omega
                · omega
              refine ok_bdv (fun d618 e619 => ?_)
              have i620 : RI ad h.1 δ0 d618 := by rw [e619]; exact RI.sR L i607 w615
              have u621 := kp_N u608 (show q_I d618 = q_I d605 by rw [e619]; rfl)
              have v622 : q_V d618 = q_V δ := ((show q_V d618 = q_V d605 by rw [e619]; rfl)).trans v609
              have v623 := kr_s L (by decide) v610 e619
              refine ok_at o612 ?_
              have t624 : (1 : Int32).toNatClampNeg = 1 := rfl
              refine ok_gd (fun hc625 => ?_) ?_
              · rcases hc625 with hc625 | hc625
                · have c626 : (1 : Int) < (0 : Int) := o_lt hc625
                  omega
                · omega
              refine ok_bdv (fun d627 e628 => ?_)
              have i629 : RI ad h.1 δ0 d627 := by rw [e628]; exact RI.sR L i620 w615
              have u630 := kp_N u621 (show q_I d627 = q_I d618 by rw [e628]; rfl)
              have v631 : q_V d627 = q_V δ := ((show q_V d627 = q_V d618 by rw [e628]; rfl)).trans v622
              have v632 := kr_s L (by decide) v623 e628
              unfold J_X12_findTwo_132
              refine ok_biv (fun vx633 e634 => ?_)
              first | (have q635 := te_addc (c := 1) (n := 1) rfl x3v (by omega) (by omega); rw [← e634] at q635; obtain ⟨f636, f637, f638⟩ := q635) | (obtain ⟨q635, f636, f637, f638⟩ : ∃ q : Int, vx633.toInt = x3v.toInt + (1 : Int) + 4294967296 * q ∧ -2147483648 ≤ vx633.toInt ∧ vx633.toInt ≤ 2147483647 := by rw [e634]; exact ti_addc (c := 1) (n := 1) rfl x3v)
              refine ok_mono (ih x2v vx633 d627 i629 (show 0 ≤ (x2v).toInt by first | with_reducible assumption | omega) (show (x2v).toInt < 327680 by first | with_reducible assumption | omega) (show 327680 - (x2v).toInt ≤ K7 by first | with_reducible assumption | omega) (show 0 ≤ (vx633).toInt by first | with_reducible assumption | omega) (show (vx633).toInt ≤ 327680 by first | with_reducible assumption | omega) (show 327680 - (vx633).toInt < _ by omega)) (fun r639 hr640 => ?_)
              obtain ⟨i641, ⟨u642, u643, u644⟩⟩ := hr640
              have u645 := kp_t u630 u642
              have v646 : q_V r639 = q_V δ := (u643).trans v631
              have v647 := kr_t v632 u644
              exact ⟨by first | with_reducible assumption | assumption, ⟨kp_w (by decide) u645, v646, kr_w (by decide) v647⟩⟩
            · have c648 : vx595.toInt ≤ (q_I r578.2 12 45 a0).toInt := o_nlt h603
              unfold J_X12_findTwo_132
              refine ok_biv (fun vx649 e650 => ?_)
              first | (have q651 := te_addc (c := 1) (n := 1) rfl x3v (by omega) (by omega); rw [← e650] at q651; obtain ⟨f652, f653, f654⟩ := q651) | (obtain ⟨q651, f652, f653, f654⟩ : ∃ q : Int, vx649.toInt = x3v.toInt + (1 : Int) + 4294967296 * q ∧ -2147483648 ≤ vx649.toInt ∧ vx649.toInt ≤ 2147483647 := by rw [e650]; exact ti_addc (c := 1) (n := 1) rfl x3v)
              refine ok_mono (ih x2v vx649 r578.2 i583 (show 0 ≤ (x2v).toInt by first | with_reducible assumption | omega) (show (x2v).toInt < 327680 by first | with_reducible assumption | omega) (show 327680 - (x2v).toInt ≤ K7 by first | with_reducible assumption | omega) (show 0 ≤ (vx649).toInt by first | with_reducible assumption | omega) (show (vx649).toInt ≤ 327680 by first | with_reducible assumption | omega) (show 327680 - (vx649).toInt < _ by omega)) (fun r655 hr656 => ?_)
              obtain ⟨i657, ⟨u658, u659, u660⟩⟩ := hr656
              have u661 := kp_t u590 u658
              have v662 : q_V r655 = q_V δ := (u659).trans v591
              have v663 := kr_t v592 u660
              exact ⟨by first | with_reducible assumption | assumption, ⟨kp_w (by decide) u661, v662, kr_w (by decide) v663⟩⟩
        · have c664 : x2v.toInt < r468.1.toInt := o_nle h477
          unfold J_X12_findTwo_59
          refine ok_bdv (fun d665 e666 => ?_)
          have i667 : RI ad h.1 δ0 d665 := by rw [e666]; exact cs_12_36 L i464 k_a0 (show 0 ≤ (1 : Int) by omega) (show (1 : Int) ≤ 14000 by omega)
          have u668 := kp_I u465 e666
          have v669 : q_V d665 = q_V δ := ((show q_V d665 = q_V d462 by rw [e666]; rfl)).trans v466
          have v670 := kr_N v467 (show q_R d665 = q_R d462 by rw [e666]; rfl)
          refine ok_ite (fun h671 => ?_) (fun h671 => ?_)
          · have c672 : x1.toInt = (1 : Int) := o_eq h671
            unfold J_X12_findTwo_97
            refine ok_biv (fun vx673 e674 => ?_)
            first | (have q675 := te_cadd (c := 1) (n := 1) rfl (0 : Int32) (by omega) (by omega); rw [← e674] at q675; obtain ⟨f676, f677, f678⟩ := q675) | (obtain ⟨q675, f676, f677, f678⟩ : ∃ q : Int, vx673.toInt = (1 : Int) + (0 : Int) + 4294967296 * q ∧ -2147483648 ≤ vx673.toInt ∧ vx673.toInt ≤ 2147483647 := by rw [e674]; exact ti_cadd (c := 1) (n := 1) rfl (0 : Int32))
            have f679 : (q_I d665 12 45 a0).toInt = (q_I δ 12 45 a0).toInt := ((show (q_I d665 12 45 a0).toInt = (q_I d462 12 45 a0).toInt from congrArg Int32.toInt (by rw [e666]; exact rI_o (by decide))).trans (show (q_I d462 12 45 a0).toInt = (q_I δ 12 45 a0).toInt from congrArg Int32.toInt (by rw [e463]; rfl)))
            have f680 := ti_b (q_I δ 12 45 a0)
            refine ok_ite (fun h681 => ?_) (fun h681 => ?_)
            · have c682 : (q_I d665 12 45 a0).toInt < vx673.toInt := o_lt h681
              refine ok_bdv (fun d683 e684 => ?_)
              have i685 : RI ad h.1 δ0 d683 := by rw [e684]; exact cs_12_45 L i667
              have u686 := kp_I u668 e684
              have v687 : q_V d683 = q_V δ := ((show q_V d683 = q_V d665 by rw [e684]; rfl)).trans v669
              have v688 := kr_N v670 (show q_R d683 = q_R d665 by rw [e684]; rfl)
              obtain ⟨b689, o690, k691, n692, w693⟩ := gO_12_44 L k_a0
              obtain rfl := gS_12_44 L k_a0 o690
              refine ok_at o690 ?_
              refine ok_gd (fun hc694 => ?_) ?_
              · rcases hc694 with hc694 | hc694
                · have c695 : (0 : Int) < (0 : Int) := o_lt hc694
                  omega
                · omega
              refine ok_bdv (fun d696 e697 => ?_)
              have i698 : RI ad h.1 δ0 d696 := by rw [e697]; exact RI.sR L i685 w693
              have u699 := kp_N u686 (show q_I d696 = q_I d683 by rw [e697]; rfl)
              have v700 : q_V d696 = q_V δ := ((show q_V d696 = q_V d683 by rw [e697]; rfl)).trans v687
              have v701 := kr_s L (by decide) v688 e697
              refine ok_at o690 ?_
              have t702 : (1 : Int32).toNatClampNeg = 1 := rfl
              refine ok_gd (fun hc703 => ?_) ?_
              · rcases hc703 with hc703 | hc703
                · have c704 : (1 : Int) < (0 : Int) := o_lt hc703
                  omega
                · omega
              refine ok_bdv (fun d705 e706 => ?_)
              have i707 : RI ad h.1 δ0 d705 := by rw [e706]; exact RI.sR L i698 w693
              have u708 := kp_N u699 (show q_I d705 = q_I d696 by rw [e706]; rfl)
              have v709 : q_V d705 = q_V δ := ((show q_V d705 = q_V d696 by rw [e706]; rfl)).trans v700
              have v710 := kr_s L (by decide) v701 e706
              unfold J_X12_findTwo_132
              refine ok_biv (fun vx711 e712 => ?_)
              first | (have q713 := te_addc (c := 1) (n := 1) rfl x3v (by omega) (by omega); rw [← e712] at q713; obtain ⟨f714, f715, f716⟩ := q713) | (obtain ⟨q713, f714, f715, f716⟩ : ∃ q : Int, vx711.toInt = x3v.toInt + (1 : Int) + 4294967296 * q ∧ -2147483648 ≤ vx711.toInt ∧ vx711.toInt ≤ 2147483647 := by rw [e712]; exact ti_addc (c := 1) (n := 1) rfl x3v)
              refine ok_mono (ih x2v vx711 d705 i707 (show 0 ≤ (x2v).toInt by first | with_reducible assumption | omega) (show (x2v).toInt < 327680 by first | with_reducible assumption | omega) (show 327680 - (x2v).toInt ≤ K7 by first | with_reducible assumption | omega) (show 0 ≤ (vx711).toInt by first | with_reducible assumption | omega) (show (vx711).toInt ≤ 327680 by first | with_reducible assumption | omega) (show 327680 - (vx711).toInt < _ by omega)) (fun r717 hr718 => ?_)
              obtain ⟨i719, ⟨u720, u721, u722⟩⟩ := hr718
              have u723 := kp_t u708 u720
              have v724 : q_V r717 = q_V δ := (u721).trans v709
              have v725 := kr_t v710 u722
              exact ⟨by first | with_reducible assumption | assumption, ⟨kp_w (by decide) u723, v724, kr_w (by decide) v725⟩⟩
            · have c726 : vx673.toInt ≤ (q_I d665 12 45 a0).toInt := o_nlt h681
              unfold J_X12_findTwo_132
              refine ok_biv (fun vx727 e728 => ?_)
              first | (have q729 := te_addc (c := 1) (n := 1) rfl x3v (by omega) (by omega); rw [← e728] at q729; obtain ⟨f730, f731, f732⟩ := q729) | (obtain ⟨q729, f730, f731, f732⟩ : ∃ q : Int, vx727.toInt = x3v.toInt + (1 : Int) + 4294967296 * q ∧ -2147483648 ≤ vx727.toInt ∧ vx727.toInt ≤ 2147483647 := by rw [e728]; exact ti_addc (c := 1) (n := 1) rfl x3v)
              refine ok_mono (ih x2v vx727 d665 i667 (show 0 ≤ (x2v).toInt by first | with_reducible assumption | omega) (show (x2v).toInt < 327680 by first | with_reducible assumption | omega) (show 327680 - (x2v).toInt ≤ K7 by first | with_reducible assumption | omega) (show 0 ≤ (vx727).toInt by first | with_reducible assumption | omega) (show (vx727).toInt ≤ 327680 by first | with_reducible assumption | omega) (show 327680 - (vx727).toInt < _ by omega)) (fun r733 hr734 => ?_)
              obtain ⟨i735, ⟨u736, u737, u738⟩⟩ := hr734
              have u739 := kp_t u668 u736
              have v740 : q_V r733 = q_V δ := (u737).trans v669
              have v741 := kr_t v670 u738
              exact ⟨by first | with_reducible assumption | assumption, ⟨kp_w (by decide) u739, v740, kr_w (by decide) v741⟩⟩
          · have c742 : x1.toInt ≠ (1 : Int) := o_ne h671
            refine ok_bind (k_X12_all L hN (a0 := a0) k_a0 i667) (fun r743 hr744 => ?_)
            obtain ⟨i745, p746, p747, p748, p749⟩ := hr744
            try rw [i745]
            have f750 := ti_b r743.1
            have f751 : (q_I d665 12 10 a0).toInt = (q_I d462 12 10 a0).toInt := congrArg Int32.toInt (by rw [e666]; exact rI_o (by decide))
            refine ok_gd (fun hc752 => ?_) ?_
            · have c753 : r743.1.toInt = (0 : Int) := o_eq hc752
              omega
            refine ok_bind (k_X12_all L hN (a0 := a0) k_a0 i667) (fun r754 hr755 => ?_)
            obtain ⟨i756, p757, p758, p759, p760⟩ := hr755
            try rw [i756]
            have f761 := ti_b r754.1
            refine ok_gd (fun hc762 => ?_) ?_
            · have c763 : r754.1.toInt = (0 : Int) := o_eq hc762
              omega
            have f766 := cb_12_36 i667 k_a0
            have f767 : (q_I d665 12 36 a0).toInt = (1 : Int) := congrArg Int32.toInt (show q_I d665 12 36 a0 = (1 : Int32) by rw [e666]; exact rI_s)
            have f768 := lgb ((q_I d665 12 10 a0)).toInt
            refine ok_bind (k_X12_touch L hN (a0 := a0) (x1 := (x3v / r743.1)) (x2 := (x3v - x3v / r754.1 * r754.1)) (x3 := (q_I d665 12 10 a0)) (x4 := (0 : Int32)) (x5 := (q_I d665 12 36 a0)) k_a0 (show 1 ≤ ((q_I d665 12 10 a0)).toInt by first | with_reducible assumption | omega) (show ((q_I d665 12 10 a0)).toInt ≤ 16 by first | with_reducible assumption | omega) (show 0 ≤ (0 : Int) by first | with_reducible assumption | omega) (show (0 : Int) ≤ ((q_I d665 12 36 a0)).toInt by first | with_reducible assumption | omega) (show ((q_I d665 12 36 a0)).toInt ≤ (0 : Int) + 2000 by first | with_reducible assumption | omega) (show ((q_I d665 12 36 a0)).toInt ≤ (q_I d665 12 36 a0).toInt by first | with_reducible assumption | omega) (show (q_I d665 12 36 a0).toInt + 2000 * LGf ((q_I d665 12 10 a0)).toInt ≤ 12000 by first | with_reducible assumption | omega) (show ((q_I d665 12 10 a0)).toInt < 20 by first | with_reducible assumption | omega) i667) (fun r764 hr765 => ?_)
            obtain ⟨i769, ⟨u773, u774, u775⟩, p770, p771, p772⟩ := hr765
            have u776 := kp_t u668 u773
            have v777 : q_V r764.2 = q_V δ := (u774).trans v669
            have v778 := kr_t v670 u775
            have f779 := cb_12_36 i769 k_a0
            have f780 := ti_b r764.1
            unfold J_X12_findTwo_97
            refine ok_biv (fun vx781 e782 => ?_)
            first | (have q783 := te_cadd (c := 1) (n := 1) rfl r764.1 (by omega) (by omega); rw [← e782] at q783; obtain ⟨f784, f785, f786⟩ := q783) | (obtain ⟨q783, f784, f785, f786⟩ : ∃ q : Int, vx781.toInt = (1 : Int) + r764.1.toInt + 4294967296 * q ∧ -2147483648 ≤ vx781.toInt ∧ vx781.toInt ≤ 2147483647 := by rw [e782]; exact ti_cadd (c := 1) (n := 1) rfl r764.1)
            have f787 : (q_I r764.2 12 45 a0).toInt = (q_I δ 12 45 a0).toInt := ((show (q_I r764.2 12 45 a0).toInt = (q_I d665 12 45 a0).toInt from congrArg Int32.toInt (u773 12 45 a0 (by decide))).trans ((show (q_I d665 12 45 a0).toInt = (q_I d462 12 45 a0).toInt from congrArg Int32.toInt (by rw [e666]; exact rI_o (by decide))).trans (show (q_I d462 12 45 a0).toInt = (q_I δ 12 45 a0).toInt from congrArg Int32.toInt (by rw [e463]; rfl))))
            have f788 := ti_b (q_I δ 12 45 a0)
            refine ok_ite (fun h789 => ?_) (fun h789 => ?_)
            · have c790 : (q_I r764.2 12 45 a0).toInt < vx781.toInt := o_lt h789
              refine ok_bdv (fun d791 e792 => ?_)
              have i793 : RI ad h.1 δ0 d791 := by rw [e792]; exact cs_12_45 L i769
              have u794 := kp_I u776 e792
              have v795 : q_V d791 = q_V δ := ((show q_V d791 = q_V r764.2 by rw [e792]; rfl)).trans v777
              have v796 := kr_N v778 (show q_R d791 = q_R r764.2 by rw [e792]; rfl)
              obtain ⟨b797, o798, k799, n800, w801⟩ := gO_12_44 L k_a0
              obtain rfl := gS_12_44 L k_a0 o798
              refine ok_at o798 ?_
              refine ok_gd (fun hc802 => ?_) ?_
              · rcases hc802 with hc802 | hc802
                · have c803 : (0 : Int) < (0 : Int) := o_lt hc802
                  omega
                · omega
              refine ok_bdv (fun d804 e805 => ?_)
              have i806 : RI ad h.1 δ0 d804 := by rw [e805]; exact RI.sR L i793 w801
              have u807 := kp_N u794 (show q_I d804 = q_I d791 by rw [e805]; rfl)
              have v808 : q_V d804 = q_V δ := ((show q_V d804 = q_V d791 by rw [e805]; rfl)).trans v795
              have v809 := kr_s L (by decide) v796 e805
              refine ok_at o798 ?_
              have t810 : (1 : Int32).toNatClampNeg = 1 := rfl
              refine ok_gd (fun hc811 => ?_) ?_
              · rcases hc811 with hc811 | hc811
                · have c812 : (1 : Int) < (0 : Int) := o_lt hc811
                  omega
                · omega
              refine ok_bdv (fun d813 e814 => ?_)
              have i815 : RI ad h.1 δ0 d813 := by rw [e814]; exact RI.sR L i806 w801
              have u816 := kp_N u807 (show q_I d813 = q_I d804 by rw [e814]; rfl)
              have v817 : q_V d813 = q_V δ := ((show q_V d813 = q_V d804 by rw [e814]; rfl)).trans v808
              have v818 := kr_s L (by decide) v809 e814
              unfold J_X12_findTwo_132
              refine ok_biv (fun vx819 e820 => ?_)
              first | (have q821 := te_addc (c := 1) (n := 1) rfl x3v (by omega) (by omega); rw [← e820] at q821; obtain ⟨f822, f823, f824⟩ := q821) | (obtain ⟨q821, f822, f823, f824⟩ : ∃ q : Int, vx819.toInt = x3v.toInt + (1 : Int) + 4294967296 * q ∧ -2147483648 ≤ vx819.toInt ∧ vx819.toInt ≤ 2147483647 := by rw [e820]; exact ti_addc (c := 1) (n := 1) rfl x3v)
              refine ok_mono (ih x2v vx819 d813 i815 (show 0 ≤ (x2v).toInt by first | with_reducible assumption | omega) (show (x2v).toInt < 327680 by first | with_reducible assumption | omega) (show 327680 - (x2v).toInt ≤ K7 by first | with_reducible assumption | omega) (show 0 ≤ (vx819).toInt by first | with_reducible assumption | omega) (show (vx819).toInt ≤ 327680 by first | with_reducible assumption | omega) (show 327680 - (vx819).toInt < _ by omega)) (fun r825 hr826 => ?_)
              obtain ⟨i827, ⟨u828, u829, u830⟩⟩ := hr826
              have u831 := kp_t u816 u828
              have v832 : q_V r825 = q_V δ := (u829).trans v817
              have v833 := kr_t v818 u830
              exact ⟨by first | with_reducible assumption | assumption, ⟨kp_w (by decide) u831, v832, kr_w (by decide) v833⟩⟩
            · have c834 : vx781.toInt ≤ (q_I r764.2 12 45 a0).toInt := o_nlt h789
              unfold J_X12_findTwo_132
              refine ok_biv (fun vx835 e836 => ?_)
              first | (have q837 := te_addc (c := 1) (n := 1) rfl x3v (by omega) (by omega); rw [← e836] at q837; obtain ⟨f838, f839, f840⟩ := q837) | (obtain ⟨q837, f838, f839, f840⟩ : ∃ q : Int, vx835.toInt = x3v.toInt + (1 : Int) + 4294967296 * q ∧ -2147483648 ≤ vx835.toInt ∧ vx835.toInt ≤ 2147483647 := by rw [e836]; exact ti_addc (c := 1) (n := 1) rfl x3v)
              refine ok_mono (ih x2v vx835 r764.2 i769 (show 0 ≤ (x2v).toInt by first | with_reducible assumption | omega) (show (x2v).toInt < 327680 by first | with_reducible assumption | omega) (show 327680 - (x2v).toInt ≤ K7 by first | with_reducible assumption | omega) (show 0 ≤ (vx835).toInt by first | with_reducible assumption | omega) (show (vx835).toInt ≤ 327680 by first | with_reducible assumption | omega) (show 327680 - (vx835).toInt < _ by omega)) (fun r841 hr842 => ?_)
              obtain ⟨i843, ⟨u844, u845, u846⟩⟩ := hr842
              have u847 := kp_t u776 u844
              have v848 : q_V r841 = q_V δ := (u845).trans v777
              have v849 := kr_t v778 u846
              exact ⟨by first | with_reducible assumption | assumption, ⟨kp_w (by decide) u847, v848, kr_w (by decide) v849⟩⟩
set_option maxHeartbeats 4000000 in
theorem kl_X12_findTwo_7 {ad : List Nat} {h : hp} (L : Lay TLx ad h) {δ0 : dp} {N : Nat} (hN : 10000000 ≤ N) {a0 : Nat} {x1 : Int32} (k_a0 : q_K h.1 a0 = 12) : ∀ (n : Nat) (x2v : Int32) (δ : dp), RI ad h.1 δ0 δ → 0 ≤ (x2v).toInt → (x2v).toInt ≤ 327680 → 327680 - (x2v).toInt < (n : Int) → ok (L_X12_findTwo_7 N h.1 a0 x1 n x2v δ) (fun r => RI ad h.1 δ0 r ∧ (kp [(12, 36), (12, 45)] δ r ∧ q_V r = q_V δ ∧ kr ad [119, 123] δ r)) := by
  intro n
  induction n with
  | zero =>
    intro x2v δ I j0 j1 hm
    have f1 := ti_b x2v
    exfalso; omega
  | succ n ih =>
    intro x2v δ I j0 j1 hm
    unfold L_X12_findTwo_7
    have f1 := ti_b x2v
    refine ok_bind (k_X12_all L hN (a0 := a0) k_a0 I) (fun r2 hr3 => ?_)
    obtain ⟨i4, p5, p6, p7, p8⟩ := hr3
    try rw [i4]
    have f9 := ti_b r2.1
    have f10 := cb_12_10 I k_a0
    first | (have q12 := te_mulc (c := 5) (n := 5) rfl r2.1 (by omega) (by omega); obtain ⟨f13, f14, f15⟩ := q12) | (obtain ⟨q12, f13, f14, f15⟩ := ti_mulc (c := 5) (n := 5) rfl r2.1)
    refine ok_ite (fun h16 => ?_) (fun h16 => ?_)
    · have c17 : ((5 : Int32) * r2.1).toInt ≤ x2v.toInt := o_le h16
      exact ok_some (show RI ad h.1 δ0 δ ∧ (kp [(12, 36), (12, 45)] δ δ ∧ q_V δ = q_V δ ∧ kr ad [119, 123] δ δ) from ⟨I, ⟨kp_w (by decide) kp_r, rfl, kr_w (by decide) (kr_r (ad := ad))⟩⟩)
    · have c18 : x2v.toInt < ((5 : Int32) * r2.1).toInt := o_nle h16
      refine ok_mono (kl_X12_findTwo_19 L hN (K7 := (n : Int)) ih k_a0 _ x2v (0 : Int32) δ I (show 0 ≤ (x2v).toInt by first | with_reducible assumption | omega) (show (x2v).toInt < 327680 by first | with_reducible assumption | omega) (show 327680 - (x2v).toInt ≤ (n : Int) by first | with_reducible assumption | omega) (show 0 ≤ (0 : Int) by first | with_reducible assumption | omega) (show (0 : Int) ≤ 327680 by first | with_reducible assumption | omega) (show 327680 - (0 : Int) < _ by omega)) (fun r19 hr20 => ?_)
      obtain ⟨i21, ⟨u22, u23, u24⟩⟩ := hr20
      have u25 := kp_t kp_r u22
      have v26 : q_V r19 = q_V δ := (u23).trans rfl
      have v27 := kr_t (kr_r (ad := ad)) u24
      exact ⟨by first | with_reducible assumption | assumption, ⟨kp_w (by decide) u25, v26, kr_w (by decide) v27⟩⟩
set_option maxHeartbeats 4000000 in
theorem k_X12_findTwo {ad : List Nat} {h : hp} (L : Lay TLx ad h) {δ0 : dp} {N : Nat} (hN : 10000000 ≤ N) {a0 : Nat} {x1 : Int32} (k_a0 : q_K h.1 a0 = 12) {δ : dp} (I : RI ad h.1 δ0 δ) : ok (D_X12_findTwo N h.1 a0 x1 δ) (fun r => RI ad h.1 δ0 r ∧ (kp [(12, 36), (12, 45)] δ r ∧ q_V r = q_V δ ∧ kr ad [119, 123] δ r)) := by
  unfold D_X12_findTwo
  refine ok_bdv (fun d1 e2 => ?_)
  have i3 : RI ad h.1 δ0 d1 := by rw [e2]; exact cs_12_45 L I
  have u4 := kp_I kp_r e2
  have v5 : q_V d1 = q_V δ := ((show q_V d1 = q_V δ by rw [e2]; rfl)).trans rfl
  have v6 := kr_N (kr_r (ad := ad)) (show q_R d1 = q_R δ by rw [e2]; rfl)
  refine ok_mono (kl_X12_findTwo_7 L hN   k_a0 _ (0 : Int32) d1 i3 (show 0 ≤ (0 : Int) by first | with_reducible assumption | omega) (show (0 : Int) ≤ 327680 by first | with_reducible assumption | omega) (show 327680 - (0 : Int) < _ by omega)) (fun r7 hr8 => ?_)
  obtain ⟨i9, ⟨u10, u11, u12⟩⟩ := hr8
  have u13 := kp_t u4 u10
  have v14 : q_V r7 = q_V δ := (u11).trans v5
  have v15 := kr_t v6 u12
  exact ⟨by first | with_reducible assumption | assumption, ⟨kp_w (by decide) u13, v14, kr_w (by decide) v15⟩⟩
set_option maxHeartbeats 4000000 in
theorem kl_X12_room_60 {ad : List Nat} {h : hp} (L : Lay TLx ad h) {δ0 : dp} {N : Nat} (hN : 10000000 ≤ N) {a0 : Nat} {x1 : Int32} {x2 : Int32} (k_a0 : q_K h.1 a0 = 12) : ∀ (n : Nat) (x3v : Int32) (x4v : Int32) (δ : dp), RI ad h.1 δ0 δ → 0 ≤ (x1).toInt → (x1).toInt ≤ 3 → 0 ≤ (x4v).toInt → (x4v).toInt ≤ 1000 → -(x4v).toInt ≤ (q_R δ (Ad ad 103) (x1).toNatClampNeg).toInt → (q_R δ (Ad ad 103) (x1).toNatClampNeg).toInt ≤ (x4v).toInt → 1000 - (x4v).toInt < (n : Int) → ok (L_X12_room_60 N h.1 a0 x1 x2 n x3v x4v δ) (fun r => RI ad h.1 δ0 r.2 ∧ (kp [(12, 0), (12, 36), (12, 47)] δ r.2 ∧ q_V r.2 = q_V δ ∧ kr ad [100, 102, 103, 119, 124] δ r.2)) := by
  intro n
  induction n with
  | zero =>
    intro x3v x4v δ I j0 j1 j2 j3 j4 j5 hm
    have f1 := ti_b x1
    have f2 := ti_b x4v
    have t3 := ti_tn x1
    have f4 := rb_103 L I (x1).toNatClampNeg
    exfalso; omega
  | succ n ih =>
    intro x3v x4v δ I j0 j1 j2 j3 j4 j5 hm
    unfold L_X12_room_60
    have f1 := ti_b x1
    have f2 := ti_b x4v
    have t3 := ti_tn x1
    have f4 := rb_103 L I (x1).toNatClampNeg
    obtain ⟨b5, o6, k7, n8⟩ := gO_12_17 L k_a0
    obtain rfl := gS_12_17 L k_a0 o6
    refine ok_at o6 ?_
    have t9 := ti_tn x1
    refine ok_gd (fun hc10 => ?_) ?_
    · rcases hc10 with hc10 | hc10
      · have c11 : x1.toInt < (0 : Int) := o_lt hc10
        omega
      · omega
    have f12 := rb_106 L I x1.toNatClampNeg
    refine ok_ite (fun h13 => ?_) (fun h13 => ?_)
    · have c14 : (q_R δ (Ad ad 106) x1.toNatClampNeg).toInt ≤ x4v.toInt := o_le h13
      refine ok_bind (k_X12_comesBack L hN (a0 := a0) (x1 := x1) k_a0 (show 0 ≤ (x1).toInt by first | with_reducible assumption | omega) (show (x1).toInt ≤ 3 by first | with_reducible assumption | omega) I) (fun r15 hr16 => ?_)
      obtain ⟨i17, ⟨u18, u19, u20⟩⟩ := hr16
      have u21 := kp_t kp_r u18
      have v22 : q_V r15 = q_V δ := (u19).trans rfl
      have v23 := kr_t (kr_r (ad := ad)) u20
      exact ok_some (show RI ad h.1 δ0 r15 ∧ (kp [(12, 0), (12, 36), (12, 47)] δ r15 ∧ q_V r15 = q_V δ ∧ kr ad [100, 102, 103, 119, 124] δ r15) from ⟨i17, ⟨kp_w (by decide) u21, v22, kr_w (by decide) v23⟩⟩)
    · have c24 : x4v.toInt < (q_R δ (Ad ad 106) x1.toNatClampNeg).toInt := o_nle h13
      obtain ⟨b25, o26, k27, n28, w29⟩ := gO_12_16 L k_a0
      obtain rfl := gS_12_16 L k_a0 o26
      refine ok_at o26 ?_
      first | (have q31 := te_mulc (c := 1000) (n := 1000) rfl x1 (by omega) (by omega); obtain ⟨f32, f33, f34⟩ := q31) | (obtain ⟨q31, f32, f33, f34⟩ := ti_mulc (c := 1000) (n := 1000) rfl x1)
      first | (have q36 := te_add ((1000 : Int32) * x1) x4v (by omega) (by omega); obtain ⟨f37, f38, f39⟩ := q36) | (obtain ⟨q36, f37, f38, f39⟩ := ti_add ((1000 : Int32) * x1) x4v)
      have t40 := ti_tn (((1000 : Int32) * x1) + x4v)
      refine ok_gd (fun hc41 => ?_) ?_
      · rcases hc41 with hc41 | hc41
        · have c42 : (((1000 : Int32) * x1) + x4v).toInt < (0 : Int) := o_lt hc41
          omega
        · omega
      have f43 := ti_b (q_R δ (Ad ad 105) (((1000 : Int32) * x1) + x4v).toNatClampNeg)
      refine ok_ite (fun h44 => ?_) (fun h44 => ?_)
      · have c45 : (q_R δ (Ad ad 105) (((1000 : Int32) * x1) + x4v).toNatClampNeg).toInt = (1 : Int) := o_eq h44
        unfold J_X12_room_96
        obtain ⟨b46, o47, k48, n49, w50⟩ := gO_12_15 L k_a0
        obtain rfl := gS_12_15 L k_a0 o47
        refine ok_at o47 ?_
        refine ok_gd (fun hc51 => ?_) ?_
        · rcases hc51 with hc51 | hc51
          · have c52 : (((1000 : Int32) * x1) + x4v).toInt < (0 : Int) := o_lt hc51
            omega
          · omega
        refine ok_bind (k_X12_halves L hN (a0 := a0) (x1 := x1) (x2 := (0 : Int32)) (x3 := (q_R δ (Ad ad 104) (((1000 : Int32) * x1) + x4v).toNatClampNeg)) k_a0 (show 0 ≤ (x1).toInt by first | with_reducible assumption | omega) (show (x1).toInt ≤ 3 by first | with_reducible assumption | omega) I) (fun r53 hr54 => ?_)
        obtain ⟨i55, ⟨u56, u57, u58⟩⟩ := hr54
        have u59 := kp_t kp_r u56
        have v60 : q_V r53.2 = q_V δ := (u57).trans rfl
        have v61 := kr_t (kr_r (ad := ad)) u58
        have f62 := ti_b r53.1
        have f65 := ti_b x3v
        refine ok_biv (fun vx63 e64 => ?_)
        first | (have q66 := te_add x3v r53.1 (by omega) (by omega); rw [← e64] at q66; obtain ⟨f67, f68, f69⟩ := q66) | (obtain ⟨q66, f67, f68, f69⟩ : ∃ q : Int, vx63.toInt = x3v.toInt + r53.1.toInt + 4294967296 * q ∧ -2147483648 ≤ vx63.toInt ∧ vx63.toInt ≤ 2147483647 := by rw [e64]; exact ti_add x3v r53.1)
        have f72 : (q_R r53.2 (Ad ad 103) (x1).toNatClampNeg).toInt = (q_R δ (Ad ad 103) (x1).toNatClampNeg).toInt := congrArg Int32.toInt (congrFun (u58 103 (by decide) (by decide) (by decide)) _)
        have f73 := rb_103 L i55 (x1).toNatClampNeg
        refine ok_bind (k_X12_changes L hN (a0 := a0) (x1 := x1) (x2 := x4v) k_a0 (show 0 ≤ (x1).toInt by first | with_reducible assumption | omega) (show (x1).toInt ≤ 3 by first | with_reducible assumption | omega) (show 0 ≤ (x4v).toInt by first | with_reducible assumption | omega) (show (x4v).toInt < 1000 by first | with_reducible assumption | omega) (show -999 ≤ (q_R r53.2 (Ad ad 103) (x1).toNatClampNeg).toInt by first | with_reducible assumption | omega) (show (q_R r53.2 (Ad ad 103) (x1).toNatClampNeg).toInt < 2000 by first | with_reducible assumption | omega) i55) (fun r70 hr71 => ?_)
        obtain ⟨i74, ⟨u77, u78, u79⟩, p75, p76⟩ := hr71
        have u80 := kp_t u59 u77
        have v81 : q_V r70 = q_V δ := (u78).trans v60
        have v82 := kr_t v61 u79
        have f83 := rb_103 L i74 (x1).toNatClampNeg
        refine ok_biv (fun vx84 e85 => ?_)
        first | (have q86 := te_addc (c := 1) (n := 1) rfl x4v (by omega) (by omega); rw [← e85] at q86; obtain ⟨f87, f88, f89⟩ := q86) | (obtain ⟨q86, f87, f88, f89⟩ : ∃ q : Int, vx84.toInt = x4v.toInt + (1 : Int) + 4294967296 * q ∧ -2147483648 ≤ vx84.toInt ∧ vx84.toInt ≤ 2147483647 := by rw [e85]; exact ti_addc (c := 1) (n := 1) rfl x4v)
        refine ok_mono (ih vx63 vx84 r70 i74 (show 0 ≤ (x1).toInt by first | with_reducible assumption | omega) (show (x1).toInt ≤ 3 by first | with_reducible assumption | omega) (show 0 ≤ (vx84).toInt by first | with_reducible assumption | omega) (show (vx84).toInt ≤ 1000 by first | with_reducible assumption | omega) (show -(vx84).toInt ≤ (q_R r70 (Ad ad 103) (x1).toNatClampNeg).toInt by first | with_reducible assumption | omega) (show (q_R r70 (Ad ad 103) (x1).toNatClampNeg).toInt ≤ (vx84).toInt by first | with_reducible assumption | omega) (show 1000 - (vx84).toInt < _ by omega)) (fun r90 hr91 => ?_)
        obtain ⟨i92, ⟨u93, u94, u95⟩⟩ := hr91
        have u96 := kp_t u80 u93
        have v97 : q_V r90.2 = q_V δ := (u94).trans v81
        have v98 := kr_t v82 u95
        have f99 := ti_b r90.1
        exact ⟨by first | with_reducible assumption | assumption, ⟨kp_w (by decide) u96, v97, kr_w (by decide) v98⟩⟩
      · have c100 : (q_R δ (Ad ad 105) (((1000 : Int32) * x1) + x4v).toNatClampNeg).toInt ≠ (1 : Int) := o_ne h44
        unfold J_X12_room_96
        obtain ⟨b101, o102, k103, n104, w105⟩ := gO_12_15 L k_a0
        obtain rfl := gS_12_15 L k_a0 o102
        refine ok_at o102 ?_
        refine ok_gd (fun hc106 => ?_) ?_
        · rcases hc106 with hc106 | hc106
          · have c107 : (((1000 : Int32) * x1) + x4v).toInt < (0 : Int) := o_lt hc106
            omega
          · omega
        refine ok_bind (k_X12_halves L hN (a0 := a0) (x1 := x1) (x2 := (1 : Int32)) (x3 := (q_R δ (Ad ad 104) (((1000 : Int32) * x1) + x4v).toNatClampNeg)) k_a0 (show 0 ≤ (x1).toInt by first | with_reducible assumption | omega) (show (x1).toInt ≤ 3 by first | with_reducible assumption | omega) I) (fun r108 hr109 => ?_)
        obtain ⟨i110, ⟨u111, u112, u113⟩⟩ := hr109
        have u114 := kp_t kp_r u111
        have v115 : q_V r108.2 = q_V δ := (u112).trans rfl
        have v116 := kr_t (kr_r (ad := ad)) u113
        have f117 := ti_b r108.1
        have f120 := ti_b x3v
        refine ok_biv (fun vx118 e119 => ?_)
        first | (have q121 := te_add x3v r108.1 (by omega) (by omega); rw [← e119] at q121; obtain ⟨f122, f123, f124⟩ := q121) | (obtain ⟨q121, f122, f123, f124⟩ : ∃ q : Int, vx118.toInt = x3v.toInt + r108.1.toInt + 4294967296 * q ∧ -2147483648 ≤ vx118.toInt ∧ vx118.toInt ≤ 2147483647 := by rw [e119]; exact ti_add x3v r108.1)
        have f127 : (q_R r108.2 (Ad ad 103) (x1).toNatClampNeg).toInt = (q_R δ (Ad ad 103) (x1).toNatClampNeg).toInt := congrArg Int32.toInt (congrFun (u113 103 (by decide) (by decide) (by decide)) _)
        have f128 := rb_103 L i110 (x1).toNatClampNeg
        refine ok_bind (k_X12_changes L hN (a0 := a0) (x1 := x1) (x2 := x4v) k_a0 (show 0 ≤ (x1).toInt by first | with_reducible assumption | omega) (show (x1).toInt ≤ 3 by first | with_reducible assumption | omega) (show 0 ≤ (x4v).toInt by first | with_reducible assumption | omega) (show (x4v).toInt < 1000 by first | with_reducible assumption | omega) (show -999 ≤ (q_R r108.2 (Ad ad 103) (x1).toNatClampNeg).toInt by first | with_reducible assumption | omega) (show (q_R r108.2 (Ad ad 103) (x1).toNatClampNeg).toInt < 2000 by first | with_reducible assumption | omega) i110) (fun r125 hr126 => ?_)
        obtain ⟨i129, ⟨u132, u133, u134⟩, p130, p131⟩ := hr126
        have u135 := kp_t u114 u132
        have v136 : q_V r125 = q_V δ := (u133).trans v115
        have v137 := kr_t v116 u134
        have f138 := rb_103 L i129 (x1).toNatClampNeg
        refine ok_biv (fun vx139 e140 => ?_)
        first | (have q141 := te_addc (c := 1) (n := 1) rfl x4v (by omega) (by omega); rw [← e140] at q141; obtain ⟨f142, f143, f144⟩ := q141) | (obtain ⟨q141, f142, f143, f144⟩ : ∃ q : Int, vx139.toInt = x4v.toInt + (1 : Int) + 4294967296 * q ∧ -2147483648 ≤ vx139.toInt ∧ vx139.toInt ≤ 2147483647 := by rw [e140]; exact ti_addc (c := 1) (n := 1) rfl x4v)
        refine ok_mono (ih vx118 vx139 r125 i129 (show 0 ≤ (x1).toInt by first | with_reducible assumption | omega) (show (x1).toInt ≤ 3 by first | with_reducible assumption | omega) (show 0 ≤ (vx139).toInt by first | with_reducible assumption | omega) (show (vx139).toInt ≤ 1000 by first | with_reducible assumption | omega) (show -(vx139).toInt ≤ (q_R r125 (Ad ad 103) (x1).toNatClampNeg).toInt by first | with_reducible assumption | omega) (show (q_R r125 (Ad ad 103) (x1).toNatClampNeg).toInt ≤ (vx139).toInt by first | with_reducible assumption | omega) (show 1000 - (vx139).toInt < _ by omega)) (fun r145 hr146 => ?_)
        obtain ⟨i147, ⟨u148, u149, u150⟩⟩ := hr146
        have u151 := kp_t u135 u148
        have v152 : q_V r145.2 = q_V δ := (u149).trans v136
        have v153 := kr_t v137 u150
        have f154 := ti_b r145.1
        exact ⟨by first | with_reducible assumption | assumption, ⟨kp_w (by decide) u151, v152, kr_w (by decide) v153⟩⟩
set_option maxHeartbeats 4000000 in
theorem k_X12_room {ad : List Nat} {h : hp} (L : Lay TLx ad h) {δ0 : dp} {N : Nat} (hN : 10000000 ≤ N) {a0 : Nat} {x1 : Int32} {x2 : Int32} (k_a0 : q_K h.1 a0 = 12) {δ : dp} (I : RI ad h.1 δ0 δ) : ok (D_X12_room N h.1 a0 x1 x2 δ) (fun r => RI ad h.1 δ0 r.2 ∧ (kp [(12, 0), (12, 36), (12, 47)] δ r.2 ∧ q_V r.2 = q_V δ ∧ kr ad [100, 102, 103, 119, 124] δ r.2)) := by
  unfold D_X12_room
  refine ok_bdv (fun d1 e2 => ?_)
  have i3 : RI ad h.1 δ0 d1 := by rw [e2]; exact cs_12_0 L I
  have u4 := kp_I kp_r e2
  have v5 : q_V d1 = q_V δ := ((show q_V d1 = q_V δ by rw [e2]; rfl)).trans rfl
  have v6 := kr_N (kr_r (ad := ad)) (show q_R d1 = q_R δ by rw [e2]; rfl)
  refine ok_bind (k_X12_isHouse L hN (a0 := a0) (x1 := x1) (x2 := (1 : Int32)) k_a0 (show (1 : Int) ≠ 0 by first | with_reducible assumption | omega) i3) (fun r7 hr8 => ?_)
  obtain ⟨i9, ⟨u12, u13, u14⟩, p10, p11⟩ := hr8
  have u15 := kp_t u4 u12
  have v16 : q_V r7.2 = q_V δ := (u13).trans v5
  have v17 := kr_t v6 u14
  have f18 := bo_l p10
  have f19 := ti_b r7.1
  have f20 := ti_b x1
  refine ok_ite (fun h21 => ?_) (fun h21 => ?_)
  · have c22 : r7.1.toInt = (0 : Int) := o_eq h21
    unfold J_X12_room_29
    exact ok_some (show RI ad h.1 δ0 r7.2 ∧ (kp [(12, 0), (12, 36), (12, 47)] δ r7.2 ∧ q_V r7.2 = q_V δ ∧ kr ad [100, 102, 103, 119, 124] δ r7.2) from ⟨i9, ⟨kp_w (by decide) u15, v16, kr_w (by decide) v17⟩⟩)
  · have c23 : r7.1.toInt ≠ (0 : Int) := o_ne h21
    refine ok_bind (k_X12_within L hN (x0 := x2) (x1 := (0 : Int32)) (x2 := (1 : Int32))  i9) (fun r24 hr25 => ?_)
    obtain ⟨i26, p27, p28, p29⟩ := hr25
    try rw [i26]
    have f30 := bo_l p27
    have f31 := ti_b r24.1
    have f32 := ti_b x2
    replace p28 : ((r24.1).toInt = 1 → (0 : Int) ≤ (x2).toInt ∧ (x2).toInt ≤ (1 : Int)) := p28
    replace p29 : ((r24.1).toInt = 0 → (x2).toInt < (0 : Int) ∨ (1 : Int) < (x2).toInt) := p29
    refine ok_bind (k_X12_may L hN (a0 := a0) (x1 := r24.1) (x2 := (2 : Int32)) (x3 := (2 : Int32)) k_a0 (show (2 : Int) ≠ 0 by first | with_reducible assumption | omega) (show 0 ≤ (2 : Int) by first | with_reducible assumption | omega) (show (2 : Int) ≤ 2 by first | with_reducible assumption | omega) i9) (fun r33 hr34 => ?_)
    obtain ⟨i35, ⟨u39, u40, u41⟩, p36, p37, p38⟩ := hr34
    have u42 := kp_t u15 u39
    have v43 : q_V r33.2 = q_V δ := (u40).trans v16
    have v44 := kr_t v17 u41
    have f45 := bo_l p36
    have f46 := ti_b r33.1
    have f47 := ti_b (q_I r7.2 12 0 a0)
    refine ok_ite (fun h48 => ?_) (fun h48 => ?_)
    · have c49 : r33.1.toInt = (0 : Int) := o_eq h48
      unfold J_X12_room_29
      exact ok_some (show RI ad h.1 δ0 r33.2 ∧ (kp [(12, 0), (12, 36), (12, 47)] δ r33.2 ∧ q_V r33.2 = q_V δ ∧ kr ad [100, 102, 103, 119, 124] δ r33.2) from ⟨i35, ⟨kp_w (by decide) u42, v43, kr_w (by decide) v44⟩⟩)
    · have c50 : r33.1.toInt ≠ (0 : Int) := o_ne h48
      refine ok_ite (fun h51 => ?_) (fun h51 => ?_)
      · have c52 : x2.toInt = (1 : Int) := o_eq h51
        obtain ⟨b53, o54, k55, n56⟩ := gO_12_17 L k_a0
        obtain rfl := gS_12_17 L k_a0 o54
        refine ok_at o54 ?_
        have t57 := ti_tn x1
        refine ok_gd (fun hc58 => ?_) ?_
        · rcases hc58 with hc58 | hc58
          · have c59 : x1.toInt < (0 : Int) := o_lt hc58
            omega
          · omega
        exact ok_some (show RI ad h.1 δ0 r33.2 ∧ (kp [(12, 0), (12, 36), (12, 47)] δ r33.2 ∧ q_V r33.2 = q_V δ ∧ kr ad [100, 102, 103, 119, 124] δ r33.2) from ⟨i35, ⟨kp_w (by decide) u42, v43, kr_w (by decide) v44⟩⟩)
      · have c60 : x2.toInt ≠ (1 : Int) := o_ne h51
        refine ok_bind (k_X12_keeps L hN (a0 := a0) (x1 := x1) k_a0 (show 0 ≤ (x1).toInt by first | with_reducible assumption | omega) (show (x1).toInt ≤ 3 by first | with_reducible assumption | omega) i35) (fun r61 hr62 => ?_)
        obtain ⟨i63, ⟨u65, u66, u67⟩, p64⟩ := hr62
        have u68 := kp_t u42 u65
        have v69 : q_V r61 = q_V δ := (u66).trans v43
        have v70 := kr_t v44 u67
        have f71 := cb_12_47 i63 k_a0
        have t72 := ti_tn x1
        have f73 : (q_R r33.2 (Ad ad 103) (x1).toNatClampNeg).toInt = (q_R r7.2 (Ad ad 103) (x1).toNatClampNeg).toInt := congrArg Int32.toInt (congrFun (u41 103 (by decide) (by decide) (by decide)) _)
        have f74 : (q_R r7.2 (Ad ad 103) (x1).toNatClampNeg).toInt = (q_R d1 (Ad ad 103) (x1).toNatClampNeg).toInt := congrArg Int32.toInt (congrFun (u14 103 (by decide) (by decide) (by decide)) _)
        have f75 : (q_R d1 (Ad ad 103) (x1).toNatClampNeg).toInt = (q_R δ (Ad ad 103) (x1).toNatClampNeg).toInt := congrArg Int32.toInt (show q_R d1 (Ad ad 103) (x1).toNatClampNeg = _ by rw [e2]; rfl)
        have f76 := rb_103 L I (x1).toNatClampNeg
        have f77 := rb_103 L i3 (x1).toNatClampNeg
        have f78 := rb_103 L i9 (x1).toNatClampNeg
        have f79 := rb_103 L i35 (x1).toNatClampNeg
        obtain ⟨b80, o81, k82, n83⟩ := gO_12_14 L k_a0
        obtain rfl := gS_12_14 L k_a0 o81
        refine ok_at o81 ?_
        have t84 := ti_tn x1
        refine ok_gd (fun hc85 => ?_) ?_
        · rcases hc85 with hc85 | hc85
          · have c86 : x1.toInt < (0 : Int) := o_lt hc85
            omega
          · omega
        refine ok_bdv (fun d87 e88 => ?_)
        have i89 : RI ad h.1 δ0 d87 := by rw [e88]; exact cr_103 L i63 (show -1000 ≤ (0 : Int) by omega) (show (0 : Int) ≤ 2000 by omega)
        have u90 := kp_N u68 (show q_I d87 = q_I r61 by rw [e88]; rfl)
        have v91 : q_V d87 = q_V δ := ((show q_V d87 = q_V r61 by rw [e88]; rfl)).trans v69
        have v92 := kr_s L (by decide) v70 e88
        have f93 : (q_R d87 (Ad ad 103) (x1).toNatClampNeg).toInt = (0 : Int) := congrArg Int32.toInt (show q_R d87 (Ad ad 103) (x1).toNatClampNeg = (0 : Int32) by rw [e88, qR_sR, if_pos ⟨rfl, rfl⟩])
        have f94 := rb_103 L i89 (x1).toNatClampNeg
        refine ok_mono (kl_X12_room_60 L hN   k_a0 _ (0 : Int32) (0 : Int32) d87 i89 (show 0 ≤ (x1).toInt by first | with_reducible assumption | omega) (show (x1).toInt ≤ 3 by first | with_reducible assumption | omega) (show 0 ≤ (0 : Int) by first | with_reducible assumption | omega) (show (0 : Int) ≤ 1000 by first | with_reducible assumption | omega) (show -(0 : Int) ≤ (q_R d87 (Ad ad 103) (x1).toNatClampNeg).toInt by first | with_reducible assumption | omega) (show (q_R d87 (Ad ad 103) (x1).toNatClampNeg).toInt ≤ (0 : Int) by first | with_reducible assumption | omega) (show 1000 - (0 : Int) < _ by omega)) (fun r95 hr96 => ?_)
        obtain ⟨i97, ⟨u98, u99, u100⟩⟩ := hr96
        have u101 := kp_t u90 u98
        have v102 : q_V r95.2 = q_V δ := (u99).trans v91
        have v103 := kr_t v92 u100
        have f104 := ti_b r95.1
        exact ⟨by first | with_reducible assumption | assumption, ⟨kp_w (by decide) u101, v102, kr_w (by decide) v103⟩⟩
