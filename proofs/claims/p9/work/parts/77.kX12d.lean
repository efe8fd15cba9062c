/-! 77.kX12d (by gen_safe.py) -/
set_option maxHeartbeats 4000000 in
theorem k_X12_mostSet {ad : List Nat} {h : hp} (L : Lay TLx ad h) {δ0 : dp} {N : Nat} (hN : 10000000 ≤ N) {a0 : Nat} (k_a0 : q_K h.1 a0 = 12) {δ : dp} (I : RI ad h.1 δ0 δ) : ok (D_X12_mostSet N h.1 a0 δ) (fun r => r.2 = δ ∧ 3 ≤ (r.1).toInt ∧ (r.1).toInt ≤ 16) := by
  unfold D_X12_mostSet
  have f1 := cb_12_10 I k_a0
  refine ok_ite (fun h2 => ?_) (fun h2 => ?_)
  · have c3 : (4 : Int) < (q_I δ 12 10 a0).toInt := o_lt h2
    unfold J_X12_mostSet_14
    exact ok_some (show δ = δ ∧ 3 ≤ (3 : Int) ∧ (3 : Int) ≤ 16 from ⟨rfl, by first | assumption | omega, by first | assumption | omega⟩)
  · have c4 : (q_I δ 12 10 a0).toInt ≤ (4 : Int) := o_nlt h2
    unfold J_X12_mostSet_14
    exact ok_some (show δ = δ ∧ 3 ≤ (16 : Int) ∧ (16 : Int) ≤ 16 from ⟨rfl, by first | assumption | omega, by first | assumption | omega⟩)
set_option maxHeartbeats 4000000 in
theorem k_X12_isWorst {ad : List Nat} {h : hp} (L : Lay TLx ad h) {δ0 : dp} {N : Nat} (hN : 10000000 ≤ N) {a0 : Nat} {x1 : Int32} (k_a0 : q_K h.1 a0 = 12) {δ : dp} (I : RI ad h.1 δ0 δ) : ok (D_X12_isWorst N h.1 a0 x1 δ) (fun r => r.2 = δ ∧ bo (r.1) ∧ ((r.1).toInt = 1 → 0 ≤ (x1).toInt ∧ (x1).toInt ≤ 16)) := by
  unfold D_X12_isWorst
  have f1 := cb_12_10 I k_a0
  refine ok_ite (fun h2 => ?_) (fun h2 => ?_)
  · have c3 : (6 : Int) < (q_I δ 12 10 a0).toInt := o_lt h2
    unfold J_X12_isWorst_25
    unfold J_X12_isWorst_26
    refine ok_gp (by decide) ?_
    have f4 := ti_b x1
    exact ok_some (show δ = δ ∧ bo ((0 : Int32)) ∧ ((0 : Int) = 1 → 0 ≤ (x1).toInt ∧ (x1).toInt ≤ 16) from ⟨rfl, bo_0, by first | assumption | omega⟩)
  · have c5 : (q_I δ 12 10 a0).toInt ≤ (6 : Int) := o_nlt h2
    refine ok_bind (k_X12_mostSet L hN (a0 := a0) k_a0 I) (fun r6 hr7 => ?_)
    obtain ⟨i8, p9, p10⟩ := hr7
    try rw [i8]
    have f11 := ti_b r6.1
    have f12 := ti_b r6.1
    refine ok_bind (k_X12_within L hN (x0 := x1) (x1 := (0 : Int32)) (x2 := r6.1)  I) (fun r13 hr14 => ?_)
    obtain ⟨i15, p16, p17, p18⟩ := hr14
    try rw [i15]
    have f19 := bo_l p16
    have f20 := ti_b r13.1
    have f21 := ti_b x1
    replace p17 : ((r13.1).toInt = 1 → (0 : Int) ≤ (x1).toInt ∧ (x1).toInt ≤ (r6.1).toInt) := p17
    replace p18 : ((r13.1).toInt = 0 → (x1).toInt < (0 : Int) ∨ (r6.1).toInt < (x1).toInt) := p18
    have f22 := ti_b r13.1
    refine ok_ite (fun h23 => ?_) (fun h23 => ?_)
    · have c24 : r13.1.toInt = (0 : Int) := o_eq h23
      unfold J_X12_isWorst_25
      unfold J_X12_isWorst_26
      refine ok_gp (by decide) ?_
      exact ok_some (show δ = δ ∧ bo ((0 : Int32)) ∧ ((0 : Int) = 1 → 0 ≤ (x1).toInt ∧ (x1).toInt ≤ 16) from ⟨rfl, bo_0, by first | assumption | omega⟩)
    · have c25 : r13.1.toInt ≠ (0 : Int) := o_ne h23
      unfold J_X12_isWorst_26
      refine ok_gp (by decide) ?_
      exact ok_some (show δ = δ ∧ bo ((1 : Int32)) ∧ ((1 : Int) = 1 → 0 ≤ (x1).toInt ∧ (x1).toInt ≤ 16) from ⟨rfl, bo_1, by first | assumption | omega⟩)
set_option maxHeartbeats 4000000 in
theorem kl_X12_asks_104 {ad : List Nat} {h : hp} (L : Lay TLx ad h) {δ0 : dp} {N : Nat} (hN : 10000000 ≤ N) {a0 : Nat} {x1 : Int32} {x2 : Int32} {kt2 : Int32 → dp → Option (dp)} {K2 : Int} (h_kt2 : ∀ (x3v : Int32) (δ : dp), RI ad h.1 δ0 δ → 0 ≤ (x2).toInt → (x2).toInt ≤ 16 → 0 ≤ (x3v).toInt → (x3v).toInt ≤ 65536 → 65536 - (x3v).toInt < K2 → ok (kt2 x3v δ) (fun r => RI ad h.1 δ0 r ∧ (kp [(12, 36), (12, 37), (12, 38), (12, 39)] δ r ∧ q_V r = q_V δ ∧ kr ad [119, 120] δ r))) (k_a0 : q_K h.1 a0 = 12) : ∀ (n : Nat) (x3v : Int32) (x5v : Int32) (δ : dp), RI ad h.1 δ0 δ → 0 ≤ (x2).toInt → (x2).toInt ≤ 16 → 0 ≤ (x3v).toInt → (x3v).toInt < 65536 → 65536 - (x3v).toInt ≤ K2 → 0 ≤ (x5v).toInt → (x5v).toInt ≤ 16 → 16 - (x5v).toInt < (n : Int) → ok (L_X12_asks_104 N h.1 a0 x1 x2 kt2 n x3v x5v δ) (fun r => RI ad h.1 δ0 r ∧ (kp [(12, 36), (12, 37), (12, 38), (12, 39)] δ r ∧ q_V r = q_V δ ∧ kr ad [119, 120] δ r)) := by
  intro n
  induction n with
  | zero =>
    intro x3v x5v δ I j0 j1 j2 j3 j4 j5 j6 hm
    have f1 := ti_b x2
    have f2 := ti_b x3v
    have f3 := ti_b x5v
    exfalso; omega
  | succ n ih =>
    intro x3v x5v δ I j0 j1 j2 j3 j4 j5 j6 hm
    unfold L_X12_asks_104
    have f1 := ti_b x2
    have f2 := ti_b x3v
    have f3 := ti_b x5v
    refine ok_ite (fun h4 => ?_) (fun h4 => ?_)
    · have c5 : x2.toInt ≤ x5v.toInt := o_le h4
      unfold J_X12_asks_130
      refine ok_biv (fun vx6 e7 => ?_)
      first | (have q8 := te_addc (c := 1) (n := 1) rfl x3v (by omega) (by omega); rw [← e7] at q8; obtain ⟨f9, f10, f11⟩ := q8) | (obtain ⟨q8, f9, f10, f11⟩ : ∃ q : Int, vx6.toInt = x3v.toInt + (1 : Int) + 4294967296 * q ∧ -2147483648 ≤ vx6.toInt ∧ vx6.toInt ≤ 2147483647 := by rw [e7]; exact ti_addc (c := 1) (n := 1) rfl x3v)
      refine ok_mono (h_kt2 vx6 δ I (show 0 ≤ (x2).toInt by first | assumption | omega) (show (x2).toInt ≤ 16 by first | assumption | omega) (show 0 ≤ (vx6).toInt by first | assumption | omega) (show (vx6).toInt ≤ 65536 by first | assumption | omega) (show 65536 - (vx6).toInt < _ by omega)) (fun r12 hr13 => ?_)
      obtain ⟨i14, ⟨u15, u16, u17⟩⟩ := hr13
      have u18 := kp_t kp_r u15
      have v19 : q_V r12 = q_V δ := (u16).trans rfl
      have v20 := kr_t (kr_r (ad := ad)) u17
      exact ⟨by assumption, ⟨kp_w (by decide) u18, v19, kr_w (by decide) v20⟩⟩
    · have c21 : x5v.toInt < x2.toInt := o_nle h4
      obtain ⟨b22, o23, k24, n25, w26⟩ := gO_12_41 L k_a0
      obtain rfl := gS_12_41 L k_a0 o23
      refine ok_at o23 ?_
      obtain ⟨b27, o28, k29, n30, w31⟩ := gO_12_42 L k_a0
      obtain rfl := gS_12_42 L k_a0 o28
      refine ok_at o28 ?_
      have t32 := ti_tn x5v
      refine ok_gd (fun hc33 => ?_) ?_
      · rcases hc33 with hc33 | hc33
        · have c34 : x5v.toInt < (0 : Int) := o_lt hc33
          omega
        · omega
      refine ok_gd (fun hc35 => ?_) ?_
      · rcases hc35 with hc35 | hc35
        · have c36 : x5v.toInt < (0 : Int) := o_lt hc35
          omega
        · omega
      refine ok_bdv (fun d37 e38 => ?_)
      have i39 : RI ad h.1 δ0 d37 := by rw [e38]; exact RI.sR L I w26
      have u40 := kp_N kp_r (show q_I d37 = q_I δ by rw [e38]; rfl)
      have v41 : q_V d37 = q_V δ := ((show q_V d37 = q_V δ by rw [e38]; rfl)).trans rfl
      have v42 := kr_s L (by decide) (kr_r (ad := ad)) e38
      refine ok_biv (fun vx43 e44 => ?_)
      first | (have q45 := te_addc (c := 1) (n := 1) rfl x5v (by omega) (by omega); rw [← e44] at q45; obtain ⟨f46, f47, f48⟩ := q45) | (obtain ⟨q45, f46, f47, f48⟩ : ∃ q : Int, vx43.toInt = x5v.toInt + (1 : Int) + 4294967296 * q ∧ -2147483648 ≤ vx43.toInt ∧ vx43.toInt ≤ 2147483647 := by rw [e44]; exact ti_addc (c := 1) (n := 1) rfl x5v)
      refine ok_mono (ih x3v vx43 d37 i39 (show 0 ≤ (x2).toInt by first | assumption | omega) (show (x2).toInt ≤ 16 by first | assumption | omega) (show 0 ≤ (x3v).toInt by first | assumption | omega) (show (x3v).toInt < 65536 by first | assumption | omega) (show 65536 - (x3v).toInt ≤ K2 by first | assumption | omega) (show 0 ≤ (vx43).toInt by first | assumption | omega) (show (vx43).toInt ≤ 16 by first | assumption | omega) (show 16 - (vx43).toInt < _ by omega)) (fun r49 hr50 => ?_)
      obtain ⟨i51, ⟨u52, u53, u54⟩⟩ := hr50
      have u55 := kp_t u40 u52
      have v56 : q_V r49 = q_V δ := (u53).trans v41
      have v57 := kr_t v42 u54
      exact ⟨by assumption, ⟨kp_w (by decide) u55, v56, kr_w (by decide) v57⟩⟩
set_option maxHeartbeats 4000000 in
theorem kl_X12_asks_18 {ad : List Nat} {h : hp} (L : Lay TLx ad h) {δ0 : dp} {N : Nat} (hN : 10000000 ≤ N) {a0 : Nat} {x1 : Int32} {x2 : Int32} {kt2 : Int32 → dp → Option (dp)} {K2 : Int} (h_kt2 : ∀ (x3v : Int32) (δ : dp), RI ad h.1 δ0 δ → 0 ≤ (x2).toInt → (x2).toInt ≤ 16 → 0 ≤ (x3v).toInt → (x3v).toInt ≤ 65536 → 65536 - (x3v).toInt < K2 → ok (kt2 x3v δ) (fun r => RI ad h.1 δ0 r ∧ (kp [(12, 36), (12, 37), (12, 38), (12, 39)] δ r ∧ q_V r = q_V δ ∧ kr ad [119, 120] δ r))) (k_a0 : q_K h.1 a0 = 12) : ∀ (n : Nat) (x3v : Int32) (x4v : Int32) (δ : dp), RI ad h.1 δ0 δ → 0 ≤ (x2).toInt → (x2).toInt ≤ 16 → 0 ≤ (x3v).toInt → (x3v).toInt < 65536 → 65536 - (x3v).toInt ≤ K2 → 0 ≤ (x4v).toInt → (x4v).toInt ≤ 16 → (q_I δ 12 36 a0).toInt = (x4v).toInt → 16 - (x4v).toInt < (n : Int) → ok (L_X12_asks_18 N h.1 a0 x1 x2 kt2 n x3v x4v δ) (fun r => RI ad h.1 δ0 r ∧ (kp [(12, 36), (12, 37), (12, 38), (12, 39)] δ r ∧ q_V r = q_V δ ∧ kr ad [119, 120] δ r)) := by
  intro n
  induction n with
  | zero =>
    intro x3v x4v δ I j0 j1 j2 j3 j4 j5 j6 j7 hm
    have f1 := ti_b x2
    have f2 := ti_b x3v
    have f3 := ti_b x4v
    have f4 := cb_12_36 I k_a0
    exfalso; omega
  | succ n ih =>
    intro x3v x4v δ I j0 j1 j2 j3 j4 j5 j6 j7 hm
    unfold L_X12_asks_18
    have f1 := ti_b x2
    have f2 := ti_b x3v
    have f3 := ti_b x4v
    have f4 := cb_12_36 I k_a0
    refine ok_ite (fun h5 => ?_) (fun h5 => ?_)
    · have c6 : x2.toInt ≤ x4v.toInt := o_le h5
      have f9 := cb_12_10 I k_a0
      have f10 := lgb ((q_I δ 12 10 a0)).toInt
      refine ok_bind (k_X12_touch L hN (a0 := a0) (x1 := x1) (x2 := x3v) (x3 := (q_I δ 12 10 a0)) (x4 := (0 : Int32)) (x5 := (q_I δ 12 36 a0)) k_a0 (show 1 ≤ ((q_I δ 12 10 a0)).toInt by first | assumption | omega) (show ((q_I δ 12 10 a0)).toInt ≤ 16 by first | assumption | omega) (show 0 ≤ (0 : Int) by first | assumption | omega) (show (0 : Int) ≤ ((q_I δ 12 36 a0)).toInt by first | assumption | omega) (show ((q_I δ 12 36 a0)).toInt ≤ (0 : Int) + 2000 by first | assumption | omega) (show ((q_I δ 12 36 a0)).toInt ≤ (q_I δ 12 36 a0).toInt by first | assumption | omega) (show (q_I δ 12 36 a0).toInt + 2000 * LGf ((q_I δ 12 10 a0)).toInt ≤ 12000 by first | assumption | omega) (show ((q_I δ 12 10 a0)).toInt < 20 by first | assumption | omega) I) (fun r7 hr8 => ?_)
      obtain ⟨i11, ⟨u15, u16, u17⟩, p12, p13, p14⟩ := hr8
      have u18 := kp_t kp_r u15
      have v19 : q_V r7.2 = q_V δ := (u16).trans rfl
      have v20 := kr_t (kr_r (ad := ad)) u17
      have f21 := cb_12_36 i11 k_a0
      have f22 := ti_b r7.1
      have f23 := ti_b r7.1
      have f24 := ti_b (q_I r7.2 12 37 a0)
      have f25 : (q_I r7.2 12 37 a0).toInt = (q_I δ 12 37 a0).toInt := congrArg Int32.toInt (u15 12 37 a0 (by decide))
      have f26 := ti_b (q_I δ 12 37 a0)
      refine ok_ite (fun h27 => ?_) (fun h27 => ?_)
      · have c28 : (q_I r7.2 12 37 a0).toInt < r7.1.toInt := o_lt h27
        refine ok_bdv (fun d29 e30 => ?_)
        have i31 : RI ad h.1 δ0 d29 := by rw [e30]; exact cs_12_37 L i11
        have u32 := kp_I u18 e30
        have v33 : q_V d29 = q_V δ := ((show q_V d29 = q_V r7.2 by rw [e30]; rfl)).trans v19
        have v34 := kr_N v20 (show q_R d29 = q_R r7.2 by rw [e30]; rfl)
        refine ok_bdv (fun d35 e36 => ?_)
        have i37 : RI ad h.1 δ0 d35 := by rw [e36]; exact cs_12_38 L i31 k_a0 (show 0 ≤ x2.toInt by omega) (show x2.toInt ≤ 16 by omega)
        have u38 := kp_I u32 e36
        have v39 : q_V d35 = q_V δ := ((show q_V d35 = q_V d29 by rw [e36]; rfl)).trans v33
        have v40 := kr_N v34 (show q_R d35 = q_R d29 by rw [e36]; rfl)
        refine ok_bdv (fun d41 e42 => ?_)
        have i43 : RI ad h.1 δ0 d41 := by rw [e42]; exact cs_12_39 L i37
        have u44 := kp_I u38 e42
        have v45 : q_V d41 = q_V δ := ((show q_V d41 = q_V d35 by rw [e42]; rfl)).trans v39
        have v46 := kr_N v40 (show q_R d41 = q_R d35 by rw [e42]; rfl)
        refine ok_mono (kl_X12_asks_104 L hN (K2 := K2) h_kt2 k_a0 _ x3v (0 : Int32) d41 i43 (show 0 ≤ (x2).toInt by first | assumption | omega) (show (x2).toInt ≤ 16 by first | assumption | omega) (show 0 ≤ (x3v).toInt by first | assumption | omega) (show (x3v).toInt < 65536 by first | assumption | omega) (show 65536 - (x3v).toInt ≤ K2 by first | assumption | omega) (show 0 ≤ (0 : Int) by first | assumption | omega) (show (0 : Int) ≤ 16 by first | assumption | omega) (show 16 - (0 : Int) < _ by omega)) (fun r47 hr48 => ?_)
        obtain ⟨i49, ⟨u50, u51, u52⟩⟩ := hr48
        have u53 := kp_t u44 u50
        have v54 : q_V r47 = q_V δ := (u51).trans v45
        have v55 := kr_t v46 u52
        exact ⟨by assumption, ⟨kp_w (by decide) u53, v54, kr_w (by decide) v55⟩⟩
      · have c56 : r7.1.toInt ≤ (q_I r7.2 12 37 a0).toInt := o_nlt h27
        unfold J_X12_asks_130
        refine ok_biv (fun vx57 e58 => ?_)
        first | (have q59 := te_addc (c := 1) (n := 1) rfl x3v (by omega) (by omega); rw [← e58] at q59; obtain ⟨f60, f61, f62⟩ := q59) | (obtain ⟨q59, f60, f61, f62⟩ : ∃ q : Int, vx57.toInt = x3v.toInt + (1 : Int) + 4294967296 * q ∧ -2147483648 ≤ vx57.toInt ∧ vx57.toInt ≤ 2147483647 := by rw [e58]; exact ti_addc (c := 1) (n := 1) rfl x3v)
        refine ok_mono (h_kt2 vx57 r7.2 i11 (show 0 ≤ (x2).toInt by first | assumption | omega) (show (x2).toInt ≤ 16 by first | assumption | omega) (show 0 ≤ (vx57).toInt by first | assumption | omega) (show (vx57).toInt ≤ 65536 by first | assumption | omega) (show 65536 - (vx57).toInt < _ by omega)) (fun r63 hr64 => ?_)
        obtain ⟨i65, ⟨u66, u67, u68⟩⟩ := hr64
        have u69 := kp_t u18 u66
        have v70 : q_V r63 = q_V δ := (u67).trans v19
        have v71 := kr_t v20 u68
        exact ⟨by assumption, ⟨kp_w (by decide) u69, v70, kr_w (by decide) v71⟩⟩
    · have c72 : x4v.toInt < x2.toInt := o_nle h5
      obtain ⟨b73, o74, k75, n76, w77⟩ := gO_12_35 L k_a0
      obtain rfl := gS_12_35 L k_a0 o74
      refine ok_at o74 ?_
      obtain ⟨b78, o79, k80, n81, w82⟩ := gO_12_42 L k_a0
      obtain rfl := gS_12_42 L k_a0 o79
      refine ok_at o79 ?_
      have t83 := ti_tn x4v
      refine ok_gd (fun hc84 => ?_) ?_
      · rcases hc84 with hc84 | hc84
        · have c85 : x4v.toInt < (0 : Int) := o_lt hc84
          omega
        · omega
      have t86 := ti_tn (q_I δ 12 36 a0)
      refine ok_gd (fun hc87 => ?_) ?_
      · rcases hc87 with hc87 | hc87
        · have c88 : (q_I δ 12 36 a0).toInt < (0 : Int) := o_lt hc87
          omega
        · omega
      refine ok_bdv (fun d89 e90 => ?_)
      have i91 : RI ad h.1 δ0 d89 := by rw [e90]; exact RI.sR L I w77
      have u92 := kp_N kp_r (show q_I d89 = q_I δ by rw [e90]; rfl)
      have v93 : q_V d89 = q_V δ := ((show q_V d89 = q_V δ by rw [e90]; rfl)).trans rfl
      have v94 := kr_s L (by decide) (kr_r (ad := ad)) e90
      have f98 := cb_12_36 i91 k_a0
      have f99 : (q_I d89 12 36 a0).toInt = (q_I δ 12 36 a0).toInt := congrArg Int32.toInt (by rw [e90]; rfl)
      first | (have q101 := te_addc (c := 1) (n := 1) rfl (q_I d89 12 36 a0) (by omega) (by omega); obtain ⟨f102, f103, f104⟩ := q101) | (obtain ⟨q101, f102, f103, f104⟩ := ti_addc (c := 1) (n := 1) rfl (q_I d89 12 36 a0))
      refine ok_bdv (fun d95 e96 => ?_)
      have i97 : RI ad h.1 δ0 d95 := by rw [e96]; exact cs_12_36 L i91 k_a0 (show 0 ≤ ((q_I d89 12 36 a0) + (1 : Int32)).toInt by omega) (show ((q_I d89 12 36 a0) + (1 : Int32)).toInt ≤ 14000 by omega)
      have u105 := kp_I u92 e96
      have v106 : q_V d95 = q_V δ := ((show q_V d95 = q_V d89 by rw [e96]; rfl)).trans v93
      have v107 := kr_N v94 (show q_R d95 = q_R d89 by rw [e96]; rfl)
      refine ok_biv (fun vx108 e109 => ?_)
      first | (have q110 := te_addc (c := 1) (n := 1) rfl x4v (by omega) (by omega); rw [← e109] at q110; obtain ⟨f111, f112, f113⟩ := q110) | (obtain ⟨q110, f111, f112, f113⟩ : ∃ q : Int, vx108.toInt = x4v.toInt + (1 : Int) + 4294967296 * q ∧ -2147483648 ≤ vx108.toInt ∧ vx108.toInt ≤ 2147483647 := by rw [e109]; exact ti_addc (c := 1) (n := 1) rfl x4v)
      have f114 := cb_12_36 i97 k_a0
      have f115 : (q_I d95 12 36 a0).toInt = ((q_I d89 12 36 a0) + (1 : Int32)).toInt := congrArg Int32.toInt (show q_I d95 12 36 a0 = ((q_I d89 12 36 a0) + (1 : Int32)) by rw [e96]; exact rI_s)
      refine ok_mono (ih x3v vx108 d95 i97 (show 0 ≤ (x2).toInt by first | assumption | omega) (show (x2).toInt ≤ 16 by first | assumption | omega) (show 0 ≤ (x3v).toInt by first | assumption | omega) (show (x3v).toInt < 65536 by first | assumption | omega) (show 65536 - (x3v).toInt ≤ K2 by first | assumption | omega) (show 0 ≤ (vx108).toInt by first | assumption | omega) (show (vx108).toInt ≤ 16 by first | assumption | omega) (show (q_I d95 12 36 a0).toInt = (vx108).toInt by first | assumption | omega) (show 16 - (vx108).toInt < _ by omega)) (fun r116 hr117 => ?_)
      obtain ⟨i118, ⟨u119, u120, u121⟩⟩ := hr117
      have u122 := kp_t u105 u119
      have v123 : q_V r116 = q_V δ := (u120).trans v106
      have v124 := kr_t v107 u121
      exact ⟨by assumption, ⟨kp_w (by decide) u122, v123, kr_w (by decide) v124⟩⟩
set_option maxHeartbeats 4000000 in
theorem kl_X12_asks_2 {ad : List Nat} {h : hp} (L : Lay TLx ad h) {δ0 : dp} {N : Nat} (hN : 10000000 ≤ N) {a0 : Nat} {x1 : Int32} {x2 : Int32} (k_a0 : q_K h.1 a0 = 12) : ∀ (n : Nat) (x3v : Int32) (δ : dp), RI ad h.1 δ0 δ → 0 ≤ (x2).toInt → (x2).toInt ≤ 16 → 0 ≤ (x3v).toInt → (x3v).toInt ≤ 65536 → 65536 - (x3v).toInt < (n : Int) → ok (L_X12_asks_2 N h.1 a0 x1 x2 n x3v δ) (fun r => RI ad h.1 δ0 r ∧ (kp [(12, 36), (12, 37), (12, 38), (12, 39)] δ r ∧ q_V r = q_V δ ∧ kr ad [119, 120] δ r)) := by
  intro n
  induction n with
  | zero =>
    intro x3v δ I j0 j1 j2 j3 hm
    have f1 := ti_b x2
    have f2 := ti_b x3v
    exfalso; omega
  | succ n ih =>
    intro x3v δ I j0 j1 j2 j3 hm
    unfold L_X12_asks_2
    have f1 := ti_b x2
    have f2 := ti_b x3v
    refine ok_bind (k_X12_all L hN (a0 := a0) k_a0 I) (fun r3 hr4 => ?_)
    obtain ⟨i5, p6, p7, p8, p9⟩ := hr4
    try rw [i5]
    have f10 := ti_b r3.1
    have f11 := cb_12_10 I k_a0
    have f12 := ti_b r3.1
    refine ok_ite (fun h13 => ?_) (fun h13 => ?_)
    · have c14 : r3.1.toInt ≤ x3v.toInt := o_le h13
      exact ok_some (show RI ad h.1 δ0 δ ∧ (kp [(12, 36), (12, 37), (12, 38), (12, 39)] δ δ ∧ q_V δ = q_V δ ∧ kr ad [119, 120] δ δ) from ⟨I, ⟨kp_w (by decide) kp_r, rfl, kr_w (by decide) (kr_r (ad := ad))⟩⟩)
    · have c15 : x3v.toInt < r3.1.toInt := o_nle h13
      refine ok_bdv (fun d16 e17 => ?_)
      have i18 : RI ad h.1 δ0 d16 := by rw [e17]; exact cs_12_36 L I k_a0 (show 0 ≤ (0 : Int) by omega) (show (0 : Int) ≤ 14000 by omega)
      have u19 := kp_I kp_r e17
      have v20 : q_V d16 = q_V δ := ((show q_V d16 = q_V δ by rw [e17]; rfl)).trans rfl
      have v21 := kr_N (kr_r (ad := ad)) (show q_R d16 = q_R δ by rw [e17]; rfl)
      have f22 := cb_12_36 i18 k_a0
      have f23 : (q_I d16 12 36 a0).toInt = (0 : Int) := congrArg Int32.toInt (show q_I d16 12 36 a0 = (0 : Int32) by rw [e17]; exact rI_s)
      refine ok_mono (kl_X12_asks_18 L hN (K2 := (n : Int)) ih k_a0 _ x3v (0 : Int32) d16 i18 (show 0 ≤ (x2).toInt by first | assumption | omega) (show (x2).toInt ≤ 16 by first | assumption | omega) (show 0 ≤ (x3v).toInt by first | assumption | omega) (show (x3v).toInt < 65536 by first | assumption | omega) (show 65536 - (x3v).toInt ≤ (n : Int) by first | assumption | omega) (show 0 ≤ (0 : Int) by first | assumption | omega) (show (0 : Int) ≤ 16 by first | assumption | omega) (show (q_I d16 12 36 a0).toInt = (0 : Int) by first | assumption | omega) (show 16 - (0 : Int) < _ by omega)) (fun r24 hr25 => ?_)
      obtain ⟨i26, ⟨u27, u28, u29⟩⟩ := hr25
      have u30 := kp_t u19 u27
      have v31 : q_V r24 = q_V δ := (u28).trans v20
      have v32 := kr_t v21 u29
      exact ⟨by assumption, ⟨kp_w (by decide) u30, v31, kr_w (by decide) v32⟩⟩
set_option maxHeartbeats 4000000 in
theorem k_X12_asks {ad : List Nat} {h : hp} (L : Lay TLx ad h) {δ0 : dp} {N : Nat} (hN : 10000000 ≤ N) {a0 : Nat} {x1 : Int32} {x2 : Int32} (k_a0 : q_K h.1 a0 = 12) {δ : dp} (z0 : 0 ≤ (x2).toInt) (z1 : (x2).toInt ≤ 16) (I : RI ad h.1 δ0 δ) : ok (D_X12_asks N h.1 a0 x1 x2 δ) (fun r => RI ad h.1 δ0 r ∧ (kp [(12, 36), (12, 37), (12, 38), (12, 39)] δ r ∧ q_V r = q_V δ ∧ kr ad [119, 120] δ r)) := by
  unfold D_X12_asks
  have f1 := ti_b x2
  refine ok_mono (kl_X12_asks_2 L hN   k_a0 _ (0 : Int32) δ I (show 0 ≤ (x2).toInt by first | assumption | omega) (show (x2).toInt ≤ 16 by first | assumption | omega) (show 0 ≤ (0 : Int) by first | assumption | omega) (show (0 : Int) ≤ 65536 by first | assumption | omega) (show 65536 - (0 : Int) < _ by omega)) (fun r2 hr3 => ?_)
  obtain ⟨i4, ⟨u5, u6, u7⟩⟩ := hr3
  have u8 := kp_t kp_r u5
  have v9 : q_V r2 = q_V δ := (u6).trans rfl
  have v10 := kr_t (kr_r (ad := ad)) u7
  exact ⟨by assumption, ⟨kp_w (by decide) u8, v9, kr_w (by decide) v10⟩⟩
set_option maxHeartbeats 4000000 in
theorem kl_X12_sets_14 {ad : List Nat} {h : hp} (L : Lay TLx ad h) {δ0 : dp} {N : Nat} (hN : 10000000 ≤ N) {T : Nat → Int32 → Int32 → Int32 → Int32 → dp → Option (dp)} {K : Int} (hT : ∀ (a0 : Nat) (x1 : Int32) (x2 : Int32) (x3 : Int32) (x4 : Int32) (δ : dp), q_K h.1 a0 = 12 → 0 ≤ (x2).toInt → (x2).toInt ≤ 16 → -1 ≤ (x3).toInt → (x3).toInt ≤ 15 → (x4).toInt ≤ 65536 → (x3).toInt + 1 < K → RI ad h.1 δ0 δ → ok (T a0 x1 x2 x3 x4 δ) (fun r => RI ad h.1 δ0 r ∧ (kp [(12, 36), (12, 37), (12, 38), (12, 39)] δ r ∧ q_V r = q_V δ ∧ kr ad [119, 120, 121] δ r))) {a0 : Nat} {x1 : Int32} {x2 : Int32} {x3 : Int32} {x4 : Int32} (k_a0 : q_K h.1 a0 = 12) : ∀ (n : Nat) (x5v : Int32) (δ : dp), RI ad h.1 δ0 δ → 0 ≤ (x2).toInt → (x2).toInt ≤ 16 → 0 ≤ (x3).toInt → (x3).toInt ≤ 15 → (x4).toInt ≤ 65536 → (x3).toInt + 1 ≤ K → 0 ≤ (x5v).toInt → (x5v).toInt ≤ 65536 → 65536 - (x5v).toInt < (n : Int) → ok (L_X12_sets_14 N h.1 T a0 x1 x2 x3 x4 n x5v δ) (fun r => RI ad h.1 δ0 r ∧ (kp [(12, 36), (12, 37), (12, 38), (12, 39)] δ r ∧ q_V r = q_V δ ∧ kr ad [119, 120, 121] δ r)) := by
  intro n
  induction n with
  | zero =>
    intro x5v δ I j0 j1 j2 j3 j4 j5 j6 j7 hm
    have f1 := ti_b x2
    have f2 := ti_b x3
    have f3 := ti_b x4
    have f4 := ti_b x5v
    exfalso; omega
  | succ n ih =>
    intro x5v δ I j0 j1 j2 j3 j4 j5 j6 j7 hm
    unfold L_X12_sets_14
    have f1 := ti_b x2
    have f2 := ti_b x3
    have f3 := ti_b x4
    have f4 := ti_b x5v
    refine ok_ite (fun h5 => ?_) (fun h5 => ?_)
    · have c6 : x4.toInt ≤ x5v.toInt := o_le h5
      exact ok_some (show RI ad h.1 δ0 δ ∧ (kp [(12, 36), (12, 37), (12, 38), (12, 39)] δ δ ∧ q_V δ = q_V δ ∧ kr ad [119, 120, 121] δ δ) from ⟨I, ⟨kp_w (by decide) kp_r, rfl, kr_w (by decide) (kr_r (ad := ad))⟩⟩)
    · have c7 : x5v.toInt < x4.toInt := o_nle h5
      obtain ⟨b8, o9, k10, n11, w12⟩ := gO_12_42 L k_a0
      obtain rfl := gS_12_42 L k_a0 o9
      refine ok_at o9 ?_
      have t13 := ti_tn x3
      refine ok_gd (fun hc14 => ?_) ?_
      · rcases hc14 with hc14 | hc14
        · have c15 : x3.toInt < (0 : Int) := o_lt hc14
          omega
        · omega
      refine ok_bdv (fun d16 e17 => ?_)
      have i18 : RI ad h.1 δ0 d16 := by rw [e17]; exact RI.sR L I w12
      have u19 := kp_N kp_r (show q_I d16 = q_I δ by rw [e17]; rfl)
      have v20 : q_V d16 = q_V δ := ((show q_V d16 = q_V δ by rw [e17]; rfl)).trans rfl
      have v21 := kr_s L (by decide) (kr_r (ad := ad)) e17
      first | (have q25 := te_subc (c := 1) (n := 1) rfl x3 (by omega) (by omega); obtain ⟨f26, f27, f28⟩ := q25) | (obtain ⟨q25, f26, f27, f28⟩ := ti_subc (c := 1) (n := 1) rfl x3)
      refine ok_bind (hT a0 x1 x2 (x3 - (1 : Int32)) x5v d16 k_a0 (show 0 ≤ (x2).toInt by first | assumption | omega) (show (x2).toInt ≤ 16 by first | assumption | omega) (show -1 ≤ ((x3 - (1 : Int32))).toInt by first | assumption | omega) (show ((x3 - (1 : Int32))).toInt ≤ 15 by first | assumption | omega) (show (x5v).toInt ≤ 65536 by first | assumption | omega) (show ((x3 - (1 : Int32))).toInt + 1 < _ by first | assumption | omega) i18) (fun r22 hr23 => ?_)
      obtain ⟨i29, ⟨u30, u31, u32⟩⟩ := hr23
      have u33 := kp_t u19 u30
      have v34 : q_V r22 = q_V δ := (u31).trans v20
      have v35 := kr_t v21 u32
      refine ok_biv (fun vx36 e37 => ?_)
      first | (have q38 := te_addc (c := 1) (n := 1) rfl x5v (by omega) (by omega); rw [← e37] at q38; obtain ⟨f39, f40, f41⟩ := q38) | (obtain ⟨q38, f39, f40, f41⟩ : ∃ q : Int, vx36.toInt = x5v.toInt + (1 : Int) + 4294967296 * q ∧ -2147483648 ≤ vx36.toInt ∧ vx36.toInt ≤ 2147483647 := by rw [e37]; exact ti_addc (c := 1) (n := 1) rfl x5v)
      refine ok_mono (ih vx36 r22 i29 (show 0 ≤ (x2).toInt by first | assumption | omega) (show (x2).toInt ≤ 16 by first | assumption | omega) (show 0 ≤ (x3).toInt by first | assumption | omega) (show (x3).toInt ≤ 15 by first | assumption | omega) (show (x4).toInt ≤ 65536 by first | assumption | omega) (show (x3).toInt + 1 ≤ K by first | assumption | omega) (show 0 ≤ (vx36).toInt by first | assumption | omega) (show (vx36).toInt ≤ 65536 by first | assumption | omega) (show 65536 - (vx36).toInt < _ by omega)) (fun r42 hr43 => ?_)
      obtain ⟨i44, ⟨u45, u46, u47⟩⟩ := hr43
      have u48 := kp_t u33 u45
      have v49 : q_V r42 = q_V δ := (u46).trans v34
      have v50 := kr_t v35 u47
      exact ⟨by assumption, ⟨kp_w (by decide) u48, v49, kr_w (by decide) v50⟩⟩
set_option maxHeartbeats 4000000 in
theorem ke_X12_sets {ad : List Nat} {h : hp} (L : Lay TLx ad h) {δ0 : dp} {N : Nat} (hN : 10000000 ≤ N) : ∀ (k : Nat), ∀ (a0 : Nat) (x1 : Int32) (x2 : Int32) (x3 : Int32) (x4 : Int32) (δ : dp), q_K h.1 a0 = 12 → 0 ≤ (x2).toInt → (x2).toInt ≤ 16 → -1 ≤ (x3).toInt → (x3).toInt ≤ 15 → (x4).toInt ≤ 65536 → (x3).toInt + 1 < (k : Int) → RI ad h.1 δ0 δ → ok (E_X12_sets N h.1 k a0 x1 x2 x3 x4 δ) (fun r => RI ad h.1 δ0 r ∧ (kp [(12, 36), (12, 37), (12, 38), (12, 39)] δ r ∧ q_V r = q_V δ ∧ kr ad [119, 120, 121] δ r)) := by
  intro k
  induction k with
  | zero =>
    intro a0 x1 x2 x3 x4 δ k_a0 z0 z1 z2 z3 z4 hd I
    exfalso; omega
  | succ k ih =>
    intro a0 x1 x2 x3 x4 δ k_a0 z0 z1 z2 z3 z4 hd I
    unfold E_X12_sets B_X12_sets
    have f1 := ti_b x2
    have f2 := ti_b x3
    have f3 := ti_b x4
    refine ok_ite (fun h4 => ?_) (fun h4 => ?_)
    · have c5 : (0 : Int) ≤ x3.toInt := o_le h4
      refine ok_mono (kl_X12_sets_14 L hN   ih k_a0 _ x3 δ I (show 0 ≤ (x2).toInt by first | assumption | omega) (show (x2).toInt ≤ 16 by first | assumption | omega) (show 0 ≤ (x3).toInt by first | assumption | omega) (show (x3).toInt ≤ 15 by first | assumption | omega) (show (x4).toInt ≤ 65536 by first | assumption | omega) (show (x3).toInt + 1 ≤ (k : Int) by first | assumption | omega) (show 0 ≤ (x3).toInt by first | assumption | omega) (show (x3).toInt ≤ 65536 by first | assumption | omega) (show 65536 - (x3).toInt < _ by omega)) (fun r6 hr7 => ?_)
      obtain ⟨i8, ⟨u9, u10, u11⟩⟩ := hr7
      have u12 := kp_t kp_r u9
      have v13 : q_V r6 = q_V δ := (u10).trans rfl
      have v14 := kr_t (kr_r (ad := ad)) u11
      exact ⟨by assumption, ⟨kp_w (by decide) u12, v13, kr_w (by decide) v14⟩⟩
    · have c15 : x3.toInt < (0 : Int) := o_nle h4
      refine ok_bind (k_X12_asks L hN (a0 := a0) (x1 := x1) (x2 := x2) k_a0 (show 0 ≤ (x2).toInt by first | assumption | omega) (show (x2).toInt ≤ 16 by first | assumption | omega) I) (fun r16 hr17 => ?_)
      obtain ⟨i18, ⟨u19, u20, u21⟩⟩ := hr17
      have u22 := kp_t kp_r u19
      have v23 : q_V r16 = q_V δ := (u20).trans rfl
      have v24 := kr_t (kr_r (ad := ad)) u21
      exact ok_some (show RI ad h.1 δ0 r16 ∧ (kp [(12, 36), (12, 37), (12, 38), (12, 39)] δ r16 ∧ q_V r16 = q_V δ ∧ kr ad [119, 120, 121] δ r16) from ⟨i18, ⟨kp_w (by decide) u22, v23, kr_w (by decide) v24⟩⟩)
set_option maxHeartbeats 4000000 in
theorem k_X12_sets {ad : List Nat} {h : hp} (L : Lay TLx ad h) {δ0 : dp} {N : Nat} (hN : 10000000 ≤ N) {a0 : Nat} {x1 : Int32} {x2 : Int32} {x3 : Int32} {x4 : Int32} (k_a0 : q_K h.1 a0 = 12) {δ : dp} (z0 : 0 ≤ (x2).toInt) (z1 : (x2).toInt ≤ 16) (z2 : -1 ≤ (x3).toInt) (z3 : (x3).toInt ≤ 15) (z4 : (x4).toInt ≤ 65536) (hd : (x3).toInt + 1 < 20) (I : RI ad h.1 δ0 δ) : ok (D_X12_sets N h.1 a0 x1 x2 x3 x4 δ) (fun r => RI ad h.1 δ0 r ∧ (kp [(12, 36), (12, 37), (12, 38), (12, 39)] δ r ∧ q_V r = q_V δ ∧ kr ad [119, 120, 121] δ r)) := ke_X12_sets L hN 20 a0 x1 x2 x3 x4 δ k_a0 z0 z1 z2 z3 z4 hd I
set_option maxHeartbeats 4000000 in
theorem kl_X12_findWorst_7 {ad : List Nat} {h : hp} (L : Lay TLx ad h) {δ0 : dp} {N : Nat} (hN : 10000000 ≤ N) {a0 : Nat} {x1 : Int32} {x2 : Int32} (k_a0 : q_K h.1 a0 = 12) : ∀ (n : Nat) (x3v : Int32) (δ : dp), RI ad h.1 δ0 δ → 0 ≤ (x2).toInt → (x2).toInt ≤ 16 → 0 ≤ (x3v).toInt → (x3v).toInt ≤ 17 → 17 - (x3v).toInt < (n : Int) → ok (L_X12_findWorst_7 N h.1 a0 x1 x2 n x3v δ) (fun r => RI ad h.1 δ0 r ∧ (kp [(12, 36), (12, 37), (12, 38), (12, 39)] δ r ∧ q_V r = q_V δ ∧ kr ad [119, 120, 121] δ r)) := by
  intro n
  induction n with
  | zero =>
    intro x3v δ I j0 j1 j2 j3 hm
    have f1 := ti_b x2
    have f2 := ti_b x3v
    exfalso; omega
  | succ n ih =>
    intro x3v δ I j0 j1 j2 j3 hm
    unfold L_X12_findWorst_7
    have f1 := ti_b x2
    have f2 := ti_b x3v
    refine ok_ite (fun h3 => ?_) (fun h3 => ?_)
    · have c4 : x2.toInt < x3v.toInt := o_lt h3
      unfold J_X12_findWorst_39
      exact ok_some (show RI ad h.1 δ0 δ ∧ (kp [(12, 36), (12, 37), (12, 38), (12, 39)] δ δ ∧ q_V δ = q_V δ ∧ kr ad [119, 120, 121] δ δ) from ⟨I, ⟨kp_w (by decide) kp_r, rfl, kr_w (by decide) (kr_r (ad := ad))⟩⟩)
    · have c5 : x3v.toInt ≤ x2.toInt := o_nlt h3
      refine ok_bind (k_X12_all L hN (a0 := a0) k_a0 I) (fun r6 hr7 => ?_)
      obtain ⟨i8, p9, p10, p11, p12⟩ := hr7
      try rw [i8]
      have f13 := ti_b r6.1
      have f14 := cb_12_10 I k_a0
      have f15 := ti_b r6.1
      refine ok_ite (fun h16 => ?_) (fun h16 => ?_)
      · have c17 : r6.1.toInt < x3v.toInt := o_lt h16
        unfold J_X12_findWorst_39
        exact ok_some (show RI ad h.1 δ0 δ ∧ (kp [(12, 36), (12, 37), (12, 38), (12, 39)] δ δ ∧ q_V δ = q_V δ ∧ kr ad [119, 120, 121] δ δ) from ⟨I, ⟨kp_w (by decide) kp_r, rfl, kr_w (by decide) (kr_r (ad := ad))⟩⟩)
      · have c18 : x3v.toInt ≤ r6.1.toInt := o_nlt h16
        refine ok_bind (k_X12_all L hN (a0 := a0) k_a0 I) (fun r19 hr20 => ?_)
        obtain ⟨i21, p22, p23, p24, p25⟩ := hr20
        try rw [i21]
        have f26 := ti_b r19.1
        have f27 := ti_b r19.1
        first | (have q31 := te_subc (c := 1) (n := 1) rfl x3v (by omega) (by omega); obtain ⟨f32, f33, f34⟩ := q31) | (obtain ⟨q31, f32, f33, f34⟩ := ti_subc (c := 1) (n := 1) rfl x3v)
        refine ok_bind (k_X12_sets L hN (a0 := a0) (x1 := x1) (x2 := x3v) (x3 := (x3v - (1 : Int32))) (x4 := r19.1) k_a0 (show 0 ≤ (x3v).toInt by first | assumption | omega) (show (x3v).toInt ≤ 16 by first | assumption | omega) (show -1 ≤ ((x3v - (1 : Int32))).toInt by first | assumption | omega) (show ((x3v - (1 : Int32))).toInt ≤ 15 by first | assumption | omega) (show (r19.1).toInt ≤ 65536 by first | assumption | omega) (show ((x3v - (1 : Int32))).toInt + 1 < 20 by first | assumption | omega) I) (fun r28 hr29 => ?_)
        obtain ⟨i35, ⟨u36, u37, u38⟩⟩ := hr29
        have u39 := kp_t kp_r u36
        have v40 : q_V r28 = q_V δ := (u37).trans rfl
        have v41 := kr_t (kr_r (ad := ad)) u38
        refine ok_biv (fun vx42 e43 => ?_)
        first | (have q44 := te_addc (c := 1) (n := 1) rfl x3v (by omega) (by omega); rw [← e43] at q44; obtain ⟨f45, f46, f47⟩ := q44) | (obtain ⟨q44, f45, f46, f47⟩ : ∃ q : Int, vx42.toInt = x3v.toInt + (1 : Int) + 4294967296 * q ∧ -2147483648 ≤ vx42.toInt ∧ vx42.toInt ≤ 2147483647 := by rw [e43]; exact ti_addc (c := 1) (n := 1) rfl x3v)
        refine ok_mono (ih vx42 r28 i35 (show 0 ≤ (x2).toInt by first | assumption | omega) (show (x2).toInt ≤ 16 by first | assumption | omega) (show 0 ≤ (vx42).toInt by first | assumption | omega) (show (vx42).toInt ≤ 17 by first | assumption | omega) (show 17 - (vx42).toInt < _ by omega)) (fun r48 hr49 => ?_)
        obtain ⟨i50, ⟨u51, u52, u53⟩⟩ := hr49
        have u54 := kp_t u39 u51
        have v55 : q_V r48 = q_V δ := (u52).trans v40
        have v56 := kr_t v41 u53
        exact ⟨by assumption, ⟨kp_w (by decide) u54, v55, kr_w (by decide) v56⟩⟩
set_option maxHeartbeats 4000000 in
theorem k_X12_findWorst {ad : List Nat} {h : hp} (L : Lay TLx ad h) {δ0 : dp} {N : Nat} (hN : 10000000 ≤ N) {a0 : Nat} {x1 : Int32} {x2 : Int32} (k_a0 : q_K h.1 a0 = 12) {δ : dp} (z0 : 0 ≤ (x2).toInt) (z1 : (x2).toInt ≤ 16) (I : RI ad h.1 δ0 δ) : ok (D_X12_findWorst N h.1 a0 x1 x2 δ) (fun r => RI ad h.1 δ0 r ∧ (kp [(12, 36), (12, 37), (12, 38), (12, 39)] δ r ∧ q_V r = q_V δ ∧ kr ad [119, 120, 121] δ r)) := by
  unfold D_X12_findWorst
  have f1 := ti_b x2
  refine ok_bdv (fun d2 e3 => ?_)
  have i4 : RI ad h.1 δ0 d2 := by rw [e3]; exact cs_12_37 L I
  have u5 := kp_I kp_r e3
  have v6 : q_V d2 = q_V δ := ((show q_V d2 = q_V δ by rw [e3]; rfl)).trans rfl
  have v7 := kr_N (kr_r (ad := ad)) (show q_R d2 = q_R δ by rw [e3]; rfl)
  refine ok_mono (kl_X12_findWorst_7 L hN   k_a0 _ (0 : Int32) d2 i4 (show 0 ≤ (x2).toInt by first | assumption | omega) (show (x2).toInt ≤ 16 by first | assumption | omega) (show 0 ≤ (0 : Int) by first | assumption | omega) (show (0 : Int) ≤ 17 by first | assumption | omega) (show 17 - (0 : Int) < _ by omega)) (fun r8 hr9 => ?_)
  obtain ⟨i10, ⟨u11, u12, u13⟩⟩ := hr9
  have u14 := kp_t u5 u11
  have v15 : q_V r8 = q_V δ := (u12).trans v6
  have v16 := kr_t v7 u13
  exact ⟨by assumption, ⟨kp_w (by decide) u14, v15, kr_w (by decide) v16⟩⟩
set_option maxHeartbeats 4000000 in
theorem k_X12_worst {ad : List Nat} {h : hp} (L : Lay TLx ad h) {δ0 : dp} {N : Nat} (hN : 10000000 ≤ N) {a0 : Nat} {x1 : Int32} {x2 : Int32} {x3 : Int32} (k_a0 : q_K h.1 a0 = 12) {δ : dp} (I : RI ad h.1 δ0 δ) : ok (D_X12_worst N h.1 a0 x1 x2 x3 δ) (fun r => RI ad h.1 δ0 r.2 ∧ (kp [(12, 0), (12, 36), (12, 37), (12, 38), (12, 39)] δ r.2 ∧ q_V r.2 = q_V δ ∧ kr ad [100, 119, 120, 121] δ r.2)) := by
  unfold D_X12_worst
  refine ok_bdv (fun d1 e2 => ?_)
  have i3 : RI ad h.1 δ0 d1 := by rw [e2]; exact cs_12_0 L I
  have u4 := kp_I kp_r e2
  have v5 : q_V d1 = q_V δ := ((show q_V d1 = q_V δ by rw [e2]; rfl)).trans rfl
  have v6 := kr_N (kr_r (ad := ad)) (show q_R d1 = q_R δ by rw [e2]; rfl)
  refine ok_bind (k_X12_isCall L hN (x0 := x1)  i3) (fun r7 hr8 => ?_)
  obtain ⟨i9, p10, p11⟩ := hr8
  try rw [i9]
  have f12 := bo_l p10
  have f13 := ti_b r7.1
  have f14 := ti_b x1
  have f15 := ti_b r7.1
  refine ok_ite (fun h16 => ?_) (fun h16 => ?_)
  · have c17 : r7.1.toInt = (0 : Int) := o_eq h16
    unfold J_X12_worst_34
    unfold J_X12_worst_35
    refine ok_bind (k_X12_may L hN (a0 := a0) (x1 := (0 : Int32)) (x2 := (1 : Int32)) (x3 := (2 : Int32)) k_a0 (show (1 : Int) ≠ 0 by first | assumption | omega) (show 0 ≤ (2 : Int) by first | assumption | omega) (show (2 : Int) ≤ 2 by first | assumption | omega) i3) (fun r18 hr19 => ?_)
    obtain ⟨i20, ⟨u24, u25, u26⟩, p21, p22, p23⟩ := hr19
    have u27 := kp_t u4 u24
    have v28 : q_V r18.2 = q_V δ := (u25).trans v5
    have v29 := kr_t v6 u26
    have f30 := bo_l p21
    have f31 := ti_b r18.1
    replace p22 : ((r18.1).toInt = 1 → (0 : Int) ≠ 0) := p22
    have f32 := ti_b (q_I d1 12 0 a0)
    have f33 : (q_I d1 12 0 a0).toInt = (0 : Int) := congrArg Int32.toInt (show q_I d1 12 0 a0 = (0 : Int32) by rw [e2]; exact rI_s)
    replace p23 : ((q_I d1 12 0 a0).toInt = 0 → (r18.1).toInt = 0 → (0 : Int) = 0) := p23
    have f34 := ti_b r18.1
    refine ok_ite (fun h35 => ?_) (fun h35 => ?_)
    · have c36 : r18.1.toInt = (0 : Int) := o_eq h35
      exact ok_some (show RI ad h.1 δ0 r18.2 ∧ (kp [(12, 0), (12, 36), (12, 37), (12, 38), (12, 39)] δ r18.2 ∧ q_V r18.2 = q_V δ ∧ kr ad [100, 119, 120, 121] δ r18.2) from ⟨i20, ⟨kp_w (by decide) u27, v28, kr_w (by decide) v29⟩⟩)
    · have c37 : r18.1.toInt ≠ (0 : Int) := o_ne h35
      have f40 := ti_b x2
      refine ok_bind (k_X12_findWorst L hN (a0 := a0) (x1 := x1) (x2 := x2) k_a0 (show 0 ≤ (x2).toInt by first | assumption | omega) (show (x2).toInt ≤ 16 by first | assumption | omega) i20) (fun r38 hr39 => ?_)
      obtain ⟨i41, ⟨u42, u43, u44⟩⟩ := hr39
      have u45 := kp_t u27 u42
      have v46 : q_V r38 = q_V δ := (u43).trans v28
      have v47 := kr_t v29 u44
      have f48 := ti_b x3
      refine ok_ite (fun h49 => ?_) (fun h49 => ?_)
      · have c50 : x3.toInt = (0 : Int) := o_eq h49
        unfold J_X12_worst_78
        exact ok_some (show RI ad h.1 δ0 r38 ∧ (kp [(12, 0), (12, 36), (12, 37), (12, 38), (12, 39)] δ r38 ∧ q_V r38 = q_V δ ∧ kr ad [100, 119, 120, 121] δ r38) from ⟨i41, ⟨kp_w (by decide) u45, v46, kr_w (by decide) v47⟩⟩)
      · have c51 : x3.toInt ≠ (0 : Int) := o_ne h49
        refine ok_ite (fun h52 => ?_) (fun h52 => ?_)
        · have c53 : x3.toInt = (1 : Int) := o_eq h52
          unfold J_X12_worst_78
          exact ok_some (show RI ad h.1 δ0 r38 ∧ (kp [(12, 0), (12, 36), (12, 37), (12, 38), (12, 39)] δ r38 ∧ q_V r38 = q_V δ ∧ kr ad [100, 119, 120, 121] δ r38) from ⟨i41, ⟨kp_w (by decide) u45, v46, kr_w (by decide) v47⟩⟩)
        · have c54 : x3.toInt ≠ (1 : Int) := o_ne h52
          unfold J_X12_worst_78
          exact ok_some (show RI ad h.1 δ0 r38 ∧ (kp [(12, 0), (12, 36), (12, 37), (12, 38), (12, 39)] δ r38 ∧ q_V r38 = q_V δ ∧ kr ad [100, 119, 120, 121] δ r38) from ⟨i41, ⟨kp_w (by decide) u45, v46, kr_w (by decide) v47⟩⟩)
  · have c55 : r7.1.toInt ≠ (0 : Int) := o_ne h16
    refine ok_bind (k_X12_isWorst L hN (a0 := a0) (x1 := x2) k_a0 i3) (fun r56 hr57 => ?_)
    obtain ⟨i58, p59, p60⟩ := hr57
    try rw [i58]
    have f61 := bo_l p59
    have f62 := ti_b r56.1
    have f63 := ti_b x2
    have f64 := ti_b r56.1
    refine ok_ite (fun h65 => ?_) (fun h65 => ?_)
    · have c66 : r56.1.toInt = (0 : Int) := o_eq h65
      unfold J_X12_worst_34
      unfold J_X12_worst_35
      refine ok_bind (k_X12_may L hN (a0 := a0) (x1 := (0 : Int32)) (x2 := (1 : Int32)) (x3 := (2 : Int32)) k_a0 (show (1 : Int) ≠ 0 by first | assumption | omega) (show 0 ≤ (2 : Int) by first | assumption | omega) (show (2 : Int) ≤ 2 by first | assumption | omega) i3) (fun r67 hr68 => ?_)
      obtain ⟨i69, ⟨u73, u74, u75⟩, p70, p71, p72⟩ := hr68
      have u76 := kp_t u4 u73
      have v77 : q_V r67.2 = q_V δ := (u74).trans v5
      have v78 := kr_t v6 u75
      have f79 := bo_l p70
      have f80 := ti_b r67.1
      replace p71 : ((r67.1).toInt = 1 → (0 : Int) ≠ 0) := p71
      have f81 := ti_b (q_I d1 12 0 a0)
      have f82 : (q_I d1 12 0 a0).toInt = (0 : Int) := congrArg Int32.toInt (show q_I d1 12 0 a0 = (0 : Int32) by rw [e2]; exact rI_s)
      replace p72 : ((q_I d1 12 0 a0).toInt = 0 → (r67.1).toInt = 0 → (0 : Int) = 0) := p72
      have f83 := ti_b r67.1
      refine ok_ite (fun h84 => ?_) (fun h84 => ?_)
      · have c85 : r67.1.toInt = (0 : Int) := o_eq h84
        exact ok_some (show RI ad h.1 δ0 r67.2 ∧ (kp [(12, 0), (12, 36), (12, 37), (12, 38), (12, 39)] δ r67.2 ∧ q_V r67.2 = q_V δ ∧ kr ad [100, 119, 120, 121] δ r67.2) from ⟨i69, ⟨kp_w (by decide) u76, v77, kr_w (by decide) v78⟩⟩)
      · have c86 : r67.1.toInt ≠ (0 : Int) := o_ne h84
        refine ok_bind (k_X12_findWorst L hN (a0 := a0) (x1 := x1) (x2 := x2) k_a0 (show 0 ≤ (x2).toInt by first | assumption | omega) (show (x2).toInt ≤ 16 by first | assumption | omega) i69) (fun r87 hr88 => ?_)
        obtain ⟨i89, ⟨u90, u91, u92⟩⟩ := hr88
        have u93 := kp_t u76 u90
        have v94 : q_V r87 = q_V δ := (u91).trans v77
        have v95 := kr_t v78 u92
        have f96 := ti_b x3
        refine ok_ite (fun h97 => ?_) (fun h97 => ?_)
        · have c98 : x3.toInt = (0 : Int) := o_eq h97
          unfold J_X12_worst_78
          exact ok_some (show RI ad h.1 δ0 r87 ∧ (kp [(12, 0), (12, 36), (12, 37), (12, 38), (12, 39)] δ r87 ∧ q_V r87 = q_V δ ∧ kr ad [100, 119, 120, 121] δ r87) from ⟨i89, ⟨kp_w (by decide) u93, v94, kr_w (by decide) v95⟩⟩)
        · have c99 : x3.toInt ≠ (0 : Int) := o_ne h97
          refine ok_ite (fun h100 => ?_) (fun h100 => ?_)
          · have c101 : x3.toInt = (1 : Int) := o_eq h100
            unfold J_X12_worst_78
            exact ok_some (show RI ad h.1 δ0 r87 ∧ (kp [(12, 0), (12, 36), (12, 37), (12, 38), (12, 39)] δ r87 ∧ q_V r87 = q_V δ ∧ kr ad [100, 119, 120, 121] δ r87) from ⟨i89, ⟨kp_w (by decide) u93, v94, kr_w (by decide) v95⟩⟩)
          · have c102 : x3.toInt ≠ (1 : Int) := o_ne h100
            unfold J_X12_worst_78
            exact ok_some (show RI ad h.1 δ0 r87 ∧ (kp [(12, 0), (12, 36), (12, 37), (12, 38), (12, 39)] δ r87 ∧ q_V r87 = q_V δ ∧ kr ad [100, 119, 120, 121] δ r87) from ⟨i89, ⟨kp_w (by decide) u93, v94, kr_w (by decide) v95⟩⟩)
    · have c103 : r56.1.toInt ≠ (0 : Int) := o_ne h65
      refine ok_bind (k_X12_within L hN (x0 := x3) (x1 := (0 : Int32)) (x2 := (2 : Int32))  i3) (fun r104 hr105 => ?_)
      obtain ⟨i106, p107, p108, p109⟩ := hr105
      try rw [i106]
      have f110 := bo_l p107
      have f111 := ti_b r104.1
      have f112 := ti_b x3
      replace p108 : ((r104.1).toInt = 1 → (0 : Int) ≤ (x3).toInt ∧ (x3).toInt ≤ (2 : Int)) := p108
      replace p109 : ((r104.1).toInt = 0 → (x3).toInt < (0 : Int) ∨ (2 : Int) < (x3).toInt) := p109
      have f113 := ti_b r104.1
      refine ok_ite (fun h114 => ?_) (fun h114 => ?_)
      · have c115 : r104.1.toInt = (0 : Int) := o_eq h114
        unfold J_X12_worst_34
        unfold J_X12_worst_35
        refine ok_bind (k_X12_may L hN (a0 := a0) (x1 := (0 : Int32)) (x2 := (1 : Int32)) (x3 := (2 : Int32)) k_a0 (show (1 : Int) ≠ 0 by first | assumption | omega) (show 0 ≤ (2 : Int) by first | assumption | omega) (show (2 : Int) ≤ 2 by first | assumption | omega) i3) (fun r116 hr117 => ?_)
        obtain ⟨i118, ⟨u122, u123, u124⟩, p119, p120, p121⟩ := hr117
        have u125 := kp_t u4 u122
        have v126 : q_V r116.2 = q_V δ := (u123).trans v5
        have v127 := kr_t v6 u124
        have f128 := bo_l p119
        have f129 := ti_b r116.1
        replace p120 : ((r116.1).toInt = 1 → (0 : Int) ≠ 0) := p120
        have f130 := ti_b (q_I d1 12 0 a0)
        have f131 : (q_I d1 12 0 a0).toInt = (0 : Int) := congrArg Int32.toInt (show q_I d1 12 0 a0 = (0 : Int32) by rw [e2]; exact rI_s)
        replace p121 : ((q_I d1 12 0 a0).toInt = 0 → (r116.1).toInt = 0 → (0 : Int) = 0) := p121
        have f132 := ti_b r116.1
        refine ok_ite (fun h133 => ?_) (fun h133 => ?_)
        · have c134 : r116.1.toInt = (0 : Int) := o_eq h133
          exact ok_some (show RI ad h.1 δ0 r116.2 ∧ (kp [(12, 0), (12, 36), (12, 37), (12, 38), (12, 39)] δ r116.2 ∧ q_V r116.2 = q_V δ ∧ kr ad [100, 119, 120, 121] δ r116.2) from ⟨i118, ⟨kp_w (by decide) u125, v126, kr_w (by decide) v127⟩⟩)
        · have c135 : r116.1.toInt ≠ (0 : Int) := o_ne h133
          refine ok_bind (k_X12_findWorst L hN (a0 := a0) (x1 := x1) (x2 := x2) k_a0 (show 0 ≤ (x2).toInt by first | assumption | omega) (show (x2).toInt ≤ 16 by first | assumption | omega) i118) (fun r136 hr137 => ?_)
          obtain ⟨i138, ⟨u139, u140, u141⟩⟩ := hr137
          have u142 := kp_t u125 u139
          have v143 : q_V r136 = q_V δ := (u140).trans v126
          have v144 := kr_t v127 u141
          refine ok_ite (fun h145 => ?_) (fun h145 => ?_)
          · have c146 : x3.toInt = (0 : Int) := o_eq h145
            unfold J_X12_worst_78
            exact ok_some (show RI ad h.1 δ0 r136 ∧ (kp [(12, 0), (12, 36), (12, 37), (12, 38), (12, 39)] δ r136 ∧ q_V r136 = q_V δ ∧ kr ad [100, 119, 120, 121] δ r136) from ⟨i138, ⟨kp_w (by decide) u142, v143, kr_w (by decide) v144⟩⟩)
          · have c147 : x3.toInt ≠ (0 : Int) := o_ne h145
            refine ok_ite (fun h148 => ?_) (fun h148 => ?_)
            · have c149 : x3.toInt = (1 : Int) := o_eq h148
              unfold J_X12_worst_78
              exact ok_some (show RI ad h.1 δ0 r136 ∧ (kp [(12, 0), (12, 36), (12, 37), (12, 38), (12, 39)] δ r136 ∧ q_V r136 = q_V δ ∧ kr ad [100, 119, 120, 121] δ r136) from ⟨i138, ⟨kp_w (by decide) u142, v143, kr_w (by decide) v144⟩⟩)
            · have c150 : x3.toInt ≠ (1 : Int) := o_ne h148
              unfold J_X12_worst_78
              exact ok_some (show RI ad h.1 δ0 r136 ∧ (kp [(12, 0), (12, 36), (12, 37), (12, 38), (12, 39)] δ r136 ∧ q_V r136 = q_V δ ∧ kr ad [100, 119, 120, 121] δ r136) from ⟨i138, ⟨kp_w (by decide) u142, v143, kr_w (by decide) v144⟩⟩)
      · have c151 : r104.1.toInt ≠ (0 : Int) := o_ne h114
        unfold J_X12_worst_35
        refine ok_bind (k_X12_may L hN (a0 := a0) (x1 := (1 : Int32)) (x2 := (1 : Int32)) (x3 := (2 : Int32)) k_a0 (show (1 : Int) ≠ 0 by first | assumption | omega) (show 0 ≤ (2 : Int) by first | assumption | omega) (show (2 : Int) ≤ 2 by first | assumption | omega) i3) (fun r152 hr153 => ?_)
        obtain ⟨i154, ⟨u158, u159, u160⟩, p155, p156, p157⟩ := hr153
        have u161 := kp_t u4 u158
        have v162 : q_V r152.2 = q_V δ := (u159).trans v5
        have v163 := kr_t v6 u160
        have f164 := bo_l p155
        have f165 := ti_b r152.1
        replace p156 : ((r152.1).toInt = 1 → (1 : Int) ≠ 0) := p156
        have f166 := ti_b (q_I d1 12 0 a0)
        have f167 : (q_I d1 12 0 a0).toInt = (0 : Int) := congrArg Int32.toInt (show q_I d1 12 0 a0 = (0 : Int32) by rw [e2]; exact rI_s)
        replace p157 : ((q_I d1 12 0 a0).toInt = 0 → (r152.1).toInt = 0 → (1 : Int) = 0) := p157
        have f168 := ti_b r152.1
        refine ok_ite (fun h169 => ?_) (fun h169 => ?_)
        · have c170 : r152.1.toInt = (0 : Int) := o_eq h169
          exact ok_some (show RI ad h.1 δ0 r152.2 ∧ (kp [(12, 0), (12, 36), (12, 37), (12, 38), (12, 39)] δ r152.2 ∧ q_V r152.2 = q_V δ ∧ kr ad [100, 119, 120, 121] δ r152.2) from ⟨i154, ⟨kp_w (by decide) u161, v162, kr_w (by decide) v163⟩⟩)
        · have c171 : r152.1.toInt ≠ (0 : Int) := o_ne h169
          refine ok_bind (k_X12_findWorst L hN (a0 := a0) (x1 := x1) (x2 := x2) k_a0 (show 0 ≤ (x2).toInt by first | assumption | omega) (show (x2).toInt ≤ 16 by first | assumption | omega) i154) (fun r172 hr173 => ?_)
          obtain ⟨i174, ⟨u175, u176, u177⟩⟩ := hr173
          have u178 := kp_t u161 u175
          have v179 : q_V r172 = q_V δ := (u176).trans v162
          have v180 := kr_t v163 u177
          refine ok_ite (fun h181 => ?_) (fun h181 => ?_)
          · have c182 : x3.toInt = (0 : Int) := o_eq h181
            unfold J_X12_worst_78
            exact ok_some (show RI ad h.1 δ0 r172 ∧ (kp [(12, 0), (12, 36), (12, 37), (12, 38), (12, 39)] δ r172 ∧ q_V r172 = q_V δ ∧ kr ad [100, 119, 120, 121] δ r172) from ⟨i174, ⟨kp_w (by decide) u178, v179, kr_w (by decide) v180⟩⟩)
          · have c183 : x3.toInt ≠ (0 : Int) := o_ne h181
            refine ok_ite (fun h184 => ?_) (fun h184 => ?_)
            · have c185 : x3.toInt = (1 : Int) := o_eq h184
              unfold J_X12_worst_78
              exact ok_some (show RI ad h.1 δ0 r172 ∧ (kp [(12, 0), (12, 36), (12, 37), (12, 38), (12, 39)] δ r172 ∧ q_V r172 = q_V δ ∧ kr ad [100, 119, 120, 121] δ r172) from ⟨i174, ⟨kp_w (by decide) u178, v179, kr_w (by decide) v180⟩⟩)
            · have c186 : x3.toInt ≠ (1 : Int) := o_ne h184
              unfold J_X12_worst_78
              exact ok_some (show RI ad h.1 δ0 r172 ∧ (kp [(12, 0), (12, 36), (12, 37), (12, 38), (12, 39)] δ r172 ∧ q_V r172 = q_V δ ∧ kr ad [100, 119, 120, 121] δ r172) from ⟨i174, ⟨kp_w (by decide) u178, v179, kr_w (by decide) v180⟩⟩)
set_option maxHeartbeats 4000000 in
theorem k_X12_bad {ad : List Nat} {h : hp} (L : Lay TLx ad h) {δ0 : dp} {N : Nat} (hN : 10000000 ≤ N) {a0 : Nat} {x1 : Int32} {x2 : Int32} {x3 : Int32} (k_a0 : q_K h.1 a0 = 12) {δ : dp} (I : RI ad h.1 δ0 δ) : ok (D_X12_bad N h.1 a0 x1 x2 x3 δ) (fun r => RI ad h.1 δ0 r.2 ∧ (kp [(12, 0), (12, 36), (12, 37), (12, 38), (12, 39)] δ r.2 ∧ q_V r.2 = q_V δ ∧ kr ad [100, 119, 120, 121] δ r.2)) := by
  unfold D_X12_bad
  refine ok_bdv (fun d1 e2 => ?_)
  have i3 : RI ad h.1 δ0 d1 := by rw [e2]; exact cs_12_0 L I
  have u4 := kp_I kp_r e2
  have v5 : q_V d1 = q_V δ := ((show q_V d1 = q_V δ by rw [e2]; rfl)).trans rfl
  have v6 := kr_N (kr_r (ad := ad)) (show q_R d1 = q_R δ by rw [e2]; rfl)
  refine ok_bind (k_X12_isCall L hN (x0 := x1)  i3) (fun r7 hr8 => ?_)
  obtain ⟨i9, p10, p11⟩ := hr8
  try rw [i9]
  have f12 := bo_l p10
  have f13 := ti_b r7.1
  have f14 := ti_b x1
  have f15 := ti_b r7.1
  refine ok_ite (fun h16 => ?_) (fun h16 => ?_)
  · have c17 : r7.1.toInt = (0 : Int) := o_eq h16
    unfold J_X12_bad_25
    unfold J_X12_bad_26
    refine ok_bind (k_X12_may L hN (a0 := a0) (x1 := (0 : Int32)) (x2 := (1 : Int32)) (x3 := (2 : Int32)) k_a0 (show (1 : Int) ≠ 0 by first | assumption | omega) (show 0 ≤ (2 : Int) by first | assumption | omega) (show (2 : Int) ≤ 2 by first | assumption | omega) i3) (fun r18 hr19 => ?_)
    obtain ⟨i20, ⟨u24, u25, u26⟩, p21, p22, p23⟩ := hr19
    have u27 := kp_t u4 u24
    have v28 : q_V r18.2 = q_V δ := (u25).trans v5
    have v29 := kr_t v6 u26
    have f30 := bo_l p21
    have f31 := ti_b r18.1
    replace p22 : ((r18.1).toInt = 1 → (0 : Int) ≠ 0) := p22
    have f32 := ti_b (q_I d1 12 0 a0)
    have f33 : (q_I d1 12 0 a0).toInt = (0 : Int) := congrArg Int32.toInt (show q_I d1 12 0 a0 = (0 : Int32) by rw [e2]; exact rI_s)
    replace p23 : ((q_I d1 12 0 a0).toInt = 0 → (r18.1).toInt = 0 → (0 : Int) = 0) := p23
    have f34 := ti_b r18.1
    refine ok_ite (fun h35 => ?_) (fun h35 => ?_)
    · have c36 : r18.1.toInt = (0 : Int) := o_eq h35
      exact ok_some (show RI ad h.1 δ0 r18.2 ∧ (kp [(12, 0), (12, 36), (12, 37), (12, 38), (12, 39)] δ r18.2 ∧ q_V r18.2 = q_V δ ∧ kr ad [100, 119, 120, 121] δ r18.2) from ⟨i20, ⟨kp_w (by decide) u27, v28, kr_w (by decide) v29⟩⟩)
    · have c37 : r18.1.toInt ≠ (0 : Int) := o_ne h35
      have f40 := ti_b x2
      refine ok_bind (k_X12_findWorst L hN (a0 := a0) (x1 := x1) (x2 := x2) k_a0 (show 0 ≤ (x2).toInt by first | assumption | omega) (show (x2).toInt ≤ 16 by first | assumption | omega) i20) (fun r38 hr39 => ?_)
      obtain ⟨i41, ⟨u42, u43, u44⟩⟩ := hr39
      have u45 := kp_t u27 u42
      have v46 : q_V r38 = q_V δ := (u43).trans v28
      have v47 := kr_t v29 u44
      refine ok_bind (k_X12_within L hN (x0 := x3) (x1 := (0 : Int32)) (x2 := ((q_I r38 12 38 a0) - (1 : Int32)))  i41) (fun r48 hr49 => ?_)
      obtain ⟨i50, p51, p52, p53⟩ := hr49
      try rw [i50]
      have f54 := bo_l p51
      have f55 := ti_b r48.1
      have f56 := ti_b x3
      have f57 := cb_12_38 i41 k_a0
      first | (have q59 := te_subc (c := 1) (n := 1) rfl (q_I r38 12 38 a0) (by omega) (by omega); obtain ⟨f60, f61, f62⟩ := q59) | (obtain ⟨q59, f60, f61, f62⟩ := ti_subc (c := 1) (n := 1) rfl (q_I r38 12 38 a0))
      replace p52 : ((r48.1).toInt = 1 → (0 : Int) ≤ (x3).toInt ∧ (x3).toInt ≤ (((q_I r38 12 38 a0) - (1 : Int32))).toInt) := p52
      replace p53 : ((r48.1).toInt = 0 → (x3).toInt < (0 : Int) ∨ (((q_I r38 12 38 a0) - (1 : Int32))).toInt < (x3).toInt) := p53
      have f63 := ti_b r48.1
      refine ok_ite (fun h64 => ?_) (fun h64 => ?_)
      · have c65 : r48.1.toInt = (0 : Int) := o_eq h64
        unfold J_X12_bad_66
        exact ok_some (show RI ad h.1 δ0 r38 ∧ (kp [(12, 0), (12, 36), (12, 37), (12, 38), (12, 39)] δ r38 ∧ q_V r38 = q_V δ ∧ kr ad [100, 119, 120, 121] δ r38) from ⟨i41, ⟨kp_w (by decide) u45, v46, kr_w (by decide) v47⟩⟩)
      · have c66 : r48.1.toInt ≠ (0 : Int) := o_ne h64
        obtain ⟨b67, o68, k69, n70, w71⟩ := gO_12_41 L k_a0
        obtain rfl := gS_12_41 L k_a0 o68
        refine ok_at o68 ?_
        have t72 := ti_tn x3
        refine ok_gd (fun hc73 => ?_) ?_
        · rcases hc73 with hc73 | hc73
          · have c74 : x3.toInt < (0 : Int) := o_lt hc73
            omega
          · omega
        unfold J_X12_bad_66
        exact ok_some (show RI ad h.1 δ0 r38 ∧ (kp [(12, 0), (12, 36), (12, 37), (12, 38), (12, 39)] δ r38 ∧ q_V r38 = q_V δ ∧ kr ad [100, 119, 120, 121] δ r38) from ⟨i41, ⟨kp_w (by decide) u45, v46, kr_w (by decide) v47⟩⟩)
  · have c75 : r7.1.toInt ≠ (0 : Int) := o_ne h16
    refine ok_bind (k_X12_isWorst L hN (a0 := a0) (x1 := x2) k_a0 i3) (fun r76 hr77 => ?_)
    obtain ⟨i78, p79, p80⟩ := hr77
    try rw [i78]
    have f81 := bo_l p79
    have f82 := ti_b r76.1
    have f83 := ti_b x2
    have f84 := ti_b r76.1
    refine ok_ite (fun h85 => ?_) (fun h85 => ?_)
    · have c86 : r76.1.toInt = (0 : Int) := o_eq h85
      unfold J_X12_bad_25
      unfold J_X12_bad_26
      refine ok_bind (k_X12_may L hN (a0 := a0) (x1 := (0 : Int32)) (x2 := (1 : Int32)) (x3 := (2 : Int32)) k_a0 (show (1 : Int) ≠ 0 by first | assumption | omega) (show 0 ≤ (2 : Int) by first | assumption | omega) (show (2 : Int) ≤ 2 by first | assumption | omega) i3) (fun r87 hr88 => ?_)
      obtain ⟨i89, ⟨u93, u94, u95⟩, p90, p91, p92⟩ := hr88
      have u96 := kp_t u4 u93
      have v97 : q_V r87.2 = q_V δ := (u94).trans v5
      have v98 := kr_t v6 u95
      have f99 := bo_l p90
      have f100 := ti_b r87.1
      replace p91 : ((r87.1).toInt = 1 → (0 : Int) ≠ 0) := p91
      have f101 := ti_b (q_I d1 12 0 a0)
      have f102 : (q_I d1 12 0 a0).toInt = (0 : Int) := congrArg Int32.toInt (show q_I d1 12 0 a0 = (0 : Int32) by rw [e2]; exact rI_s)
      replace p92 : ((q_I d1 12 0 a0).toInt = 0 → (r87.1).toInt = 0 → (0 : Int) = 0) := p92
      have f103 := ti_b r87.1
      refine ok_ite (fun h104 => ?_) (fun h104 => ?_)
      · have c105 : r87.1.toInt = (0 : Int) := o_eq h104
        exact ok_some (show RI ad h.1 δ0 r87.2 ∧ (kp [(12, 0), (12, 36), (12, 37), (12, 38), (12, 39)] δ r87.2 ∧ q_V r87.2 = q_V δ ∧ kr ad [100, 119, 120, 121] δ r87.2) from ⟨i89, ⟨kp_w (by decide) u96, v97, kr_w (by decide) v98⟩⟩)
      · have c106 : r87.1.toInt ≠ (0 : Int) := o_ne h104
        refine ok_bind (k_X12_findWorst L hN (a0 := a0) (x1 := x1) (x2 := x2) k_a0 (show 0 ≤ (x2).toInt by first | assumption | omega) (show (x2).toInt ≤ 16 by first | assumption | omega) i89) (fun r107 hr108 => ?_)
        obtain ⟨i109, ⟨u110, u111, u112⟩⟩ := hr108
        have u113 := kp_t u96 u110
        have v114 : q_V r107 = q_V δ := (u111).trans v97
        have v115 := kr_t v98 u112
        refine ok_bind (k_X12_within L hN (x0 := x3) (x1 := (0 : Int32)) (x2 := ((q_I r107 12 38 a0) - (1 : Int32)))  i109) (fun r116 hr117 => ?_)
        obtain ⟨i118, p119, p120, p121⟩ := hr117
        try rw [i118]
        have f122 := bo_l p119
        have f123 := ti_b r116.1
        have f124 := ti_b x3
        have f125 := cb_12_38 i109 k_a0
        first | (have q127 := te_subc (c := 1) (n := 1) rfl (q_I r107 12 38 a0) (by omega) (by omega); obtain ⟨f128, f129, f130⟩ := q127) | (obtain ⟨q127, f128, f129, f130⟩ := ti_subc (c := 1) (n := 1) rfl (q_I r107 12 38 a0))
        replace p120 : ((r116.1).toInt = 1 → (0 : Int) ≤ (x3).toInt ∧ (x3).toInt ≤ (((q_I r107 12 38 a0) - (1 : Int32))).toInt) := p120
        replace p121 : ((r116.1).toInt = 0 → (x3).toInt < (0 : Int) ∨ (((q_I r107 12 38 a0) - (1 : Int32))).toInt < (x3).toInt) := p121
        have f131 := ti_b r116.1
        refine ok_ite (fun h132 => ?_) (fun h132 => ?_)
        · have c133 : r116.1.toInt = (0 : Int) := o_eq h132
          unfold J_X12_bad_66
          exact ok_some (show RI ad h.1 δ0 r107 ∧ (kp [(12, 0), (12, 36), (12, 37), (12, 38), (12, 39)] δ r107 ∧ q_V r107 = q_V δ ∧ kr ad [100, 119, 120, 121] δ r107) from ⟨i109, ⟨kp_w (by decide) u113, v114, kr_w (by decide) v115⟩⟩)
        · have c134 : r116.1.toInt ≠ (0 : Int) := o_ne h132
          obtain ⟨b135, o136, k137, n138, w139⟩ := gO_12_41 L k_a0
          obtain rfl := gS_12_41 L k_a0 o136
          refine ok_at o136 ?_
          have t140 := ti_tn x3
          refine ok_gd (fun hc141 => ?_) ?_
          · rcases hc141 with hc141 | hc141
            · have c142 : x3.toInt < (0 : Int) := o_lt hc141
              omega
            · omega
          unfold J_X12_bad_66
          exact ok_some (show RI ad h.1 δ0 r107 ∧ (kp [(12, 0), (12, 36), (12, 37), (12, 38), (12, 39)] δ r107 ∧ q_V r107 = q_V δ ∧ kr ad [100, 119, 120, 121] δ r107) from ⟨i109, ⟨kp_w (by decide) u113, v114, kr_w (by decide) v115⟩⟩)
    · have c143 : r76.1.toInt ≠ (0 : Int) := o_ne h85
      unfold J_X12_bad_26
      refine ok_bind (k_X12_may L hN (a0 := a0) (x1 := (1 : Int32)) (x2 := (1 : Int32)) (x3 := (2 : Int32)) k_a0 (show (1 : Int) ≠ 0 by first | assumption | omega) (show 0 ≤ (2 : Int) by first | assumption | omega) (show (2 : Int) ≤ 2 by first | assumption | omega) i3) (fun r144 hr145 => ?_)
      obtain ⟨i146, ⟨u150, u151, u152⟩, p147, p148, p149⟩ := hr145
      have u153 := kp_t u4 u150
      have v154 : q_V r144.2 = q_V δ := (u151).trans v5
      have v155 := kr_t v6 u152
      have f156 := bo_l p147
      have f157 := ti_b r144.1
      replace p148 : ((r144.1).toInt = 1 → (1 : Int) ≠ 0) := p148
      have f158 := ti_b (q_I d1 12 0 a0)
      have f159 : (q_I d1 12 0 a0).toInt = (0 : Int) := congrArg Int32.toInt (show q_I d1 12 0 a0 = (0 : Int32) by rw [e2]; exact rI_s)
      replace p149 : ((q_I d1 12 0 a0).toInt = 0 → (r144.1).toInt = 0 → (1 : Int) = 0) := p149
      have f160 := ti_b r144.1
      refine ok_ite (fun h161 => ?_) (fun h161 => ?_)
      · have c162 : r144.1.toInt = (0 : Int) := o_eq h161
        exact ok_some (show RI ad h.1 δ0 r144.2 ∧ (kp [(12, 0), (12, 36), (12, 37), (12, 38), (12, 39)] δ r144.2 ∧ q_V r144.2 = q_V δ ∧ kr ad [100, 119, 120, 121] δ r144.2) from ⟨i146, ⟨kp_w (by decide) u153, v154, kr_w (by decide) v155⟩⟩)
      · have c163 : r144.1.toInt ≠ (0 : Int) := o_ne h161
        refine ok_bind (k_X12_findWorst L hN (a0 := a0) (x1 := x1) (x2 := x2) k_a0 (show 0 ≤ (x2).toInt by first | assumption | omega) (show (x2).toInt ≤ 16 by first | assumption | omega) i146) (fun r164 hr165 => ?_)
        obtain ⟨i166, ⟨u167, u168, u169⟩⟩ := hr165
        have u170 := kp_t u153 u167
        have v171 : q_V r164 = q_V δ := (u168).trans v154
        have v172 := kr_t v155 u169
        refine ok_bind (k_X12_within L hN (x0 := x3) (x1 := (0 : Int32)) (x2 := ((q_I r164 12 38 a0) - (1 : Int32)))  i166) (fun r173 hr174 => ?_)
        obtain ⟨i175, p176, p177, p178⟩ := hr174
        try rw [i175]
        have f179 := bo_l p176
        have f180 := ti_b r173.1
        have f181 := ti_b x3
        have f182 := cb_12_38 i166 k_a0
        first | (have q184 := te_subc (c := 1) (n := 1) rfl (q_I r164 12 38 a0) (by omega) (by omega); obtain ⟨f185, f186, f187⟩ := q184) | (obtain ⟨q184, f185, f186, f187⟩ := ti_subc (c := 1) (n := 1) rfl (q_I r164 12 38 a0))
        replace p177 : ((r173.1).toInt = 1 → (0 : Int) ≤ (x3).toInt ∧ (x3).toInt ≤ (((q_I r164 12 38 a0) - (1 : Int32))).toInt) := p177
        replace p178 : ((r173.1).toInt = 0 → (x3).toInt < (0 : Int) ∨ (((q_I r164 12 38 a0) - (1 : Int32))).toInt < (x3).toInt) := p178
        have f188 := ti_b r173.1
        refine ok_ite (fun h189 => ?_) (fun h189 => ?_)
        · have c190 : r173.1.toInt = (0 : Int) := o_eq h189
          unfold J_X12_bad_66
          exact ok_some (show RI ad h.1 δ0 r164 ∧ (kp [(12, 0), (12, 36), (12, 37), (12, 38), (12, 39)] δ r164 ∧ q_V r164 = q_V δ ∧ kr ad [100, 119, 120, 121] δ r164) from ⟨i166, ⟨kp_w (by decide) u170, v171, kr_w (by decide) v172⟩⟩)
        · have c191 : r173.1.toInt ≠ (0 : Int) := o_ne h189
          obtain ⟨b192, o193, k194, n195, w196⟩ := gO_12_41 L k_a0
          obtain rfl := gS_12_41 L k_a0 o193
          refine ok_at o193 ?_
          have t197 := ti_tn x3
          refine ok_gd (fun hc198 => ?_) ?_
          · rcases hc198 with hc198 | hc198
            · have c199 : x3.toInt < (0 : Int) := o_lt hc198
              omega
            · omega
          unfold J_X12_bad_66
          exact ok_some (show RI ad h.1 δ0 r164 ∧ (kp [(12, 0), (12, 36), (12, 37), (12, 38), (12, 39)] δ r164 ∧ q_V r164 = q_V δ ∧ kr ad [100, 119, 120, 121] δ r164) from ⟨i166, ⟨kp_w (by decide) u170, v171, kr_w (by decide) v172⟩⟩)
set_option maxHeartbeats 4000000 in
theorem k_X12_reached {ad : List Nat} {h : hp} (L : Lay TLx ad h) {δ0 : dp} {N : Nat} (hN : 10000000 ≤ N) {a0 : Nat} {x1 : Int32} (k_a0 : q_K h.1 a0 = 12) {δ : dp} (I : RI ad h.1 δ0 δ) : ok (D_X12_reached N h.1 a0 x1 δ) (fun r => RI ad h.1 δ0 r.2 ∧ (kp [(12, 0), (12, 36), (12, 37), (12, 38), (12, 39)] δ r.2 ∧ q_V r.2 = q_V δ ∧ kr ad [100, 119, 120, 121] δ r.2)) := by
  unfold D_X12_reached
  refine ok_bdv (fun d1 e2 => ?_)
  have i3 : RI ad h.1 δ0 d1 := by rw [e2]; exact cs_12_0 L I
  have u4 := kp_I kp_r e2
  have v5 : q_V d1 = q_V δ := ((show q_V d1 = q_V δ by rw [e2]; rfl)).trans rfl
  have v6 := kr_N (kr_r (ad := ad)) (show q_R d1 = q_R δ by rw [e2]; rfl)
  refine ok_bind (k_X12_isCall L hN (x0 := x1)  i3) (fun r7 hr8 => ?_)
  obtain ⟨i9, p10, p11⟩ := hr8
  try rw [i9]
  have f12 := bo_l p10
  have f13 := ti_b r7.1
  have f14 := ti_b x1
  have f15 := ti_b r7.1
  refine ok_ite (fun h16 => ?_) (fun h16 => ?_)
  · have c17 : r7.1.toInt = (0 : Int) := o_eq h16
    unfold J_X12_reached_26
    unfold J_X12_reached_27
    refine ok_bind (k_X12_may L hN (a0 := a0) (x1 := (0 : Int32)) (x2 := (1 : Int32)) (x3 := (2 : Int32)) k_a0 (show (1 : Int) ≠ 0 by first | assumption | omega) (show 0 ≤ (2 : Int) by first | assumption | omega) (show (2 : Int) ≤ 2 by first | assumption | omega) i3) (fun r18 hr19 => ?_)
    obtain ⟨i20, ⟨u24, u25, u26⟩, p21, p22, p23⟩ := hr19
    have u27 := kp_t u4 u24
    have v28 : q_V r18.2 = q_V δ := (u25).trans v5
    have v29 := kr_t v6 u26
    have f30 := bo_l p21
    have f31 := ti_b r18.1
    replace p22 : ((r18.1).toInt = 1 → (0 : Int) ≠ 0) := p22
    have f32 := ti_b (q_I d1 12 0 a0)
    have f33 : (q_I d1 12 0 a0).toInt = (0 : Int) := congrArg Int32.toInt (show q_I d1 12 0 a0 = (0 : Int32) by rw [e2]; exact rI_s)
    replace p23 : ((q_I d1 12 0 a0).toInt = 0 → (r18.1).toInt = 0 → (0 : Int) = 0) := p23
    have f34 := ti_b r18.1
    refine ok_ite (fun h35 => ?_) (fun h35 => ?_)
    · have c36 : r18.1.toInt = (0 : Int) := o_eq h35
      exact ok_some (show RI ad h.1 δ0 r18.2 ∧ (kp [(12, 0), (12, 36), (12, 37), (12, 38), (12, 39)] δ r18.2 ∧ q_V r18.2 = q_V δ ∧ kr ad [100, 119, 120, 121] δ r18.2) from ⟨i20, ⟨kp_w (by decide) u27, v28, kr_w (by decide) v29⟩⟩)
    · have c37 : r18.1.toInt ≠ (0 : Int) := o_ne h35
      refine ok_bind (k_X12_mostSet L hN (a0 := a0) k_a0 i20) (fun r38 hr39 => ?_)
      obtain ⟨i40, p41, p42⟩ := hr39
      try rw [i40]
      have f43 := ti_b r38.1
      have f44 := ti_b r38.1
      refine ok_bind (k_X12_findWorst L hN (a0 := a0) (x1 := x1) (x2 := r38.1) k_a0 (show 0 ≤ (r38.1).toInt by first | assumption | omega) (show (r38.1).toInt ≤ 16 by first | assumption | omega) i20) (fun r45 hr46 => ?_)
      obtain ⟨i47, ⟨u48, u49, u50⟩⟩ := hr46
      have u51 := kp_t u27 u48
      have v52 : q_V r45 = q_V δ := (u49).trans v28
      have v53 := kr_t v29 u50
      have f56 := cb_12_10 i47 k_a0
      have f57 : (q_I r45 12 10 a0).toInt = (q_I r18.2 12 10 a0).toInt := congrArg Int32.toInt (u48 12 10 a0 (by decide))
      have f58 := cb_12_10 i20 k_a0
      have f59 : (q_I r18.2 12 10 a0).toInt = (q_I d1 12 10 a0).toInt := congrArg Int32.toInt (u24 12 10 a0 (by decide))
      have f60 := cb_12_10 i3 k_a0
      have f61 : (q_I d1 12 10 a0).toInt = (q_I δ 12 10 a0).toInt := congrArg Int32.toInt (by rw [e2]; exact rI_o (by decide))
      have f62 := cb_12_10 I k_a0
      refine ok_bind (k_X12_boundOf L hN (a0 := a0) (x1 := x1) (x2 := (q_I r45 12 10 a0)) k_a0 (show 0 ≤ ((q_I r45 12 10 a0)).toInt by first | assumption | omega) (show ((q_I r45 12 10 a0)).toInt ≤ 16 by first | assumption | omega) (show ((q_I r45 12 10 a0)).toInt < 20 by first | assumption | omega) i47) (fun r54 hr55 => ?_)
      have i63 := hr55
      try rw [i63]
      have f64 := ti_b r54.1
      have f65 := ti_b (q_I r45 12 37 a0)
      refine ok_ite (fun h66 => ?_) (fun h66 => ?_)
      · have c67 : (q_I r45 12 37 a0).toInt = r54.1.toInt := o_eq h66
        unfold J_X12_reached_70
        exact ok_some (show RI ad h.1 δ0 r45 ∧ (kp [(12, 0), (12, 36), (12, 37), (12, 38), (12, 39)] δ r45 ∧ q_V r45 = q_V δ ∧ kr ad [100, 119, 120, 121] δ r45) from ⟨i47, ⟨kp_w (by decide) u51, v52, kr_w (by decide) v53⟩⟩)
      · have c68 : (q_I r45 12 37 a0).toInt ≠ r54.1.toInt := o_ne h66
        unfold J_X12_reached_70
        exact ok_some (show RI ad h.1 δ0 r45 ∧ (kp [(12, 0), (12, 36), (12, 37), (12, 38), (12, 39)] δ r45 ∧ q_V r45 = q_V δ ∧ kr ad [100, 119, 120, 121] δ r45) from ⟨i47, ⟨kp_w (by decide) u51, v52, kr_w (by decide) v53⟩⟩)
  · have c69 : r7.1.toInt ≠ (0 : Int) := o_ne h16
    have f70 := cb_12_10 i3 k_a0
    have f71 : (q_I d1 12 10 a0).toInt = (q_I δ 12 10 a0).toInt := congrArg Int32.toInt (by rw [e2]; exact rI_o (by decide))
    have f72 := cb_12_10 I k_a0
    refine ok_ite (fun h73 => ?_) (fun h73 => ?_)
    · have c74 : (6 : Int) < (q_I d1 12 10 a0).toInt := o_lt h73
      unfold J_X12_reached_26
      unfold J_X12_reached_27
      refine ok_bind (k_X12_may L hN (a0 := a0) (x1 := (0 : Int32)) (x2 := (1 : Int32)) (x3 := (2 : Int32)) k_a0 (show (1 : Int) ≠ 0 by first | assumption | omega) (show 0 ≤ (2 : Int) by first | assumption | omega) (show (2 : Int) ≤ 2 by first | assumption | omega) i3) (fun r75 hr76 => ?_)
      obtain ⟨i77, ⟨u81, u82, u83⟩, p78, p79, p80⟩ := hr76
      have u84 := kp_t u4 u81
      have v85 : q_V r75.2 = q_V δ := (u82).trans v5
      have v86 := kr_t v6 u83
      have f87 := bo_l p78
      have f88 := ti_b r75.1
      replace p79 : ((r75.1).toInt = 1 → (0 : Int) ≠ 0) := p79
      have f89 := ti_b (q_I d1 12 0 a0)
      have f90 : (q_I d1 12 0 a0).toInt = (0 : Int) := congrArg Int32.toInt (show q_I d1 12 0 a0 = (0 : Int32) by rw [e2]; exact rI_s)
      replace p80 : ((q_I d1 12 0 a0).toInt = 0 → (r75.1).toInt = 0 → (0 : Int) = 0) := p80
      have f91 := ti_b r75.1
      refine ok_ite (fun h92 => ?_) (fun h92 => ?_)
      · have c93 : r75.1.toInt = (0 : Int) := o_eq h92
        exact ok_some (show RI ad h.1 δ0 r75.2 ∧ (kp [(12, 0), (12, 36), (12, 37), (12, 38), (12, 39)] δ r75.2 ∧ q_V r75.2 = q_V δ ∧ kr ad [100, 119, 120, 121] δ r75.2) from ⟨i77, ⟨kp_w (by decide) u84, v85, kr_w (by decide) v86⟩⟩)
      · have c94 : r75.1.toInt ≠ (0 : Int) := o_ne h92
        refine ok_bind (k_X12_mostSet L hN (a0 := a0) k_a0 i77) (fun r95 hr96 => ?_)
        obtain ⟨i97, p98, p99⟩ := hr96
        try rw [i97]
        have f100 := ti_b r95.1
        have f101 := ti_b r95.1
        refine ok_bind (k_X12_findWorst L hN (a0 := a0) (x1 := x1) (x2 := r95.1) k_a0 (show 0 ≤ (r95.1).toInt by first | assumption | omega) (show (r95.1).toInt ≤ 16 by first | assumption | omega) i77) (fun r102 hr103 => ?_)
        obtain ⟨i104, ⟨u105, u106, u107⟩⟩ := hr103
        have u108 := kp_t u84 u105
        have v109 : q_V r102 = q_V δ := (u106).trans v85
        have v110 := kr_t v86 u107
        have f113 := cb_12_10 i104 k_a0
        have f114 : (q_I r102 12 10 a0).toInt = (q_I r75.2 12 10 a0).toInt := congrArg Int32.toInt (u105 12 10 a0 (by decide))
        have f115 := cb_12_10 i77 k_a0
        have f116 : (q_I r75.2 12 10 a0).toInt = (q_I d1 12 10 a0).toInt := congrArg Int32.toInt (u81 12 10 a0 (by decide))
        refine ok_bind (k_X12_boundOf L hN (a0 := a0) (x1 := x1) (x2 := (q_I r102 12 10 a0)) k_a0 (show 0 ≤ ((q_I r102 12 10 a0)).toInt by first | assumption | omega) (show ((q_I r102 12 10 a0)).toInt ≤ 16 by first | assumption | omega) (show ((q_I r102 12 10 a0)).toInt < 20 by first | assumption | omega) i104) (fun r111 hr112 => ?_)
        have i117 := hr112
        try rw [i117]
        have f118 := ti_b r111.1
        have f119 := ti_b (q_I r102 12 37 a0)
        refine ok_ite (fun h120 => ?_) (fun h120 => ?_)
        · have c121 : (q_I r102 12 37 a0).toInt = r111.1.toInt := o_eq h120
          unfold J_X12_reached_70
          exact ok_some (show RI ad h.1 δ0 r102 ∧ (kp [(12, 0), (12, 36), (12, 37), (12, 38), (12, 39)] δ r102 ∧ q_V r102 = q_V δ ∧ kr ad [100, 119, 120, 121] δ r102) from ⟨i104, ⟨kp_w (by decide) u108, v109, kr_w (by decide) v110⟩⟩)
        · have c122 : (q_I r102 12 37 a0).toInt ≠ r111.1.toInt := o_ne h120
          unfold J_X12_reached_70
          exact ok_some (show RI ad h.1 δ0 r102 ∧ (kp [(12, 0), (12, 36), (12, 37), (12, 38), (12, 39)] δ r102 ∧ q_V r102 = q_V δ ∧ kr ad [100, 119, 120, 121] δ r102) from ⟨i104, ⟨kp_w (by decide) u108, v109, kr_w (by decide) v110⟩⟩)
    · have c123 : (q_I d1 12 10 a0).toInt ≤ (6 : Int) := o_nlt h73
      unfold J_X12_reached_27
      refine ok_bind (k_X12_may L hN (a0 := a0) (x1 := (1 : Int32)) (x2 := (1 : Int32)) (x3 := (2 : Int32)) k_a0 (show (1 : Int) ≠ 0 by first | assumption | omega) (show 0 ≤ (2 : Int) by first | assumption | omega) (show (2 : Int) ≤ 2 by first | assumption | omega) i3) (fun r124 hr125 => ?_)
      obtain ⟨i126, ⟨u130, u131, u132⟩, p127, p128, p129⟩ := hr125
      have u133 := kp_t u4 u130
      have v134 : q_V r124.2 = q_V δ := (u131).trans v5
      have v135 := kr_t v6 u132
      have f136 := bo_l p127
      have f137 := ti_b r124.1
      replace p128 : ((r124.1).toInt = 1 → (1 : Int) ≠ 0) := p128
      have f138 := ti_b (q_I d1 12 0 a0)
      have f139 : (q_I d1 12 0 a0).toInt = (0 : Int) := congrArg Int32.toInt (show q_I d1 12 0 a0 = (0 : Int32) by rw [e2]; exact rI_s)
      replace p129 : ((q_I d1 12 0 a0).toInt = 0 → (r124.1).toInt = 0 → (1 : Int) = 0) := p129
      have f140 := ti_b r124.1
      refine ok_ite (fun h141 => ?_) (fun h141 => ?_)
      · have c142 : r124.1.toInt = (0 : Int) := o_eq h141
        exact ok_some (show RI ad h.1 δ0 r124.2 ∧ (kp [(12, 0), (12, 36), (12, 37), (12, 38), (12, 39)] δ r124.2 ∧ q_V r124.2 = q_V δ ∧ kr ad [100, 119, 120, 121] δ r124.2) from ⟨i126, ⟨kp_w (by decide) u133, v134, kr_w (by decide) v135⟩⟩)
      · have c143 : r124.1.toInt ≠ (0 : Int) := o_ne h141
        refine ok_bind (k_X12_mostSet L hN (a0 := a0) k_a0 i126) (fun r144 hr145 => ?_)
        obtain ⟨i146, p147, p148⟩ := hr145
        try rw [i146]
        have f149 := ti_b r144.1
        have f150 := ti_b r144.1
        refine ok_bind (k_X12_findWorst L hN (a0 := a0) (x1 := x1) (x2 := r144.1) k_a0 (show 0 ≤ (r144.1).toInt by first | assumption | omega) (show (r144.1).toInt ≤ 16 by first | assumption | omega) i126) (fun r151 hr152 => ?_)
        obtain ⟨i153, ⟨u154, u155, u156⟩⟩ := hr152
        have u157 := kp_t u133 u154
        have v158 : q_V r151 = q_V δ := (u155).trans v134
        have v159 := kr_t v135 u156
        have f162 := cb_12_10 i153 k_a0
        have f163 : (q_I r151 12 10 a0).toInt = (q_I r124.2 12 10 a0).toInt := congrArg Int32.toInt (u154 12 10 a0 (by decide))
        have f164 := cb_12_10 i126 k_a0
        have f165 : (q_I r124.2 12 10 a0).toInt = (q_I d1 12 10 a0).toInt := congrArg Int32.toInt (u130 12 10 a0 (by decide))
        refine ok_bind (k_X12_boundOf L hN (a0 := a0) (x1 := x1) (x2 := (q_I r151 12 10 a0)) k_a0 (show 0 ≤ ((q_I r151 12 10 a0)).toInt by first | assumption | omega) (show ((q_I r151 12 10 a0)).toInt ≤ 16 by first | assumption | omega) (show ((q_I r151 12 10 a0)).toInt < 20 by first | assumption | omega) i153) (fun r160 hr161 => ?_)
        have i166 := hr161
        try rw [i166]
        have f167 := ti_b r160.1
        have f168 := ti_b (q_I r151 12 37 a0)
        refine ok_ite (fun h169 => ?_) (fun h169 => ?_)
        · have c170 : (q_I r151 12 37 a0).toInt = r160.1.toInt := o_eq h169
          unfold J_X12_reached_70
          exact ok_some (show RI ad h.1 δ0 r151 ∧ (kp [(12, 0), (12, 36), (12, 37), (12, 38), (12, 39)] δ r151 ∧ q_V r151 = q_V δ ∧ kr ad [100, 119, 120, 121] δ r151) from ⟨i153, ⟨kp_w (by decide) u157, v158, kr_w (by decide) v159⟩⟩)
        · have c171 : (q_I r151 12 37 a0).toInt ≠ r160.1.toInt := o_ne h169
          unfold J_X12_reached_70
          exact ok_some (show RI ad h.1 δ0 r151 ∧ (kp [(12, 0), (12, 36), (12, 37), (12, 38), (12, 39)] δ r151 ∧ q_V r151 = q_V δ ∧ kr ad [100, 119, 120, 121] δ r151) from ⟨i153, ⟨kp_w (by decide) u157, v158, kr_w (by decide) v159⟩⟩)
set_option maxHeartbeats 4000000 in
theorem kl_X12_touchSet_8 {ad : List Nat} {h : hp} (L : Lay TLx ad h) {δ0 : dp} {N : Nat} (hN : 10000000 ≤ N) {a0 : Nat} {x1 : Int32} {x2 : Int32} {x3 : Int32} (k_a0 : q_K h.1 a0 = 12) : ∀ (n : Nat) (x4v : Int32) (δ : dp), RI ad h.1 δ0 δ → 0 ≤ (x4v).toInt → (x4v).toInt ≤ 16 → (q_I δ 12 36 a0).toInt ≤ (x4v).toInt → 16 - (x4v).toInt < (n : Int) → ok (L_X12_touchSet_8 N h.1 a0 x1 x2 x3 n x4v δ) (fun r => RI ad h.1 δ0 r.2 ∧ (kp [(12, 36)] δ r.2 ∧ q_V r.2 = q_V δ ∧ kr ad [119] δ r.2) ∧ 1 ≤ (r.1).toInt ∧ (r.1).toInt ≤ 61) := by
  intro n
  induction n with
  | zero =>
    intro x4v δ I j0 j1 j2 hm
    have f1 := ti_b x4v
    have f2 := cb_12_36 I k_a0
    exfalso; omega
  | succ n ih =>
    intro x4v δ I j0 j1 j2 hm
    unfold L_X12_touchSet_8
    have f1 := ti_b x4v
    have f2 := cb_12_36 I k_a0
    refine ok_ite (fun h3 => ?_) (fun h3 => ?_)
    · have c4 : (16 : Int) ≤ x4v.toInt := o_le h3
      have f7 := cb_12_10 I k_a0
      have f8 := lgb ((q_I δ 12 10 a0)).toInt
      refine ok_bind (k_X12_touch L hN (a0 := a0) (x1 := x1) (x2 := x2) (x3 := (q_I δ 12 10 a0)) (x4 := (0 : Int32)) (x5 := (q_I δ 12 36 a0)) k_a0 (show 1 ≤ ((q_I δ 12 10 a0)).toInt by first | assumption | omega) (show ((q_I δ 12 10 a0)).toInt ≤ 16 by first | assumption | omega) (show 0 ≤ (0 : Int) by first | assumption | omega) (show (0 : Int) ≤ ((q_I δ 12 36 a0)).toInt by first | assumption | omega) (show ((q_I δ 12 36 a0)).toInt ≤ (0 : Int) + 2000 by first | assumption | omega) (show ((q_I δ 12 36 a0)).toInt ≤ (q_I δ 12 36 a0).toInt by first | assumption | omega) (show (q_I δ 12 36 a0).toInt + 2000 * LGf ((q_I δ 12 10 a0)).toInt ≤ 12000 by first | assumption | omega) (show ((q_I δ 12 10 a0)).toInt < 20 by first | assumption | omega) I) (fun r5 hr6 => ?_)
      obtain ⟨i9, ⟨u13, u14, u15⟩, p10, p11, p12⟩ := hr6
      have u16 := kp_t kp_r u13
      have v17 : q_V r5.2 = q_V δ := (u14).trans rfl
      have v18 := kr_t (kr_r (ad := ad)) u15
      have f19 := cb_12_36 i9 k_a0
      have f20 := ti_b r5.1
      have f21 := ti_b r5.1
      exact ok_some (show RI ad h.1 δ0 r5.2 ∧ (kp [(12, 36)] δ r5.2 ∧ q_V r5.2 = q_V δ ∧ kr ad [119] δ r5.2) ∧ 1 ≤ (r5.1).toInt ∧ (r5.1).toInt ≤ 61 from ⟨i9, ⟨kp_w (by decide) u16, v17, kr_w (by decide) v18⟩, by first | assumption | omega, by first | assumption | omega⟩)
    · have c22 : x4v.toInt < (16 : Int) := o_nle h3
      have f23 := ti_b ((x3 >>> (x4v &&& 31)) &&& (1 : Int32))
      refine ok_ite (fun h24 => ?_) (fun h24 => ?_)
      · have c25 : ((x3 >>> (x4v &&& 31)) &&& (1 : Int32)).toInt = (0 : Int) := o_eq h24
        unfold J_X12_touchSet_48
        refine ok_biv (fun vx26 e27 => ?_)
        first | (have q28 := te_addc (c := 1) (n := 1) rfl x4v (by omega) (by omega); rw [← e27] at q28; obtain ⟨f29, f30, f31⟩ := q28) | (obtain ⟨q28, f29, f30, f31⟩ : ∃ q : Int, vx26.toInt = x4v.toInt + (1 : Int) + 4294967296 * q ∧ -2147483648 ≤ vx26.toInt ∧ vx26.toInt ≤ 2147483647 := by rw [e27]; exact ti_addc (c := 1) (n := 1) rfl x4v)
        refine ok_mono (ih vx26 δ I (show 0 ≤ (vx26).toInt by first | assumption | omega) (show (vx26).toInt ≤ 16 by first | assumption | omega) (show (q_I δ 12 36 a0).toInt ≤ (vx26).toInt by first | assumption | omega) (show 16 - (vx26).toInt < _ by omega)) (fun r32 hr33 => ?_)
        obtain ⟨i34, ⟨u37, u38, u39⟩, p35, p36⟩ := hr33
        have u40 := kp_t kp_r u37
        have v41 : q_V r32.2 = q_V δ := (u38).trans rfl
        have v42 := kr_t (kr_r (ad := ad)) u39
        have f43 := ti_b r32.1
        have f44 := ti_b r32.1
        exact ⟨by assumption, ⟨kp_w (by decide) u40, v41, kr_w (by decide) v42⟩, by first | assumption | omega, by first | assumption | omega⟩
      · have c45 : ((x3 >>> (x4v &&& 31)) &&& (1 : Int32)).toInt ≠ (0 : Int) := o_ne h24
        obtain ⟨b46, o47, k48, n49, w50⟩ := gO_12_35 L k_a0
        obtain rfl := gS_12_35 L k_a0 o47
        refine ok_at o47 ?_
        have t51 := ti_tn (q_I δ 12 36 a0)
        refine ok_gd (fun hc52 => ?_) ?_
        · rcases hc52 with hc52 | hc52
          · have c53 : (q_I δ 12 36 a0).toInt < (0 : Int) := o_lt hc52
            omega
          · omega
        refine ok_bdv (fun d54 e55 => ?_)
        have i56 : RI ad h.1 δ0 d54 := by rw [e55]; exact RI.sR L I w50
        have u57 := kp_N kp_r (show q_I d54 = q_I δ by rw [e55]; rfl)
        have v58 : q_V d54 = q_V δ := ((show q_V d54 = q_V δ by rw [e55]; rfl)).trans rfl
        have v59 := kr_s L (by decide) (kr_r (ad := ad)) e55
        have f63 := cb_12_36 i56 k_a0
        have f64 : (q_I d54 12 36 a0).toInt = (q_I δ 12 36 a0).toInt := congrArg Int32.toInt (by rw [e55]; rfl)
        first | (have q66 := te_addc (c := 1) (n := 1) rfl (q_I d54 12 36 a0) (by omega) (by omega); obtain ⟨f67, f68, f69⟩ := q66) | (obtain ⟨q66, f67, f68, f69⟩ := ti_addc (c := 1) (n := 1) rfl (q_I d54 12 36 a0))
        refine ok_bdv (fun d60 e61 => ?_)
        have i62 : RI ad h.1 δ0 d60 := by rw [e61]; exact cs_12_36 L i56 k_a0 (show 0 ≤ ((q_I d54 12 36 a0) + (1 : Int32)).toInt by omega) (show ((q_I d54 12 36 a0) + (1 : Int32)).toInt ≤ 14000 by omega)
        have u70 := kp_I u57 e61
        have v71 : q_V d60 = q_V δ := ((show q_V d60 = q_V d54 by rw [e61]; rfl)).trans v58
        have v72 := kr_N v59 (show q_R d60 = q_R d54 by rw [e61]; rfl)
        unfold J_X12_touchSet_48
        refine ok_biv (fun vx73 e74 => ?_)
        first | (have q75 := te_addc (c := 1) (n := 1) rfl x4v (by omega) (by omega); rw [← e74] at q75; obtain ⟨f76, f77, f78⟩ := q75) | (obtain ⟨q75, f76, f77, f78⟩ : ∃ q : Int, vx73.toInt = x4v.toInt + (1 : Int) + 4294967296 * q ∧ -2147483648 ≤ vx73.toInt ∧ vx73.toInt ≤ 2147483647 := by rw [e74]; exact ti_addc (c := 1) (n := 1) rfl x4v)
        have f79 := cb_12_36 i62 k_a0
        have f80 : (q_I d60 12 36 a0).toInt = ((q_I d54 12 36 a0) + (1 : Int32)).toInt := congrArg Int32.toInt (show q_I d60 12 36 a0 = ((q_I d54 12 36 a0) + (1 : Int32)) by rw [e61]; exact rI_s)
        refine ok_mono (ih vx73 d60 i62 (show 0 ≤ (vx73).toInt by first | assumption | omega) (show (vx73).toInt ≤ 16 by first | assumption | omega) (show (q_I d60 12 36 a0).toInt ≤ (vx73).toInt by first | assumption | omega) (show 16 - (vx73).toInt < _ by omega)) (fun r81 hr82 => ?_)
        obtain ⟨i83, ⟨u86, u87, u88⟩, p84, p85⟩ := hr82
        have u89 := kp_t u70 u86
        have v90 : q_V r81.2 = q_V δ := (u87).trans v71
        have v91 := kr_t v72 u88
        have f92 := ti_b r81.1
        have f93 := ti_b r81.1
        exact ⟨by assumption, ⟨kp_w (by decide) u89, v90, kr_w (by decide) v91⟩, by first | assumption | omega, by first | assumption | omega⟩
set_option maxHeartbeats 4000000 in
theorem k_X12_touchSet {ad : List Nat} {h : hp} (L : Lay TLx ad h) {δ0 : dp} {N : Nat} (hN : 10000000 ≤ N) {a0 : Nat} {x1 : Int32} {x2 : Int32} {x3 : Int32} (k_a0 : q_K h.1 a0 = 12) {δ : dp} (I : RI ad h.1 δ0 δ) : ok (D_X12_touchSet N h.1 a0 x1 x2 x3 δ) (fun r => RI ad h.1 δ0 r.2 ∧ (kp [(12, 36)] δ r.2 ∧ q_V r.2 = q_V δ ∧ kr ad [119] δ r.2) ∧ 1 ≤ (r.1).toInt ∧ (r.1).toInt ≤ 61) := by
  unfold D_X12_touchSet
  refine ok_bdv (fun d1 e2 => ?_)
  have i3 : RI ad h.1 δ0 d1 := by rw [e2]; exact cs_12_36 L I k_a0 (show 0 ≤ (0 : Int) by omega) (show (0 : Int) ≤ 14000 by omega)
  have u4 := kp_I kp_r e2
  have v5 : q_V d1 = q_V δ := ((show q_V d1 = q_V δ by rw [e2]; rfl)).trans rfl
  have v6 := kr_N (kr_r (ad := ad)) (show q_R d1 = q_R δ by rw [e2]; rfl)
  have f7 := cb_12_36 i3 k_a0
  have f8 : (q_I d1 12 36 a0).toInt = (0 : Int) := congrArg Int32.toInt (show q_I d1 12 36 a0 = (0 : Int32) by rw [e2]; exact rI_s)
  refine ok_mono (kl_X12_touchSet_8 L hN   k_a0 _ (0 : Int32) d1 i3 (show 0 ≤ (0 : Int) by first | assumption | omega) (show (0 : Int) ≤ 16 by first | assumption | omega) (show (q_I d1 12 36 a0).toInt ≤ (0 : Int) by first | assumption | omega) (show 16 - (0 : Int) < _ by omega)) (fun r9 hr10 => ?_)
  obtain ⟨i11, ⟨u14, u15, u16⟩, p12, p13⟩ := hr10
  have u17 := kp_t u4 u14
  have v18 : q_V r9.2 = q_V δ := (u15).trans v5
  have v19 := kr_t v6 u16
  have f20 := ti_b r9.1
  have f21 := ti_b r9.1
  exact ⟨by assumption, ⟨kp_w (by decide) u17, v18, kr_w (by decide) v19⟩, by first | assumption | omega, by first | assumption | omega⟩
set_option maxHeartbeats 4000000 in
theorem k_X12_behind {ad : List Nat} {h : hp} (L : Lay TLx ad h) {δ0 : dp} {N : Nat} (hN : 10000000 ≤ N) {a0 : Nat} {x1 : Int32} {x2 : Int32} {x3 : Int32} (k_a0 : q_K h.1 a0 = 12) {δ : dp} (I : RI ad h.1 δ0 δ) : ok (D_X12_behind N h.1 a0 x1 x2 x3 δ) (fun r => r.2 = δ) := by
  unfold D_X12_behind
  have f1 := ti_b x1
  refine ok_ite (fun h2 => ?_) (fun h2 => ?_)
  · have c3 : x1.toInt = (0 : Int) := o_eq h2
    unfold J_X12_behind_28
    exact ok_some (show δ = δ from rfl)
  · have c4 : x1.toInt ≠ (0 : Int) := o_ne h2
    refine ok_ite (fun h5 => ?_) (fun h5 => ?_)
    · have c6 : x1.toInt = (1 : Int) := o_eq h5
      unfold J_X12_behind_28
      exact ok_some (show δ = δ from rfl)
    · have c7 : x1.toInt ≠ (1 : Int) := o_ne h5
      unfold J_X12_behind_28
      exact ok_some (show δ = δ from rfl)
set_option maxHeartbeats 4000000 in
theorem k_X12_isRow {ad : List Nat} {h : hp} (L : Lay TLx ad h) {δ0 : dp} {N : Nat} (hN : 10000000 ≤ N) {a0 : Nat} {x1 : Int32} (k_a0 : q_K h.1 a0 = 12) {δ : dp} (I : RI ad h.1 δ0 δ) : ok (D_X12_isRow N h.1 a0 x1 δ) (fun r => r.2 = δ ∧ bo (r.1) ∧ ((r.1).toInt = 1 → 1 ≤ (x1).toInt ∧ (x1).toInt ≤ 6) ∧ ((q_I δ 12 10 a0).toInt ≤ 4 ∨ (r.1).toInt = 0 ∨ (x1).toInt ≤ 2)) := by
  unfold D_X12_isRow
  have f1 := cb_12_10 I k_a0
  refine ok_ite (fun h2 => ?_) (fun h2 => ?_)
  · have c3 : (6 : Int) < (q_I δ 12 10 a0).toInt := o_lt h2
    unfold J_X12_isRow_35
    unfold J_X12_isRow_36
    refine ok_gp (by decide) ?_
    have f4 := ti_b x1
    exact ok_some (show δ = δ ∧ bo ((0 : Int32)) ∧ ((0 : Int) = 1 → 1 ≤ (x1).toInt ∧ (x1).toInt ≤ 6) ∧ ((q_I δ 12 10 a0).toInt ≤ 4 ∨ (0 : Int) = 0 ∨ (x1).toInt ≤ 2) from ⟨rfl, bo_0, by first | assumption | omega, by first | assumption | omega⟩)
  · have c5 : (q_I δ 12 10 a0).toInt ≤ (6 : Int) := o_nlt h2
    refine ok_ite (fun h6 => ?_) (fun h6 => ?_)
    · have c7 : (4 : Int) < (q_I δ 12 10 a0).toInt := o_lt h6
      unfold J_X12_isRow_25
      refine ok_bind (k_X12_within L hN (x0 := x1) (x1 := (1 : Int32)) (x2 := (2 : Int32))  I) (fun r8 hr9 => ?_)
      obtain ⟨i10, p11, p12, p13⟩ := hr9
      try rw [i10]
      have f14 := bo_l p11
      have f15 := ti_b r8.1
      have f16 := ti_b x1
      replace p12 : ((r8.1).toInt = 1 → (1 : Int) ≤ (x1).toInt ∧ (x1).toInt ≤ (2 : Int)) := p12
      replace p13 : ((r8.1).toInt = 0 → (x1).toInt < (1 : Int) ∨ (2 : Int) < (x1).toInt) := p13
      have f17 := ti_b r8.1
      refine ok_ite (fun h18 => ?_) (fun h18 => ?_)
      · have c19 : r8.1.toInt = (0 : Int) := o_eq h18
        unfold J_X12_isRow_35
        unfold J_X12_isRow_36
        refine ok_gp (by decide) ?_
        exact ok_some (show δ = δ ∧ bo ((0 : Int32)) ∧ ((0 : Int) = 1 → 1 ≤ (x1).toInt ∧ (x1).toInt ≤ 6) ∧ ((q_I δ 12 10 a0).toInt ≤ 4 ∨ (0 : Int) = 0 ∨ (x1).toInt ≤ 2) from ⟨rfl, bo_0, by first | assumption | omega, by first | assumption | omega⟩)
      · have c20 : r8.1.toInt ≠ (0 : Int) := o_ne h18
        unfold J_X12_isRow_36
        refine ok_gp (by decide) ?_
        exact ok_some (show δ = δ ∧ bo ((1 : Int32)) ∧ ((1 : Int) = 1 → 1 ≤ (x1).toInt ∧ (x1).toInt ≤ 6) ∧ ((q_I δ 12 10 a0).toInt ≤ 4 ∨ (1 : Int) = 0 ∨ (x1).toInt ≤ 2) from ⟨rfl, bo_1, by first | assumption | omega, by first | assumption | omega⟩)
    · have c21 : (q_I δ 12 10 a0).toInt ≤ (4 : Int) := o_nlt h6
      unfold J_X12_isRow_25
      refine ok_bind (k_X12_within L hN (x0 := x1) (x1 := (1 : Int32)) (x2 := (6 : Int32))  I) (fun r22 hr23 => ?_)
      obtain ⟨i24, p25, p26, p27⟩ := hr23
      try rw [i24]
      have f28 := bo_l p25
      have f29 := ti_b r22.1
      have f30 := ti_b x1
      replace p26 : ((r22.1).toInt = 1 → (1 : Int) ≤ (x1).toInt ∧ (x1).toInt ≤ (6 : Int)) := p26
      replace p27 : ((r22.1).toInt = 0 → (x1).toInt < (1 : Int) ∨ (6 : Int) < (x1).toInt) := p27
      have f31 := ti_b r22.1
      refine ok_ite (fun h32 => ?_) (fun h32 => ?_)
      · have c33 : r22.1.toInt = (0 : Int) := o_eq h32
        unfold J_X12_isRow_35
        unfold J_X12_isRow_36
        refine ok_gp (by decide) ?_
        exact ok_some (show δ = δ ∧ bo ((0 : Int32)) ∧ ((0 : Int) = 1 → 1 ≤ (x1).toInt ∧ (x1).toInt ≤ 6) ∧ ((q_I δ 12 10 a0).toInt ≤ 4 ∨ (0 : Int) = 0 ∨ (x1).toInt ≤ 2) from ⟨rfl, bo_0, by first | assumption | omega, by first | assumption | omega⟩)
      · have c34 : r22.1.toInt ≠ (0 : Int) := o_ne h32
        unfold J_X12_isRow_36
        refine ok_gp (by decide) ?_
        exact ok_some (show δ = δ ∧ bo ((1 : Int32)) ∧ ((1 : Int) = 1 → 1 ≤ (x1).toInt ∧ (x1).toInt ≤ 6) ∧ ((q_I δ 12 10 a0).toInt ≤ 4 ∨ (1 : Int) = 0 ∨ (x1).toInt ≤ 2) from ⟨rfl, bo_1, by first | assumption | omega, by first | assumption | omega⟩)
set_option maxHeartbeats 4000000 in
theorem kl_X12_findTwo_19 {ad : List Nat} {h : hp} (L : Lay TLx ad h) {δ0 : dp} {N : Nat} (hN : 10000000 ≤ N) {a0 : Nat} {x1 : Int32} {kt7 : Int32 → dp → Option (dp)} {K7 : Int} (h_kt7 : ∀ (x2v : Int32) (δ : dp), RI ad h.1 δ0 δ → 0 ≤ (x2v).toInt → (x2v).toInt ≤ 327680 → 327680 - (x2v).toInt < K7 → ok (kt7 x2v δ) (fun r => RI ad h.1 δ0 r ∧ (kp [(12, 36), (12, 45)] δ r ∧ q_V r = q_V δ ∧ kr ad [119, 123] δ r))) (k_a0 : q_K h.1 a0 = 12) : ∀ (n : Nat) (x2v : Int32) (x3v : Int32) (δ : dp), RI ad h.1 δ0 δ → 0 ≤ (x2v).toInt → (x2v).toInt < 327680 → 327680 - (x2v).toInt ≤ K7 → 0 ≤ (x3v).toInt → (x3v).toInt ≤ 327680 → 327680 - (x3v).toInt < (n : Int) → ok (L_X12_findTwo_19 N h.1 a0 x1 kt7 n x2v x3v δ) (fun r => RI ad h.1 δ0 r ∧ (kp [(12, 36), (12, 45)] δ r ∧ q_V r = q_V δ ∧ kr ad [119, 123] δ r)) := by
  intro n
  induction n with
  | zero =>
    intro x2v x3v δ I j0 j1 j2 j3 j4 hm
    have f1 := ti_b x2v
    have f2 := ti_b x3v
    exfalso; omega
  | succ n ih =>
    intro x2v x3v δ I j0 j1 j2 j3 j4 hm
    unfold L_X12_findTwo_19
    have f1 := ti_b x2v
    have f2 := ti_b x3v
    have f3 := ti_b x1
    refine ok_ite (fun h4 => ?_) (fun h4 => ?_)
    · have c5 : x1.toInt = (1 : Int) := o_eq h4
      unfold J_X12_findTwo_35
      refine ok_ite (fun h6 => ?_) (fun h6 => ?_)
      · have c7 : (1 : Int) ≤ x3v.toInt := o_le h6
        refine ok_biv (fun vx8 e9 => ?_)
        first | (have q10 := te_addc (c := 1) (n := 1) rfl x2v (by omega) (by omega); rw [← e9] at q10; obtain ⟨f11, f12, f13⟩ := q10) | (obtain ⟨q10, f11, f12, f13⟩ : ∃ q : Int, vx8.toInt = x2v.toInt + (1 : Int) + 4294967296 * q ∧ -2147483648 ≤ vx8.toInt ∧ vx8.toInt ≤ 2147483647 := by rw [e9]; exact ti_addc (c := 1) (n := 1) rfl x2v)
        refine ok_mono (h_kt7 vx8 δ I (show 0 ≤ (vx8).toInt by first | assumption | omega) (show (vx8).toInt ≤ 327680 by first | assumption | omega) (show 327680 - (vx8).toInt < _ by omega)) (fun r14 hr15 => ?_)
        obtain ⟨i16, ⟨u17, u18, u19⟩⟩ := hr15
        have u20 := kp_t kp_r u17
        have v21 : q_V r14 = q_V δ := (u18).trans rfl
        have v22 := kr_t (kr_r (ad := ad)) u19
        exact ⟨by assumption, ⟨kp_w (by decide) u20, v21, kr_w (by decide) v22⟩⟩
      · have c23 : x3v.toInt < (1 : Int) := o_nle h6
        obtain ⟨b24, o25, k26, n27, w28⟩ := gO_12_35 L k_a0
        obtain rfl := gS_12_35 L k_a0 o25
        refine ok_at o25 ?_
        have t29 : (0 : Int32).toNatClampNeg = 0 := rfl
        refine ok_gd (fun hc30 => ?_) ?_
        · rcases hc30 with hc30 | hc30
          · have c31 : (0 : Int) < (0 : Int) := o_lt hc30
            omega
          · omega
        refine ok_bdv (fun d32 e33 => ?_)
        have i34 : RI ad h.1 δ0 d32 := by rw [e33]; exact RI.sR L I w28
        have u35 := kp_N kp_r (show q_I d32 = q_I δ by rw [e33]; rfl)
        have v36 : q_V d32 = q_V δ := ((show q_V d32 = q_V δ by rw [e33]; rfl)).trans rfl
        have v37 := kr_s L (by decide) (kr_r (ad := ad)) e33
        refine ok_bind (k_X12_all L hN (a0 := a0) k_a0 i34) (fun r38 hr39 => ?_)
        obtain ⟨i40, p41, p42, p43, p44⟩ := hr39
        try rw [i40]
        have f45 := ti_b r38.1
        have f46 := cb_12_10 i34 k_a0
        have f47 : (q_I d32 12 10 a0).toInt = (q_I δ 12 10 a0).toInt := congrArg Int32.toInt (by rw [e33]; rfl)
        have f48 := cb_12_10 I k_a0
        have f49 := ti_b r38.1
        refine ok_ite (fun h50 => ?_) (fun h50 => ?_)
        · have c51 : r38.1.toInt ≤ x2v.toInt := o_le h50
          unfold J_X12_findTwo_59
          refine ok_bdv (fun d52 e53 => ?_)
          have i54 : RI ad h.1 δ0 d52 := by rw [e53]; exact cs_12_36 L i34 k_a0 (show 0 ≤ (0 : Int) by omega) (show (0 : Int) ≤ 14000 by omega)
          have u55 := kp_I u35 e53
          have v56 : q_V d52 = q_V δ := ((show q_V d52 = q_V d32 by rw [e53]; rfl)).trans v36
          have v57 := kr_N v37 (show q_R d52 = q_R d32 by rw [e53]; rfl)
          refine ok_ite (fun h58 => ?_) (fun h58 => ?_)
          · have c59 : x1.toInt = (1 : Int) := o_eq h58
            unfold J_X12_findTwo_97
            refine ok_biv (fun vx60 e61 => ?_)
            first | (have q62 := te_cadd (c := 1) (n := 1) rfl (0 : Int32) (by omega) (by omega); rw [← e61] at q62; obtain ⟨f63, f64, f65⟩ := q62) | (obtain ⟨q62, f63, f64, f65⟩ : ∃ q : Int, vx60.toInt = (1 : Int) + (0 : Int) + 4294967296 * q ∧ -2147483648 ≤ vx60.toInt ∧ vx60.toInt ≤ 2147483647 := by rw [e61]; exact ti_cadd (c := 1) (n := 1) rfl (0 : Int32))
            have f66 := ti_b (q_I d52 12 45 a0)
            have f67 : (q_I d52 12 45 a0).toInt = (q_I d32 12 45 a0).toInt := congrArg Int32.toInt (by rw [e53]; exact rI_o (by decide))
            have f68 := ti_b (q_I d32 12 45 a0)
            have f69 : (q_I d32 12 45 a0).toInt = (q_I δ 12 45 a0).toInt := congrArg Int32.toInt (by rw [e33]; rfl)
            have f70 := ti_b (q_I δ 12 45 a0)
            refine ok_ite (fun h71 => ?_) (fun h71 => ?_)
            · have c72 : (q_I d52 12 45 a0).toInt < vx60.toInt := o_lt h71
              refine ok_bdv (fun d73 e74 => ?_)
              have i75 : RI ad h.1 δ0 d73 := by rw [e74]; exact cs_12_45 L i54
              have u76 := kp_I u55 e74
              have v77 : q_V d73 = q_V δ := ((show q_V d73 = q_V d52 by rw [e74]; rfl)).trans v56
              have v78 := kr_N v57 (show q_R d73 = q_R d52 by rw [e74]; rfl)
              obtain ⟨b79, o80, k81, n82, w83⟩ := gO_12_44 L k_a0
              obtain rfl := gS_12_44 L k_a0 o80
              refine ok_at o80 ?_
              refine ok_gd (fun hc84 => ?_) ?_
              · rcases hc84 with hc84 | hc84
                · have c85 : (0 : Int) < (0 : Int) := o_lt hc84
                  omega
                · omega
              refine ok_bdv (fun d86 e87 => ?_)
              have i88 : RI ad h.1 δ0 d86 := by rw [e87]; exact RI.sR L i75 w83
              have u89 := kp_N u76 (show q_I d86 = q_I d73 by rw [e87]; rfl)
              have v90 : q_V d86 = q_V δ := ((show q_V d86 = q_V d73 by rw [e87]; rfl)).trans v77
              have v91 := kr_s L (by decide) v78 e87
              refine ok_at o80 ?_
              have t92 : (1 : Int32).toNatClampNeg = 1 := rfl
              refine ok_gd (fun hc93 => ?_) ?_
              · rcases hc93 with hc93 | hc93
                · have c94 : (1 : Int) < (0 : Int) := o_lt hc93
                  omega
                · omega
              refine ok_bdv (fun d95 e96 => ?_)
              have i97 : RI ad h.1 δ0 d95 := by rw [e96]; exact RI.sR L i88 w83
              have u98 := kp_N u89 (show q_I d95 = q_I d86 by rw [e96]; rfl)
              have v99 : q_V d95 = q_V δ := ((show q_V d95 = q_V d86 by rw [e96]; rfl)).trans v90
              have v100 := kr_s L (by decide) v91 e96
              unfold J_X12_findTwo_132
              refine ok_biv (fun vx101 e102 => ?_)
              first | (have q103 := te_addc (c := 1) (n := 1) rfl x3v (by omega) (by omega); rw [← e102] at q103; obtain ⟨f104, f105, f106⟩ := q103) | (obtain ⟨q103, f104, f105, f106⟩ : ∃ q : Int, vx101.toInt = x3v.toInt + (1 : Int) + 4294967296 * q ∧ -2147483648 ≤ vx101.toInt ∧ vx101.toInt ≤ 2147483647 := by rw [e102]; exact ti_addc (c := 1) (n := 1) rfl x3v)
              refine ok_mono (ih x2v vx101 d95 i97 (show 0 ≤ (x2v).toInt by first | assumption | omega) (show (x2v).toInt < 327680 by first | assumption | omega) (show 327680 - (x2v).toInt ≤ K7 by first | assumption | omega) (show 0 ≤ (vx101).toInt by first | assumption | omega) (show (vx101).toInt ≤ 327680 by first | assumption | omega) (show 327680 - (vx101).toInt < _ by omega)) (fun r107 hr108 => ?_)
              obtain ⟨i109, ⟨u110, u111, u112⟩⟩ := hr108
              have u113 := kp_t u98 u110
              have v114 : q_V r107 = q_V δ := (u111).trans v99
              have v115 := kr_t v100 u112
              exact ⟨by assumption, ⟨kp_w (by decide) u113, v114, kr_w (by decide) v115⟩⟩
            · have c116 : vx60.toInt ≤ (q_I d52 12 45 a0).toInt := o_nlt h71
              unfold J_X12_findTwo_132
              refine ok_biv (fun vx117 e118 => ?_)
              first | (have q119 := te_addc (c := 1) (n := 1) rfl x3v (by omega) (by omega); rw [← e118] at q119; obtain ⟨f120, f121, f122⟩ := q119) | (obtain ⟨q119, f120, f121, f122⟩ : ∃ q : Int, vx117.toInt = x3v.toInt + (1 : Int) + 4294967296 * q ∧ -2147483648 ≤ vx117.toInt ∧ vx117.toInt ≤ 2147483647 := by rw [e118]; exact ti_addc (c := 1) (n := 1) rfl x3v)
              refine ok_mono (ih x2v vx117 d52 i54 (show 0 ≤ (x2v).toInt by first | assumption | omega) (show (x2v).toInt < 327680 by first | assumption | omega) (show 327680 - (x2v).toInt ≤ K7 by first | assumption | omega) (show 0 ≤ (vx117).toInt by first | assumption | omega) (show (vx117).toInt ≤ 327680 by first | assumption | omega) (show 327680 - (vx117).toInt < _ by omega)) (fun r123 hr124 => ?_)
              obtain ⟨i125, ⟨u126, u127, u128⟩⟩ := hr124
              have u129 := kp_t u55 u126
              have v130 : q_V r123 = q_V δ := (u127).trans v56
              have v131 := kr_t v57 u128
              exact ⟨by assumption, ⟨kp_w (by decide) u129, v130, kr_w (by decide) v131⟩⟩
          · have c132 : x1.toInt ≠ (1 : Int) := o_ne h58
            refine ok_bind (k_X12_all L hN (a0 := a0) k_a0 i54) (fun r133 hr134 => ?_)
            obtain ⟨i135, p136, p137, p138, p139⟩ := hr134
            try rw [i135]
            have f140 := ti_b r133.1
            have f141 := cb_12_10 i54 k_a0
            have f142 : (q_I d52 12 10 a0).toInt = (q_I d32 12 10 a0).toInt := congrArg Int32.toInt (by rw [e53]; exact rI_o (by decide))
            have f143 := ti_b r133.1
            refine ok_gd (fun hc144 => ?_) ?_
            · have c145 : r133.1.toInt = (0 : Int) := o_eq hc144
              omega
            refine ok_bind (k_X12_all L hN (a0 := a0) k_a0 i54) (fun r146 hr147 => ?_)
            obtain ⟨i148, p149, p150, p151, p152⟩ := hr147
            try rw [i148]
            have f153 := ti_b r146.1
            have f154 := ti_b r146.1
            refine ok_gd (fun hc155 => ?_) ?_
            · have c156 : r146.1.toInt = (0 : Int) := o_eq hc155
              omega
            have f159 := cb_12_36 i54 k_a0
            have f160 : (q_I d52 12 36 a0).toInt = (0 : Int) := congrArg Int32.toInt (show q_I d52 12 36 a0 = (0 : Int32) by rw [e53]; exact rI_s)
            have f161 := lgb ((q_I d52 12 10 a0)).toInt
            refine ok_bind (k_X12_touch L hN (a0 := a0) (x1 := (x3v / r133.1)) (x2 := (x3v - x3v / r146.1 * r146.1)) (x3 := (q_I d52 12 10 a0)) (x4 := (0 : Int32)) (x5 := (q_I d52 12 36 a0)) k_a0 (show 1 ≤ ((q_I d52 12 10 a0)).toInt by first | assumption | omega) (show ((q_I d52 12 10 a0)).toInt ≤ 16 by first | assumption | omega) (show 0 ≤ (0 : Int) by first | assumption | omega) (show (0 : Int) ≤ ((q_I d52 12 36 a0)).toInt by first | assumption | omega) (show ((q_I d52 12 36 a0)).toInt ≤ (0 : Int) + 2000 by first | assumption | omega) (show ((q_I d52 12 36 a0)).toInt ≤ (q_I d52 12 36 a0).toInt by first | assumption | omega) (show (q_I d52 12 36 a0).toInt + 2000 * LGf ((q_I d52 12 10 a0)).toInt ≤ 12000 by first | assumption | omega) (show ((q_I d52 12 10 a0)).toInt < 20 by first | assumption | omega) i54) (fun r157 hr158 => ?_)
            obtain ⟨i162, ⟨u166, u167, u168⟩, p163, p164, p165⟩ := hr158
            have u169 := kp_t u55 u166
            have v170 : q_V r157.2 = q_V δ := (u167).trans v56
            have v171 := kr_t v57 u168
            have f172 := cb_12_36 i162 k_a0
            have f173 := ti_b r157.1
            have f174 := ti_b r157.1
            unfold J_X12_findTwo_97
            refine ok_biv (fun vx175 e176 => ?_)
            first | (have q177 := te_cadd (c := 1) (n := 1) rfl r157.1 (by omega) (by omega); rw [← e176] at q177; obtain ⟨f178, f179, f180⟩ := q177) | (obtain ⟨q177, f178, f179, f180⟩ : ∃ q : Int, vx175.toInt = (1 : Int) + r157.1.toInt + 4294967296 * q ∧ -2147483648 ≤ vx175.toInt ∧ vx175.toInt ≤ 2147483647 := by rw [e176]; exact ti_cadd (c := 1) (n := 1) rfl r157.1)
            have f181 := ti_b (q_I r157.2 12 45 a0)
            have f182 : (q_I r157.2 12 45 a0).toInt = (q_I d52 12 45 a0).toInt := congrArg Int32.toInt (u166 12 45 a0 (by decide))
            have f183 := ti_b (q_I d52 12 45 a0)
            have f184 : (q_I d52 12 45 a0).toInt = (q_I d32 12 45 a0).toInt := congrArg Int32.toInt (by rw [e53]; exact rI_o (by decide))
            have f185 := ti_b (q_I d32 12 45 a0)
            have f186 : (q_I d32 12 45 a0).toInt = (q_I δ 12 45 a0).toInt := congrArg Int32.toInt (by rw [e33]; rfl)
            have f187 := ti_b (q_I δ 12 45 a0)
            refine ok_ite (fun h188 => ?_) (fun h188 => ?_)
            · have c189 : (q_I r157.2 12 45 a0).toInt < vx175.toInt := o_lt h188
              refine ok_bdv (fun d190 e191 => ?_)
              have i192 : RI ad h.1 δ0 d190 := by rw [e191]; exact cs_12_45 L i162
              have u193 := kp_I u169 e191
              have v194 : q_V d190 = q_V δ := ((show q_V d190 = q_V r157.2 by rw [e191]; rfl)).trans v170
              have v195 := kr_N v171 (show q_R d190 = q_R r157.2 by rw [e191]; rfl)
              obtain ⟨b196, o197, k198, n199, w200⟩ := gO_12_44 L k_a0
              obtain rfl := gS_12_44 L k_a0 o197
              refine ok_at o197 ?_
              refine ok_gd (fun hc201 => ?_) ?_
              · rcases hc201 with hc201 | hc201
                · have c202 : (0 : Int) < (0 : Int) := o_lt hc201
                  omega
                · omega
              refine ok_bdv (fun d203 e204 => ?_)
              have i205 : RI ad h.1 δ0 d203 := by rw [e204]; exact RI.sR L i192 w200
              have u206 := kp_N u193 (show q_I d203 = q_I d190 by rw [e204]; rfl)
              have v207 : q_V d203 = q_V δ := ((show q_V d203 = q_V d190 by rw [e204]; rfl)).trans v194
              have v208 := kr_s L (by decide) v195 e204
              refine ok_at o197 ?_
              have t209 : (1 : Int32).toNatClampNeg = 1 := rfl
              refine ok_gd (fun hc210 => ?_) ?_
              · rcases hc210 with hc210 | hc210
                · have c211 : (1 : Int) < (0 : Int) := o_lt hc210
                  omega
                · omega
              refine ok_bdv (fun d212 e213 => ?_)
              have i214 : RI ad h.1 δ0 d212 := by rw [e213]; exact RI.sR L i205 w200
              have u215 := kp_N u206 (show q_I d212 = q_I d203 by rw [e213]; rfl)
              have v216 : q_V d212 = q_V δ := ((show q_V d212 = q_V d203 by rw [e213]; rfl)).trans v207
              have v217 := kr_s L (by decide) v208 e213
              unfold J_X12_findTwo_132
              refine ok_biv (fun vx218 e219 => ?_)
              first | (have q220 := te_addc (c := 1) (n := 1) rfl x3v (by omega) (by omega); rw [← e219] at q220; obtain ⟨f221, f222, f223⟩ := q220) | (obtain ⟨q220, f221, f222, f223⟩ : ∃ q : Int, vx218.toInt = x3v.toInt + (1 : Int) + 4294967296 * q ∧ -2147483648 ≤ vx218.toInt ∧ vx218.toInt ≤ 2147483647 := by rw [e219]; exact ti_addc (c := 1) (n := 1) rfl x3v)
              refine ok_mono (ih x2v vx218 d212 i214 (show 0 ≤ (x2v).toInt by first | assumption | omega) (show (x2v).toInt < 327680 by first | assumption | omega) (show 327680 - (x2v).toInt ≤ K7 by first | assumption | omega) (show 0 ≤ (vx218).toInt by first | assumption | omega) (show (vx218).toInt ≤ 327680 by first | assumption | omega) (show 327680 - (vx218).toInt < _ by omega)) (fun r224 hr225 => ?_)
              obtain ⟨i226, ⟨u227, u228, u229⟩⟩ := hr225
              have u230 := kp_t u215 u227
              have v231 : q_V r224 = q_V δ := (u228).trans v216
              have v232 := kr_t v217 u229
              exact ⟨by assumption, ⟨kp_w (by decide) u230, v231, kr_w (by decide) v232⟩⟩
            · have c233 : vx175.toInt ≤ (q_I r157.2 12 45 a0).toInt := o_nlt h188
              unfold J_X12_findTwo_132
              refine ok_biv (fun vx234 e235 => ?_)
              first | (have q236 := te_addc (c := 1) (n := 1) rfl x3v (by omega) (by omega); rw [← e235] at q236; obtain ⟨f237, f238, f239⟩ := q236) | (obtain ⟨q236, f237, f238, f239⟩ : ∃ q : Int, vx234.toInt = x3v.toInt + (1 : Int) + 4294967296 * q ∧ -2147483648 ≤ vx234.toInt ∧ vx234.toInt ≤ 2147483647 := by rw [e235]; exact ti_addc (c := 1) (n := 1) rfl x3v)
              refine ok_mono (ih x2v vx234 r157.2 i162 (show 0 ≤ (x2v).toInt by first | assumption | omega) (show (x2v).toInt < 327680 by first | assumption | omega) (show 327680 - (x2v).toInt ≤ K7 by first | assumption | omega) (show 0 ≤ (vx234).toInt by first | assumption | omega) (show (vx234).toInt ≤ 327680 by first | assumption | omega) (show 327680 - (vx234).toInt < _ by omega)) (fun r240 hr241 => ?_)
              obtain ⟨i242, ⟨u243, u244, u245⟩⟩ := hr241
              have u246 := kp_t u169 u243
              have v247 : q_V r240 = q_V δ := (u244).trans v170
              have v248 := kr_t v171 u245
              exact ⟨by assumption, ⟨kp_w (by decide) u246, v247, kr_w (by decide) v248⟩⟩
        · have c249 : x2v.toInt < r38.1.toInt := o_nle h50
          unfold J_X12_findTwo_59
          refine ok_bdv (fun d250 e251 => ?_)
          have i252 : RI ad h.1 δ0 d250 := by rw [e251]; exact cs_12_36 L i34 k_a0 (show 0 ≤ (1 : Int) by omega) (show (1 : Int) ≤ 14000 by omega)
          have u253 := kp_I u35 e251
          have v254 : q_V d250 = q_V δ := ((show q_V d250 = q_V d32 by rw [e251]; rfl)).trans v36
          have v255 := kr_N v37 (show q_R d250 = q_R d32 by rw [e251]; rfl)
          refine ok_ite (fun h256 => ?_) (fun h256 => ?_)
          · have c257 : x1.toInt = (1 : Int) := o_eq h256
            unfold J_X12_findTwo_97
            refine ok_biv (fun vx258 e259 => ?_)
            first | (have q260 := te_cadd (c := 1) (n := 1) rfl (0 : Int32) (by omega) (by omega); rw [← e259] at q260; obtain ⟨f261, f262, f263⟩ := q260) | (obtain ⟨q260, f261, f262, f263⟩ : ∃ q : Int, vx258.toInt = (1 : Int) + (0 : Int) + 4294967296 * q ∧ -2147483648 ≤ vx258.toInt ∧ vx258.toInt ≤ 2147483647 := by rw [e259]; exact ti_cadd (c := 1) (n := 1) rfl (0 : Int32))
            have f264 := ti_b (q_I d250 12 45 a0)
            have f265 : (q_I d250 12 45 a0).toInt = (q_I d32 12 45 a0).toInt := congrArg Int32.toInt (by rw [e251]; exact rI_o (by decide))
            have f266 := ti_b (q_I d32 12 45 a0)
            have f267 : (q_I d32 12 45 a0).toInt = (q_I δ 12 45 a0).toInt := congrArg Int32.toInt (by rw [e33]; rfl)
            have f268 := ti_b (q_I δ 12 45 a0)
            refine ok_ite (fun h269 => ?_) (fun h269 => ?_)
            · have c270 : (q_I d250 12 45 a0).toInt < vx258.toInt := o_lt h269
              refine ok_bdv (fun d271 e272 => ?_)
              have i273 : RI ad h.1 δ0 d271 := by rw [e272]; exact cs_12_45 L i252
              have u274 := kp_I u253 e272
              have v275 : q_V d271 = q_V δ := ((show q_V d271 = q_V d250 by rw [e272]; rfl)).trans v254
              have v276 := kr_N v255 (show q_R d271 = q_R d250 by rw [e272]; rfl)
              obtain ⟨b277, o278, k279, n280, w281⟩ := gO_12_44 L k_a0
              obtain rfl := gS_12_44 L k_a0 o278
              refine ok_at o278 ?_
              refine ok_gd (fun hc282 => ?_) ?_
              · rcases hc282 with hc282 | hc282
                · have c283 : (0 : Int) < (0 : Int) := o_lt hc282
                  omega
                · omega
              refine ok_bdv (fun d284 e285 => ?_)
              have i286 : RI ad h.1 δ0 d284 := by rw [e285]; exact RI.sR L i273 w281
              have u287 := kp_N u274 (show q_I d284 = q_I d271 by rw [e285]; rfl)
              have v288 : q_V d284 = q_V δ := ((show q_V d284 = q_V d271 by rw [e285]; rfl)).trans v275
              have v289 := kr_s L (by decide) v276 e285
              refine ok_at o278 ?_
              have t290 : (1 : Int32).toNatClampNeg = 1 := rfl
              refine ok_gd (fun hc291 => ?_) ?_
              · rcases hc291 with hc291 | hc291
                · have c292 : (1 : Int) < (0 : Int) := o_lt hc291
                  omega
                · omega
              refine ok_bdv (fun d293 e294 => ?_)
              have i295 : RI ad h.1 δ0 d293 := by rw [e294]; exact RI.sR L i286 w281
              have u296 := kp_N u287 (show q_I d293 = q_I d284 by rw [e294]; rfl)
              have v297 : q_V d293 = q_V δ := ((show q_V d293 = q_V d284 by rw [e294]; rfl)).trans v288
              have v298 := kr_s L (by decide) v289 e294
              unfold J_X12_findTwo_132
              refine ok_biv (fun vx299 e300 => ?_)
              first | (have q301 := te_addc (c := 1) (n := 1) rfl x3v (by omega) (by omega); rw [← e300] at q301; obtain ⟨f302, f303, f304⟩ := q301) | (obtain ⟨q301, f302, f303, f304⟩ : ∃ q : Int, vx299.toInt = x3v.toInt + (1 : Int) + 4294967296 * q ∧ -2147483648 ≤ vx299.toInt ∧ vx299.toInt ≤ 2147483647 := by rw [e300]; exact ti_addc (c := 1) (n := 1) rfl x3v)
              refine ok_mono (ih x2v vx299 d293 i295 (show 0 ≤ (x2v).toInt by first | assumption | omega) (show (x2v).toInt < 327680 by first | assumption | omega) (show 327680 - (x2v).toInt ≤ K7 by first | assumption | omega) (show 0 ≤ (vx299).toInt by first | assumption | omega) (show (vx299).toInt ≤ 327680 by first | assumption | omega) (show 327680 - (vx299).toInt < _ by omega)) (fun r305 hr306 => ?_)
              obtain ⟨i307, ⟨u308, u309, u310⟩⟩ := hr306
              have u311 := kp_t u296 u308
              have v312 : q_V r305 = q_V δ := (u309).trans v297
              have v313 := kr_t v298 u310
              exact ⟨by assumption, ⟨kp_w (by decide) u311, v312, kr_w (by decide) v313⟩⟩
            · have c314 : vx258.toInt ≤ (q_I d250 12 45 a0).toInt := o_nlt h269
              unfold J_X12_findTwo_132
              refine ok_biv (fun vx315 e316 => ?_)
              first | (have q317 := te_addc (c := 1) (n := 1) rfl x3v (by omega) (by omega); rw [← e316] at q317; obtain ⟨f318, f319, f320⟩ := q317) | (obtain ⟨q317, f318, f319, f320⟩ : ∃ q : Int, vx315.toInt = x3v.toInt + (1 : Int) + 4294967296 * q ∧ -2147483648 ≤ vx315.toInt ∧ vx315.toInt ≤ 2147483647 := by rw [e316]; exact ti_addc (c := 1) (n := 1) rfl x3v)
              refine ok_mono (ih x2v vx315 d250 i252 (show 0 ≤ (x2v).toInt by first | assumption | omega) (show (x2v).toInt < 327680 by first | assumption | omega) (show 327680 - (x2v).toInt ≤ K7 by first | assumption | omega) (show 0 ≤ (vx315).toInt by first | assumption | omega) (show (vx315).toInt ≤ 327680 by first | assumption | omega) (show 327680 - (vx315).toInt < _ by omega)) (fun r321 hr322 => ?_)
              obtain ⟨i323, ⟨u324, u325, u326⟩⟩ := hr322
              have u327 := kp_t u253 u324
              have v328 : q_V r321 = q_V δ := (u325).trans v254
              have v329 := kr_t v255 u326
              exact ⟨by assumption, ⟨kp_w (by decide) u327, v328, kr_w (by decide) v329⟩⟩
          · have c330 : x1.toInt ≠ (1 : Int) := o_ne h256
            refine ok_bind (k_X12_all L hN (a0 := a0) k_a0 i252) (fun r331 hr332 => ?_)
            obtain ⟨i333, p334, p335, p336, p337⟩ := hr332
            try rw [i333]
            have f338 := ti_b r331.1
            have f339 := cb_12_10 i252 k_a0
            have f340 : (q_I d250 12 10 a0).toInt = (q_I d32 12 10 a0).toInt := congrArg Int32.toInt (by rw [e251]; exact rI_o (by decide))
            have f341 := ti_b r331.1
            refine ok_gd (fun hc342 => ?_) ?_
            · have c343 : r331.1.toInt = (0 : Int) := o_eq hc342
              omega
            refine ok_bind (k_X12_all L hN (a0 := a0) k_a0 i252) (fun r344 hr345 => ?_)
            obtain ⟨i346, p347, p348, p349, p350⟩ := hr345
            try rw [i346]
            have f351 := ti_b r344.1
            have f352 := ti_b r344.1
            refine ok_gd (fun hc353 => ?_) ?_
            · have c354 : r344.1.toInt = (0 : Int) := o_eq hc353
              omega
            have f357 := cb_12_36 i252 k_a0
            have f358 : (q_I d250 12 36 a0).toInt = (1 : Int) := congrArg Int32.toInt (show q_I d250 12 36 a0 = (1 : Int32) by rw [e251]; exact rI_s)
            have f359 := lgb ((q_I d250 12 10 a0)).toInt
            refine ok_bind (k_X12_touch L hN (a0 := a0) (x1 := (x3v / r331.1)) (x2 := (x3v - x3v / r344.1 * r344.1)) (x3 := (q_I d250 12 10 a0)) (x4 := (0 : Int32)) (x5 := (q_I d250 12 36 a0)) k_a0 (show 1 ≤ ((q_I d250 12 10 a0)).toInt by first | assumption | omega) (show ((q_I d250 12 10 a0)).toInt ≤ 16 by first | assumption | omega) (show 0 ≤ (0 : Int) by first | assumption | omega) (show (0 : Int) ≤ ((q_I d250 12 36 a0)).toInt by first | assumption | omega) (show ((q_I d250 12 36 a0)).toInt ≤ (0 : Int) + 2000 by first | assumption | omega) (show ((q_I d250 12 36 a0)).toInt ≤ (q_I d250 12 36 a0).toInt by first | assumption | omega) (show (q_I d250 12 36 a0).toInt + 2000 * LGf ((q_I d250 12 10 a0)).toInt ≤ 12000 by first | assumption | omega) (show ((q_I d250 12 10 a0)).toInt < 20 by first | assumption | omega) i252) (fun r355 hr356 => ?_)
            obtain ⟨i360, ⟨u364, u365, u366⟩, p361, p362, p363⟩ := hr356
            have u367 := kp_t u253 u364
            have v368 : q_V r355.2 = q_V δ := (u365).trans v254
            have v369 := kr_t v255 u366
            have f370 := cb_12_36 i360 k_a0
            have f371 := ti_b r355.1
            have f372 := ti_b r355.1
            unfold J_X12_findTwo_97
            refine ok_biv (fun vx373 e374 => ?_)
            first | (have q375 := te_cadd (c := 1) (n := 1) rfl r355.1 (by omega) (by omega); rw [← e374] at q375; obtain ⟨f376, f377, f378⟩ := q375) | (obtain ⟨q375, f376, f377, f378⟩ : ∃ q : Int, vx373.toInt = (1 : Int) + r355.1.toInt + 4294967296 * q ∧ -2147483648 ≤ vx373.toInt ∧ vx373.toInt ≤ 2147483647 := by rw [e374]; exact ti_cadd (c := 1) (n := 1) rfl r355.1)
            have f379 := ti_b (q_I r355.2 12 45 a0)
            have f380 : (q_I r355.2 12 45 a0).toInt = (q_I d250 12 45 a0).toInt := congrArg Int32.toInt (u364 12 45 a0 (by decide))
            have f381 := ti_b (q_I d250 12 45 a0)
            have f382 : (q_I d250 12 45 a0).toInt = (q_I d32 12 45 a0).toInt := congrArg Int32.toInt (by rw [e251]; exact rI_o (by decide))
            have f383 := ti_b (q_I d32 12 45 a0)
            have f384 : (q_I d32 12 45 a0).toInt = (q_I δ 12 45 a0).toInt := congrArg Int32.toInt (by rw [e33]; rfl)
            have f385 := ti_b (q_I δ 12 45 a0)
            refine ok_ite (fun h386 => ?_) (fun h386 => ?_)
            · have c387 : (q_I r355.2 12 45 a0).toInt < vx373.toInt := o_lt h386
              refine ok_bdv (fun d388 e389 => ?_)
              have i390 : RI ad h.1 δ0 d388 := by rw [e389]; exact cs_12_45 L i360
              have u391 := kp_I u367 e389
              have v392 : q_V d388 = q_V δ := ((show q_V d388 = q_V r355.2 by rw [e389]; rfl)).trans v368
              have v393 := kr_N v369 (show q_R d388 = q_R r355.2 by rw [e389]; rfl)
              obtain ⟨b394, o395, k396, n397, w398⟩ := gO_12_44 L k_a0
              obtain rfl := gS_12_44 L k_a0 o395
              refine ok_at o395 ?_
              refine ok_gd (fun hc399 => ?_) ?_
              · rcases hc399 with hc399 | hc399
                · have c400 : (0 : Int) < (0 : Int) := o_lt hc399
                  omega
                · omega
              refine ok_bdv (fun d401 e402 => ?_)
              have i403 : RI ad h.1 δ0 d401 := by rw [e402]; exact RI.sR L i390 w398
              have u404 := kp_N u391 (show q_I d401 = q_I d388 by rw [e402]; rfl)
              have v405 : q_V d401 = q_V δ := ((show q_V d401 = q_V d388 by rw [e402]; rfl)).trans v392
              have v406 := kr_s L (by decide) v393 e402
              refine ok_at o395 ?_
              have t407 : (1 : Int32).toNatClampNeg = 1 := rfl
              refine ok_gd (fun hc408 => ?_) ?_
              · rcases hc408 with hc408 | hc408
                · have c409 : (1 : Int) < (0 : Int) := o_lt hc408
                  omega
                · omega
              refine ok_bdv (fun d410 e411 => ?_)
              have i412 : RI ad h.1 δ0 d410 := by rw [e411]; exact RI.sR L i403 w398
              have u413 := kp_N u404 (show q_I d410 = q_I d401 by rw [e411]; rfl)
              have v414 : q_V d410 = q_V δ := ((show q_V d410 = q_V d401 by rw [e411]; rfl)).trans v405
              have v415 := kr_s L (by decide) v406 e411
              unfold J_X12_findTwo_132
              refine ok_biv (fun vx416 e417 => ?_)
              first | (have q418 := te_addc (c := 1) (n := 1) rfl x3v (by omega) (by omega); rw [← e417] at q418; obtain ⟨f419, f420, f421⟩ := q418) | (obtain ⟨q418, f419, f420, f421⟩ : ∃ q : Int, vx416.toInt = x3v.toInt + (1 : Int) + 4294967296 * q ∧ -2147483648 ≤ vx416.toInt ∧ vx416.toInt ≤ 2147483647 := by rw [e417]; exact ti_addc (c := 1) (n := 1) rfl x3v)
              refine ok_mono (ih x2v vx416 d410 i412 (show 0 ≤ (x2v).toInt by first | assumption | omega) (show (x2v).toInt < 327680 by first | assumption | omega) (show 327680 - (x2v).toInt ≤ K7 by first | assumption | omega) (show 0 ≤ (vx416).toInt by first | assumption | omega) (show (vx416).toInt ≤ 327680 by first | assumption | omega) (show 327680 - (vx416).toInt < _ by omega)) (fun r422 hr423 => ?_)
              obtain ⟨i424, ⟨u425, u426, u427⟩⟩ := hr423
              have u428 := kp_t u413 u425
              have v429 : q_V r422 = q_V δ := (u426).trans v414
              have v430 := kr_t v415 u427
              exact ⟨by assumption, ⟨kp_w (by decide) u428, v429, kr_w (by decide) v430⟩⟩
            · have c431 : vx373.toInt ≤ (q_I r355.2 12 45 a0).toInt := o_nlt h386
              unfold J_X12_findTwo_132
              refine ok_biv (fun vx432 e433 => ?_)
              first | (have q434 := te_addc (c := 1) (n := 1) rfl x3v (by omega) (by omega); rw [← e433] at q434; obtain ⟨f435, f436, f437⟩ := q434) | (obtain ⟨q434, f435, f436, f437⟩ : ∃ q : Int, vx432.toInt = x3v.toInt + (1 : Int) + 4294967296 * q ∧ -2147483648 ≤ vx432.toInt ∧ vx432.toInt ≤ 2147483647 := by rw [e433]; exact ti_addc (c := 1) (n := 1) rfl x3v)
              refine ok_mono (ih x2v vx432 r355.2 i360 (show 0 ≤ (x2v).toInt by first | assumption | omega) (show (x2v).toInt < 327680 by first | assumption | omega) (show 327680 - (x2v).toInt ≤ K7 by first | assumption | omega) (show 0 ≤ (vx432).toInt by first | assumption | omega) (show (vx432).toInt ≤ 327680 by first | assumption | omega) (show 327680 - (vx432).toInt < _ by omega)) (fun r438 hr439 => ?_)
              obtain ⟨i440, ⟨u441, u442, u443⟩⟩ := hr439
              have u444 := kp_t u367 u441
              have v445 : q_V r438 = q_V δ := (u442).trans v368
              have v446 := kr_t v369 u443
              exact ⟨by assumption, ⟨kp_w (by decide) u444, v445, kr_w (by decide) v446⟩⟩
    · have c447 : x1.toInt ≠ (1 : Int) := o_ne h4
      refine ok_bind (k_X12_all L hN (a0 := a0) k_a0 I) (fun r448 hr449 => ?_)
      obtain ⟨i450, p451, p452, p453, p454⟩ := hr449
      try rw [i450]
      have f455 := ti_b r448.1
      have f456 := cb_12_10 I k_a0
      have f457 := ti_b r448.1
      unfold J_X12_findTwo_35
      first | (have q459 := te_mulc (c := 5) (n := 5) rfl r448.1 (by omega) (by omega); obtain ⟨f460, f461, f462⟩ := q459) | (obtain ⟨q459, f460, f461, f462⟩ := ti_mulc (c := 5) (n := 5) rfl r448.1)
      refine ok_ite (fun h463 => ?_) (fun h463 => ?_)
      · have c464 : ((5 : Int32) * r448.1).toInt ≤ x3v.toInt := o_le h463
        refine ok_biv (fun vx465 e466 => ?_)
        first | (have q467 := te_addc (c := 1) (n := 1) rfl x2v (by omega) (by omega); rw [← e466] at q467; obtain ⟨f468, f469, f470⟩ := q467) | (obtain ⟨q467, f468, f469, f470⟩ : ∃ q : Int, vx465.toInt = x2v.toInt + (1 : Int) + 4294967296 * q ∧ -2147483648 ≤ vx465.toInt ∧ vx465.toInt ≤ 2147483647 := by rw [e466]; exact ti_addc (c := 1) (n := 1) rfl x2v)
        refine ok_mono (h_kt7 vx465 δ I (show 0 ≤ (vx465).toInt by first | assumption | omega) (show (vx465).toInt ≤ 327680 by first | assumption | omega) (show 327680 - (vx465).toInt < _ by omega)) (fun r471 hr472 => ?_)
        obtain ⟨i473, ⟨u474, u475, u476⟩⟩ := hr472
        have u477 := kp_t kp_r u474
        have v478 : q_V r471 = q_V δ := (u475).trans rfl
        have v479 := kr_t (kr_r (ad := ad)) u476
        exact ⟨by assumption, ⟨kp_w (by decide) u477, v478, kr_w (by decide) v479⟩⟩
      · have c480 : x3v.toInt < ((5 : Int32) * r448.1).toInt := o_nle h463
        obtain ⟨b481, o482, k483, n484, w485⟩ := gO_12_35 L k_a0
        obtain rfl := gS_12_35 L k_a0 o482
        refine ok_at o482 ?_
        have t486 : (0 : Int32).toNatClampNeg = 0 := rfl
        refine ok_gd (fun hc487 => ?_) ?_
        · rcases hc487 with hc487 | hc487
          · have c488 : (0 : Int) < (0 : Int) := o_lt hc487
            omega
          · omega
        refine ok_bdv (fun d489 e490 => ?_)
        have i491 : RI ad h.1 δ0 d489 := by rw [e490]; exact RI.sR L I w485
        have u492 := kp_N kp_r (show q_I d489 = q_I δ by rw [e490]; rfl)
        have v493 : q_V d489 = q_V δ := ((show q_V d489 = q_V δ by rw [e490]; rfl)).trans rfl
        have v494 := kr_s L (by decide) (kr_r (ad := ad)) e490
        refine ok_bind (k_X12_all L hN (a0 := a0) k_a0 i491) (fun r495 hr496 => ?_)
        obtain ⟨i497, p498, p499, p500, p501⟩ := hr496
        try rw [i497]
        have f502 := ti_b r495.1
        have f503 := cb_12_10 i491 k_a0
        have f504 : (q_I d489 12 10 a0).toInt = (q_I δ 12 10 a0).toInt := congrArg Int32.toInt (by rw [e490]; rfl)
        have f505 := ti_b r495.1
        refine ok_ite (fun h506 => ?_) (fun h506 => ?_)
        · have c507 : r495.1.toInt ≤ x2v.toInt := o_le h506
          unfold J_X12_findTwo_59
          refine ok_bdv (fun d508 e509 => ?_)
          have i510 : RI ad h.1 δ0 d508 := by rw [e509]; exact cs_12_36 L i491 k_a0 (show 0 ≤ (0 : Int) by omega) (show (0 : Int) ≤ 14000 by omega)
          have u511 := kp_I u492 e509
          have v512 : q_V d508 = q_V δ := ((show q_V d508 = q_V d489 by rw [e509]; rfl)).trans v493
          have v513 := kr_N v494 (show q_R d508 = q_R d489 by rw [e509]; rfl)
          refine ok_ite (fun h514 => ?_) (fun h514 => ?_)
          · have c515 : x1.toInt = (1 : Int) := o_eq h514
            unfold J_X12_findTwo_97
            refine ok_biv (fun vx516 e517 => ?_)
            first | (have q518 := te_cadd (c := 1) (n := 1) rfl (0 : Int32) (by omega) (by omega); rw [← e517] at q518; obtain ⟨f519, f520, f521⟩ := q518) | (obtain ⟨q518, f519, f520, f521⟩ : ∃ q : Int, vx516.toInt = (1 : Int) + (0 : Int) + 4294967296 * q ∧ -2147483648 ≤ vx516.toInt ∧ vx516.toInt ≤ 2147483647 := by rw [e517]; exact ti_cadd (c := 1) (n := 1) rfl (0 : Int32))
            have f522 := ti_b (q_I d508 12 45 a0)
            have f523 : (q_I d508 12 45 a0).toInt = (q_I d489 12 45 a0).toInt := congrArg Int32.toInt (by rw [e509]; exact rI_o (by decide))
            have f524 := ti_b (q_I d489 12 45 a0)
            have f525 : (q_I d489 12 45 a0).toInt = (q_I δ 12 45 a0).toInt := congrArg Int32.toInt (by rw [e490]; rfl)
            have f526 := ti_b (q_I δ 12 45 a0)
            refine ok_ite (fun h527 => ?_) (fun h527 => ?_)
            · have c528 : (q_I d508 12 45 a0).toInt < vx516.toInt := o_lt h527
              refine ok_bdv (fun d529 e530 => ?_)
              have i531 : RI ad h.1 δ0 d529 := by rw [e530]; exact cs_12_45 L i510
              have u532 := kp_I u511 e530
              have v533 : q_V d529 = q_V δ := ((show q_V d529 = q_V d508 by rw [e530]; rfl)).trans v512
              have v534 := kr_N v513 (show q_R d529 = q_R d508 by rw [e530]; rfl)
              obtain ⟨b535, o536, k537, n538, w539⟩ := gO_12_44 L k_a0
              obtain rfl := gS_12_44 L k_a0 o536
              refine ok_at o536 ?_
              refine ok_gd (fun hc540 => ?_) ?_
              · rcases hc540 with hc540 | hc540
                · have c541 : (0 : Int) < (0 : Int) := o_lt hc540
                  omega
                · omega
              refine ok_bdv (fun d542 e543 => ?_)
              have i544 : RI ad h.1 δ0 d542 := by rw [e543]; exact RI.sR L i531 w539
              have u545 := kp_N u532 (show q_I d542 = q_I d529 by rw [e543]; rfl)
              have v546 : q_V d542 = q_V δ := ((show q_V d542 = q_V d529 by rw [e543]; rfl)).trans v533
              have v547 := kr_s L (by decide) v534 e543
              refine ok_at o536 ?_
              have t548 : (1 : Int32).toNatClampNeg = 1 := rfl
              refine ok_gd (fun hc549 => ?_) ?_
              · rcases hc549 with hc549 | hc549
                · have c550 : (1 : Int) < (0 : Int) := o_lt hc549
                  omega
                · omega
              refine ok_bdv (fun d551 e552 => ?_)
              have i553 : RI ad h.1 δ0 d551 := by rw [e552]; exact RI.sR L i544 w539
              have u554 := kp_N u545 (show q_I d551 = q_I d542 by rw [e552]; rfl)
              have v555 : q_V d551 = q_V δ := ((show q_V d551 = q_V d542 by rw [e552]; rfl)).trans v546
              have v556 := kr_s L (by decide) v547 e552
              unfold J_X12_findTwo_132
              refine ok_biv (fun vx557 e558 => ?_)
              first | (have q559 := te_addc (c := 1) (n := 1) rfl x3v (by omega) (by omega); rw [← e558] at q559; obtain ⟨f560, f561, f562⟩ := q559) | (obtain ⟨q559, f560, f561, f562⟩ : ∃ q : Int, vx557.toInt = x3v.toInt + (1 : Int) + 4294967296 * q ∧ -2147483648 ≤ vx557.toInt ∧ vx557.toInt ≤ 2147483647 := by rw [e558]; exact ti_addc (c := 1) (n := 1) rfl x3v)
              refine ok_mono (ih x2v vx557 d551 i553 (show 0 ≤ (x2v).toInt by first | assumption | omega) (show (x2v).toInt < 327680 by first | assumption | omega) (show 327680 - (x2v).toInt ≤ K7 by first | assumption | omega) (show 0 ≤ (vx557).toInt by first | assumption | omega) (show (vx557).toInt ≤ 327680 by first | assumption | omega) (show 327680 - (vx557).toInt < _ by omega)) (fun r563 hr564 => ?_)
              obtain ⟨i565, ⟨u566, u567, u568⟩⟩ := hr564
              have u569 := kp_t u554 u566
              have v570 : q_V r563 = q_V δ := (u567).trans v555
              have v571 := kr_t v556 u568
              exact ⟨by assumption, ⟨kp_w (by decide) u569, v570, kr_w (by decide) v571⟩⟩
            · have c572 : vx516.toInt ≤ (q_I d508 12 45 a0).toInt := o_nlt h527
              unfold J_X12_findTwo_132
              refine ok_biv (fun vx573 e574 => ?_)
              first | (have q575 := te_addc (c := 1) (n := 1) rfl x3v (by omega) (by omega); rw [← e574] at q575; obtain ⟨f576, f577, f578⟩ := q575) | (obtain ⟨q575, f576, f577, f578⟩ : ∃ q : Int, vx573.toInt = x3v.toInt + (1 : Int) + 4294967296 * q ∧ -2147483648 ≤ vx573.toInt ∧ vx573.toInt ≤ 2147483647 := by rw [e574]; exact ti_addc (c := 1) (n := 1) rfl x3v)
              refine ok_mono (ih x2v vx573 d508 i510 (show 0 ≤ (x2v).toInt by first | assumption | omega) (show (x2v).toInt < 327680 by first | assumption | omega) (show 327680 - (x2v).toInt ≤ K7 by first | assumption | omega) (show 0 ≤ (vx573).toInt by first | assumption | omega) (show (vx573).toInt ≤ 327680 by first | assumption | omega) (show 327680 - (vx573).toInt < _ by omega)) (fun r579 hr580 => ?_)
              obtain ⟨i581, ⟨u582, u583, u584⟩⟩ := hr580
              have u585 := kp_t u511 u582
              have v586 : q_V r579 = q_V δ := (u583).trans v512
              have v587 := kr_t v513 u584
              exact ⟨by assumption, ⟨kp_w (by decide) u585, v586, kr_w (by decide) v587⟩⟩
          · have c588 : x1.toInt ≠ (1 : Int) := o_ne h514
            refine ok_bind (k_X12_all L hN (a0 := a0) k_a0 i510) (fun r589 hr590 => ?_)
            obtain ⟨i591, p592, p593, p594, p595⟩ := hr590
            try rw [i591]
            have f596 := ti_b r589.1
            have f597 := cb_12_10 i510 k_a0
            have f598 : (q_I d508 12 10 a0).toInt = (q_I d489 12 10 a0).toInt := congrArg Int32.toInt (by rw [e509]; exact rI_o (by decide))
            have f599 := ti_b r589.1
            refine ok_gd (fun hc600 => ?_) ?_
            · have c601 : r589.1.toInt = (0 : Int) := o_eq hc600
              omega
            refine ok_bind (k_X12_all L hN (a0 := a0) k_a0 i510) (fun r602 hr603 => ?_)
            obtain ⟨i604, p605, p606, p607, p608⟩ := hr603
            try rw [i604]
            have f609 := ti_b r602.1
            have f610 := ti_b r602.1
            refine ok_gd (fun hc611 => ?_) ?_
            · have c612 : r602.1.toInt = (0 : Int) := o_eq hc611
              omega
            have f615 := cb_12_36 i510 k_a0
            have f616 : (q_I d508 12 36 a0).toInt = (0 : Int) := congrArg Int32.toInt (show q_I d508 12 36 a0 = (0 : Int32) by rw [e509]; exact rI_s)
            have f617 := lgb ((q_I d508 12 10 a0)).toInt
            refine ok_bind (k_X12_touch L hN (a0 := a0) (x1 := (x3v / r589.1)) (x2 := (x3v - x3v / r602.1 * r602.1)) (x3 := (q_I d508 12 10 a0)) (x4 := (0 : Int32)) (x5 := (q_I d508 12 36 a0)) k_a0 (show 1 ≤ ((q_I d508 12 10 a0)).toInt by first | assumption | omega) (show ((q_I d508 12 10 a0)).toInt ≤ 16 by first | assumption | omega) (show 0 ≤ (0 : Int) by first | assumption | omega) (show (0 : Int) ≤ ((q_I d508 12 36 a0)).toInt by first | assumption | omega) (show ((q_I d508 12 36 a0)).toInt ≤ (0 : Int) + 2000 by first | assumption | omega) (show ((q_I d508 12 36 a0)).toInt ≤ (q_I d508 12 36 a0).toInt by first | assumption | omega) (show (q_I d508 12 36 a0).toInt + 2000 * LGf ((q_I d508 12 10 a0)).toInt ≤ 12000 by first | assumption | omega) (show ((q_I d508 12 10 a0)).toInt < 20 by first | assumption | omega) i510) (fun r613 hr614 => ?_)
            obtain ⟨i618, ⟨u622, u623, u624⟩, p619, p620, p621⟩ := hr614
            have u625 := kp_t u511 u622
            have v626 : q_V r613.2 = q_V δ := (u623).trans v512
            have v627 := kr_t v513 u624
            have f628 := cb_12_36 i618 k_a0
            have f629 := ti_b r613.1
            have f630 := ti_b r613.1
            unfold J_X12_findTwo_97
            refine ok_biv (fun vx631 e632 => ?_)
            first | (have q633 := te_cadd (c := 1) (n := 1) rfl r613.1 (by omega) (by omega); rw [← e632] at q633; obtain ⟨f634, f635, f636⟩ := q633) | (obtain ⟨q633, f634, f635, f636⟩ : ∃ q : Int, vx631.toInt = (1 : Int) + r613.1.toInt + 4294967296 * q ∧ -2147483648 ≤ vx631.toInt ∧ vx631.toInt ≤ 2147483647 := by rw [e632]; exact ti_cadd (c := 1) (n := 1) rfl r613.1)
            have f637 := ti_b (q_I r613.2 12 45 a0)
            have f638 : (q_I r613.2 12 45 a0).toInt = (q_I d508 12 45 a0).toInt := congrArg Int32.toInt (u622 12 45 a0 (by decide))
            have f639 := ti_b (q_I d508 12 45 a0)
            have f640 : (q_I d508 12 45 a0).toInt = (q_I d489 12 45 a0).toInt := congrArg Int32.toInt (by rw [e509]; exact rI_o (by decide))
            have f641 := ti_b (q_I d489 12 45 a0)
            have f642 : (q_I d489 12 45 a0).toInt = (q_I δ 12 45 a0).toInt := congrArg Int32.toInt (by rw [e490]; rfl)
            have f643 := ti_b (q_I δ 12 45 a0)
            refine ok_ite (fun h644 => ?_) (fun h644 => ?_)
            · have c645 : (q_I r613.2 12 45 a0).toInt < vx631.toInt := o_lt h644
              refine ok_bdv (fun d646 e647 => ?_)
              have i648 : RI ad h.1 δ0 d646 := by rw [e647]; exact cs_12_45 L i618
              have u649 := kp_I u625 e647
              have v650 : q_V d646 = q_V δ := ((show q_V d646 = q_V r613.2 by rw [e647]; rfl)).trans v626
              have v651 := kr_N v627 (show q_R d646 = q_R r613.2 by rw [e647]; rfl)
              obtain ⟨b652, o653, k654, n655, w656⟩ := gO_12_44 L k_a0
              obtain rfl := gS_12_44 L k_a0 o653
              refine ok_at o653 ?_
              refine ok_gd (fun hc657 => ?_) ?_
              · rcases hc657 with hc657 | hc657
                · have c658 : (0 : Int) < (0 : Int) := o_lt hc657
                  omega
                · omega
              refine ok_bdv (fun d659 e660 => ?_)
              have i661 : RI ad h.1 δ0 d659 := by rw [e660]; exact RI.sR L i648 w656
              have u662 := kp_N u649 (show q_I d659 = q_I d646 by rw [e660]; rfl)
              have v663 : q_V d659 = q_V δ := ((show q_V d659 = q_V d646 by rw [e660]; rfl)).trans v650
              have v664 := kr_s L (by decide) v651 e660
              refine ok_at o653 ?_
              have t665 : (1 : Int32).toNatClampNeg = 1 := rfl
              refine ok_gd (fun hc666 => ?_) ?_
              · rcases hc666 with hc666 | hc666
                · have c667 : (1 : Int) < (0 : Int) := o_lt hc666
                  omega
                · omega
              refine ok_bdv (fun d668 e669 => ?_)
              have i670 : RI ad h.1 δ0 d668 := by rw [e669]; exact RI.sR L i661 w656
              have u671 := kp_N u662 (show q_I d668 = q_I d659 by rw [e669]; rfl)
              have v672 : q_V d668 = q_V δ := ((show q_V d668 = q_V d659 by rw [e669]; rfl)).trans v663
              have v673 := kr_s L (by decide) v664 e669
              unfold J_X12_findTwo_132
              refine ok_biv (fun vx674 e675 => ?_)
              first | (have q676 := te_addc (c := 1) (n := 1) rfl x3v (by omega) (by omega); rw [← e675] at q676; obtain ⟨f677, f678, f679⟩ := q676) | (obtain ⟨q676, f677, f678, f679⟩ : ∃ q : Int, vx674.toInt = x3v.toInt + (1 : Int) + 4294967296 * q ∧ -2147483648 ≤ vx674.toInt ∧ vx674.toInt ≤ 2147483647 := by rw [e675]; exact ti_addc (c := 1) (n := 1) rfl x3v)
              refine ok_mono (ih x2v vx674 d668 i670 (show 0 ≤ (x2v).toInt by first | assumption | omega) (show (x2v).toInt < 327680 by first | assumption | omega) (show 327680 - (x2v).toInt ≤ K7 by first | assumption | omega) (show 0 ≤ (vx674).toInt by first | assumption | omega) (show (vx674).toInt ≤ 327680 by first | assumption | omega) (show 327680 - (vx674).toInt < _ by omega)) (fun r680 hr681 => ?_)
              obtain ⟨i682, ⟨u683, u684, u685⟩⟩ := hr681
              have u686 := kp_t u671 u683
              have v687 : q_V r680 = q_V δ := (u684).trans v672
              have v688 := kr_t v673 u685
              exact ⟨by assumption, ⟨kp_w (by decide) u686, v687, kr_w (by decide) v688⟩⟩
            · have c689 : vx631.toInt ≤ (q_I r613.2 12 45 a0).toInt := o_nlt h644
              unfold J_X12_findTwo_132
              refine ok_biv (fun vx690 e691 => ?_)
              first | (have q692 := te_addc (c := 1) (n := 1) rfl x3v (by omega) (by omega); rw [← e691] at q692; obtain ⟨f693, f694, f695⟩ := q692) | (obtain ⟨q692, f693, f694, f695⟩ : ∃ q : Int, vx690.toInt = x3v.toInt + (1 : Int) + 4294967296 * q ∧ -2147483648 ≤ vx690.toInt ∧ vx690.toInt ≤ 2147483647 := by rw [e691]; exact ti_addc (c := 1) (n := 1) rfl x3v)
              refine ok_mono (ih x2v vx690 r613.2 i618 (show 0 ≤ (x2v).toInt by first | assumption | omega) (show (x2v).toInt < 327680 by first | assumption | omega) (show 327680 - (x2v).toInt ≤ K7 by first | assumption | omega) (show 0 ≤ (vx690).toInt by first | assumption | omega) (show (vx690).toInt ≤ 327680 by first | assumption | omega) (show 327680 - (vx690).toInt < _ by omega)) (fun r696 hr697 => ?_)
              obtain ⟨i698, ⟨u699, u700, u701⟩⟩ := hr697
              have u702 := kp_t u625 u699
              have v703 : q_V r696 = q_V δ := (u700).trans v626
              have v704 := kr_t v627 u701
              exact ⟨by assumption, ⟨kp_w (by decide) u702, v703, kr_w (by decide) v704⟩⟩
        · have c705 : x2v.toInt < r495.1.toInt := o_nle h506
          unfold J_X12_findTwo_59
          refine ok_bdv (fun d706 e707 => ?_)
          have i708 : RI ad h.1 δ0 d706 := by rw [e707]; exact cs_12_36 L i491 k_a0 (show 0 ≤ (1 : Int) by omega) (show (1 : Int) ≤ 14000 by omega)
          have u709 := kp_I u492 e707
          have v710 : q_V d706 = q_V δ := ((show q_V d706 = q_V d489 by rw [e707]; rfl)).trans v493
          have v711 := kr_N v494 (show q_R d706 = q_R d489 by rw [e707]; rfl)
          refine ok_ite (fun h712 => ?_) (fun h712 => ?_)
          · have c713 : x1.toInt = (1 : Int) := o_eq h712
            unfold J_X12_findTwo_97
            refine ok_biv (fun vx714 e715 => ?_)
            first | (have q716 := te_cadd (c := 1) (n := 1) rfl (0 : Int32) (by omega) (by omega); rw [← e715] at q716; obtain ⟨f717, f718, f719⟩ := q716) | (obtain ⟨q716, f717, f718, f719⟩ : ∃ q : Int, vx714.toInt = (1 : Int) + (0 : Int) + 4294967296 * q ∧ -2147483648 ≤ vx714.toInt ∧ vx714.toInt ≤ 2147483647 := by rw [e715]; exact ti_cadd (c := 1) (n := 1) rfl (0 : Int32))
            have f720 := ti_b (q_I d706 12 45 a0)
            have f721 : (q_I d706 12 45 a0).toInt = (q_I d489 12 45 a0).toInt := congrArg Int32.toInt (by rw [e707]; exact rI_o (by decide))
            have f722 := ti_b (q_I d489 12 45 a0)
            have f723 : (q_I d489 12 45 a0).toInt = (q_I δ 12 45 a0).toInt := congrArg Int32.toInt (by rw [e490]; rfl)
            have f724 := ti_b (q_I δ 12 45 a0)
            refine ok_ite (fun h725 => ?_) (fun h725 => ?_)
            · have c726 : (q_I d706 12 45 a0).toInt < vx714.toInt := o_lt h725
              refine ok_bdv (fun d727 e728 => ?_)
              have i729 : RI ad h.1 δ0 d727 := by rw [e728]; exact cs_12_45 L i708
              have u730 := kp_I u709 e728
              have v731 : q_V d727 = q_V δ := ((show q_V d727 = q_V d706 by rw [e728]; rfl)).trans v710
              have v732 := kr_N v711 (show q_R d727 = q_R d706 by rw [e728]; rfl)
              obtain ⟨b733, o734, k735, n736, w737⟩ := gO_12_44 L k_a0
              obtain rfl := gS_12_44 L k_a0 o734
              refine ok_at o734 ?_
              refine ok_gd (fun hc738 => ?_) ?_
              · rcases hc738 with hc738 | hc738
                · have c739 : (0 : Int) < (0 : Int) := o_lt hc738
                  omega
                · omega
              refine ok_bdv (fun d740 e741 => ?_)
              have i742 : RI ad h.1 δ0 d740 := by rw [e741]; exact RI.sR L i729 w737
              have u743 := kp_N u730 (show q_I d740 = q_I d727 by rw [e741]; rfl)
              have v744 : q_V d740 = q_V δ := ((show q_V d740 = q_V d727 by rw [e741]; rfl)).trans v731
              have v745 := kr_s L (by decide) v732 e741
              refine ok_at o734 ?_
              have t746 : (1 : Int32).toNatClampNeg = 1 := rfl
              refine ok_gd (fun hc747 => ?_) ?_
              · rcases hc747 with hc747 | hc747
                · have c748 : (1 : Int) < (0 : Int) := o_lt hc747
                  omega
                · omega
              refine ok_bdv (fun d749 e750 => ?_)
              have i751 : RI ad h.1 δ0 d749 := by rw [e750]; exact RI.sR L i742 w737
              have u752 := kp_N u743 (show q_I d749 = q_I d740 by rw [e750]; rfl)
              have v753 : q_V d749 = q_V δ := ((show q_V d749 = q_V d740 by rw [e750]; rfl)).trans v744
              have v754 := kr_s L (by decide) v745 e750
              unfold J_X12_findTwo_132
              refine ok_biv (fun vx755 e756 => ?_)
              first | (have q757 := te_addc (c := 1) (n := 1) rfl x3v (by omega) (by omega); rw [← e756] at q757; obtain ⟨f758, f759, f760⟩ := q757) | (obtain ⟨q757, f758, f759, f760⟩ : ∃ q : Int, vx755.toInt = x3v.toInt + (1 : Int) + 4294967296 * q ∧ -2147483648 ≤ vx755.toInt ∧ vx755.toInt ≤ 2147483647 := by rw [e756]; exact ti_addc (c := 1) (n := 1) rfl x3v)
              refine ok_mono (ih x2v vx755 d749 i751 (show 0 ≤ (x2v).toInt by first | assumption | omega) (show (x2v).toInt < 327680 by first | assumption | omega) (show 327680 - (x2v).toInt ≤ K7 by first | assumption | omega) (show 0 ≤ (vx755).toInt by first | assumption | omega) (show (vx755).toInt ≤ 327680 by first | assumption | omega) (show 327680 - (vx755).toInt < _ by omega)) (fun r761 hr762 => ?_)
              obtain ⟨i763, ⟨u764, u765, u766⟩⟩ := hr762
              have u767 := kp_t u752 u764
              have v768 : q_V r761 = q_V δ := (u765).trans v753
              have v769 := kr_t v754 u766
              exact ⟨by assumption, ⟨kp_w (by decide) u767, v768, kr_w (by decide) v769⟩⟩
            · have c770 : vx714.toInt ≤ (q_I d706 12 45 a0).toInt := o_nlt h725
              unfold J_X12_findTwo_132
              refine ok_biv (fun vx771 e772 => ?_)
              first | (have q773 := te_addc (c := 1) (n := 1) rfl x3v (by omega) (by omega); rw [← e772] at q773; obtain ⟨f774, f775, f776⟩ := q773) | (obtain ⟨q773, f774, f775, f776⟩ : ∃ q : Int, vx771.toInt = x3v.toInt + (1 : Int) + 4294967296 * q ∧ -2147483648 ≤ vx771.toInt ∧ vx771.toInt ≤ 2147483647 := by rw [e772]; exact ti_addc (c := 1) (n := 1) rfl x3v)
              refine ok_mono (ih x2v vx771 d706 i708 (show 0 ≤ (x2v).toInt by first | assumption | omega) (show (x2v).toInt < 327680 by first | assumption | omega) (show 327680 - (x2v).toInt ≤ K7 by first | assumption | omega) (show 0 ≤ (vx771).toInt by first | assumption | omega) (show (vx771).toInt ≤ 327680 by first | assumption | omega) (show 327680 - (vx771).toInt < _ by omega)) (fun r777 hr778 => ?_)
              obtain ⟨i779, ⟨u780, u781, u782⟩⟩ := hr778
              have u783 := kp_t u709 u780
              have v784 : q_V r777 = q_V δ := (u781).trans v710
              have v785 := kr_t v711 u782
              exact ⟨by assumption, ⟨kp_w (by decide) u783, v784, kr_w (by decide) v785⟩⟩
          · have c786 : x1.toInt ≠ (1 : Int) := o_ne h712
            refine ok_bind (k_X12_all L hN (a0 := a0) k_a0 i708) (fun r787 hr788 => ?_)
            obtain ⟨i789, p790, p791, p792, p793⟩ := hr788
            try rw [i789]
            have f794 := ti_b r787.1
            have f795 := cb_12_10 i708 k_a0
            have f796 : (q_I d706 12 10 a0).toInt = (q_I d489 12 10 a0).toInt := congrArg Int32.toInt (by rw [e707]; exact rI_o (by decide))
            have f797 := ti_b r787.1
            refine ok_gd (fun hc798 => ?_) ?_
            · have c799 : r787.1.toInt = (0 : Int) := o_eq hc798
              omega
            refine ok_bind (k_X12_all L hN (a0 := a0) k_a0 i708) (fun r800 hr801 => ?_)
            obtain ⟨i802, p803, p804, p805, p806⟩ := hr801
            try rw [i802]
            have f807 := ti_b r800.1
            have f808 := ti_b r800.1
            refine ok_gd (fun hc809 => ?_) ?_
            · have c810 : r800.1.toInt = (0 : Int) := o_eq hc809
              omega
            have f813 := cb_12_36 i708 k_a0
            have f814 : (q_I d706 12 36 a0).toInt = (1 : Int) := congrArg Int32.toInt (show q_I d706 12 36 a0 = (1 : Int32) by rw [e707]; exact rI_s)
            have f815 := lgb ((q_I d706 12 10 a0)).toInt
            refine ok_bind (k_X12_touch L hN (a0 := a0) (x1 := (x3v / r787.1)) (x2 := (x3v - x3v / r800.1 * r800.1)) (x3 := (q_I d706 12 10 a0)) (x4 := (0 : Int32)) (x5 := (q_I d706 12 36 a0)) k_a0 (show 1 ≤ ((q_I d706 12 10 a0)).toInt by first | assumption | omega) (show ((q_I d706 12 10 a0)).toInt ≤ 16 by first | assumption | omega) (show 0 ≤ (0 : Int) by first | assumption | omega) (show (0 : Int) ≤ ((q_I d706 12 36 a0)).toInt by first | assumption | omega) (show ((q_I d706 12 36 a0)).toInt ≤ (0 : Int) + 2000 by first | assumption | omega) (show ((q_I d706 12 36 a0)).toInt ≤ (q_I d706 12 36 a0).toInt by first | assumption | omega) (show (q_I d706 12 36 a0).toInt + 2000 * LGf ((q_I d706 12 10 a0)).toInt ≤ 12000 by first | assumption | omega) (show ((q_I d706 12 10 a0)).toInt < 20 by first | assumption | omega) i708) (fun r811 hr812 => ?_)
            obtain ⟨i816, ⟨u820, u821, u822⟩, p817, p818, p819⟩ := hr812
            have u823 := kp_t u709 u820
            have v824 : q_V r811.2 = q_V δ := (u821).trans v710
            have v825 := kr_t v711 u822
            have f826 := cb_12_36 i816 k_a0
            have f827 := ti_b r811.1
            have f828 := ti_b r811.1
            unfold J_X12_findTwo_97
            refine ok_biv (fun vx829 e830 => ?_)
            first | (have q831 := te_cadd (c := 1) (n := 1) rfl r811.1 (by omega) (by omega); rw [← e830] at q831; obtain ⟨f832, f833, f834⟩ := q831) | (obtain ⟨q831, f832, f833, f834⟩ : ∃ q : Int, vx829.toInt = (1 : Int) + r811.1.toInt + 4294967296 * q ∧ -2147483648 ≤ vx829.toInt ∧ vx829.toInt ≤ 2147483647 := by rw [e830]; exact ti_cadd (c := 1) (n := 1) rfl r811.1)
            have f835 := ti_b (q_I r811.2 12 45 a0)
            have f836 : (q_I r811.2 12 45 a0).toInt = (q_I d706 12 45 a0).toInt := congrArg Int32.toInt (u820 12 45 a0 (by decide))
            have f837 := ti_b (q_I d706 12 45 a0)
            have f838 : (q_I d706 12 45 a0).toInt = (q_I d489 12 45 a0).toInt := congrArg Int32.toInt (by rw [e707]; exact rI_o (by decide))
            have f839 := ti_b (q_I d489 12 45 a0)
            have f840 : (q_I d489 12 45 a0).toInt = (q_I δ 12 45 a0).toInt := congrArg Int32.toInt (by rw [e490]; rfl)
            have f841 := ti_b (q_I δ 12 45 a0)
            refine ok_ite (fun h842 => ?_) (fun h842 => ?_)
            · have c843 : (q_I r811.2 12 45 a0).toInt < vx829.toInt := o_lt h842
              refine ok_bdv (fun d844 e845 => ?_)
              have i846 : RI ad h.1 δ0 d844 := by rw [e845]; exact cs_12_45 L i816
              have u847 := kp_I u823 e845
              have v848 : q_V d844 = q_V δ := ((show q_V d844 = q_V r811.2 by rw [e845]; rfl)).trans v824
              have v849 := kr_N v825 (show q_R d844 = q_R r811.2 by rw [e845]; rfl)
              obtain ⟨b850, o851, k852, n853, w854⟩ := gO_12_44 L k_a0
              obtain rfl := gS_12_44 L k_a0 o851
              refine ok_at o851 ?_
              refine ok_gd (fun hc855 => ?_) ?_
              · rcases hc855 with hc855 | hc855
                · have c856 : (0 : Int) < (0 : Int) := o_lt hc855
                  omega
                · omega
              refine ok_bdv (fun d857 e858 => ?_)
              have i859 : RI ad h.1 δ0 d857 := by rw [e858]; exact RI.sR L i846 w854
              have u860 := kp_N u847 (show q_I d857 = q_I d844 by rw [e858]; rfl)
              have v861 : q_V d857 = q_V δ := ((show q_V d857 = q_V d844 by rw [e858]; rfl)).trans v848
              have v862 := kr_s L (by decide) v849 e858
              refine ok_at o851 ?_
              have t863 : (1 : Int32).toNatClampNeg = 1 := rfl
              refine ok_gd (fun hc864 => ?_) ?_
              · rcases hc864 with hc864 | hc864
                · have c865 : (1 : Int) < (0 : Int) := o_lt hc864
                  omega
                · omega
              refine ok_bdv (fun d866 e867 => ?_)
              have i868 : RI ad h.1 δ0 d866 := by rw [e867]; exact RI.sR L i859 w854
              have u869 := kp_N u860 (show q_I d866 = q_I d857 by rw [e867]; rfl)
              have v870 : q_V d866 = q_V δ := ((show q_V d866 = q_V d857 by rw [e867]; rfl)).trans v861
              have v871 := kr_s L (by decide) v862 e867
              unfold J_X12_findTwo_132
              refine ok_biv (fun vx872 e873 => ?_)
              first | (have q874 := te_addc (c := 1) (n := 1) rfl x3v (by omega) (by omega); rw [← e873] at q874; obtain ⟨f875, f876, f877⟩ := q874) | (obtain ⟨q874, f875, f876, f877⟩ : ∃ q : Int, vx872.toInt = x3v.toInt + (1 : Int) + 4294967296 * q ∧ -2147483648 ≤ vx872.toInt ∧ vx872.toInt ≤ 2147483647 := by rw [e873]; exact ti_addc (c := 1) (n := 1) rfl x3v)
              refine ok_mono (ih x2v vx872 d866 i868 (show 0 ≤ (x2v).toInt by first | assumption | omega) (show (x2v).toInt < 327680 by first | assumption | omega) (show 327680 - (x2v).toInt ≤ K7 by first | assumption | omega) (show 0 ≤ (vx872).toInt by first | assumption | omega) (show (vx872).toInt ≤ 327680 by first | assumption | omega) (show 327680 - (vx872).toInt < _ by omega)) (fun r878 hr879 => ?_)
              obtain ⟨i880, ⟨u881, u882, u883⟩⟩ := hr879
              have u884 := kp_t u869 u881
              have v885 : q_V r878 = q_V δ := (u882).trans v870
              have v886 := kr_t v871 u883
              exact ⟨by assumption, ⟨kp_w (by decide) u884, v885, kr_w (by decide) v886⟩⟩
            · have c887 : vx829.toInt ≤ (q_I r811.2 12 45 a0).toInt := o_nlt h842
              unfold J_X12_findTwo_132
              refine ok_biv (fun vx888 e889 => ?_)
              first | (have q890 := te_addc (c := 1) (n := 1) rfl x3v (by omega) (by omega); rw [← e889] at q890; obtain ⟨f891, f892, f893⟩ := q890) | (obtain ⟨q890, f891, f892, f893⟩ : ∃ q : Int, vx888.toInt = x3v.toInt + (1 : Int) + 4294967296 * q ∧ -2147483648 ≤ vx888.toInt ∧ vx888.toInt ≤ 2147483647 := by rw [e889]; exact ti_addc (c := 1) (n := 1) rfl x3v)
              refine ok_mono (ih x2v vx888 r811.2 i816 (show 0 ≤ (x2v).toInt by first | assumption | omega) (show (x2v).toInt < 327680 by first | assumption | omega) (show 327680 - (x2v).toInt ≤ K7 by first | assumption | omega) (show 0 ≤ (vx888).toInt by first | assumption | omega) (show (vx888).toInt ≤ 327680 by first | assumption | omega) (show 327680 - (vx888).toInt < _ by omega)) (fun r894 hr895 => ?_)
              obtain ⟨i896, ⟨u897, u898, u899⟩⟩ := hr895
              have u900 := kp_t u823 u897
              have v901 : q_V r894 = q_V δ := (u898).trans v824
              have v902 := kr_t v825 u899
              exact ⟨by assumption, ⟨kp_w (by decide) u900, v901, kr_w (by decide) v902⟩⟩
set_option maxHeartbeats 4000000 in
theorem kl_X12_findTwo_7 {ad : List Nat} {h : hp} (L : Lay TLx ad h) {δ0 : dp} {N : Nat} (hN : 10000000 ≤ N) {a0 : Nat} {x1 : Int32} (k_a0 : q_K h.1 a0 = 12) : ∀ (n : Nat) (x2v : Int32) (δ : dp), RI ad h.1 δ0 δ → 0 ≤ (x2v).toInt → (x2v).toInt ≤ 327680 → 327680 - (x2v).toInt < (n : Int) → ok (L_X12_findTwo_7 N h.1 a0 x1 n x2v δ) (fun r => RI ad h.1 δ0 r ∧ (kp [(12, 36), (12, 45)] δ r ∧ q_V r = q_V δ ∧ kr ad [119, 123] δ r)) := by
  intro n
  induction n with
  | zero =>
    intro x2v δ I j0 j1 hm
    have f1 := ti_b x2v
    exfalso; omega
  | succ n ih =>
    intro x2v δ I j0 j1 hm
    unfold L_X12_findTwo_7
    have f1 := ti_b x2v
    refine ok_bind (k_X12_all L hN (a0 := a0) k_a0 I) (fun r2 hr3 => ?_)
    obtain ⟨i4, p5, p6, p7, p8⟩ := hr3
    try rw [i4]
    have f9 := ti_b r2.1
    have f10 := cb_12_10 I k_a0
    have f11 := ti_b r2.1
    first | (have q13 := te_mulc (c := 5) (n := 5) rfl r2.1 (by omega) (by omega); obtain ⟨f14, f15, f16⟩ := q13) | (obtain ⟨q13, f14, f15, f16⟩ := ti_mulc (c := 5) (n := 5) rfl r2.1)
    refine ok_ite (fun h17 => ?_) (fun h17 => ?_)
    · have c18 : ((5 : Int32) * r2.1).toInt ≤ x2v.toInt := o_le h17
      exact ok_some (show RI ad h.1 δ0 δ ∧ (kp [(12, 36), (12, 45)] δ δ ∧ q_V δ = q_V δ ∧ kr ad [119, 123] δ δ) from ⟨I, ⟨kp_w (by decide) kp_r, rfl, kr_w (by decide) (kr_r (ad := ad))⟩⟩)
    · have c19 : x2v.toInt < ((5 : Int32) * r2.1).toInt := o_nle h17
      refine ok_mono (kl_X12_findTwo_19 L hN (K7 := (n : Int)) ih k_a0 _ x2v (0 : Int32) δ I (show 0 ≤ (x2v).toInt by first | assumption | omega) (show (x2v).toInt < 327680 by first | assumption | omega) (show 327680 - (x2v).toInt ≤ (n : Int) by first | assumption | omega) (show 0 ≤ (0 : Int) by first | assumption | omega) (show (0 : Int) ≤ 327680 by first | assumption | omega) (show 327680 - (0 : Int) < _ by omega)) (fun r20 hr21 => ?_)
      obtain ⟨i22, ⟨u23, u24, u25⟩⟩ := hr21
      have u26 := kp_t kp_r u23
      have v27 : q_V r20 = q_V δ := (u24).trans rfl
      have v28 := kr_t (kr_r (ad := ad)) u25
      exact ⟨by assumption, ⟨kp_w (by decide) u26, v27, kr_w (by decide) v28⟩⟩
set_option maxHeartbeats 4000000 in
theorem k_X12_findTwo {ad : List Nat} {h : hp} (L : Lay TLx ad h) {δ0 : dp} {N : Nat} (hN : 10000000 ≤ N) {a0 : Nat} {x1 : Int32} (k_a0 : q_K h.1 a0 = 12) {δ : dp} (I : RI ad h.1 δ0 δ) : ok (D_X12_findTwo N h.1 a0 x1 δ) (fun r => RI ad h.1 δ0 r ∧ (kp [(12, 36), (12, 45)] δ r ∧ q_V r = q_V δ ∧ kr ad [119, 123] δ r)) := by
  unfold D_X12_findTwo
  refine ok_bdv (fun d1 e2 => ?_)
  have i3 : RI ad h.1 δ0 d1 := by rw [e2]; exact cs_12_45 L I
  have u4 := kp_I kp_r e2
  have v5 : q_V d1 = q_V δ := ((show q_V d1 = q_V δ by rw [e2]; rfl)).trans rfl
  have v6 := kr_N (kr_r (ad := ad)) (show q_R d1 = q_R δ by rw [e2]; rfl)
  refine ok_mono (kl_X12_findTwo_7 L hN   k_a0 _ (0 : Int32) d1 i3 (show 0 ≤ (0 : Int) by first | assumption | omega) (show (0 : Int) ≤ 327680 by first | assumption | omega) (show 327680 - (0 : Int) < _ by omega)) (fun r7 hr8 => ?_)
  obtain ⟨i9, ⟨u10, u11, u12⟩⟩ := hr8
  have u13 := kp_t u4 u10
  have v14 : q_V r7 = q_V δ := (u11).trans v5
  have v15 := kr_t v6 u12
  exact ⟨by assumption, ⟨kp_w (by decide) u13, v14, kr_w (by decide) v15⟩⟩
set_option maxHeartbeats 4000000 in
theorem kl_X12_room_60 {ad : List Nat} {h : hp} (L : Lay TLx ad h) {δ0 : dp} {N : Nat} (hN : 10000000 ≤ N) {a0 : Nat} {x1 : Int32} {x2 : Int32} (k_a0 : q_K h.1 a0 = 12) : ∀ (n : Nat) (x3v : Int32) (x4v : Int32) (δ : dp), RI ad h.1 δ0 δ → 0 ≤ (x1).toInt → (x1).toInt ≤ 3 → 0 ≤ (x4v).toInt → (x4v).toInt ≤ 1000 → -(x4v).toInt ≤ (q_R δ (Ad ad 103) (x1).toNatClampNeg).toInt → (q_R δ (Ad ad 103) (x1).toNatClampNeg).toInt ≤ (x4v).toInt → 1000 - (x4v).toInt < (n : Int) → ok (L_X12_room_60 N h.1 a0 x1 x2 n x3v x4v δ) (fun r => RI ad h.1 δ0 r.2 ∧ (kp [(12, 0), (12, 36), (12, 47)] δ r.2 ∧ q_V r.2 = q_V δ ∧ kr ad [100, 102, 103, 119, 124] δ r.2)) := by
  intro n
  induction n with
  | zero =>
    intro x3v x4v δ I j0 j1 j2 j3 j4 j5 hm
    have f1 := ti_b x1
    have f2 := ti_b x4v
    have t3 := ti_tn x1
    have f4 := rb_103 L I (x1).toNatClampNeg
    exfalso; omega
  | succ n ih =>
    intro x3v x4v δ I j0 j1 j2 j3 j4 j5 hm
    unfold L_X12_room_60
    have f1 := ti_b x1
    have f2 := ti_b x4v
    have t3 := ti_tn x1
    have f4 := rb_103 L I (x1).toNatClampNeg
    obtain ⟨b5, o6, k7, n8⟩ := gO_12_17 L k_a0
    obtain rfl := gS_12_17 L k_a0 o6
    refine ok_at o6 ?_
    have t9 := ti_tn x1
    refine ok_gd (fun hc10 => ?_) ?_
    · rcases hc10 with hc10 | hc10
      · have c11 : x1.toInt < (0 : Int) := o_lt hc10
        omega
      · omega
    have f12 := rb_106 L I x1.toNatClampNeg
    refine ok_ite (fun h13 => ?_) (fun h13 => ?_)
    · have c14 : (q_R δ (Ad ad 106) x1.toNatClampNeg).toInt ≤ x4v.toInt := o_le h13
      refine ok_bind (k_X12_comesBack L hN (a0 := a0) (x1 := x1) k_a0 (show 0 ≤ (x1).toInt by first | assumption | omega) (show (x1).toInt ≤ 3 by first | assumption | omega) I) (fun r15 hr16 => ?_)
      obtain ⟨i17, ⟨u18, u19, u20⟩⟩ := hr16
      have u21 := kp_t kp_r u18
      have v22 : q_V r15 = q_V δ := (u19).trans rfl
      have v23 := kr_t (kr_r (ad := ad)) u20
      exact ok_some (show RI ad h.1 δ0 r15 ∧ (kp [(12, 0), (12, 36), (12, 47)] δ r15 ∧ q_V r15 = q_V δ ∧ kr ad [100, 102, 103, 119, 124] δ r15) from ⟨i17, ⟨kp_w (by decide) u21, v22, kr_w (by decide) v23⟩⟩)
    · have c24 : x4v.toInt < (q_R δ (Ad ad 106) x1.toNatClampNeg).toInt := o_nle h13
      obtain ⟨b25, o26, k27, n28, w29⟩ := gO_12_16 L k_a0
      obtain rfl := gS_12_16 L k_a0 o26
      refine ok_at o26 ?_
      first | (have q31 := te_mulc (c := 1000) (n := 1000) rfl x1 (by omega) (by omega); obtain ⟨f32, f33, f34⟩ := q31) | (obtain ⟨q31, f32, f33, f34⟩ := ti_mulc (c := 1000) (n := 1000) rfl x1)
      first | (have q36 := te_add ((1000 : Int32) * x1) x4v (by omega) (by omega); obtain ⟨f37, f38, f39⟩ := q36) | (obtain ⟨q36, f37, f38, f39⟩ := ti_add ((1000 : Int32) * x1) x4v)
      have t40 := ti_tn (((1000 : Int32) * x1) + x4v)
      refine ok_gd (fun hc41 => ?_) ?_
      · rcases hc41 with hc41 | hc41
        · have c42 : (((1000 : Int32) * x1) + x4v).toInt < (0 : Int) := o_lt hc41
          omega
        · omega
      have f43 := ti_b (q_R δ (Ad ad 105) (((1000 : Int32) * x1) + x4v).toNatClampNeg)
      refine ok_ite (fun h44 => ?_) (fun h44 => ?_)
      · have c45 : (q_R δ (Ad ad 105) (((1000 : Int32) * x1) + x4v).toNatClampNeg).toInt = (1 : Int) := o_eq h44
        unfold J_X12_room_96
        obtain ⟨b46, o47, k48, n49, w50⟩ := gO_12_15 L k_a0
        obtain rfl := gS_12_15 L k_a0 o47
        refine ok_at o47 ?_
        refine ok_gd (fun hc51 => ?_) ?_
        · rcases hc51 with hc51 | hc51
          · have c52 : (((1000 : Int32) * x1) + x4v).toInt < (0 : Int) := o_lt hc51
            omega
          · omega
        refine ok_bind (k_X12_halves L hN (a0 := a0) (x1 := x1) (x2 := (0 : Int32)) (x3 := (q_R δ (Ad ad 104) (((1000 : Int32) * x1) + x4v).toNatClampNeg)) k_a0 (show 0 ≤ (x1).toInt by first | assumption | omega) (show (x1).toInt ≤ 3 by first | assumption | omega) I) (fun r53 hr54 => ?_)
        obtain ⟨i55, ⟨u56, u57, u58⟩⟩ := hr54
        have u59 := kp_t kp_r u56
        have v60 : q_V r53.2 = q_V δ := (u57).trans rfl
        have v61 := kr_t (kr_r (ad := ad)) u58
        have f62 := ti_b r53.1
        have f65 := ti_b x3v
        refine ok_biv (fun vx63 e64 => ?_)
        first | (have q66 := te_add x3v r53.1 (by omega) (by omega); rw [← e64] at q66; obtain ⟨f67, f68, f69⟩ := q66) | (obtain ⟨q66, f67, f68, f69⟩ : ∃ q : Int, vx63.toInt = x3v.toInt + r53.1.toInt + 4294967296 * q ∧ -2147483648 ≤ vx63.toInt ∧ vx63.toInt ≤ 2147483647 := by rw [e64]; exact ti_add x3v r53.1)
        have f72 : (q_R r53.2 (Ad ad 103) (x1).toNatClampNeg).toInt = (q_R δ (Ad ad 103) (x1).toNatClampNeg).toInt := congrArg Int32.toInt (congrFun (u58 103 (by decide) (by decide) (by decide)) _)
        have f73 := rb_103 L i55 (x1).toNatClampNeg
        refine ok_bind (k_X12_changes L hN (a0 := a0) (x1 := x1) (x2 := x4v) k_a0 (show 0 ≤ (x1).toInt by first | assumption | omega) (show (x1).toInt ≤ 3 by first | assumption | omega) (show 0 ≤ (x4v).toInt by first | assumption | omega) (show (x4v).toInt < 1000 by first | assumption | omega) (show -999 ≤ (q_R r53.2 (Ad ad 103) (x1).toNatClampNeg).toInt by first | assumption | omega) (show (q_R r53.2 (Ad ad 103) (x1).toNatClampNeg).toInt < 2000 by first | assumption | omega) i55) (fun r70 hr71 => ?_)
        obtain ⟨i74, ⟨u77, u78, u79⟩, p75, p76⟩ := hr71
        have u80 := kp_t u59 u77
        have v81 : q_V r70 = q_V δ := (u78).trans v60
        have v82 := kr_t v61 u79
        have f83 := rb_103 L i74 (x1).toNatClampNeg
        refine ok_biv (fun vx84 e85 => ?_)
        first | (have q86 := te_addc (c := 1) (n := 1) rfl x4v (by omega) (by omega); rw [← e85] at q86; obtain ⟨f87, f88, f89⟩ := q86) | (obtain ⟨q86, f87, f88, f89⟩ : ∃ q : Int, vx84.toInt = x4v.toInt + (1 : Int) + 4294967296 * q ∧ -2147483648 ≤ vx84.toInt ∧ vx84.toInt ≤ 2147483647 := by rw [e85]; exact ti_addc (c := 1) (n := 1) rfl x4v)
        refine ok_mono (ih vx63 vx84 r70 i74 (show 0 ≤ (x1).toInt by first | assumption | omega) (show (x1).toInt ≤ 3 by first | assumption | omega) (show 0 ≤ (vx84).toInt by first | assumption | omega) (show (vx84).toInt ≤ 1000 by first | assumption | omega) (show -(vx84).toInt ≤ (q_R r70 (Ad ad 103) (x1).toNatClampNeg).toInt by first | assumption | omega) (show (q_R r70 (Ad ad 103) (x1).toNatClampNeg).toInt ≤ (vx84).toInt by first | assumption | omega) (show 1000 - (vx84).toInt < _ by omega)) (fun r90 hr91 => ?_)
        obtain ⟨i92, ⟨u93, u94, u95⟩⟩ := hr91
        have u96 := kp_t u80 u93
        have v97 : q_V r90.2 = q_V δ := (u94).trans v81
        have v98 := kr_t v82 u95
        have f99 := ti_b r90.1
        exact ⟨by assumption, ⟨kp_w (by decide) u96, v97, kr_w (by decide) v98⟩⟩
      · have c100 : (q_R δ (Ad ad 105) (((1000 : Int32) * x1) + x4v).toNatClampNeg).toInt ≠ (1 : Int) := o_ne h44
        unfold J_X12_room_96
        obtain ⟨b101, o102, k103, n104, w105⟩ := gO_12_15 L k_a0
        obtain rfl := gS_12_15 L k_a0 o102
        refine ok_at o102 ?_
        refine ok_gd (fun hc106 => ?_) ?_
        · rcases hc106 with hc106 | hc106
          · have c107 : (((1000 : Int32) * x1) + x4v).toInt < (0 : Int) := o_lt hc106
            omega
          · omega
        refine ok_bind (k_X12_halves L hN (a0 := a0) (x1 := x1) (x2 := (1 : Int32)) (x3 := (q_R δ (Ad ad 104) (((1000 : Int32) * x1) + x4v).toNatClampNeg)) k_a0 (show 0 ≤ (x1).toInt by first | assumption | omega) (show (x1).toInt ≤ 3 by first | assumption | omega) I) (fun r108 hr109 => ?_)
        obtain ⟨i110, ⟨u111, u112, u113⟩⟩ := hr109
        have u114 := kp_t kp_r u111
        have v115 : q_V r108.2 = q_V δ := (u112).trans rfl
        have v116 := kr_t (kr_r (ad := ad)) u113
        have f117 := ti_b r108.1
        have f120 := ti_b x3v
        refine ok_biv (fun vx118 e119 => ?_)
        first | (have q121 := te_add x3v r108.1 (by omega) (by omega); rw [← e119] at q121; obtain ⟨f122, f123, f124⟩ := q121) | (obtain ⟨q121, f122, f123, f124⟩ : ∃ q : Int, vx118.toInt = x3v.toInt + r108.1.toInt + 4294967296 * q ∧ -2147483648 ≤ vx118.toInt ∧ vx118.toInt ≤ 2147483647 := by rw [e119]; exact ti_add x3v r108.1)
        have f127 : (q_R r108.2 (Ad ad 103) (x1).toNatClampNeg).toInt = (q_R δ (Ad ad 103) (x1).toNatClampNeg).toInt := congrArg Int32.toInt (congrFun (u113 103 (by decide) (by decide) (by decide)) _)
        have f128 := rb_103 L i110 (x1).toNatClampNeg
        refine ok_bind (k_X12_changes L hN (a0 := a0) (x1 := x1) (x2 := x4v) k_a0 (show 0 ≤ (x1).toInt by first | assumption | omega) (show (x1).toInt ≤ 3 by first | assumption | omega) (show 0 ≤ (x4v).toInt by first | assumption | omega) (show (x4v).toInt < 1000 by first | assumption | omega) (show -999 ≤ (q_R r108.2 (Ad ad 103) (x1).toNatClampNeg).toInt by first | assumption | omega) (show (q_R r108.2 (Ad ad 103) (x1).toNatClampNeg).toInt < 2000 by first | assumption | omega) i110) (fun r125 hr126 => ?_)
        obtain ⟨i129, ⟨u132, u133, u134⟩, p130, p131⟩ := hr126
        have u135 := kp_t u114 u132
        have v136 : q_V r125 = q_V δ := (u133).trans v115
        have v137 := kr_t v116 u134
        have f138 := rb_103 L i129 (x1).toNatClampNeg
        refine ok_biv (fun vx139 e140 => ?_)
        first | (have q141 := te_addc (c := 1) (n := 1) rfl x4v (by omega) (by omega); rw [← e140] at q141; obtain ⟨f142, f143, f144⟩ := q141) | (obtain ⟨q141, f142, f143, f144⟩ : ∃ q : Int, vx139.toInt = x4v.toInt + (1 : Int) + 4294967296 * q ∧ -2147483648 ≤ vx139.toInt ∧ vx139.toInt ≤ 2147483647 := by rw [e140]; exact ti_addc (c := 1) (n := 1) rfl x4v)
        refine ok_mono (ih vx118 vx139 r125 i129 (show 0 ≤ (x1).toInt by first | assumption | omega) (show (x1).toInt ≤ 3 by first | assumption | omega) (show 0 ≤ (vx139).toInt by first | assumption | omega) (show (vx139).toInt ≤ 1000 by first | assumption | omega) (show -(vx139).toInt ≤ (q_R r125 (Ad ad 103) (x1).toNatClampNeg).toInt by first | assumption | omega) (show (q_R r125 (Ad ad 103) (x1).toNatClampNeg).toInt ≤ (vx139).toInt by first | assumption | omega) (show 1000 - (vx139).toInt < _ by omega)) (fun r145 hr146 => ?_)
        obtain ⟨i147, ⟨u148, u149, u150⟩⟩ := hr146
        have u151 := kp_t u135 u148
        have v152 : q_V r145.2 = q_V δ := (u149).trans v136
        have v153 := kr_t v137 u150
        have f154 := ti_b r145.1
        exact ⟨by assumption, ⟨kp_w (by decide) u151, v152, kr_w (by decide) v153⟩⟩
set_option maxHeartbeats 4000000 in
theorem k_X12_room {ad : List Nat} {h : hp} (L : Lay TLx ad h) {δ0 : dp} {N : Nat} (hN : 10000000 ≤ N) {a0 : Nat} {x1 : Int32} {x2 : Int32} (k_a0 : q_K h.1 a0 = 12) {δ : dp} (I : RI ad h.1 δ0 δ) : ok (D_X12_room N h.1 a0 x1 x2 δ) (fun r => RI ad h.1 δ0 r.2 ∧ (kp [(12, 0), (12, 36), (12, 47)] δ r.2 ∧ q_V r.2 = q_V δ ∧ kr ad [100, 102, 103, 119, 124] δ r.2)) := by
  unfold D_X12_room
  refine ok_bdv (fun d1 e2 => ?_)
  have i3 : RI ad h.1 δ0 d1 := by rw [e2]; exact cs_12_0 L I
  have u4 := kp_I kp_r e2
  have v5 : q_V d1 = q_V δ := ((show q_V d1 = q_V δ by rw [e2]; rfl)).trans rfl
  have v6 := kr_N (kr_r (ad := ad)) (show q_R d1 = q_R δ by rw [e2]; rfl)
  refine ok_bind (k_X12_isHouse L hN (a0 := a0) (x1 := x1) (x2 := (1 : Int32)) k_a0 (show (1 : Int) ≠ 0 by first | assumption | omega) i3) (fun r7 hr8 => ?_)
  obtain ⟨i9, ⟨u12, u13, u14⟩, p10, p11⟩ := hr8
  have u15 := kp_t u4 u12
  have v16 : q_V r7.2 = q_V δ := (u13).trans v5
  have v17 := kr_t v6 u14
  have f18 := bo_l p10
  have f19 := ti_b r7.1
  have f20 := ti_b x1
  have f21 := ti_b r7.1
  refine ok_ite (fun h22 => ?_) (fun h22 => ?_)
  · have c23 : r7.1.toInt = (0 : Int) := o_eq h22
    unfold J_X12_room_29
    exact ok_some (show RI ad h.1 δ0 r7.2 ∧ (kp [(12, 0), (12, 36), (12, 47)] δ r7.2 ∧ q_V r7.2 = q_V δ ∧ kr ad [100, 102, 103, 119, 124] δ r7.2) from ⟨i9, ⟨kp_w (by decide) u15, v16, kr_w (by decide) v17⟩⟩)
  · have c24 : r7.1.toInt ≠ (0 : Int) := o_ne h22
    refine ok_bind (k_X12_within L hN (x0 := x2) (x1 := (0 : Int32)) (x2 := (1 : Int32))  i9) (fun r25 hr26 => ?_)
    obtain ⟨i27, p28, p29, p30⟩ := hr26
    try rw [i27]
    have f31 := bo_l p28
    have f32 := ti_b r25.1
    have f33 := ti_b x2
    replace p29 : ((r25.1).toInt = 1 → (0 : Int) ≤ (x2).toInt ∧ (x2).toInt ≤ (1 : Int)) := p29
    replace p30 : ((r25.1).toInt = 0 → (x2).toInt < (0 : Int) ∨ (1 : Int) < (x2).toInt) := p30
    have f34 := ti_b r25.1
    refine ok_bind (k_X12_may L hN (a0 := a0) (x1 := r25.1) (x2 := (2 : Int32)) (x3 := (2 : Int32)) k_a0 (show (2 : Int) ≠ 0 by first | assumption | omega) (show 0 ≤ (2 : Int) by first | assumption | omega) (show (2 : Int) ≤ 2 by first | assumption | omega) i9) (fun r35 hr36 => ?_)
    obtain ⟨i37, ⟨u41, u42, u43⟩, p38, p39, p40⟩ := hr36
    have u44 := kp_t u15 u41
    have v45 : q_V r35.2 = q_V δ := (u42).trans v16
    have v46 := kr_t v17 u43
    have f47 := bo_l p38
    have f48 := ti_b r35.1
    have f49 := ti_b (q_I r7.2 12 0 a0)
    have f50 := ti_b r35.1
    refine ok_ite (fun h51 => ?_) (fun h51 => ?_)
    · have c52 : r35.1.toInt = (0 : Int) := o_eq h51
      unfold J_X12_room_29
      exact ok_some (show RI ad h.1 δ0 r35.2 ∧ (kp [(12, 0), (12, 36), (12, 47)] δ r35.2 ∧ q_V r35.2 = q_V δ ∧ kr ad [100, 102, 103, 119, 124] δ r35.2) from ⟨i37, ⟨kp_w (by decide) u44, v45, kr_w (by decide) v46⟩⟩)
    · have c53 : r35.1.toInt ≠ (0 : Int) := o_ne h51
      refine ok_ite (fun h54 => ?_) (fun h54 => ?_)
      · have c55 : x2.toInt = (1 : Int) := o_eq h54
        obtain ⟨b56, o57, k58, n59⟩ := gO_12_17 L k_a0
        obtain rfl := gS_12_17 L k_a0 o57
        refine ok_at o57 ?_
        have t60 := ti_tn x1
        refine ok_gd (fun hc61 => ?_) ?_
        · rcases hc61 with hc61 | hc61
          · have c62 : x1.toInt < (0 : Int) := o_lt hc61
            omega
          · omega
        exact ok_some (show RI ad h.1 δ0 r35.2 ∧ (kp [(12, 0), (12, 36), (12, 47)] δ r35.2 ∧ q_V r35.2 = q_V δ ∧ kr ad [100, 102, 103, 119, 124] δ r35.2) from ⟨i37, ⟨kp_w (by decide) u44, v45, kr_w (by decide) v46⟩⟩)
      · have c63 : x2.toInt ≠ (1 : Int) := o_ne h54
        refine ok_bind (k_X12_keeps L hN (a0 := a0) (x1 := x1) k_a0 (show 0 ≤ (x1).toInt by first | assumption | omega) (show (x1).toInt ≤ 3 by first | assumption | omega) i37) (fun r64 hr65 => ?_)
        obtain ⟨i66, ⟨u68, u69, u70⟩, p67⟩ := hr65
        have u71 := kp_t u44 u68
        have v72 : q_V r64 = q_V δ := (u69).trans v45
        have v73 := kr_t v46 u70
        have f74 := cb_12_47 i66 k_a0
        have t75 := ti_tn x1
        have f76 : (q_R r35.2 (Ad ad 103) (x1).toNatClampNeg).toInt = (q_R r7.2 (Ad ad 103) (x1).toNatClampNeg).toInt := congrArg Int32.toInt (congrFun (u43 103 (by decide) (by decide) (by decide)) _)
        have f77 : (q_R r7.2 (Ad ad 103) (x1).toNatClampNeg).toInt = (q_R d1 (Ad ad 103) (x1).toNatClampNeg).toInt := congrArg Int32.toInt (congrFun (u14 103 (by decide) (by decide) (by decide)) _)
        have f78 : (q_R d1 (Ad ad 103) (x1).toNatClampNeg).toInt = (q_R δ (Ad ad 103) (x1).toNatClampNeg).toInt := congrArg Int32.toInt (show q_R d1 (Ad ad 103) (x1).toNatClampNeg = _ by rw [e2]; rfl)
        have f79 := rb_103 L I (x1).toNatClampNeg
        have f80 := rb_103 L i3 (x1).toNatClampNeg
        have f81 := rb_103 L i9 (x1).toNatClampNeg
        have f82 := rb_103 L i37 (x1).toNatClampNeg
        obtain ⟨b83, o84, k85, n86⟩ := gO_12_14 L k_a0
        obtain rfl := gS_12_14 L k_a0 o84
        refine ok_at o84 ?_
        have t87 := ti_tn x1
        refine ok_gd (fun hc88 => ?_) ?_
        · rcases hc88 with hc88 | hc88
          · have c89 : x1.toInt < (0 : Int) := o_lt hc88
            omega
          · omega
        refine ok_bdv (fun d90 e91 => ?_)
        have i92 : RI ad h.1 δ0 d90 := by rw [e91]; exact cr_103 L i66 (show -1000 ≤ (0 : Int) by omega) (show (0 : Int) ≤ 2000 by omega)
        have u93 := kp_N u71 (show q_I d90 = q_I r64 by rw [e91]; rfl)
        have v94 : q_V d90 = q_V δ := ((show q_V d90 = q_V r64 by rw [e91]; rfl)).trans v72
        have v95 := kr_s L (by decide) v73 e91
        have f96 : (q_R d90 (Ad ad 103) (x1).toNatClampNeg).toInt = (0 : Int) := congrArg Int32.toInt (show q_R d90 (Ad ad 103) (x1).toNatClampNeg = (0 : Int32) by rw [e91, qR_sR, if_pos ⟨rfl, rfl⟩])
        have f97 := rb_103 L i92 (x1).toNatClampNeg
        refine ok_mono (kl_X12_room_60 L hN   k_a0 _ (0 : Int32) (0 : Int32) d90 i92 (show 0 ≤ (x1).toInt by first | assumption | omega) (show (x1).toInt ≤ 3 by first | assumption | omega) (show 0 ≤ (0 : Int) by first | assumption | omega) (show (0 : Int) ≤ 1000 by first | assumption | omega) (show -(0 : Int) ≤ (q_R d90 (Ad ad 103) (x1).toNatClampNeg).toInt by first | assumption | omega) (show (q_R d90 (Ad ad 103) (x1).toNatClampNeg).toInt ≤ (0 : Int) by first | assumption | omega) (show 1000 - (0 : Int) < _ by omega)) (fun r98 hr99 => ?_)
        obtain ⟨i100, ⟨u101, u102, u103⟩⟩ := hr99
        have u104 := kp_t u93 u101
        have v105 : q_V r98.2 = q_V δ := (u102).trans v94
        have v106 := kr_t v95 u103
        have f107 := ti_b r98.1
        exact ⟨by assumption, ⟨kp_w (by decide) u104, v105, kr_w (by decide) v106⟩⟩
