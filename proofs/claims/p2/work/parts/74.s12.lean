/-! 74.s12 (by gen_safe.py) -/
set_option maxHeartbeats 4000000 in
theorem kl_X12_shape_299 {ad : List Nat} {h : hp} (L : Lay TLx ad h) {δ0 : dp} {N : Nat} (hN : 10000000 ≤ N) {a0 : Nat} {x1 : Int32} (k_a0 : q_K h.1 a0 = 12) : ∀ (n : Nat) (x6v : Int32) (δ : dp), RI ad h.1 δ0 δ → 0 ≤ (x6v).toInt → (x6v).toInt ≤ 4 → 4 - (x6v).toInt < (n : Int) → ok (L_X12_shape_299 N h.1 a0 x1 n x6v δ) (fun r => RI ad h.1 δ0 r.2 ∧ (kp [(12, 0), (12, 2), (12, 3), (12, 4), (12, 5), (12, 6), (12, 7), (12, 8), (12, 10), (12, 11), (12, 12), (12, 18)] δ r.2 ∧ q_V r.2 = q_V δ ∧ kr ad [100, 103, 106] δ r.2) ∧ (q_I r.2 12 2 a0).toInt = (q_I δ 12 2 a0).toInt) := by
  intro n
  induction n with
  | zero =>
    intro x6v δ I j0 j1 hm
    have f1 := ti_b x6v
    exfalso; omega
  | succ n ih =>
    intro x6v δ I j0 j1 hm
    unfold L_X12_shape_299
    have f1 := ti_b x6v
    refine ok_ite (fun h2 => ?_) (fun h2 => ?_)
    · have c3 : (4 : Int) ≤ x6v.toInt := o_le h2
      refine ok_bdv (fun d4 e5 => ?_)
      have i6 : RI ad h.1 δ0 d4 := by rw [e5]; exact cs_12_18 L I k_a0 (show 0 ≤ (0 : Int) by omega) (show (0 : Int) ≤ 3 by omega)
      have u7 := kp_I kp_r e5
      have v8 : q_V d4 = q_V δ := ((show q_V d4 = q_V δ by rw [e5]; rfl)).trans rfl
      have v9 := kr_N (kr_r (ad := ad)) (show q_R d4 = q_R δ by rw [e5]; rfl)
      refine ok_bind (k_X12_result L hN (a0 := a0) (x1 := (q_I d4 12 10 a0)) k_a0 i6) (fun r10 hr11 => ?_)
      obtain ⟨i12, ⟨u14, u15, u16, u17⟩, p13⟩ := hr11
      have u18 := kp_t u7 u14
      have v19 : q_V r10.2 = q_V δ := (u15).trans v8
      have v20 := kr_t v9 u17
      have f21 := cb_12_5 i6 k_a0
      have f22 : (q_I d4 12 5 a0).toInt = (q_I δ 12 5 a0).toInt := congrArg Int32.toInt (by rw [e5]; exact rI_o (by decide))
      have f23 := cb_12_5 I k_a0
      have f24 := ti_b r10.1
      have f25 := ti_b r10.1
      have f26 := cb_12_2 i12 k_a0
      have f27 : (q_I r10.2 12 2 a0).toInt = (q_I d4 12 2 a0).toInt := congrArg Int32.toInt (u14 12 2 a0 (by decide))
      have f28 := cb_12_2 i6 k_a0
      have f29 : (q_I d4 12 2 a0).toInt = (q_I δ 12 2 a0).toInt := congrArg Int32.toInt (by rw [e5]; exact rI_o (by decide))
      have f30 := cb_12_2 I k_a0
      exact ok_some (show RI ad h.1 δ0 r10.2 ∧ (kp [(12, 0), (12, 2), (12, 3), (12, 4), (12, 5), (12, 6), (12, 7), (12, 8), (12, 10), (12, 11), (12, 12), (12, 18)] δ r10.2 ∧ q_V r10.2 = q_V δ ∧ kr ad [100, 103, 106] δ r10.2) ∧ (q_I r10.2 12 2 a0).toInt = (q_I δ 12 2 a0).toInt from ⟨i12, ⟨kp_w (by decide) u18, v19, kr_w (by decide) v20⟩, by first | assumption | omega⟩)
    · have c31 : x6v.toInt < (4 : Int) := o_nle h2
      obtain ⟨b32, o33, k34, n35⟩ := gO_12_14 L k_a0
      obtain rfl := gS_12_14 L k_a0 o33
      refine ok_at o33 ?_
      have t36 := ti_tn x6v
      refine ok_gd (fun hc37 => ?_) ?_
      · rcases hc37 with hc37 | hc37
        · have c38 : x6v.toInt < (0 : Int) := o_lt hc37
          omega
        · omega
      refine ok_bdv (fun d39 e40 => ?_)
      have i41 : RI ad h.1 δ0 d39 := by rw [e40]; exact cr_103 L I (show -1000 ≤ (0 : Int) by omega) (show (0 : Int) ≤ 2000 by omega)
      have u42 := kp_N kp_r (show q_I d39 = q_I δ by rw [e40]; rfl)
      have v43 : q_V d39 = q_V δ := ((show q_V d39 = q_V δ by rw [e40]; rfl)).trans rfl
      have v44 := kr_s L (by decide) (kr_r (ad := ad)) e40
      obtain ⟨b45, o46, k47, n48⟩ := gO_12_17 L k_a0
      obtain rfl := gS_12_17 L k_a0 o46
      refine ok_at o46 ?_
      refine ok_gd (fun hc49 => ?_) ?_
      · rcases hc49 with hc49 | hc49
        · have c50 : x6v.toInt < (0 : Int) := o_lt hc49
          omega
        · omega
      refine ok_bdv (fun d51 e52 => ?_)
      have i53 : RI ad h.1 δ0 d51 := by rw [e52]; exact cr_106 L i41 (show 0 ≤ (0 : Int) by omega) (show (0 : Int) ≤ 1000 by omega)
      have u54 := kp_N u42 (show q_I d51 = q_I d39 by rw [e52]; rfl)
      have v55 : q_V d51 = q_V δ := ((show q_V d51 = q_V d39 by rw [e52]; rfl)).trans v43
      have v56 := kr_s L (by decide) v44 e52
      refine ok_biv (fun vx57 e58 => ?_)
      first | (have q59 := te_addc (c := 1) (n := 1) rfl x6v (by omega) (by omega); rw [← e58] at q59; obtain ⟨f60, f61, f62⟩ := q59) | (obtain ⟨q59, f60, f61, f62⟩ : ∃ q : Int, vx57.toInt = x6v.toInt + (1 : Int) + 4294967296 * q ∧ -2147483648 ≤ vx57.toInt ∧ vx57.toInt ≤ 2147483647 := by rw [e58]; exact ti_addc (c := 1) (n := 1) rfl x6v)
      refine ok_mono (ih vx57 d51 i53 (show 0 ≤ (vx57).toInt by first | assumption | omega) (show (vx57).toInt ≤ 4 by first | assumption | omega) (show 4 - (vx57).toInt < _ by omega)) (fun r63 hr64 => ?_)
      obtain ⟨i65, ⟨u67, u68, u69⟩, p66⟩ := hr64
      have u70 := kp_t u54 u67
      have v71 : q_V r63.2 = q_V δ := (u68).trans v55
      have v72 := kr_t v56 u69
      have f73 := cb_12_2 i65 k_a0
      have f74 := cb_12_2 i53 k_a0
      have f75 : (q_I d51 12 2 a0).toInt = (q_I d39 12 2 a0).toInt := congrArg Int32.toInt (by rw [e52]; rfl)
      have f76 := cb_12_2 i41 k_a0
      have f77 : (q_I d39 12 2 a0).toInt = (q_I δ 12 2 a0).toInt := congrArg Int32.toInt (by rw [e40]; rfl)
      have f78 := cb_12_2 I k_a0
      have f79 := ti_b r63.1
      exact ⟨by assumption, ⟨kp_w (by decide) u70, v71, kr_w (by decide) v72⟩, by first | assumption | omega⟩
set_option maxHeartbeats 4000000 in
theorem kj_X12_shape_258 {ad : List Nat} {h : hp} (L : Lay TLx ad h) {δ0 : dp} {N : Nat} (hN : 10000000 ≤ N) {a0 : Nat} {x1 : Int32} {kt49 : Int32 → Int32 → Int32 → Int32 → dp → Option (Int32 × dp)} {K49 : Int} (h_kt49 : ∀ (x2v : Int32) (x3v : Int32) (x4v : Int32) (x5v : Int32) (δ : dp), RI ad h.1 δ0 δ → ((q_I δ 12 5 a0).toInt < 0 → 2 ≤ (x2v).toInt ∧ (x2v).toInt ≤ 16 ∧ 1 ≤ (x3v).toInt ∧ (x3v).toInt ≤ 5) → ((x4v).toInt = 0 ∨ (x4v).toInt = 1) → 501 - (q_I δ 12 4 a0).toInt < K49 → ok (kt49 x2v x3v x4v x5v δ) (fun r => RI ad h.1 δ0 r.2 ∧ (kp [(12, 0), (12, 2), (12, 3), (12, 4), (12, 5), (12, 6), (12, 7), (12, 8), (12, 10), (12, 11), (12, 12), (12, 18)] δ r.2 ∧ q_V r.2 = q_V δ ∧ kr ad [100, 103, 106] δ r.2) ∧ (q_I r.2 12 2 a0).toInt = (q_I δ 12 2 a0).toInt)) {x2v : Int32} {x3v : Int32} {x4v : Int32} {x5v : Int32} (k_a0 : q_K h.1 a0 = 12) {δ : dp} (z0 : (q_I δ 12 5 a0).toInt < 0 → 2 ≤ (x2v).toInt ∧ (x2v).toInt ≤ 16 ∧ 1 ≤ (x3v).toInt ∧ (x3v).toInt ≤ 5) (z1 : (x4v).toInt = 0 ∨ (x4v).toInt = 1) (z2 : 501 - (q_I δ 12 4 a0).toInt < K49) (I : RI ad h.1 δ0 δ) : ok (J_X12_shape_258 N h.1 a0 x1 kt49 x2v x3v x4v x5v δ) (fun r => RI ad h.1 δ0 r.2 ∧ (kp [(12, 0), (12, 2), (12, 3), (12, 4), (12, 5), (12, 6), (12, 7), (12, 8), (12, 10), (12, 11), (12, 12), (12, 18)] δ r.2 ∧ q_V r.2 = q_V δ ∧ kr ad [100, 103, 106] δ r.2) ∧ (q_I r.2 12 2 a0).toInt = (q_I δ 12 2 a0).toInt) := by
  unfold J_X12_shape_258
  have f1 := cb_12_5 I k_a0
  have f2 := ti_b x2v
  have f3 := ti_b x3v
  have f4 := ti_b x4v
  have f5 := cb_12_4 I k_a0
  refine ok_bind (k_X12_sign L hN (a0 := a0) (x1 := (59 : Int32)) k_a0 (show (59 : Int) ≠ 0 by first | assumption | omega) I) (fun r6 hr7 => ?_)
  obtain ⟨i8, ⟨u12, u13, u14, u15⟩, p9, p10, p11⟩ := hr7
  have u16 := kp_t kp_r u12
  have v17 : q_V r6 = q_V δ := (u13).trans rfl
  have v18 := kr_t (kr_r (ad := ad)) u15
  have f19 := cb_12_4 i8 k_a0
  have f20 := cb_12_5 i8 k_a0
  refine ok_mono (h_kt49 x2v x3v x4v x5v r6 i8 (show (q_I r6 12 5 a0).toInt < 0 → 2 ≤ (x2v).toInt ∧ (x2v).toInt ≤ 16 ∧ 1 ≤ (x3v).toInt ∧ (x3v).toInt ≤ 5 by first | assumption | omega) (show (x4v).toInt = 0 ∨ (x4v).toInt = 1 by first | assumption | omega) (show 501 - (q_I r6 12 4 a0).toInt < _ by omega)) (fun r21 hr22 => ?_)
  obtain ⟨i23, ⟨u25, u26, u27⟩, p24⟩ := hr22
  have u28 := kp_t u16 u25
  have v29 : q_V r21.2 = q_V δ := (u26).trans v17
  have v30 := kr_t v18 u27
  have f31 := cb_12_2 i23 k_a0
  have f32 := cb_12_2 i8 k_a0
  have f33 : (q_I r6 12 2 a0).toInt = (q_I δ 12 2 a0).toInt := congrArg Int32.toInt (u12 12 2 a0 (by decide))
  have f34 := cb_12_2 I k_a0
  have f35 := ti_b r21.1
  exact ⟨by assumption, ⟨kp_w (by decide) u28, v29, kr_w (by decide) v30⟩, by first | assumption | omega⟩
set_option maxHeartbeats 4000000 in
theorem kj_X12_shape_219 {ad : List Nat} {h : hp} (L : Lay TLx ad h) {δ0 : dp} {N : Nat} (hN : 10000000 ≤ N) {a0 : Nat} {x1 : Int32} {kt49 : Int32 → Int32 → Int32 → Int32 → dp → Option (Int32 × dp)} {K49 : Int} (h_kt49 : ∀ (x2v : Int32) (x3v : Int32) (x4v : Int32) (x5v : Int32) (δ : dp), RI ad h.1 δ0 δ → ((q_I δ 12 5 a0).toInt < 0 → 2 ≤ (x2v).toInt ∧ (x2v).toInt ≤ 16 ∧ 1 ≤ (x3v).toInt ∧ (x3v).toInt ≤ 5) → ((x4v).toInt = 0 ∨ (x4v).toInt = 1) → 501 - (q_I δ 12 4 a0).toInt < K49 → ok (kt49 x2v x3v x4v x5v δ) (fun r => RI ad h.1 δ0 r.2 ∧ (kp [(12, 0), (12, 2), (12, 3), (12, 4), (12, 5), (12, 6), (12, 7), (12, 8), (12, 10), (12, 11), (12, 12), (12, 18)] δ r.2 ∧ q_V r.2 = q_V δ ∧ kr ad [100, 103, 106] δ r.2) ∧ (q_I r.2 12 2 a0).toInt = (q_I δ 12 2 a0).toInt)) {xs0 : Int32} {x2v : Int32} {x3v : Int32} {x5v : Int32} (k_a0 : q_K h.1 a0 = 12) {δ : dp} (z0 : (q_I δ 12 5 a0).toInt < 0 → 2 ≤ (x2v).toInt ∧ (x2v).toInt ≤ 16 ∧ 1 ≤ (x3v).toInt ∧ (x3v).toInt ≤ 5) (z1 : (xs0).toInt = 0 ∨ (xs0).toInt = 1) (z2 : 501 - (q_I δ 12 4 a0).toInt < K49) (I : RI ad h.1 δ0 δ) : ok (J_X12_shape_219 N h.1 a0 x1 kt49 xs0 x2v x3v x5v δ) (fun r => RI ad h.1 δ0 r.2 ∧ (kp [(12, 0), (12, 2), (12, 3), (12, 4), (12, 5), (12, 6), (12, 7), (12, 8), (12, 10), (12, 11), (12, 12), (12, 18)] δ r.2 ∧ q_V r.2 = q_V δ ∧ kr ad [100, 103, 106] δ r.2) ∧ (q_I r.2 12 2 a0).toInt = (q_I δ 12 2 a0).toInt) := by
  unfold J_X12_shape_219
  have f1 := cb_12_5 I k_a0
  have f2 := ti_b x2v
  have f3 := ti_b x3v
  have f4 := ti_b xs0
  have f5 := cb_12_4 I k_a0
  refine ok_ite (fun h6 => ?_) (fun h6 => ?_)
  · have c7 : xs0.toInt = (0 : Int) := o_eq h6
    refine ok_bind (k_X12_word L hN (a0 := a0) k_a0 I) (fun r8 hr9 => ?_)
    obtain ⟨i10, ⟨u13, u14, u15, u16⟩, p11, p12⟩ := hr9
    have u17 := kp_t kp_r u13
    have v18 : q_V r8.2 = q_V δ := (u14).trans rfl
    have v19 := kr_t (kr_r (ad := ad)) u16
    have f20 := cb_12_4 i10 k_a0
    have f21 : hc ad r8.2 a0 = (q_R r8.2 (Ad ad 101) (q_I r8.2 12 4 a0).toNatClampNeg).toInt := rfl
    have t22 := ti_tn (q_I r8.2 12 4 a0)
    have f23 : (q_R r8.2 (Ad ad 101) (q_I r8.2 12 4 a0).toNatClampNeg).toInt = (q_R δ (Ad ad 101) (q_I r8.2 12 4 a0).toNatClampNeg).toInt := congrArg Int32.toInt (congrFun (u16 101 (by decide) (by decide) (by decide)) _)
    have f24 := ti_b (q_R δ (Ad ad 101) (q_I r8.2 12 4 a0).toNatClampNeg)
    have f25 := ti_b (q_R r8.2 (Ad ad 101) (q_I r8.2 12 4 a0).toNatClampNeg)
    have f26 := ti_b r8.1
    have f27 := cb_12_3 I k_a0
    have f28 := ti_b r8.1
    refine ok_bind (k_X12_of L hN (a0 := 4) (show 4 < 16 by first | assumption | omega) i10) (fun r29 hr30 => ?_)
    obtain ⟨i31, p32⟩ := hr30
    try rw [i31]
    have f33 := ti_b r29.1
    have f34 := ti_b r29.1
    refine ok_ite (fun h35 => ?_) (fun h35 => ?_)
    · have c36 : r8.1.toInt = r29.1.toInt := o_eq h35
      unfold J_X12_shape_247
      refine ok_bind (k_X12_fine L hN (a0 := a0) k_a0 i10) (fun r37 hr38 => ?_)
      obtain ⟨i39, p40, p41, p42⟩ := hr38
      try rw [i39]
      have f43 := bo_l p40
      have f44 := cb_12_5 i10 k_a0
      have f45 : (q_I r8.2 12 5 a0).toInt = (q_I δ 12 5 a0).toInt := congrArg Int32.toInt (u13 12 5 a0 (by decide))
      have f46 := ti_b r37.1
      have f47 := ti_b r37.1
      refine ok_ite (fun h48 => ?_) (fun h48 => ?_)
      · have c49 : r37.1.toInt = (0 : Int) := o_eq h48
        refine ok_mono (kj_X12_shape_258 L hN (K49 := K49) (a0 := a0) (x1 := x1) (x2v := x2v) (x3v := x3v) (x4v := xs0) (x5v := x5v) h_kt49 k_a0 (show (q_I r8.2 12 5 a0).toInt < 0 → 2 ≤ (x2v).toInt ∧ (x2v).toInt ≤ 16 ∧ 1 ≤ (x3v).toInt ∧ (x3v).toInt ≤ 5 by first | assumption | omega) (show (xs0).toInt = 0 ∨ (xs0).toInt = 1 by first | assumption | omega) (show 501 - (q_I r8.2 12 4 a0).toInt < K49 by first | assumption | omega) i10) (fun r50 hr51 => ?_)
        obtain ⟨i52, ⟨u54, u55, u56⟩, p53⟩ := hr51
        have u57 := kp_t u17 u54
        have v58 : q_V r50.2 = q_V δ := (u55).trans v18
        have v59 := kr_t v19 u56
        have f60 := cb_12_2 i52 k_a0
        have f61 := cb_12_2 i10 k_a0
        have f62 : (q_I r8.2 12 2 a0).toInt = (q_I δ 12 2 a0).toInt := congrArg Int32.toInt (u13 12 2 a0 (by decide))
        have f63 := cb_12_2 I k_a0
        have f64 := ti_b r50.1
        exact ⟨by assumption, ⟨kp_w (by decide) u57, v58, kr_w (by decide) v59⟩, by first | assumption | omega⟩
      · have c65 : r37.1.toInt ≠ (0 : Int) := o_ne h48
        refine ok_bind (k_X12_pass L hN (a0 := a0) k_a0 i10) (fun r66 hr67 => ?_)
        obtain ⟨i68, ⟨u71, u72, u73, u74⟩, p69, p70⟩ := hr67
        have u75 := kp_t u17 u71
        have v76 : q_V r66 = q_V δ := (u72).trans v18
        have v77 := kr_t v19 u74
        have f78 := cb_12_4 i68 k_a0
        have f79 := cb_12_3 i10 k_a0
        have f80 : (q_I r8.2 12 3 a0).toInt = (q_I δ 12 3 a0).toInt := congrArg Int32.toInt (u13 12 3 a0 (by decide))
        have f81 := cb_12_5 i68 k_a0
        have f82 : (q_I r66 12 5 a0).toInt = (q_I r8.2 12 5 a0).toInt := congrArg Int32.toInt (u71 12 5 a0 (by decide))
        refine ok_mono (kj_X12_shape_258 L hN (K49 := K49) (a0 := a0) (x1 := x1) (x2v := x2v) (x3v := x3v) (x4v := xs0) (x5v := x5v) h_kt49 k_a0 (show (q_I r66 12 5 a0).toInt < 0 → 2 ≤ (x2v).toInt ∧ (x2v).toInt ≤ 16 ∧ 1 ≤ (x3v).toInt ∧ (x3v).toInt ≤ 5 by first | assumption | omega) (show (xs0).toInt = 0 ∨ (xs0).toInt = 1 by first | assumption | omega) (show 501 - (q_I r66 12 4 a0).toInt < K49 by first | assumption | omega) i68) (fun r83 hr84 => ?_)
        obtain ⟨i85, ⟨u87, u88, u89⟩, p86⟩ := hr84
        have u90 := kp_t u75 u87
        have v91 : q_V r83.2 = q_V δ := (u88).trans v76
        have v92 := kr_t v77 u89
        have f93 := cb_12_2 i85 k_a0
        have f94 := cb_12_2 i68 k_a0
        have f95 : (q_I r66 12 2 a0).toInt = (q_I r8.2 12 2 a0).toInt := congrArg Int32.toInt (u71 12 2 a0 (by decide))
        have f96 := cb_12_2 i10 k_a0
        have f97 : (q_I r8.2 12 2 a0).toInt = (q_I δ 12 2 a0).toInt := congrArg Int32.toInt (u13 12 2 a0 (by decide))
        have f98 := cb_12_2 I k_a0
        have f99 := ti_b r83.1
        exact ⟨by assumption, ⟨kp_w (by decide) u90, v91, kr_w (by decide) v92⟩, by first | assumption | omega⟩
    · have c100 : r8.1.toInt ≠ r29.1.toInt := o_ne h35
      refine ok_bind (k_X12_wrong L hN (a0 := a0) (x1 := (1 : Int32)) (x2 := (q_I r8.2 12 4 a0)) k_a0 (show 0 ≤ ((q_I r8.2 12 4 a0)).toInt by first | assumption | omega) (show ((q_I r8.2 12 4 a0)).toInt ≤ 500 by first | assumption | omega) (show 0 ≤ (1 : Int) by first | assumption | omega) (show (1 : Int) ≤ 4 by first | assumption | omega) i10) (fun r101 hr102 => ?_)
      obtain ⟨i103, ⟨u106, u107, u108, u109⟩, p104, p105⟩ := hr102
      have u110 := kp_t u17 u106
      have v111 : q_V r101 = q_V δ := (u107).trans v18
      have v112 := kr_t v19 u109
      have f113 := cb_12_5 i103 k_a0
      have f114 := cb_12_5 i10 k_a0
      have f115 : (q_I r8.2 12 5 a0).toInt = (q_I δ 12 5 a0).toInt := congrArg Int32.toInt (u13 12 5 a0 (by decide))
      unfold J_X12_shape_247
      refine ok_bind (k_X12_fine L hN (a0 := a0) k_a0 i103) (fun r116 hr117 => ?_)
      obtain ⟨i118, p119, p120, p121⟩ := hr117
      try rw [i118]
      have f122 := bo_l p119
      have f123 := ti_b r116.1
      have f124 := ti_b r116.1
      refine ok_ite (fun h125 => ?_) (fun h125 => ?_)
      · have c126 : r116.1.toInt = (0 : Int) := o_eq h125
        have f127 := cb_12_4 i103 k_a0
        have f128 : (q_I r101 12 4 a0).toInt = (q_I r8.2 12 4 a0).toInt := congrArg Int32.toInt (u106 12 4 a0 (by decide))
        refine ok_mono (kj_X12_shape_258 L hN (K49 := K49) (a0 := a0) (x1 := x1) (x2v := x2v) (x3v := x3v) (x4v := xs0) (x5v := x5v) h_kt49 k_a0 (show (q_I r101 12 5 a0).toInt < 0 → 2 ≤ (x2v).toInt ∧ (x2v).toInt ≤ 16 ∧ 1 ≤ (x3v).toInt ∧ (x3v).toInt ≤ 5 by first | assumption | omega) (show (xs0).toInt = 0 ∨ (xs0).toInt = 1 by first | assumption | omega) (show 501 - (q_I r101 12 4 a0).toInt < K49 by first | assumption | omega) i103) (fun r129 hr130 => ?_)
        obtain ⟨i131, ⟨u133, u134, u135⟩, p132⟩ := hr130
        have u136 := kp_t u110 u133
        have v137 : q_V r129.2 = q_V δ := (u134).trans v111
        have v138 := kr_t v112 u135
        have f139 := cb_12_2 i131 k_a0
        have f140 := cb_12_2 i103 k_a0
        have f141 : (q_I r101 12 2 a0).toInt = (q_I r8.2 12 2 a0).toInt := congrArg Int32.toInt (u106 12 2 a0 (by decide))
        have f142 := cb_12_2 i10 k_a0
        have f143 : (q_I r8.2 12 2 a0).toInt = (q_I δ 12 2 a0).toInt := congrArg Int32.toInt (u13 12 2 a0 (by decide))
        have f144 := cb_12_2 I k_a0
        have f145 := ti_b r129.1
        exact ⟨by assumption, ⟨kp_w (by decide) u136, v137, kr_w (by decide) v138⟩, by first | assumption | omega⟩
      · have c146 : r116.1.toInt ≠ (0 : Int) := o_ne h125
        refine ok_bind (k_X12_pass L hN (a0 := a0) k_a0 i103) (fun r147 hr148 => ?_)
        obtain ⟨i149, ⟨u152, u153, u154, u155⟩, p150, p151⟩ := hr148
        have u156 := kp_t u110 u152
        have v157 : q_V r147 = q_V δ := (u153).trans v111
        have v158 := kr_t v112 u155
        have f159 := cb_12_4 i103 k_a0
        have f160 : (q_I r101 12 4 a0).toInt = (q_I r8.2 12 4 a0).toInt := congrArg Int32.toInt (u106 12 4 a0 (by decide))
        have f161 := cb_12_4 i149 k_a0
        have f162 : hc ad r101 a0 = (q_R r101 (Ad ad 101) (q_I r101 12 4 a0).toNatClampNeg).toInt := rfl
        have t163 := ti_tn (q_I r101 12 4 a0)
        have f164 : (q_R r101 (Ad ad 101) (q_I r101 12 4 a0).toNatClampNeg).toInt = (q_R r8.2 (Ad ad 101) (q_I r101 12 4 a0).toNatClampNeg).toInt := congrArg Int32.toInt (congrFun (u109 101 (by decide) (by decide) (by decide)) _)
        have f165 : (q_R r8.2 (Ad ad 101) (q_I r101 12 4 a0).toNatClampNeg).toInt = (q_R δ (Ad ad 101) (q_I r101 12 4 a0).toNatClampNeg).toInt := congrArg Int32.toInt (congrFun (u16 101 (by decide) (by decide) (by decide)) _)
        have f166 := ti_b (q_R δ (Ad ad 101) (q_I r101 12 4 a0).toNatClampNeg)
        have f167 := ti_b (q_R r8.2 (Ad ad 101) (q_I r101 12 4 a0).toNatClampNeg)
        have f168 := ti_b (q_R r101 (Ad ad 101) (q_I r101 12 4 a0).toNatClampNeg)
        have f169 := cb_12_3 i103 k_a0
        have f170 : (q_I r101 12 3 a0).toInt = (q_I r8.2 12 3 a0).toInt := congrArg Int32.toInt (u106 12 3 a0 (by decide))
        have f171 := cb_12_3 i10 k_a0
        have f172 : (q_I r8.2 12 3 a0).toInt = (q_I δ 12 3 a0).toInt := congrArg Int32.toInt (u13 12 3 a0 (by decide))
        have f173 := cb_12_5 i149 k_a0
        have f174 : (q_I r147 12 5 a0).toInt = (q_I r101 12 5 a0).toInt := congrArg Int32.toInt (u152 12 5 a0 (by decide))
        refine ok_mono (kj_X12_shape_258 L hN (K49 := K49) (a0 := a0) (x1 := x1) (x2v := x2v) (x3v := x3v) (x4v := xs0) (x5v := x5v) h_kt49 k_a0 (show (q_I r147 12 5 a0).toInt < 0 → 2 ≤ (x2v).toInt ∧ (x2v).toInt ≤ 16 ∧ 1 ≤ (x3v).toInt ∧ (x3v).toInt ≤ 5 by first | assumption | omega) (show (xs0).toInt = 0 ∨ (xs0).toInt = 1 by first | assumption | omega) (show 501 - (q_I r147 12 4 a0).toInt < K49 by first | assumption | omega) i149) (fun r175 hr176 => ?_)
        obtain ⟨i177, ⟨u179, u180, u181⟩, p178⟩ := hr176
        have u182 := kp_t u156 u179
        have v183 : q_V r175.2 = q_V δ := (u180).trans v157
        have v184 := kr_t v158 u181
        have f185 := cb_12_2 i177 k_a0
        have f186 := cb_12_2 i149 k_a0
        have f187 : (q_I r147 12 2 a0).toInt = (q_I r101 12 2 a0).toInt := congrArg Int32.toInt (u152 12 2 a0 (by decide))
        have f188 := cb_12_2 i103 k_a0
        have f189 : (q_I r101 12 2 a0).toInt = (q_I r8.2 12 2 a0).toInt := congrArg Int32.toInt (u106 12 2 a0 (by decide))
        have f190 := cb_12_2 i10 k_a0
        have f191 : (q_I r8.2 12 2 a0).toInt = (q_I δ 12 2 a0).toInt := congrArg Int32.toInt (u13 12 2 a0 (by decide))
        have f192 := cb_12_2 I k_a0
        have f193 := ti_b r175.1
        exact ⟨by assumption, ⟨kp_w (by decide) u182, v183, kr_w (by decide) v184⟩, by first | assumption | omega⟩
  · have c194 : xs0.toInt ≠ (0 : Int) := o_ne h6
    unfold J_X12_shape_247
    refine ok_bind (k_X12_fine L hN (a0 := a0) k_a0 I) (fun r195 hr196 => ?_)
    obtain ⟨i197, p198, p199, p200⟩ := hr196
    try rw [i197]
    have f201 := bo_l p198
    have f202 := ti_b r195.1
    have f203 := ti_b r195.1
    refine ok_ite (fun h204 => ?_) (fun h204 => ?_)
    · have c205 : r195.1.toInt = (0 : Int) := o_eq h204
      refine ok_mono (kj_X12_shape_258 L hN (K49 := K49) (a0 := a0) (x1 := x1) (x2v := x2v) (x3v := x3v) (x4v := xs0) (x5v := x5v) h_kt49 k_a0 (show (q_I δ 12 5 a0).toInt < 0 → 2 ≤ (x2v).toInt ∧ (x2v).toInt ≤ 16 ∧ 1 ≤ (x3v).toInt ∧ (x3v).toInt ≤ 5 by first | assumption | omega) (show (xs0).toInt = 0 ∨ (xs0).toInt = 1 by first | assumption | omega) (show 501 - (q_I δ 12 4 a0).toInt < K49 by first | assumption | omega) I) (fun r206 hr207 => ?_)
      obtain ⟨i208, ⟨u210, u211, u212⟩, p209⟩ := hr207
      have u213 := kp_t kp_r u210
      have v214 : q_V r206.2 = q_V δ := (u211).trans rfl
      have v215 := kr_t (kr_r (ad := ad)) u212
      have f216 := cb_12_2 i208 k_a0
      have f217 := cb_12_2 I k_a0
      have f218 := ti_b r206.1
      exact ⟨by assumption, ⟨kp_w (by decide) u213, v214, kr_w (by decide) v215⟩, by first | assumption | omega⟩
    · have c219 : r195.1.toInt ≠ (0 : Int) := o_ne h204
      refine ok_bind (k_X12_pass L hN (a0 := a0) k_a0 I) (fun r220 hr221 => ?_)
      obtain ⟨i222, ⟨u225, u226, u227, u228⟩, p223, p224⟩ := hr221
      have u229 := kp_t kp_r u225
      have v230 : q_V r220 = q_V δ := (u226).trans rfl
      have v231 := kr_t (kr_r (ad := ad)) u228
      have f232 := cb_12_4 i222 k_a0
      have f233 : hc ad δ a0 = (q_R δ (Ad ad 101) (q_I δ 12 4 a0).toNatClampNeg).toInt := rfl
      have t234 := ti_tn (q_I δ 12 4 a0)
      have f235 := ti_b (q_R δ (Ad ad 101) (q_I δ 12 4 a0).toNatClampNeg)
      have f236 := cb_12_3 I k_a0
      have f237 := cb_12_5 i222 k_a0
      have f238 : (q_I r220 12 5 a0).toInt = (q_I δ 12 5 a0).toInt := congrArg Int32.toInt (u225 12 5 a0 (by decide))
      refine ok_mono (kj_X12_shape_258 L hN (K49 := K49) (a0 := a0) (x1 := x1) (x2v := x2v) (x3v := x3v) (x4v := xs0) (x5v := x5v) h_kt49 k_a0 (show (q_I r220 12 5 a0).toInt < 0 → 2 ≤ (x2v).toInt ∧ (x2v).toInt ≤ 16 ∧ 1 ≤ (x3v).toInt ∧ (x3v).toInt ≤ 5 by first | assumption | omega) (show (xs0).toInt = 0 ∨ (xs0).toInt = 1 by first | assumption | omega) (show 501 - (q_I r220 12 4 a0).toInt < K49 by first | assumption | omega) i222) (fun r239 hr240 => ?_)
      obtain ⟨i241, ⟨u243, u244, u245⟩, p242⟩ := hr240
      have u246 := kp_t u229 u243
      have v247 : q_V r239.2 = q_V δ := (u244).trans v230
      have v248 := kr_t v231 u245
      have f249 := cb_12_2 i241 k_a0
      have f250 := cb_12_2 i222 k_a0
      have f251 : (q_I r220 12 2 a0).toInt = (q_I δ 12 2 a0).toInt := congrArg Int32.toInt (u225 12 2 a0 (by decide))
      have f252 := cb_12_2 I k_a0
      have f253 := ti_b r239.1
      exact ⟨by assumption, ⟨kp_w (by decide) u246, v247, kr_w (by decide) v248⟩, by first | assumption | omega⟩
set_option maxHeartbeats 4000000 in
theorem kj_X12_shape_148 {ad : List Nat} {h : hp} (L : Lay TLx ad h) {δ0 : dp} {N : Nat} (hN : 10000000 ≤ N) {a0 : Nat} {x1 : Int32} {kt49 : Int32 → Int32 → Int32 → Int32 → dp → Option (Int32 × dp)} {K49 : Int} (h_kt49 : ∀ (x2v : Int32) (x3v : Int32) (x4v : Int32) (x5v : Int32) (δ : dp), RI ad h.1 δ0 δ → ((q_I δ 12 5 a0).toInt < 0 → 2 ≤ (x2v).toInt ∧ (x2v).toInt ≤ 16 ∧ 1 ≤ (x3v).toInt ∧ (x3v).toInt ≤ 5) → ((x4v).toInt = 0 ∨ (x4v).toInt = 1) → 501 - (q_I δ 12 4 a0).toInt < K49 → ok (kt49 x2v x3v x4v x5v δ) (fun r => RI ad h.1 δ0 r.2 ∧ (kp [(12, 0), (12, 2), (12, 3), (12, 4), (12, 5), (12, 6), (12, 7), (12, 8), (12, 10), (12, 11), (12, 12), (12, 18)] δ r.2 ∧ q_V r.2 = q_V δ ∧ kr ad [100, 103, 106] δ r.2) ∧ (q_I r.2 12 2 a0).toInt = (q_I δ 12 2 a0).toInt)) {x2v : Int32} {x3v : Int32} {x4v : Int32} {x5v : Int32} {x6v : Int32} (k_a0 : q_K h.1 a0 = 12) {δ : dp} (z0 : (q_I δ 12 5 a0).toInt < 0 → 2 ≤ (x2v).toInt ∧ (x2v).toInt ≤ 16 ∧ 1 ≤ (x3v).toInt ∧ (x3v).toInt ≤ 5) (z1 : (x4v).toInt = 0 ∨ (x4v).toInt = 1) (z2 : (q_I δ 12 5 a0).toInt < 0 → (q_I δ 12 4 a0).toInt < (q_I δ 12 3 a0).toInt ∧ 97 ≤ hc ad δ a0 ∧ hc ad δ a0 ≤ 122) (z3 : 501 - (q_I δ 12 4 a0).toInt ≤ K49) (I : RI ad h.1 δ0 δ) : ok (J_X12_shape_148 N h.1 a0 x1 kt49 x2v x3v x4v x5v x6v δ) (fun r => RI ad h.1 δ0 r.2 ∧ (kp [(12, 0), (12, 2), (12, 3), (12, 4), (12, 5), (12, 6), (12, 7), (12, 8), (12, 10), (12, 11), (12, 12), (12, 18)] δ r.2 ∧ q_V r.2 = q_V δ ∧ kr ad [100, 103, 106] δ r.2) ∧ (q_I r.2 12 2 a0).toInt = (q_I δ 12 2 a0).toInt) := by
  unfold J_X12_shape_148
  have f1 : hc ad δ a0 = (q_R δ (Ad ad 101) (q_I δ 12 4 a0).toNatClampNeg).toInt := rfl
  have f2 := cb_12_4 I k_a0
  have t3 := ti_tn (q_I δ 12 4 a0)
  have f4 := ti_b (q_R δ (Ad ad 101) (q_I δ 12 4 a0).toNatClampNeg)
  have f5 := cb_12_5 I k_a0
  have f6 := ti_b x2v
  have f7 := ti_b x3v
  have f8 := ti_b x4v
  have f9 := cb_12_3 I k_a0
  refine ok_bind (k_X12_fine L hN (a0 := a0) k_a0 I) (fun r10 hr11 => ?_)
  obtain ⟨i12, p13, p14, p15⟩ := hr11
  try rw [i12]
  have f16 := bo_l p13
  have f17 := ti_b r10.1
  have f18 := ti_b r10.1
  refine ok_ite (fun h19 => ?_) (fun h19 => ?_)
  · have c20 : r10.1.toInt = (0 : Int) := o_eq h19
    unfold J_X12_shape_267
    refine ok_bind (k_X12_fine L hN (a0 := a0) k_a0 I) (fun r21 hr22 => ?_)
    obtain ⟨i23, p24, p25, p26⟩ := hr22
    try rw [i23]
    have f27 := bo_l p24
    have f28 := ti_b r21.1
    have f29 := ti_b r21.1
    refine ok_ite (fun h30 => ?_) (fun h30 => ?_)
    · have c31 : r21.1.toInt = (0 : Int) := o_eq h30
      refine ok_bind (k_X12_result L hN (a0 := a0) (x1 := (0 : Int32)) k_a0 I) (fun r32 hr33 => ?_)
      obtain ⟨i34, ⟨u36, u37, u38, u39⟩, p35⟩ := hr33
      have u40 := kp_t kp_r u36
      have v41 : q_V r32.2 = q_V δ := (u37).trans rfl
      have v42 := kr_t (kr_r (ad := ad)) u39
      have f43 := ti_b r32.1
      have f44 := ti_b r32.1
      have f45 := cb_12_2 i34 k_a0
      have f46 : (q_I r32.2 12 2 a0).toInt = (q_I δ 12 2 a0).toInt := congrArg Int32.toInt (u36 12 2 a0 (by decide))
      have f47 := cb_12_2 I k_a0
      exact ok_some (show RI ad h.1 δ0 r32.2 ∧ (kp [(12, 0), (12, 2), (12, 3), (12, 4), (12, 5), (12, 6), (12, 7), (12, 8), (12, 10), (12, 11), (12, 12), (12, 18)] δ r32.2 ∧ q_V r32.2 = q_V δ ∧ kr ad [100, 103, 106] δ r32.2) ∧ (q_I r32.2 12 2 a0).toInt = (q_I δ 12 2 a0).toInt from ⟨i34, ⟨kp_w (by decide) u40, v41, kr_w (by decide) v42⟩, by first | assumption | omega⟩)
    · have c48 : r21.1.toInt ≠ (0 : Int) := o_ne h30
      refine ok_bdv (fun d49 e50 => ?_)
      have i51 : RI ad h.1 δ0 d49 := by rw [e50]; exact cs_12_10 L I k_a0 (show 2 ≤ x2v.toInt by omega) (show x2v.toInt ≤ 16 by omega)
      have u52 := kp_I kp_r e50
      have v53 : q_V d49 = q_V δ := ((show q_V d49 = q_V δ by rw [e50]; rfl)).trans rfl
      have v54 := kr_N (kr_r (ad := ad)) (show q_R d49 = q_R δ by rw [e50]; rfl)
      refine ok_bdv (fun d55 e56 => ?_)
      have i57 : RI ad h.1 δ0 d55 := by rw [e56]; exact cs_12_11 L i51 k_a0 (show 1 ≤ x3v.toInt by omega) (show x3v.toInt ≤ 5 by omega)
      have u58 := kp_I u52 e56
      have v59 : q_V d55 = q_V δ := ((show q_V d55 = q_V d49 by rw [e56]; rfl)).trans v53
      have v60 := kr_N v54 (show q_R d55 = q_R d49 by rw [e56]; rfl)
      refine ok_gp (show bo x4v by first | assumption | exact bo_0 | exact bo_1 | exact bo_i (by omega) (by omega)) ?_
      refine ok_bdv (fun d61 e62 => ?_)
      have i63 : RI ad h.1 δ0 d61 := by rw [e62]; exact cs_12_12 L i57 k_a0 (show 0 ≤ x4v.toInt by omega) (show x4v.toInt ≤ 1 by omega)
      have u64 := kp_I u58 e62
      have v65 : q_V d61 = q_V δ := ((show q_V d61 = q_V d55 by rw [e62]; rfl)).trans v59
      have v66 := kr_N v60 (show q_R d61 = q_R d55 by rw [e62]; rfl)
      refine ok_mono (kl_X12_shape_299 L hN   k_a0 _ (0 : Int32) d61 i63 (show 0 ≤ (0 : Int) by first | assumption | omega) (show (0 : Int) ≤ 4 by first | assumption | omega) (show 4 - (0 : Int) < _ by omega)) (fun r67 hr68 => ?_)
      obtain ⟨i69, ⟨u71, u72, u73⟩, p70⟩ := hr68
      have u74 := kp_t u64 u71
      have v75 : q_V r67.2 = q_V δ := (u72).trans v65
      have v76 := kr_t v66 u73
      have f77 := cb_12_2 i69 k_a0
      have f78 := cb_12_2 i63 k_a0
      have f79 : (q_I d61 12 2 a0).toInt = (q_I d55 12 2 a0).toInt := congrArg Int32.toInt (by rw [e62]; exact rI_o (by decide))
      have f80 := cb_12_2 i57 k_a0
      have f81 : (q_I d55 12 2 a0).toInt = (q_I d49 12 2 a0).toInt := congrArg Int32.toInt (by rw [e56]; exact rI_o (by decide))
      have f82 := cb_12_2 i51 k_a0
      have f83 : (q_I d49 12 2 a0).toInt = (q_I δ 12 2 a0).toInt := congrArg Int32.toInt (by rw [e50]; exact rI_o (by decide))
      have f84 := cb_12_2 I k_a0
      have f85 := ti_b r67.1
      exact ⟨by assumption, ⟨kp_w (by decide) u74, v75, kr_w (by decide) v76⟩, by first | assumption | omega⟩
  · have c86 : r10.1.toInt ≠ (0 : Int) := o_ne h19
    have f89 := ti_b (x5v ||| x6v)
    refine ok_biv (fun vx87 e88 => ?_)
    have f90 : vx87.toInt = (x5v ||| x6v).toInt := congrArg Int32.toInt e88
    refine ok_bind (k_X12_pass L hN (a0 := a0) k_a0 I) (fun r91 hr92 => ?_)
    obtain ⟨i93, ⟨u96, u97, u98, u99⟩, p94, p95⟩ := hr92
    have u100 := kp_t kp_r u96
    have v101 : q_V r91 = q_V δ := (u97).trans rfl
    have v102 := kr_t (kr_r (ad := ad)) u99
    have f103 := cb_12_4 i93 k_a0
    have f104 := ti_b x6v
    refine ok_ite (fun h105 => ?_) (fun h105 => ?_)
    · have c106 : x6v.toInt = (1 : Int) := o_eq h105
      refine ok_bind (k_X12_readNumber L hN (a0 := a0) (x1 := (2 : Int32)) (x2 := (16 : Int32)) k_a0 i93) (fun r107 hr108 => ?_)
      obtain ⟨i109, ⟨u116, u117, u118, u119⟩, p110, p111, p112, p113, p114, p115⟩ := hr108
      have u120 := kp_t u100 u116
      have v121 : q_V r107.2 = q_V δ := (u117).trans v101
      have v122 := kr_t v102 u119
      have f123 := cb_12_4 i109 k_a0
      have f124 := cb_12_5 i93 k_a0
      have f125 : (q_I r91 12 5 a0).toInt = (q_I δ 12 5 a0).toInt := congrArg Int32.toInt (u96 12 5 a0 (by decide))
      have f126 := cb_12_5 i109 k_a0
      have f127 := ti_b r107.1
      replace p115 : ((q_I r107.2 12 5 a0).toInt < 0 → (2 : Int) ≤ (r107.1).toInt ∧ (r107.1).toInt ≤ (16 : Int)) := p115
      have f128 := ti_b r107.1
      refine ok_mono (kj_X12_shape_258 L hN (K49 := K49) (a0 := a0) (x1 := x1) (x2v := r107.1) (x3v := x3v) (x4v := x4v) (x5v := vx87) h_kt49 k_a0 (show (q_I r107.2 12 5 a0).toInt < 0 → 2 ≤ (r107.1).toInt ∧ (r107.1).toInt ≤ 16 ∧ 1 ≤ (x3v).toInt ∧ (x3v).toInt ≤ 5 by first | assumption | omega) (show (x4v).toInt = 0 ∨ (x4v).toInt = 1 by first | assumption | omega) (show 501 - (q_I r107.2 12 4 a0).toInt < K49 by first | assumption | omega) i109) (fun r129 hr130 => ?_)
      obtain ⟨i131, ⟨u133, u134, u135⟩, p132⟩ := hr130
      have u136 := kp_t u120 u133
      have v137 : q_V r129.2 = q_V δ := (u134).trans v121
      have v138 := kr_t v122 u135
      have f139 := cb_12_2 i131 k_a0
      have f140 := cb_12_2 i109 k_a0
      have f141 : (q_I r107.2 12 2 a0).toInt = (q_I r91 12 2 a0).toInt := congrArg Int32.toInt (u116 12 2 a0 (by decide))
      have f142 := cb_12_2 i93 k_a0
      have f143 : (q_I r91 12 2 a0).toInt = (q_I δ 12 2 a0).toInt := congrArg Int32.toInt (u96 12 2 a0 (by decide))
      have f144 := cb_12_2 I k_a0
      have f145 := ti_b r129.1
      exact ⟨by assumption, ⟨kp_w (by decide) u136, v137, kr_w (by decide) v138⟩, by first | assumption | omega⟩
    · have c146 : x6v.toInt ≠ (1 : Int) := o_ne h105
      refine ok_ite (fun h147 => ?_) (fun h147 => ?_)
      · have c148 : x6v.toInt = (4 : Int) := o_eq h147
        refine ok_bind (k_X12_readNumber L hN (a0 := a0) (x1 := (1 : Int32)) (x2 := (5 : Int32)) k_a0 i93) (fun r149 hr150 => ?_)
        obtain ⟨i151, ⟨u158, u159, u160, u161⟩, p152, p153, p154, p155, p156, p157⟩ := hr150
        have u162 := kp_t u100 u158
        have v163 : q_V r149.2 = q_V δ := (u159).trans v101
        have v164 := kr_t v102 u161
        have f165 := cb_12_4 i151 k_a0
        have f166 := cb_12_5 i93 k_a0
        have f167 : (q_I r91 12 5 a0).toInt = (q_I δ 12 5 a0).toInt := congrArg Int32.toInt (u96 12 5 a0 (by decide))
        have f168 := cb_12_5 i151 k_a0
        have f169 := ti_b r149.1
        replace p157 : ((q_I r149.2 12 5 a0).toInt < 0 → (1 : Int) ≤ (r149.1).toInt ∧ (r149.1).toInt ≤ (5 : Int)) := p157
        have f170 := ti_b r149.1
        refine ok_mono (kj_X12_shape_258 L hN (K49 := K49) (a0 := a0) (x1 := x1) (x2v := x2v) (x3v := r149.1) (x4v := x4v) (x5v := vx87) h_kt49 k_a0 (show (q_I r149.2 12 5 a0).toInt < 0 → 2 ≤ (x2v).toInt ∧ (x2v).toInt ≤ 16 ∧ 1 ≤ (r149.1).toInt ∧ (r149.1).toInt ≤ 5 by first | assumption | omega) (show (x4v).toInt = 0 ∨ (x4v).toInt = 1 by first | assumption | omega) (show 501 - (q_I r149.2 12 4 a0).toInt < K49 by first | assumption | omega) i151) (fun r171 hr172 => ?_)
        obtain ⟨i173, ⟨u175, u176, u177⟩, p174⟩ := hr172
        have u178 := kp_t u162 u175
        have v179 : q_V r171.2 = q_V δ := (u176).trans v163
        have v180 := kr_t v164 u177
        have f181 := cb_12_2 i173 k_a0
        have f182 := cb_12_2 i151 k_a0
        have f183 : (q_I r149.2 12 2 a0).toInt = (q_I r91 12 2 a0).toInt := congrArg Int32.toInt (u158 12 2 a0 (by decide))
        have f184 := cb_12_2 i93 k_a0
        have f185 : (q_I r91 12 2 a0).toInt = (q_I δ 12 2 a0).toInt := congrArg Int32.toInt (u96 12 2 a0 (by decide))
        have f186 := cb_12_2 I k_a0
        have f187 := ti_b r171.1
        exact ⟨by assumption, ⟨kp_w (by decide) u178, v179, kr_w (by decide) v180⟩, by first | assumption | omega⟩
      · have c188 : x6v.toInt ≠ (4 : Int) := o_ne h147
        refine ok_bind (k_X12_word L hN (a0 := a0) k_a0 i93) (fun r189 hr190 => ?_)
        obtain ⟨i191, ⟨u194, u195, u196, u197⟩, p192, p193⟩ := hr190
        have u198 := kp_t u100 u194
        have v199 : q_V r189.2 = q_V δ := (u195).trans v101
        have v200 := kr_t v102 u197
        have f201 := cb_12_4 i191 k_a0
        have f202 : hc ad r189.2 a0 = (q_R r189.2 (Ad ad 101) (q_I r189.2 12 4 a0).toNatClampNeg).toInt := rfl
        have t203 := ti_tn (q_I r189.2 12 4 a0)
        have f204 : (q_R r189.2 (Ad ad 101) (q_I r189.2 12 4 a0).toNatClampNeg).toInt = (q_R r91 (Ad ad 101) (q_I r189.2 12 4 a0).toNatClampNeg).toInt := congrArg Int32.toInt (congrFun (u197 101 (by decide) (by decide) (by decide)) _)
        have f205 : (q_R r91 (Ad ad 101) (q_I r189.2 12 4 a0).toNatClampNeg).toInt = (q_R δ (Ad ad 101) (q_I r189.2 12 4 a0).toNatClampNeg).toInt := congrArg Int32.toInt (congrFun (u99 101 (by decide) (by decide) (by decide)) _)
        have f206 := ti_b (q_R δ (Ad ad 101) (q_I r189.2 12 4 a0).toNatClampNeg)
        have f207 := ti_b (q_R r91 (Ad ad 101) (q_I r189.2 12 4 a0).toNatClampNeg)
        have f208 := ti_b (q_R r189.2 (Ad ad 101) (q_I r189.2 12 4 a0).toNatClampNeg)
        have f209 := ti_b r189.1
        have f210 := cb_12_3 i93 k_a0
        have f211 : (q_I r91 12 3 a0).toInt = (q_I δ 12 3 a0).toInt := congrArg Int32.toInt (u96 12 3 a0 (by decide))
        have f212 := ti_b r189.1
        refine ok_bind (k_X12_of L hN (a0 := 3) (show 3 < 16 by first | assumption | omega) i191) (fun r213 hr214 => ?_)
        obtain ⟨i215, p216⟩ := hr214
        try rw [i215]
        have f217 := ti_b r213.1
        have f218 := ti_b r213.1
        refine ok_ite (fun h219 => ?_) (fun h219 => ?_)
        · have c220 : r189.1.toInt = r213.1.toInt := o_eq h219
          have f221 := cb_12_5 i191 k_a0
          have f222 : (q_I r189.2 12 5 a0).toInt = (q_I r91 12 5 a0).toInt := congrArg Int32.toInt (u194 12 5 a0 (by decide))
          have f223 := cb_12_5 i93 k_a0
          have f224 : (q_I r91 12 5 a0).toInt = (q_I δ 12 5 a0).toInt := congrArg Int32.toInt (u96 12 5 a0 (by decide))
          refine ok_mono (kj_X12_shape_219 L hN (K49 := K49) (a0 := a0) (x1 := x1) (xs0 := (1 : Int32)) (x2v := x2v) (x3v := x3v) (x5v := vx87) h_kt49 k_a0 (show (q_I r189.2 12 5 a0).toInt < 0 → 2 ≤ (x2v).toInt ∧ (x2v).toInt ≤ 16 ∧ 1 ≤ (x3v).toInt ∧ (x3v).toInt ≤ 5 by first | assumption | omega) (show (1 : Int) = 0 ∨ (1 : Int) = 1 by first | assumption | omega) (show 501 - (q_I r189.2 12 4 a0).toInt < K49 by first | assumption | omega) i191) (fun r225 hr226 => ?_)
          obtain ⟨i227, ⟨u229, u230, u231⟩, p228⟩ := hr226
          have u232 := kp_t u198 u229
          have v233 : q_V r225.2 = q_V δ := (u230).trans v199
          have v234 := kr_t v200 u231
          have f235 := cb_12_2 i227 k_a0
          have f236 := cb_12_2 i191 k_a0
          have f237 : (q_I r189.2 12 2 a0).toInt = (q_I r91 12 2 a0).toInt := congrArg Int32.toInt (u194 12 2 a0 (by decide))
          have f238 := cb_12_2 i93 k_a0
          have f239 : (q_I r91 12 2 a0).toInt = (q_I δ 12 2 a0).toInt := congrArg Int32.toInt (u96 12 2 a0 (by decide))
          have f240 := cb_12_2 I k_a0
          have f241 := ti_b r225.1
          exact ⟨by assumption, ⟨kp_w (by decide) u232, v233, kr_w (by decide) v234⟩, by first | assumption | omega⟩
        · have c242 : r189.1.toInt ≠ r213.1.toInt := o_ne h219
          have f243 := cb_12_5 i191 k_a0
          have f244 : (q_I r189.2 12 5 a0).toInt = (q_I r91 12 5 a0).toInt := congrArg Int32.toInt (u194 12 5 a0 (by decide))
          have f245 := cb_12_5 i93 k_a0
          have f246 : (q_I r91 12 5 a0).toInt = (q_I δ 12 5 a0).toInt := congrArg Int32.toInt (u96 12 5 a0 (by decide))
          refine ok_mono (kj_X12_shape_219 L hN (K49 := K49) (a0 := a0) (x1 := x1) (xs0 := (0 : Int32)) (x2v := x2v) (x3v := x3v) (x5v := vx87) h_kt49 k_a0 (show (q_I r189.2 12 5 a0).toInt < 0 → 2 ≤ (x2v).toInt ∧ (x2v).toInt ≤ 16 ∧ 1 ≤ (x3v).toInt ∧ (x3v).toInt ≤ 5 by first | assumption | omega) (show (0 : Int) = 0 ∨ (0 : Int) = 1 by first | assumption | omega) (show 501 - (q_I r189.2 12 4 a0).toInt < K49 by first | assumption | omega) i191) (fun r247 hr248 => ?_)
          obtain ⟨i249, ⟨u251, u252, u253⟩, p250⟩ := hr248
          have u254 := kp_t u198 u251
          have v255 : q_V r247.2 = q_V δ := (u252).trans v199
          have v256 := kr_t v200 u253
          have f257 := cb_12_2 i249 k_a0
          have f258 := cb_12_2 i191 k_a0
          have f259 : (q_I r189.2 12 2 a0).toInt = (q_I r91 12 2 a0).toInt := congrArg Int32.toInt (u194 12 2 a0 (by decide))
          have f260 := cb_12_2 i93 k_a0
          have f261 : (q_I r91 12 2 a0).toInt = (q_I δ 12 2 a0).toInt := congrArg Int32.toInt (u96 12 2 a0 (by decide))
          have f262 := cb_12_2 I k_a0
          have f263 := ti_b r247.1
          exact ⟨by assumption, ⟨kp_w (by decide) u254, v255, kr_w (by decide) v256⟩, by first | assumption | omega⟩
set_option maxHeartbeats 4000000 in
theorem kj_X12_shape_112 {ad : List Nat} {h : hp} (L : Lay TLx ad h) {δ0 : dp} {N : Nat} (hN : 10000000 ≤ N) {a0 : Nat} {x1 : Int32} {kt49 : Int32 → Int32 → Int32 → Int32 → dp → Option (Int32 × dp)} {K49 : Int} (h_kt49 : ∀ (x2v : Int32) (x3v : Int32) (x4v : Int32) (x5v : Int32) (δ : dp), RI ad h.1 δ0 δ → ((q_I δ 12 5 a0).toInt < 0 → 2 ≤ (x2v).toInt ∧ (x2v).toInt ≤ 16 ∧ 1 ≤ (x3v).toInt ∧ (x3v).toInt ≤ 5) → ((x4v).toInt = 0 ∨ (x4v).toInt = 1) → 501 - (q_I δ 12 4 a0).toInt < K49 → ok (kt49 x2v x3v x4v x5v δ) (fun r => RI ad h.1 δ0 r.2 ∧ (kp [(12, 0), (12, 2), (12, 3), (12, 4), (12, 5), (12, 6), (12, 7), (12, 8), (12, 10), (12, 11), (12, 12), (12, 18)] δ r.2 ∧ q_V r.2 = q_V δ ∧ kr ad [100, 103, 106] δ r.2) ∧ (q_I r.2 12 2 a0).toInt = (q_I δ 12 2 a0).toInt)) {xs0 : Int32} {x2v : Int32} {x3v : Int32} {x4v : Int32} {x5v : Int32} (k_a0 : q_K h.1 a0 = 12) {δ : dp} (z0 : (q_I δ 12 5 a0).toInt < 0 → 2 ≤ (x2v).toInt ∧ (x2v).toInt ≤ 16 ∧ 1 ≤ (x3v).toInt ∧ (x3v).toInt ≤ 5) (z1 : (x4v).toInt = 0 ∨ (x4v).toInt = 1) (z2 : (xs0).toInt = 0 ∨ (q_I δ 12 4 a0).toInt < (q_I δ 12 3 a0).toInt ∧ 97 ≤ hc ad δ a0 ∧ hc ad δ a0 ≤ 122) (z3 : 501 - (q_I δ 12 4 a0).toInt ≤ K49) (I : RI ad h.1 δ0 δ) : ok (J_X12_shape_112 N h.1 a0 x1 kt49 xs0 x2v x3v x4v x5v δ) (fun r => RI ad h.1 δ0 r.2 ∧ (kp [(12, 0), (12, 2), (12, 3), (12, 4), (12, 5), (12, 6), (12, 7), (12, 8), (12, 10), (12, 11), (12, 12), (12, 18)] δ r.2 ∧ q_V r.2 = q_V δ ∧ kr ad [100, 103, 106] δ r.2) ∧ (q_I r.2 12 2 a0).toInt = (q_I δ 12 2 a0).toInt) := by
  unfold J_X12_shape_112
  have f1 : hc ad δ a0 = (q_R δ (Ad ad 101) (q_I δ 12 4 a0).toNatClampNeg).toInt := rfl
  have f2 := cb_12_4 I k_a0
  have t3 := ti_tn (q_I δ 12 4 a0)
  have f4 := ti_b (q_R δ (Ad ad 101) (q_I δ 12 4 a0).toNatClampNeg)
  have f5 := cb_12_5 I k_a0
  have f6 := ti_b x2v
  have f7 := ti_b x3v
  have f8 := ti_b x4v
  have f9 := ti_b xs0
  have f10 := cb_12_3 I k_a0
  refine ok_ite (fun h11 => ?_) (fun h11 => ?_)
  · have c12 : xs0.toInt = (0 : Int) := o_eq h11
    refine ok_bind (k_X12_wrong L hN (a0 := a0) (x1 := (1 : Int32)) (x2 := (q_I δ 12 4 a0)) k_a0 (show 0 ≤ ((q_I δ 12 4 a0)).toInt by first | assumption | omega) (show ((q_I δ 12 4 a0)).toInt ≤ 500 by first | assumption | omega) (show 0 ≤ (1 : Int) by first | assumption | omega) (show (1 : Int) ≤ 4 by first | assumption | omega) I) (fun r13 hr14 => ?_)
    obtain ⟨i15, ⟨u18, u19, u20, u21⟩, p16, p17⟩ := hr14
    have u22 := kp_t kp_r u18
    have v23 : q_V r13 = q_V δ := (u19).trans rfl
    have v24 := kr_t (kr_r (ad := ad)) u21
    have f25 := cb_12_5 i15 k_a0
    have f26 : hc ad r13 a0 = (q_R r13 (Ad ad 101) (q_I r13 12 4 a0).toNatClampNeg).toInt := rfl
    have f27 := cb_12_4 i15 k_a0
    have f28 : (q_I r13 12 4 a0).toInt = (q_I δ 12 4 a0).toInt := congrArg Int32.toInt (u18 12 4 a0 (by decide))
    have t29 := ti_tn (q_I r13 12 4 a0)
    have f30 : (q_R r13 (Ad ad 101) (q_I r13 12 4 a0).toNatClampNeg).toInt = (q_R δ (Ad ad 101) (q_I r13 12 4 a0).toNatClampNeg).toInt := congrArg Int32.toInt (congrFun (u21 101 (by decide) (by decide) (by decide)) _)
    have f31 := ti_b (q_R δ (Ad ad 101) (q_I r13 12 4 a0).toNatClampNeg)
    have f32 := ti_b (q_R r13 (Ad ad 101) (q_I r13 12 4 a0).toNatClampNeg)
    have f33 := cb_12_3 i15 k_a0
    have f34 : (q_I r13 12 3 a0).toInt = (q_I δ 12 3 a0).toInt := congrArg Int32.toInt (u18 12 3 a0 (by decide))
    refine ok_mono (kj_X12_shape_148 L hN (K49 := K49) (a0 := a0) (x1 := x1) (x2v := x2v) (x3v := x3v) (x4v := x4v) (x5v := x5v) (x6v := xs0) h_kt49 k_a0 (show (q_I r13 12 5 a0).toInt < 0 → 2 ≤ (x2v).toInt ∧ (x2v).toInt ≤ 16 ∧ 1 ≤ (x3v).toInt ∧ (x3v).toInt ≤ 5 by first | assumption | omega) (show (x4v).toInt = 0 ∨ (x4v).toInt = 1 by first | assumption | omega) (show (q_I r13 12 5 a0).toInt < 0 → (q_I r13 12 4 a0).toInt < (q_I r13 12 3 a0).toInt ∧ 97 ≤ hc ad r13 a0 ∧ hc ad r13 a0 ≤ 122 by first | assumption | omega) (show 501 - (q_I r13 12 4 a0).toInt ≤ K49 by first | assumption | omega) i15) (fun r35 hr36 => ?_)
    obtain ⟨i37, ⟨u39, u40, u41⟩, p38⟩ := hr36
    have u42 := kp_t u22 u39
    have v43 : q_V r35.2 = q_V δ := (u40).trans v23
    have v44 := kr_t v24 u41
    have f45 := cb_12_2 i37 k_a0
    have f46 := cb_12_2 i15 k_a0
    have f47 : (q_I r13 12 2 a0).toInt = (q_I δ 12 2 a0).toInt := congrArg Int32.toInt (u18 12 2 a0 (by decide))
    have f48 := cb_12_2 I k_a0
    have f49 := ti_b r35.1
    exact ⟨by assumption, ⟨kp_w (by decide) u42, v43, kr_w (by decide) v44⟩, by first | assumption | omega⟩
  · have c50 : xs0.toInt ≠ (0 : Int) := o_ne h11
    have f51 := ti_b (x5v &&& xs0)
    refine ok_ite (fun h52 => ?_) (fun h52 => ?_)
    · have c53 : (x5v &&& xs0).toInt = (0 : Int) := o_eq h52
      refine ok_mono (kj_X12_shape_148 L hN (K49 := K49) (a0 := a0) (x1 := x1) (x2v := x2v) (x3v := x3v) (x4v := x4v) (x5v := x5v) (x6v := xs0) h_kt49 k_a0 (show (q_I δ 12 5 a0).toInt < 0 → 2 ≤ (x2v).toInt ∧ (x2v).toInt ≤ 16 ∧ 1 ≤ (x3v).toInt ∧ (x3v).toInt ≤ 5 by first | assumption | omega) (show (x4v).toInt = 0 ∨ (x4v).toInt = 1 by first | assumption | omega) (show (q_I δ 12 5 a0).toInt < 0 → (q_I δ 12 4 a0).toInt < (q_I δ 12 3 a0).toInt ∧ 97 ≤ hc ad δ a0 ∧ hc ad δ a0 ≤ 122 by first | assumption | omega) (show 501 - (q_I δ 12 4 a0).toInt ≤ K49 by first | assumption | omega) I) (fun r54 hr55 => ?_)
      obtain ⟨i56, ⟨u58, u59, u60⟩, p57⟩ := hr55
      have u61 := kp_t kp_r u58
      have v62 : q_V r54.2 = q_V δ := (u59).trans rfl
      have v63 := kr_t (kr_r (ad := ad)) u60
      have f64 := cb_12_2 i56 k_a0
      have f65 := cb_12_2 I k_a0
      have f66 := ti_b r54.1
      exact ⟨by assumption, ⟨kp_w (by decide) u61, v62, kr_w (by decide) v63⟩, by first | assumption | omega⟩
    · have c67 : (x5v &&& xs0).toInt ≠ (0 : Int) := o_ne h52
      refine ok_bind (k_X12_wrong L hN (a0 := a0) (x1 := (4 : Int32)) (x2 := (q_I δ 12 4 a0)) k_a0 (show 0 ≤ ((q_I δ 12 4 a0)).toInt by first | assumption | omega) (show ((q_I δ 12 4 a0)).toInt ≤ 500 by first | assumption | omega) (show 0 ≤ (4 : Int) by first | assumption | omega) (show (4 : Int) ≤ 4 by first | assumption | omega) I) (fun r68 hr69 => ?_)
      obtain ⟨i70, ⟨u73, u74, u75, u76⟩, p71, p72⟩ := hr69
      have u77 := kp_t kp_r u73
      have v78 : q_V r68 = q_V δ := (u74).trans rfl
      have v79 := kr_t (kr_r (ad := ad)) u76
      have f80 := cb_12_5 i70 k_a0
      have f81 : hc ad r68 a0 = (q_R r68 (Ad ad 101) (q_I r68 12 4 a0).toNatClampNeg).toInt := rfl
      have f82 := cb_12_4 i70 k_a0
      have f83 : (q_I r68 12 4 a0).toInt = (q_I δ 12 4 a0).toInt := congrArg Int32.toInt (u73 12 4 a0 (by decide))
      have t84 := ti_tn (q_I r68 12 4 a0)
      have f85 : (q_R r68 (Ad ad 101) (q_I r68 12 4 a0).toNatClampNeg).toInt = (q_R δ (Ad ad 101) (q_I r68 12 4 a0).toNatClampNeg).toInt := congrArg Int32.toInt (congrFun (u76 101 (by decide) (by decide) (by decide)) _)
      have f86 := ti_b (q_R δ (Ad ad 101) (q_I r68 12 4 a0).toNatClampNeg)
      have f87 := ti_b (q_R r68 (Ad ad 101) (q_I r68 12 4 a0).toNatClampNeg)
      have f88 := cb_12_3 i70 k_a0
      have f89 : (q_I r68 12 3 a0).toInt = (q_I δ 12 3 a0).toInt := congrArg Int32.toInt (u73 12 3 a0 (by decide))
      refine ok_mono (kj_X12_shape_148 L hN (K49 := K49) (a0 := a0) (x1 := x1) (x2v := x2v) (x3v := x3v) (x4v := x4v) (x5v := x5v) (x6v := xs0) h_kt49 k_a0 (show (q_I r68 12 5 a0).toInt < 0 → 2 ≤ (x2v).toInt ∧ (x2v).toInt ≤ 16 ∧ 1 ≤ (x3v).toInt ∧ (x3v).toInt ≤ 5 by first | assumption | omega) (show (x4v).toInt = 0 ∨ (x4v).toInt = 1 by first | assumption | omega) (show (q_I r68 12 5 a0).toInt < 0 → (q_I r68 12 4 a0).toInt < (q_I r68 12 3 a0).toInt ∧ 97 ≤ hc ad r68 a0 ∧ hc ad r68 a0 ≤ 122 by first | assumption | omega) (show 501 - (q_I r68 12 4 a0).toInt ≤ K49 by first | assumption | omega) i70) (fun r90 hr91 => ?_)
      obtain ⟨i92, ⟨u94, u95, u96⟩, p93⟩ := hr91
      have u97 := kp_t u77 u94
      have v98 : q_V r90.2 = q_V δ := (u95).trans v78
      have v99 := kr_t v79 u96
      have f100 := cb_12_2 i92 k_a0
      have f101 := cb_12_2 i70 k_a0
      have f102 : (q_I r68 12 2 a0).toInt = (q_I δ 12 2 a0).toInt := congrArg Int32.toInt (u73 12 2 a0 (by decide))
      have f103 := cb_12_2 I k_a0
      have f104 := ti_b r90.1
      exact ⟨by assumption, ⟨kp_w (by decide) u97, v98, kr_w (by decide) v99⟩, by first | assumption | omega⟩
set_option maxHeartbeats 4000000 in
theorem kl_X12_shape_49 {ad : List Nat} {h : hp} (L : Lay TLx ad h) {δ0 : dp} {N : Nat} (hN : 10000000 ≤ N) {a0 : Nat} {x1 : Int32} (k_a0 : q_K h.1 a0 = 12) : ∀ (n : Nat) (x2v : Int32) (x3v : Int32) (x4v : Int32) (x5v : Int32) (δ : dp), RI ad h.1 δ0 δ → ((q_I δ 12 5 a0).toInt < 0 → 2 ≤ (x2v).toInt ∧ (x2v).toInt ≤ 16 ∧ 1 ≤ (x3v).toInt ∧ (x3v).toInt ≤ 5) → ((x4v).toInt = 0 ∨ (x4v).toInt = 1) → 501 - (q_I δ 12 4 a0).toInt < (n : Int) → ok (L_X12_shape_49 N h.1 a0 x1 n x2v x3v x4v x5v δ) (fun r => RI ad h.1 δ0 r.2 ∧ (kp [(12, 0), (12, 2), (12, 3), (12, 4), (12, 5), (12, 6), (12, 7), (12, 8), (12, 10), (12, 11), (12, 12), (12, 18)] δ r.2 ∧ q_V r.2 = q_V δ ∧ kr ad [100, 103, 106] δ r.2) ∧ (q_I r.2 12 2 a0).toInt = (q_I δ 12 2 a0).toInt) := by
  intro n
  induction n with
  | zero =>
    intro x2v x3v x4v x5v δ I j0 j1 hm
    have f1 := cb_12_5 I k_a0
    have f2 := ti_b x2v
    have f3 := ti_b x3v
    have f4 := ti_b x4v
    have f5 := cb_12_4 I k_a0
    exfalso; omega
  | succ n ih =>
    intro x2v x3v x4v x5v δ I j0 j1 hm
    unfold L_X12_shape_49
    have f1 := cb_12_5 I k_a0
    have f2 := ti_b x2v
    have f3 := ti_b x3v
    have f4 := ti_b x4v
    have f5 := cb_12_4 I k_a0
    refine ok_bind (k_X12_fine L hN (a0 := a0) k_a0 I) (fun r6 hr7 => ?_)
    obtain ⟨i8, p9, p10, p11⟩ := hr7
    try rw [i8]
    have f12 := bo_l p9
    have f13 := ti_b r6.1
    have f14 := ti_b r6.1
    refine ok_ite (fun h15 => ?_) (fun h15 => ?_)
    · have c16 : r6.1.toInt = (0 : Int) := o_eq h15
      unfold J_X12_shape_267
      refine ok_bind (k_X12_fine L hN (a0 := a0) k_a0 I) (fun r17 hr18 => ?_)
      obtain ⟨i19, p20, p21, p22⟩ := hr18
      try rw [i19]
      have f23 := bo_l p20
      have f24 := ti_b r17.1
      have f25 := ti_b r17.1
      refine ok_ite (fun h26 => ?_) (fun h26 => ?_)
      · have c27 : r17.1.toInt = (0 : Int) := o_eq h26
        refine ok_bind (k_X12_result L hN (a0 := a0) (x1 := (0 : Int32)) k_a0 I) (fun r28 hr29 => ?_)
        obtain ⟨i30, ⟨u32, u33, u34, u35⟩, p31⟩ := hr29
        have u36 := kp_t kp_r u32
        have v37 : q_V r28.2 = q_V δ := (u33).trans rfl
        have v38 := kr_t (kr_r (ad := ad)) u35
        have f39 := ti_b r28.1
        have f40 := ti_b r28.1
        have f41 := cb_12_2 i30 k_a0
        have f42 : (q_I r28.2 12 2 a0).toInt = (q_I δ 12 2 a0).toInt := congrArg Int32.toInt (u32 12 2 a0 (by decide))
        have f43 := cb_12_2 I k_a0
        exact ok_some (show RI ad h.1 δ0 r28.2 ∧ (kp [(12, 0), (12, 2), (12, 3), (12, 4), (12, 5), (12, 6), (12, 7), (12, 8), (12, 10), (12, 11), (12, 12), (12, 18)] δ r28.2 ∧ q_V r28.2 = q_V δ ∧ kr ad [100, 103, 106] δ r28.2) ∧ (q_I r28.2 12 2 a0).toInt = (q_I δ 12 2 a0).toInt from ⟨i30, ⟨kp_w (by decide) u36, v37, kr_w (by decide) v38⟩, by first | assumption | omega⟩)
      · have c44 : r17.1.toInt ≠ (0 : Int) := o_ne h26
        refine ok_bdv (fun d45 e46 => ?_)
        have i47 : RI ad h.1 δ0 d45 := by rw [e46]; exact cs_12_10 L I k_a0 (show 2 ≤ x2v.toInt by omega) (show x2v.toInt ≤ 16 by omega)
        have u48 := kp_I kp_r e46
        have v49 : q_V d45 = q_V δ := ((show q_V d45 = q_V δ by rw [e46]; rfl)).trans rfl
        have v50 := kr_N (kr_r (ad := ad)) (show q_R d45 = q_R δ by rw [e46]; rfl)
        refine ok_bdv (fun d51 e52 => ?_)
        have i53 : RI ad h.1 δ0 d51 := by rw [e52]; exact cs_12_11 L i47 k_a0 (show 1 ≤ x3v.toInt by omega) (show x3v.toInt ≤ 5 by omega)
        have u54 := kp_I u48 e52
        have v55 : q_V d51 = q_V δ := ((show q_V d51 = q_V d45 by rw [e52]; rfl)).trans v49
        have v56 := kr_N v50 (show q_R d51 = q_R d45 by rw [e52]; rfl)
        refine ok_gp (show bo x4v by first | assumption | exact bo_0 | exact bo_1 | exact bo_i (by omega) (by omega)) ?_
        refine ok_bdv (fun d57 e58 => ?_)
        have i59 : RI ad h.1 δ0 d57 := by rw [e58]; exact cs_12_12 L i53 k_a0 (show 0 ≤ x4v.toInt by omega) (show x4v.toInt ≤ 1 by omega)
        have u60 := kp_I u54 e58
        have v61 : q_V d57 = q_V δ := ((show q_V d57 = q_V d51 by rw [e58]; rfl)).trans v55
        have v62 := kr_N v56 (show q_R d57 = q_R d51 by rw [e58]; rfl)
        refine ok_mono (kl_X12_shape_299 L hN   k_a0 _ (0 : Int32) d57 i59 (show 0 ≤ (0 : Int) by first | assumption | omega) (show (0 : Int) ≤ 4 by first | assumption | omega) (show 4 - (0 : Int) < _ by omega)) (fun r63 hr64 => ?_)
        obtain ⟨i65, ⟨u67, u68, u69⟩, p66⟩ := hr64
        have u70 := kp_t u60 u67
        have v71 : q_V r63.2 = q_V δ := (u68).trans v61
        have v72 := kr_t v62 u69
        have f73 := cb_12_2 i65 k_a0
        have f74 := cb_12_2 i59 k_a0
        have f75 : (q_I d57 12 2 a0).toInt = (q_I d51 12 2 a0).toInt := congrArg Int32.toInt (by rw [e58]; exact rI_o (by decide))
        have f76 := cb_12_2 i53 k_a0
        have f77 : (q_I d51 12 2 a0).toInt = (q_I d45 12 2 a0).toInt := congrArg Int32.toInt (by rw [e52]; exact rI_o (by decide))
        have f78 := cb_12_2 i47 k_a0
        have f79 : (q_I d45 12 2 a0).toInt = (q_I δ 12 2 a0).toInt := congrArg Int32.toInt (by rw [e46]; exact rI_o (by decide))
        have f80 := cb_12_2 I k_a0
        have f81 := ti_b r63.1
        exact ⟨by assumption, ⟨kp_w (by decide) u70, v71, kr_w (by decide) v72⟩, by first | assumption | omega⟩
    · have c82 : r6.1.toInt ≠ (0 : Int) := o_ne h15
      refine ok_bind (k_X12_isMore L hN (a0 := a0) k_a0 I) (fun r83 hr84 => ?_)
      obtain ⟨i85, ⟨u89, u90, u91, u92⟩, p86, p87, p88⟩ := hr84
      have u93 := kp_t kp_r u89
      have v94 : q_V r83.2 = q_V δ := (u90).trans rfl
      have v95 := kr_t (kr_r (ad := ad)) u92
      have f96 := bo_l p86
      have f97 := cb_12_4 i85 k_a0
      have f98 := ti_b r83.1
      have f99 := cb_12_3 I k_a0
      have f100 := ti_b r83.1
      refine ok_ite (fun h101 => ?_) (fun h101 => ?_)
      · have c102 : r83.1.toInt = (0 : Int) := o_eq h101
        unfold J_X12_shape_267
        refine ok_bind (k_X12_fine L hN (a0 := a0) k_a0 i85) (fun r103 hr104 => ?_)
        obtain ⟨i105, p106, p107, p108⟩ := hr104
        try rw [i105]
        have f109 := bo_l p106
        have f110 := cb_12_5 i85 k_a0
        have f111 : (q_I r83.2 12 5 a0).toInt = (q_I δ 12 5 a0).toInt := congrArg Int32.toInt (u89 12 5 a0 (by decide))
        have f112 := ti_b r103.1
        have f113 := ti_b r103.1
        refine ok_ite (fun h114 => ?_) (fun h114 => ?_)
        · have c115 : r103.1.toInt = (0 : Int) := o_eq h114
          refine ok_bind (k_X12_result L hN (a0 := a0) (x1 := (0 : Int32)) k_a0 i85) (fun r116 hr117 => ?_)
          obtain ⟨i118, ⟨u120, u121, u122, u123⟩, p119⟩ := hr117
          have u124 := kp_t u93 u120
          have v125 : q_V r116.2 = q_V δ := (u121).trans v94
          have v126 := kr_t v95 u123
          have f127 := ti_b r116.1
          have f128 := ti_b r116.1
          have f129 := cb_12_2 i118 k_a0
          have f130 : (q_I r116.2 12 2 a0).toInt = (q_I r83.2 12 2 a0).toInt := congrArg Int32.toInt (u120 12 2 a0 (by decide))
          have f131 := cb_12_2 i85 k_a0
          have f132 : (q_I r83.2 12 2 a0).toInt = (q_I δ 12 2 a0).toInt := congrArg Int32.toInt (u89 12 2 a0 (by decide))
          have f133 := cb_12_2 I k_a0
          exact ok_some (show RI ad h.1 δ0 r116.2 ∧ (kp [(12, 0), (12, 2), (12, 3), (12, 4), (12, 5), (12, 6), (12, 7), (12, 8), (12, 10), (12, 11), (12, 12), (12, 18)] δ r116.2 ∧ q_V r116.2 = q_V δ ∧ kr ad [100, 103, 106] δ r116.2) ∧ (q_I r116.2 12 2 a0).toInt = (q_I δ 12 2 a0).toInt from ⟨i118, ⟨kp_w (by decide) u124, v125, kr_w (by decide) v126⟩, by first | assumption | omega⟩)
        · have c134 : r103.1.toInt ≠ (0 : Int) := o_ne h114
          refine ok_bdv (fun d135 e136 => ?_)
          have i137 : RI ad h.1 δ0 d135 := by rw [e136]; exact cs_12_10 L i85 k_a0 (show 2 ≤ x2v.toInt by omega) (show x2v.toInt ≤ 16 by omega)
          have u138 := kp_I u93 e136
          have v139 : q_V d135 = q_V δ := ((show q_V d135 = q_V r83.2 by rw [e136]; rfl)).trans v94
          have v140 := kr_N v95 (show q_R d135 = q_R r83.2 by rw [e136]; rfl)
          refine ok_bdv (fun d141 e142 => ?_)
          have i143 : RI ad h.1 δ0 d141 := by rw [e142]; exact cs_12_11 L i137 k_a0 (show 1 ≤ x3v.toInt by omega) (show x3v.toInt ≤ 5 by omega)
          have u144 := kp_I u138 e142
          have v145 : q_V d141 = q_V δ := ((show q_V d141 = q_V d135 by rw [e142]; rfl)).trans v139
          have v146 := kr_N v140 (show q_R d141 = q_R d135 by rw [e142]; rfl)
          refine ok_gp (show bo x4v by first | assumption | exact bo_0 | exact bo_1 | exact bo_i (by omega) (by omega)) ?_
          refine ok_bdv (fun d147 e148 => ?_)
          have i149 : RI ad h.1 δ0 d147 := by rw [e148]; exact cs_12_12 L i143 k_a0 (show 0 ≤ x4v.toInt by omega) (show x4v.toInt ≤ 1 by omega)
          have u150 := kp_I u144 e148
          have v151 : q_V d147 = q_V δ := ((show q_V d147 = q_V d141 by rw [e148]; rfl)).trans v145
          have v152 := kr_N v146 (show q_R d147 = q_R d141 by rw [e148]; rfl)
          refine ok_mono (kl_X12_shape_299 L hN   k_a0 _ (0 : Int32) d147 i149 (show 0 ≤ (0 : Int) by first | assumption | omega) (show (0 : Int) ≤ 4 by first | assumption | omega) (show 4 - (0 : Int) < _ by omega)) (fun r153 hr154 => ?_)
          obtain ⟨i155, ⟨u157, u158, u159⟩, p156⟩ := hr154
          have u160 := kp_t u150 u157
          have v161 : q_V r153.2 = q_V δ := (u158).trans v151
          have v162 := kr_t v152 u159
          have f163 := cb_12_2 i155 k_a0
          have f164 := cb_12_2 i149 k_a0
          have f165 : (q_I d147 12 2 a0).toInt = (q_I d141 12 2 a0).toInt := congrArg Int32.toInt (by rw [e148]; exact rI_o (by decide))
          have f166 := cb_12_2 i143 k_a0
          have f167 : (q_I d141 12 2 a0).toInt = (q_I d135 12 2 a0).toInt := congrArg Int32.toInt (by rw [e142]; exact rI_o (by decide))
          have f168 := cb_12_2 i137 k_a0
          have f169 : (q_I d135 12 2 a0).toInt = (q_I r83.2 12 2 a0).toInt := congrArg Int32.toInt (by rw [e136]; exact rI_o (by decide))
          have f170 := cb_12_2 i85 k_a0
          have f171 : (q_I r83.2 12 2 a0).toInt = (q_I δ 12 2 a0).toInt := congrArg Int32.toInt (u89 12 2 a0 (by decide))
          have f172 := cb_12_2 I k_a0
          have f173 := ti_b r153.1
          exact ⟨by assumption, ⟨kp_w (by decide) u160, v161, kr_w (by decide) v162⟩, by first | assumption | omega⟩
      · have c174 : r83.1.toInt ≠ (0 : Int) := o_ne h101
        refine ok_bind (k_X12_word L hN (a0 := a0) k_a0 i85) (fun r175 hr176 => ?_)
        obtain ⟨i177, ⟨u180, u181, u182, u183⟩, p178, p179⟩ := hr176
        have u184 := kp_t u93 u180
        have v185 : q_V r175.2 = q_V δ := (u181).trans v94
        have v186 := kr_t v95 u183
        have f187 := cb_12_4 i177 k_a0
        have f188 : hc ad r175.2 a0 = (q_R r175.2 (Ad ad 101) (q_I r175.2 12 4 a0).toNatClampNeg).toInt := rfl
        have t189 := ti_tn (q_I r175.2 12 4 a0)
        have f190 : (q_R r175.2 (Ad ad 101) (q_I r175.2 12 4 a0).toNatClampNeg).toInt = (q_R r83.2 (Ad ad 101) (q_I r175.2 12 4 a0).toNatClampNeg).toInt := congrArg Int32.toInt (congrFun (u183 101 (by decide) (by decide) (by decide)) _)
        have f191 : (q_R r83.2 (Ad ad 101) (q_I r175.2 12 4 a0).toNatClampNeg).toInt = (q_R δ (Ad ad 101) (q_I r175.2 12 4 a0).toNatClampNeg).toInt := congrArg Int32.toInt (congrFun (u92 101 (by decide) (by decide) (by decide)) _)
        have f192 := ti_b (q_R δ (Ad ad 101) (q_I r175.2 12 4 a0).toNatClampNeg)
        have f193 := ti_b (q_R r83.2 (Ad ad 101) (q_I r175.2 12 4 a0).toNatClampNeg)
        have f194 := ti_b (q_R r175.2 (Ad ad 101) (q_I r175.2 12 4 a0).toNatClampNeg)
        have f195 := ti_b r175.1
        have f196 := cb_12_3 i85 k_a0
        have f197 : (q_I r83.2 12 3 a0).toInt = (q_I δ 12 3 a0).toInt := congrArg Int32.toInt (u89 12 3 a0 (by decide))
        have f198 := ti_b r175.1
        refine ok_bind (k_X12_of L hN (a0 := 0) (show 0 < 16 by first | assumption | omega) i177) (fun r199 hr200 => ?_)
        obtain ⟨i201, p202⟩ := hr200
        try rw [i201]
        have f203 := ti_b r199.1
        have f204 := ti_b r199.1
        refine ok_ite (fun h205 => ?_) (fun h205 => ?_)
        · have c206 : r175.1.toInt = r199.1.toInt := o_eq h205
          have f207 := cb_12_5 i177 k_a0
          have f208 : (q_I r175.2 12 5 a0).toInt = (q_I r83.2 12 5 a0).toInt := congrArg Int32.toInt (u180 12 5 a0 (by decide))
          have f209 := cb_12_5 i85 k_a0
          have f210 : (q_I r83.2 12 5 a0).toInt = (q_I δ 12 5 a0).toInt := congrArg Int32.toInt (u89 12 5 a0 (by decide))
          have f211 := cb_12_3 i177 k_a0
          have f212 : (q_I r175.2 12 3 a0).toInt = (q_I r83.2 12 3 a0).toInt := congrArg Int32.toInt (u180 12 3 a0 (by decide))
          refine ok_mono (kj_X12_shape_112 L hN (K49 := (n : Int)) (a0 := a0) (x1 := x1) (xs0 := (1 : Int32)) (x2v := x2v) (x3v := x3v) (x4v := x4v) (x5v := x5v) ih k_a0 (show (q_I r175.2 12 5 a0).toInt < 0 → 2 ≤ (x2v).toInt ∧ (x2v).toInt ≤ 16 ∧ 1 ≤ (x3v).toInt ∧ (x3v).toInt ≤ 5 by first | assumption | omega) (show (x4v).toInt = 0 ∨ (x4v).toInt = 1 by first | assumption | omega) (show (1 : Int) = 0 ∨ (q_I r175.2 12 4 a0).toInt < (q_I r175.2 12 3 a0).toInt ∧ 97 ≤ hc ad r175.2 a0 ∧ hc ad r175.2 a0 ≤ 122 by first | assumption | omega) (show 501 - (q_I r175.2 12 4 a0).toInt ≤ (n : Int) by first | assumption | omega) i177) (fun r213 hr214 => ?_)
          obtain ⟨i215, ⟨u217, u218, u219⟩, p216⟩ := hr214
          have u220 := kp_t u184 u217
          have v221 : q_V r213.2 = q_V δ := (u218).trans v185
          have v222 := kr_t v186 u219
          have f223 := cb_12_2 i215 k_a0
          have f224 := cb_12_2 i177 k_a0
          have f225 : (q_I r175.2 12 2 a0).toInt = (q_I r83.2 12 2 a0).toInt := congrArg Int32.toInt (u180 12 2 a0 (by decide))
          have f226 := cb_12_2 i85 k_a0
          have f227 : (q_I r83.2 12 2 a0).toInt = (q_I δ 12 2 a0).toInt := congrArg Int32.toInt (u89 12 2 a0 (by decide))
          have f228 := cb_12_2 I k_a0
          have f229 := ti_b r213.1
          exact ⟨by assumption, ⟨kp_w (by decide) u220, v221, kr_w (by decide) v222⟩, by first | assumption | omega⟩
        · have c230 : r175.1.toInt ≠ r199.1.toInt := o_ne h205
          refine ok_bind (k_X12_word L hN (a0 := a0) k_a0 i177) (fun r231 hr232 => ?_)
          obtain ⟨i233, ⟨u236, u237, u238, u239⟩, p234, p235⟩ := hr232
          have u240 := kp_t u184 u236
          have v241 : q_V r231.2 = q_V δ := (u237).trans v185
          have v242 := kr_t v186 u239
          have f243 := cb_12_4 i233 k_a0
          have f244 : hc ad r231.2 a0 = (q_R r231.2 (Ad ad 101) (q_I r231.2 12 4 a0).toNatClampNeg).toInt := rfl
          have t245 := ti_tn (q_I r231.2 12 4 a0)
          have f246 : (q_R r231.2 (Ad ad 101) (q_I r231.2 12 4 a0).toNatClampNeg).toInt = (q_R r175.2 (Ad ad 101) (q_I r231.2 12 4 a0).toNatClampNeg).toInt := congrArg Int32.toInt (congrFun (u239 101 (by decide) (by decide) (by decide)) _)
          have f247 : (q_R r175.2 (Ad ad 101) (q_I r231.2 12 4 a0).toNatClampNeg).toInt = (q_R r83.2 (Ad ad 101) (q_I r231.2 12 4 a0).toNatClampNeg).toInt := congrArg Int32.toInt (congrFun (u183 101 (by decide) (by decide) (by decide)) _)
          have f248 : (q_R r83.2 (Ad ad 101) (q_I r231.2 12 4 a0).toNatClampNeg).toInt = (q_R δ (Ad ad 101) (q_I r231.2 12 4 a0).toNatClampNeg).toInt := congrArg Int32.toInt (congrFun (u92 101 (by decide) (by decide) (by decide)) _)
          have f249 := ti_b (q_R δ (Ad ad 101) (q_I r231.2 12 4 a0).toNatClampNeg)
          have f250 := ti_b (q_R r83.2 (Ad ad 101) (q_I r231.2 12 4 a0).toNatClampNeg)
          have f251 := ti_b (q_R r175.2 (Ad ad 101) (q_I r231.2 12 4 a0).toNatClampNeg)
          have f252 := ti_b (q_R r231.2 (Ad ad 101) (q_I r231.2 12 4 a0).toNatClampNeg)
          have f253 := ti_b r231.1
          have f254 := cb_12_3 i177 k_a0
          have f255 : (q_I r175.2 12 3 a0).toInt = (q_I r83.2 12 3 a0).toInt := congrArg Int32.toInt (u180 12 3 a0 (by decide))
          have f256 := ti_b r231.1
          refine ok_bind (k_X12_of L hN (a0 := 1) (show 1 < 16 by first | assumption | omega) i233) (fun r257 hr258 => ?_)
          obtain ⟨i259, p260⟩ := hr258
          try rw [i259]
          have f261 := ti_b r257.1
          have f262 := ti_b r257.1
          refine ok_ite (fun h263 => ?_) (fun h263 => ?_)
          · have c264 : r231.1.toInt = r257.1.toInt := o_eq h263
            have f265 := cb_12_5 i233 k_a0
            have f266 : (q_I r231.2 12 5 a0).toInt = (q_I r175.2 12 5 a0).toInt := congrArg Int32.toInt (u236 12 5 a0 (by decide))
            have f267 := cb_12_5 i177 k_a0
            have f268 : (q_I r175.2 12 5 a0).toInt = (q_I r83.2 12 5 a0).toInt := congrArg Int32.toInt (u180 12 5 a0 (by decide))
            have f269 := cb_12_5 i85 k_a0
            have f270 : (q_I r83.2 12 5 a0).toInt = (q_I δ 12 5 a0).toInt := congrArg Int32.toInt (u89 12 5 a0 (by decide))
            have f271 := cb_12_3 i233 k_a0
            have f272 : (q_I r231.2 12 3 a0).toInt = (q_I r175.2 12 3 a0).toInt := congrArg Int32.toInt (u236 12 3 a0 (by decide))
            refine ok_mono (kj_X12_shape_112 L hN (K49 := (n : Int)) (a0 := a0) (x1 := x1) (xs0 := (2 : Int32)) (x2v := x2v) (x3v := x3v) (x4v := x4v) (x5v := x5v) ih k_a0 (show (q_I r231.2 12 5 a0).toInt < 0 → 2 ≤ (x2v).toInt ∧ (x2v).toInt ≤ 16 ∧ 1 ≤ (x3v).toInt ∧ (x3v).toInt ≤ 5 by first | assumption | omega) (show (x4v).toInt = 0 ∨ (x4v).toInt = 1 by first | assumption | omega) (show (2 : Int) = 0 ∨ (q_I r231.2 12 4 a0).toInt < (q_I r231.2 12 3 a0).toInt ∧ 97 ≤ hc ad r231.2 a0 ∧ hc ad r231.2 a0 ≤ 122 by first | assumption | omega) (show 501 - (q_I r231.2 12 4 a0).toInt ≤ (n : Int) by first | assumption | omega) i233) (fun r273 hr274 => ?_)
            obtain ⟨i275, ⟨u277, u278, u279⟩, p276⟩ := hr274
            have u280 := kp_t u240 u277
            have v281 : q_V r273.2 = q_V δ := (u278).trans v241
            have v282 := kr_t v242 u279
            have f283 := cb_12_2 i275 k_a0
            have f284 := cb_12_2 i233 k_a0
            have f285 : (q_I r231.2 12 2 a0).toInt = (q_I r175.2 12 2 a0).toInt := congrArg Int32.toInt (u236 12 2 a0 (by decide))
            have f286 := cb_12_2 i177 k_a0
            have f287 : (q_I r175.2 12 2 a0).toInt = (q_I r83.2 12 2 a0).toInt := congrArg Int32.toInt (u180 12 2 a0 (by decide))
            have f288 := cb_12_2 i85 k_a0
            have f289 : (q_I r83.2 12 2 a0).toInt = (q_I δ 12 2 a0).toInt := congrArg Int32.toInt (u89 12 2 a0 (by decide))
            have f290 := cb_12_2 I k_a0
            have f291 := ti_b r273.1
            exact ⟨by assumption, ⟨kp_w (by decide) u280, v281, kr_w (by decide) v282⟩, by first | assumption | omega⟩
          · have c292 : r231.1.toInt ≠ r257.1.toInt := o_ne h263
            refine ok_bind (k_X12_word L hN (a0 := a0) k_a0 i233) (fun r293 hr294 => ?_)
            obtain ⟨i295, ⟨u298, u299, u300, u301⟩, p296, p297⟩ := hr294
            have u302 := kp_t u240 u298
            have v303 : q_V r293.2 = q_V δ := (u299).trans v241
            have v304 := kr_t v242 u301
            have f305 := cb_12_4 i295 k_a0
            have f306 : hc ad r293.2 a0 = (q_R r293.2 (Ad ad 101) (q_I r293.2 12 4 a0).toNatClampNeg).toInt := rfl
            have t307 := ti_tn (q_I r293.2 12 4 a0)
            have f308 : (q_R r293.2 (Ad ad 101) (q_I r293.2 12 4 a0).toNatClampNeg).toInt = (q_R r231.2 (Ad ad 101) (q_I r293.2 12 4 a0).toNatClampNeg).toInt := congrArg Int32.toInt (congrFun (u301 101 (by decide) (by decide) (by decide)) _)
            have f309 : (q_R r231.2 (Ad ad 101) (q_I r293.2 12 4 a0).toNatClampNeg).toInt = (q_R r175.2 (Ad ad 101) (q_I r293.2 12 4 a0).toNatClampNeg).toInt := congrArg Int32.toInt (congrFun (u239 101 (by decide) (by decide) (by decide)) _)
            have f310 : (q_R r175.2 (Ad ad 101) (q_I r293.2 12 4 a0).toNatClampNeg).toInt = (q_R r83.2 (Ad ad 101) (q_I r293.2 12 4 a0).toNatClampNeg).toInt := congrArg Int32.toInt (congrFun (u183 101 (by decide) (by decide) (by decide)) _)
            have f311 : (q_R r83.2 (Ad ad 101) (q_I r293.2 12 4 a0).toNatClampNeg).toInt = (q_R δ (Ad ad 101) (q_I r293.2 12 4 a0).toNatClampNeg).toInt := congrArg Int32.toInt (congrFun (u92 101 (by decide) (by decide) (by decide)) _)
            have f312 := ti_b (q_R δ (Ad ad 101) (q_I r293.2 12 4 a0).toNatClampNeg)
            have f313 := ti_b (q_R r83.2 (Ad ad 101) (q_I r293.2 12 4 a0).toNatClampNeg)
            have f314 := ti_b (q_R r175.2 (Ad ad 101) (q_I r293.2 12 4 a0).toNatClampNeg)
            have f315 := ti_b (q_R r231.2 (Ad ad 101) (q_I r293.2 12 4 a0).toNatClampNeg)
            have f316 := ti_b (q_R r293.2 (Ad ad 101) (q_I r293.2 12 4 a0).toNatClampNeg)
            have f317 := ti_b r293.1
            have f318 := cb_12_3 i233 k_a0
            have f319 : (q_I r231.2 12 3 a0).toInt = (q_I r175.2 12 3 a0).toInt := congrArg Int32.toInt (u236 12 3 a0 (by decide))
            have f320 := ti_b r293.1
            refine ok_bind (k_X12_of L hN (a0 := 2) (show 2 < 16 by first | assumption | omega) i295) (fun r321 hr322 => ?_)
            obtain ⟨i323, p324⟩ := hr322
            try rw [i323]
            have f325 := ti_b r321.1
            have f326 := ti_b r321.1
            refine ok_ite (fun h327 => ?_) (fun h327 => ?_)
            · have c328 : r293.1.toInt = r321.1.toInt := o_eq h327
              have f329 := cb_12_5 i295 k_a0
              have f330 : (q_I r293.2 12 5 a0).toInt = (q_I r231.2 12 5 a0).toInt := congrArg Int32.toInt (u298 12 5 a0 (by decide))
              have f331 := cb_12_5 i233 k_a0
              have f332 : (q_I r231.2 12 5 a0).toInt = (q_I r175.2 12 5 a0).toInt := congrArg Int32.toInt (u236 12 5 a0 (by decide))
              have f333 := cb_12_5 i177 k_a0
              have f334 : (q_I r175.2 12 5 a0).toInt = (q_I r83.2 12 5 a0).toInt := congrArg Int32.toInt (u180 12 5 a0 (by decide))
              have f335 := cb_12_5 i85 k_a0
              have f336 : (q_I r83.2 12 5 a0).toInt = (q_I δ 12 5 a0).toInt := congrArg Int32.toInt (u89 12 5 a0 (by decide))
              have f337 := cb_12_3 i295 k_a0
              have f338 : (q_I r293.2 12 3 a0).toInt = (q_I r231.2 12 3 a0).toInt := congrArg Int32.toInt (u298 12 3 a0 (by decide))
              refine ok_mono (kj_X12_shape_112 L hN (K49 := (n : Int)) (a0 := a0) (x1 := x1) (xs0 := (4 : Int32)) (x2v := x2v) (x3v := x3v) (x4v := x4v) (x5v := x5v) ih k_a0 (show (q_I r293.2 12 5 a0).toInt < 0 → 2 ≤ (x2v).toInt ∧ (x2v).toInt ≤ 16 ∧ 1 ≤ (x3v).toInt ∧ (x3v).toInt ≤ 5 by first | assumption | omega) (show (x4v).toInt = 0 ∨ (x4v).toInt = 1 by first | assumption | omega) (show (4 : Int) = 0 ∨ (q_I r293.2 12 4 a0).toInt < (q_I r293.2 12 3 a0).toInt ∧ 97 ≤ hc ad r293.2 a0 ∧ hc ad r293.2 a0 ≤ 122 by first | assumption | omega) (show 501 - (q_I r293.2 12 4 a0).toInt ≤ (n : Int) by first | assumption | omega) i295) (fun r339 hr340 => ?_)
              obtain ⟨i341, ⟨u343, u344, u345⟩, p342⟩ := hr340
              have u346 := kp_t u302 u343
              have v347 : q_V r339.2 = q_V δ := (u344).trans v303
              have v348 := kr_t v304 u345
              have f349 := cb_12_2 i341 k_a0
              have f350 := cb_12_2 i295 k_a0
              have f351 : (q_I r293.2 12 2 a0).toInt = (q_I r231.2 12 2 a0).toInt := congrArg Int32.toInt (u298 12 2 a0 (by decide))
              have f352 := cb_12_2 i233 k_a0
              have f353 : (q_I r231.2 12 2 a0).toInt = (q_I r175.2 12 2 a0).toInt := congrArg Int32.toInt (u236 12 2 a0 (by decide))
              have f354 := cb_12_2 i177 k_a0
              have f355 : (q_I r175.2 12 2 a0).toInt = (q_I r83.2 12 2 a0).toInt := congrArg Int32.toInt (u180 12 2 a0 (by decide))
              have f356 := cb_12_2 i85 k_a0
              have f357 : (q_I r83.2 12 2 a0).toInt = (q_I δ 12 2 a0).toInt := congrArg Int32.toInt (u89 12 2 a0 (by decide))
              have f358 := cb_12_2 I k_a0
              have f359 := ti_b r339.1
              exact ⟨by assumption, ⟨kp_w (by decide) u346, v347, kr_w (by decide) v348⟩, by first | assumption | omega⟩
            · have c360 : r293.1.toInt ≠ r321.1.toInt := o_ne h327
              have f361 := cb_12_5 i295 k_a0
              have f362 : (q_I r293.2 12 5 a0).toInt = (q_I r231.2 12 5 a0).toInt := congrArg Int32.toInt (u298 12 5 a0 (by decide))
              have f363 := cb_12_5 i233 k_a0
              have f364 : (q_I r231.2 12 5 a0).toInt = (q_I r175.2 12 5 a0).toInt := congrArg Int32.toInt (u236 12 5 a0 (by decide))
              have f365 := cb_12_5 i177 k_a0
              have f366 : (q_I r175.2 12 5 a0).toInt = (q_I r83.2 12 5 a0).toInt := congrArg Int32.toInt (u180 12 5 a0 (by decide))
              have f367 := cb_12_5 i85 k_a0
              have f368 : (q_I r83.2 12 5 a0).toInt = (q_I δ 12 5 a0).toInt := congrArg Int32.toInt (u89 12 5 a0 (by decide))
              have f369 := cb_12_3 i295 k_a0
              have f370 : (q_I r293.2 12 3 a0).toInt = (q_I r231.2 12 3 a0).toInt := congrArg Int32.toInt (u298 12 3 a0 (by decide))
              refine ok_mono (kj_X12_shape_112 L hN (K49 := (n : Int)) (a0 := a0) (x1 := x1) (xs0 := (0 : Int32)) (x2v := x2v) (x3v := x3v) (x4v := x4v) (x5v := x5v) ih k_a0 (show (q_I r293.2 12 5 a0).toInt < 0 → 2 ≤ (x2v).toInt ∧ (x2v).toInt ≤ 16 ∧ 1 ≤ (x3v).toInt ∧ (x3v).toInt ≤ 5 by first | assumption | omega) (show (x4v).toInt = 0 ∨ (x4v).toInt = 1 by first | assumption | omega) (show (0 : Int) = 0 ∨ (q_I r293.2 12 4 a0).toInt < (q_I r293.2 12 3 a0).toInt ∧ 97 ≤ hc ad r293.2 a0 ∧ hc ad r293.2 a0 ≤ 122 by first | assumption | omega) (show 501 - (q_I r293.2 12 4 a0).toInt ≤ (n : Int) by first | assumption | omega) i295) (fun r371 hr372 => ?_)
              obtain ⟨i373, ⟨u375, u376, u377⟩, p374⟩ := hr372
              have u378 := kp_t u302 u375
              have v379 : q_V r371.2 = q_V δ := (u376).trans v303
              have v380 := kr_t v304 u377
              have f381 := cb_12_2 i373 k_a0
              have f382 := cb_12_2 i295 k_a0
              have f383 : (q_I r293.2 12 2 a0).toInt = (q_I r231.2 12 2 a0).toInt := congrArg Int32.toInt (u298 12 2 a0 (by decide))
              have f384 := cb_12_2 i233 k_a0
              have f385 : (q_I r231.2 12 2 a0).toInt = (q_I r175.2 12 2 a0).toInt := congrArg Int32.toInt (u236 12 2 a0 (by decide))
              have f386 := cb_12_2 i177 k_a0
              have f387 : (q_I r175.2 12 2 a0).toInt = (q_I r83.2 12 2 a0).toInt := congrArg Int32.toInt (u180 12 2 a0 (by decide))
              have f388 := cb_12_2 i85 k_a0
              have f389 : (q_I r83.2 12 2 a0).toInt = (q_I δ 12 2 a0).toInt := congrArg Int32.toInt (u89 12 2 a0 (by decide))
              have f390 := cb_12_2 I k_a0
              have f391 := ti_b r371.1
              exact ⟨by assumption, ⟨kp_w (by decide) u378, v379, kr_w (by decide) v380⟩, by first | assumption | omega⟩
set_option maxHeartbeats 4000000 in
theorem k_X12_shape {ad : List Nat} {h : hp} (L : Lay TLx ad h) {δ0 : dp} {N : Nat} (hN : 10000000 ≤ N) {a0 : Nat} {x1 : Int32} (k_a0 : q_K h.1 a0 = 12) {δ : dp} (I : RI ad h.1 δ0 δ) : ok (D_X12_shape N h.1 a0 x1 δ) (fun r => RI ad h.1 δ0 r.2 ∧ (kp [(12, 0), (12, 2), (12, 3), (12, 4), (12, 5), (12, 6), (12, 7), (12, 8), (12, 10), (12, 11), (12, 12), (12, 18)] δ r.2 ∧ q_V r.2 = q_V δ ∧ kr ad [100, 103, 106] δ r.2) ∧ (0 ≤ (x1).toInt ∧ (x1).toInt ≤ (q_I δ 12 2 a0).toInt → (q_I r.2 12 2 a0).toInt = 0) ∧ ((x1).toInt < 0 ∨ (q_I δ 12 2 a0).toInt < (x1).toInt → (q_I r.2 12 2 a0).toInt = (q_I δ 12 2 a0).toInt)) := by
  unfold D_X12_shape
  refine ok_bdv (fun d1 e2 => ?_)
  have i3 : RI ad h.1 δ0 d1 := by rw [e2]; exact cs_12_0 L I
  have u4 := kp_I kp_r e2
  have v5 : q_V d1 = q_V δ := ((show q_V d1 = q_V δ by rw [e2]; rfl)).trans rfl
  have v6 := kr_N (kr_r (ad := ad)) (show q_R d1 = q_R δ by rw [e2]; rfl)
  have f7 := ti_b x1
  refine ok_ite (fun h8 => ?_) (fun h8 => ?_)
  · have c9 : x1.toInt < (0 : Int) := o_lt h8
    unfold J_X12_shape_22
    unfold J_X12_shape_23
    refine ok_bind (k_X12_may L hN (a0 := a0) (x1 := (0 : Int32)) (x2 := (1 : Int32)) (x3 := (2 : Int32)) k_a0 (show (1 : Int) ≠ 0 by first | assumption | omega) (show 0 ≤ (2 : Int) by first | assumption | omega) (show (2 : Int) ≤ 2 by first | assumption | omega) i3) (fun r10 hr11 => ?_)
    obtain ⟨i12, ⟨u16, u17, u18⟩, p13, p14, p15⟩ := hr11
    have u19 := kp_t u4 u16
    have v20 : q_V r10.2 = q_V δ := (u17).trans v5
    have v21 := kr_t v6 u18
    have f22 := bo_l p13
    have f23 := ti_b r10.1
    replace p14 : ((r10.1).toInt = 1 → (0 : Int) ≠ 0) := p14
    have f24 := ti_b (q_I d1 12 0 a0)
    have f25 : (q_I d1 12 0 a0).toInt = (0 : Int) := congrArg Int32.toInt (show q_I d1 12 0 a0 = (0 : Int32) by rw [e2]; exact rI_s)
    replace p15 : ((q_I d1 12 0 a0).toInt = 0 → (r10.1).toInt = 0 → (0 : Int) = 0) := p15
    have f26 := ti_b r10.1
    refine ok_ite (fun h27 => ?_) (fun h27 => ?_)
    · have c28 : r10.1.toInt = (0 : Int) := o_eq h27
      have f29 := cb_12_2 I k_a0
      have f30 := cb_12_2 i12 k_a0
      have f31 : (q_I r10.2 12 2 a0).toInt = (q_I d1 12 2 a0).toInt := congrArg Int32.toInt (u16 12 2 a0 (by decide))
      have f32 := cb_12_2 i3 k_a0
      have f33 : (q_I d1 12 2 a0).toInt = (q_I δ 12 2 a0).toInt := congrArg Int32.toInt (by rw [e2]; exact rI_o (by decide))
      exact ok_some (show RI ad h.1 δ0 r10.2 ∧ (kp [(12, 0), (12, 2), (12, 3), (12, 4), (12, 5), (12, 6), (12, 7), (12, 8), (12, 10), (12, 11), (12, 12), (12, 18)] δ r10.2 ∧ q_V r10.2 = q_V δ ∧ kr ad [100, 103, 106] δ r10.2) ∧ (0 ≤ (x1).toInt ∧ (x1).toInt ≤ (q_I δ 12 2 a0).toInt → (q_I r10.2 12 2 a0).toInt = 0) ∧ ((x1).toInt < 0 ∨ (q_I δ 12 2 a0).toInt < (x1).toInt → (q_I r10.2 12 2 a0).toInt = (q_I δ 12 2 a0).toInt) from ⟨i12, ⟨kp_w (by decide) u19, v20, kr_w (by decide) v21⟩, by first | assumption | omega, by first | assumption | omega⟩)
    · have c34 : r10.1.toInt ≠ (0 : Int) := o_ne h27
      refine ok_bind (k_X12_begins L hN (a0 := a0) (x1 := x1) k_a0 (show 0 ≤ (x1).toInt by first | assumption | omega) (show (x1).toInt ≤ 500 by first | assumption | omega) i12) (fun r35 hr36 => ?_)
      obtain ⟨i37, ⟨u43, u44, u45, u46⟩, p38, p39, p40, p41, p42⟩ := hr36
      have u47 := kp_t u19 u43
      have v48 : q_V r35 = q_V δ := (u44).trans v20
      have v49 := kr_t v21 u46
      have f50 := cb_12_2 i37 k_a0
      have f51 := cb_12_4 i37 k_a0
      have f52 := cb_12_3 i37 k_a0
      have f53 := cb_12_5 i37 k_a0
      have f54 := ti_b (q_I r35 12 7 a0)
      refine ok_mono (kl_X12_shape_49 L hN   k_a0 _ (8 : Int32) (1 : Int32) (1 : Int32) (0 : Int32) r35 i37 (show (q_I r35 12 5 a0).toInt < 0 → 2 ≤ (8 : Int) ∧ (8 : Int) ≤ 16 ∧ 1 ≤ (1 : Int) ∧ (1 : Int) ≤ 5 by first | assumption | omega) (show (1 : Int) = 0 ∨ (1 : Int) = 1 by first | assumption | omega) (show 501 - (q_I r35 12 4 a0).toInt < _ by omega)) (fun r55 hr56 => ?_)
      obtain ⟨i57, ⟨u59, u60, u61⟩, p58⟩ := hr56
      have u62 := kp_t u47 u59
      have v63 : q_V r55.2 = q_V δ := (u60).trans v48
      have v64 := kr_t v49 u61
      have f65 := cb_12_2 i57 k_a0
      have f66 := ti_b r55.1
      have f67 := cb_12_2 I k_a0
      exact ⟨by assumption, ⟨kp_w (by decide) u62, v63, kr_w (by decide) v64⟩, by first | assumption | omega, by first | assumption | omega⟩
  · have c68 : (0 : Int) ≤ x1.toInt := o_nlt h8
    have f69 := cb_12_2 i3 k_a0
    have f70 : (q_I d1 12 2 a0).toInt = (q_I δ 12 2 a0).toInt := congrArg Int32.toInt (by rw [e2]; exact rI_o (by decide))
    have f71 := cb_12_2 I k_a0
    refine ok_ite (fun h72 => ?_) (fun h72 => ?_)
    · have c73 : (q_I d1 12 2 a0).toInt < x1.toInt := o_lt h72
      unfold J_X12_shape_22
      unfold J_X12_shape_23
      refine ok_bind (k_X12_may L hN (a0 := a0) (x1 := (0 : Int32)) (x2 := (1 : Int32)) (x3 := (2 : Int32)) k_a0 (show (1 : Int) ≠ 0 by first | assumption | omega) (show 0 ≤ (2 : Int) by first | assumption | omega) (show (2 : Int) ≤ 2 by first | assumption | omega) i3) (fun r74 hr75 => ?_)
      obtain ⟨i76, ⟨u80, u81, u82⟩, p77, p78, p79⟩ := hr75
      have u83 := kp_t u4 u80
      have v84 : q_V r74.2 = q_V δ := (u81).trans v5
      have v85 := kr_t v6 u82
      have f86 := bo_l p77
      have f87 := ti_b r74.1
      replace p78 : ((r74.1).toInt = 1 → (0 : Int) ≠ 0) := p78
      have f88 := ti_b (q_I d1 12 0 a0)
      have f89 : (q_I d1 12 0 a0).toInt = (0 : Int) := congrArg Int32.toInt (show q_I d1 12 0 a0 = (0 : Int32) by rw [e2]; exact rI_s)
      replace p79 : ((q_I d1 12 0 a0).toInt = 0 → (r74.1).toInt = 0 → (0 : Int) = 0) := p79
      have f90 := ti_b r74.1
      refine ok_ite (fun h91 => ?_) (fun h91 => ?_)
      · have c92 : r74.1.toInt = (0 : Int) := o_eq h91
        have f93 := cb_12_2 i76 k_a0
        have f94 : (q_I r74.2 12 2 a0).toInt = (q_I d1 12 2 a0).toInt := congrArg Int32.toInt (u80 12 2 a0 (by decide))
        exact ok_some (show RI ad h.1 δ0 r74.2 ∧ (kp [(12, 0), (12, 2), (12, 3), (12, 4), (12, 5), (12, 6), (12, 7), (12, 8), (12, 10), (12, 11), (12, 12), (12, 18)] δ r74.2 ∧ q_V r74.2 = q_V δ ∧ kr ad [100, 103, 106] δ r74.2) ∧ (0 ≤ (x1).toInt ∧ (x1).toInt ≤ (q_I δ 12 2 a0).toInt → (q_I r74.2 12 2 a0).toInt = 0) ∧ ((x1).toInt < 0 ∨ (q_I δ 12 2 a0).toInt < (x1).toInt → (q_I r74.2 12 2 a0).toInt = (q_I δ 12 2 a0).toInt) from ⟨i76, ⟨kp_w (by decide) u83, v84, kr_w (by decide) v85⟩, by first | assumption | omega, by first | assumption | omega⟩)
      · have c95 : r74.1.toInt ≠ (0 : Int) := o_ne h91
        refine ok_bind (k_X12_begins L hN (a0 := a0) (x1 := x1) k_a0 (show 0 ≤ (x1).toInt by first | assumption | omega) (show (x1).toInt ≤ 500 by first | assumption | omega) i76) (fun r96 hr97 => ?_)
        obtain ⟨i98, ⟨u104, u105, u106, u107⟩, p99, p100, p101, p102, p103⟩ := hr97
        have u108 := kp_t u83 u104
        have v109 : q_V r96 = q_V δ := (u105).trans v84
        have v110 := kr_t v85 u107
        have f111 := cb_12_2 i98 k_a0
        have f112 := cb_12_4 i98 k_a0
        have f113 := cb_12_3 i98 k_a0
        have f114 := cb_12_5 i98 k_a0
        have f115 := ti_b (q_I r96 12 7 a0)
        refine ok_mono (kl_X12_shape_49 L hN   k_a0 _ (8 : Int32) (1 : Int32) (1 : Int32) (0 : Int32) r96 i98 (show (q_I r96 12 5 a0).toInt < 0 → 2 ≤ (8 : Int) ∧ (8 : Int) ≤ 16 ∧ 1 ≤ (1 : Int) ∧ (1 : Int) ≤ 5 by first | assumption | omega) (show (1 : Int) = 0 ∨ (1 : Int) = 1 by first | assumption | omega) (show 501 - (q_I r96 12 4 a0).toInt < _ by omega)) (fun r116 hr117 => ?_)
        obtain ⟨i118, ⟨u120, u121, u122⟩, p119⟩ := hr117
        have u123 := kp_t u108 u120
        have v124 : q_V r116.2 = q_V δ := (u121).trans v109
        have v125 := kr_t v110 u122
        have f126 := cb_12_2 i118 k_a0
        have f127 := ti_b r116.1
        exact ⟨by assumption, ⟨kp_w (by decide) u123, v124, kr_w (by decide) v125⟩, by first | assumption | omega, by first | assumption | omega⟩
    · have c128 : x1.toInt ≤ (q_I d1 12 2 a0).toInt := o_nlt h72
      unfold J_X12_shape_23
      refine ok_bind (k_X12_may L hN (a0 := a0) (x1 := (1 : Int32)) (x2 := (1 : Int32)) (x3 := (2 : Int32)) k_a0 (show (1 : Int) ≠ 0 by first | assumption | omega) (show 0 ≤ (2 : Int) by first | assumption | omega) (show (2 : Int) ≤ 2 by first | assumption | omega) i3) (fun r129 hr130 => ?_)
      obtain ⟨i131, ⟨u135, u136, u137⟩, p132, p133, p134⟩ := hr130
      have u138 := kp_t u4 u135
      have v139 : q_V r129.2 = q_V δ := (u136).trans v5
      have v140 := kr_t v6 u137
      have f141 := bo_l p132
      have f142 := ti_b r129.1
      replace p133 : ((r129.1).toInt = 1 → (1 : Int) ≠ 0) := p133
      have f143 := ti_b (q_I d1 12 0 a0)
      have f144 : (q_I d1 12 0 a0).toInt = (0 : Int) := congrArg Int32.toInt (show q_I d1 12 0 a0 = (0 : Int32) by rw [e2]; exact rI_s)
      replace p134 : ((q_I d1 12 0 a0).toInt = 0 → (r129.1).toInt = 0 → (1 : Int) = 0) := p134
      have f145 := ti_b r129.1
      refine ok_ite (fun h146 => ?_) (fun h146 => ?_)
      · have c147 : r129.1.toInt = (0 : Int) := o_eq h146
        have f148 := cb_12_2 i131 k_a0
        have f149 : (q_I r129.2 12 2 a0).toInt = (q_I d1 12 2 a0).toInt := congrArg Int32.toInt (u135 12 2 a0 (by decide))
        exact ok_some (show RI ad h.1 δ0 r129.2 ∧ (kp [(12, 0), (12, 2), (12, 3), (12, 4), (12, 5), (12, 6), (12, 7), (12, 8), (12, 10), (12, 11), (12, 12), (12, 18)] δ r129.2 ∧ q_V r129.2 = q_V δ ∧ kr ad [100, 103, 106] δ r129.2) ∧ (0 ≤ (x1).toInt ∧ (x1).toInt ≤ (q_I δ 12 2 a0).toInt → (q_I r129.2 12 2 a0).toInt = 0) ∧ ((x1).toInt < 0 ∨ (q_I δ 12 2 a0).toInt < (x1).toInt → (q_I r129.2 12 2 a0).toInt = (q_I δ 12 2 a0).toInt) from ⟨i131, ⟨kp_w (by decide) u138, v139, kr_w (by decide) v140⟩, by first | assumption | omega, by first | assumption | omega⟩)
      · have c150 : r129.1.toInt ≠ (0 : Int) := o_ne h146
        refine ok_bind (k_X12_begins L hN (a0 := a0) (x1 := x1) k_a0 (show 0 ≤ (x1).toInt by first | assumption | omega) (show (x1).toInt ≤ 500 by first | assumption | omega) i131) (fun r151 hr152 => ?_)
        obtain ⟨i153, ⟨u159, u160, u161, u162⟩, p154, p155, p156, p157, p158⟩ := hr152
        have u163 := kp_t u138 u159
        have v164 : q_V r151 = q_V δ := (u160).trans v139
        have v165 := kr_t v140 u162
        have f166 := cb_12_2 i153 k_a0
        have f167 := cb_12_4 i153 k_a0
        have f168 := cb_12_3 i153 k_a0
        have f169 := cb_12_5 i153 k_a0
        have f170 := ti_b (q_I r151 12 7 a0)
        refine ok_mono (kl_X12_shape_49 L hN   k_a0 _ (8 : Int32) (1 : Int32) (1 : Int32) (0 : Int32) r151 i153 (show (q_I r151 12 5 a0).toInt < 0 → 2 ≤ (8 : Int) ∧ (8 : Int) ≤ 16 ∧ 1 ≤ (1 : Int) ∧ (1 : Int) ≤ 5 by first | assumption | omega) (show (1 : Int) = 0 ∨ (1 : Int) = 1 by first | assumption | omega) (show 501 - (q_I r151 12 4 a0).toInt < _ by omega)) (fun r171 hr172 => ?_)
        obtain ⟨i173, ⟨u175, u176, u177⟩, p174⟩ := hr172
        have u178 := kp_t u163 u175
        have v179 : q_V r171.2 = q_V δ := (u176).trans v164
        have v180 := kr_t v165 u177
        have f181 := cb_12_2 i173 k_a0
        have f182 := ti_b r171.1
        exact ⟨by assumption, ⟨kp_w (by decide) u178, v179, kr_w (by decide) v180⟩, by first | assumption | omega, by first | assumption | omega⟩
