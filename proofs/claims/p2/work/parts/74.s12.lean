/-! 74.s12 (by gen_safe.py) -/
set_option maxHeartbeats 4000000 in
theorem kl_X12_shape_299 {ad : List Nat} {h : hp} (L : Lay TLx ad h) {δ0 : dp} {N : Nat} (hN : 10000000 ≤ N) {a0 : Nat} {x1 : Int32} (k_a0 : q_K h.1 a0 = 12) : ∀ (n : Nat) (x6v : Int32) (δ : dp), RI ad h.1 δ0 δ → 0 ≤ (x6v).toInt → (x6v).toInt ≤ 4 → 4 - (x6v).toInt < (n : Int) → ok (L_X12_shape_299 N h.1 a0 x1 n x6v δ) (fun r => RI ad h.1 δ0 r.2 ∧ (kp [(12, 0), (12, 2), (12, 3), (12, 4), (12, 5), (12, 6), (12, 7), (12, 8), (12, 10), (12, 11), (12, 12), (12, 18)] δ r.2 ∧ q_V r.2 = q_V δ ∧ kr ad [100, 103, 106] δ r.2) ∧ (q_I r.2 12 2 a0).toInt = (q_I δ 12 2 a0).toInt) := by
  intro n
  induction n with
  | zero =>
    intro x6v δ I j0 j1 hm
    have f1 := ti_b x6v
    exfalso; omega
  | succ n ih =>
    intro x6v δ I j0 j1 hm
    unfold L_X12_shape_299
    have f1 := ti_b x6v
    refine ok_ite (fun h2 => ?_) (fun h2 => ?_)
    · have c3 : (4 : Int) ≤ x6v.toInt := o_le h2
      refine ok_bdv (fun d4 e5 => ?_)
      have i6 : RI ad h.1 δ0 d4 := by rw [e5]; exact cs_12_18 L I k_a0 (show 0 ≤ (0 : Int) by omega) (show (0 : Int) ≤ 3 by omega)
      have u7 := kp_I kp_r e5
      have v8 : q_V d4 = q_V δ := ((show q_V d4 = q_V δ by rw [e5]; rfl)).trans rfl
      have v9 := kr_N (kr_r (ad := ad)) (show q_R d4 = q_R δ by rw [e5]; rfl)
      refine ok_bind (k_X12_result L hN (a0 := a0) (x1 := (q_I d4 12 10 a0)) k_a0 i6) (fun r10 hr11 => ?_)
      obtain ⟨i12, ⟨u13, u14, u15, u16⟩⟩ := hr11
      have u17 := kp_t u7 u13
      have v18 : q_V r10.2 = q_V δ := (u14).trans v8
      have v19 := kr_t v9 u16
      have f20 := ti_b r10.1
      have f21 := cb_12_2 i12 k_a0
      have f22 : (q_I r10.2 12 2 a0).toInt = (q_I d4 12 2 a0).toInt := congrArg Int32.toInt (u13 12 2 a0 (by decide))
      have f23 := cb_12_2 i6 k_a0
      have f24 : (q_I d4 12 2 a0).toInt = (q_I δ 12 2 a0).toInt := congrArg Int32.toInt (by rw [e5]; exact rI_o (by decide))
      have f25 := cb_12_2 I k_a0
      exact ok_some (show RI ad h.1 δ0 r10.2 ∧ (kp [(12, 0), (12, 2), (12, 3), (12, 4), (12, 5), (12, 6), (12, 7), (12, 8), (12, 10), (12, 11), (12, 12), (12, 18)] δ r10.2 ∧ q_V r10.2 = q_V δ ∧ kr ad [100, 103, 106] δ r10.2) ∧ (q_I r10.2 12 2 a0).toInt = (q_I δ 12 2 a0).toInt from ⟨i12, ⟨kp_w (by decide) u17, v18, kr_w (by decide) v19⟩, by first | assumption | omega⟩)
    · have c26 : x6v.toInt < (4 : Int) := o_nle h2
      obtain ⟨b27, o28, k29, n30⟩ := gO_12_14 L k_a0
      obtain rfl := gS_12_14 L k_a0 o28
      refine ok_at o28 ?_
      have t31 := ti_tn x6v
      refine ok_gd (fun hc32 => ?_) ?_
      · rcases hc32 with hc32 | hc32
        · have c33 : x6v.toInt < (0 : Int) := o_lt hc32
          omega
        · omega
      refine ok_bdv (fun d34 e35 => ?_)
      have i36 : RI ad h.1 δ0 d34 := by rw [e35]; exact cr_103 L I (show -1000 ≤ (0 : Int) by omega) (show (0 : Int) ≤ 2000 by omega)
      have u37 := kp_N kp_r (show q_I d34 = q_I δ by rw [e35]; rfl)
      have v38 : q_V d34 = q_V δ := ((show q_V d34 = q_V δ by rw [e35]; rfl)).trans rfl
      have v39 := kr_s L (by decide) (kr_r (ad := ad)) e35
      obtain ⟨b40, o41, k42, n43⟩ := gO_12_17 L k_a0
      obtain rfl := gS_12_17 L k_a0 o41
      refine ok_at o41 ?_
      refine ok_gd (fun hc44 => ?_) ?_
      · rcases hc44 with hc44 | hc44
        · have c45 : x6v.toInt < (0 : Int) := o_lt hc44
          omega
        · omega
      refine ok_bdv (fun d46 e47 => ?_)
      have i48 : RI ad h.1 δ0 d46 := by rw [e47]; exact cr_106 L i36 (show 0 ≤ (0 : Int) by omega) (show (0 : Int) ≤ 1000 by omega)
      have u49 := kp_N u37 (show q_I d46 = q_I d34 by rw [e47]; rfl)
      have v50 : q_V d46 = q_V δ := ((show q_V d46 = q_V d34 by rw [e47]; rfl)).trans v38
      have v51 := kr_s L (by decide) v39 e47
      refine ok_biv (fun vx52 e53 => ?_)
      first | (have q54 := te_addc (c := 1) (n := 1) rfl x6v (by omega) (by omega); rw [← e53] at q54; obtain ⟨f55, f56, f57⟩ := q54) | (obtain ⟨q54, f55, f56, f57⟩ : ∃ q : Int, vx52.toInt = x6v.toInt + (1 : Int) + 4294967296 * q ∧ -2147483648 ≤ vx52.toInt ∧ vx52.toInt ≤ 2147483647 := by rw [e53]; exact ti_addc (c := 1) (n := 1) rfl x6v)
      refine ok_mono (ih vx52 d46 i48 (show 0 ≤ (vx52).toInt by first | assumption | omega) (show (vx52).toInt ≤ 4 by first | assumption | omega) (show 4 - (vx52).toInt < _ by omega)) (fun r58 hr59 => ?_)
      obtain ⟨i60, ⟨u62, u63, u64⟩, p61⟩ := hr59
      have u65 := kp_t u49 u62
      have v66 : q_V r58.2 = q_V δ := (u63).trans v50
      have v67 := kr_t v51 u64
      have f68 := cb_12_2 i60 k_a0
      have f69 := cb_12_2 i48 k_a0
      have f70 : (q_I d46 12 2 a0).toInt = (q_I d34 12 2 a0).toInt := congrArg Int32.toInt (by rw [e47]; rfl)
      have f71 := cb_12_2 i36 k_a0
      have f72 : (q_I d34 12 2 a0).toInt = (q_I δ 12 2 a0).toInt := congrArg Int32.toInt (by rw [e35]; rfl)
      have f73 := cb_12_2 I k_a0
      have f74 := ti_b r58.1
      exact ⟨by assumption, ⟨kp_w (by decide) u65, v66, kr_w (by decide) v67⟩, by first | assumption | omega⟩
set_option maxHeartbeats 4000000 in
theorem kj_X12_shape_258 {ad : List Nat} {h : hp} (L : Lay TLx ad h) {δ0 : dp} {N : Nat} (hN : 10000000 ≤ N) {a0 : Nat} {x1 : Int32} {kt49 : Int32 → Int32 → Int32 → Int32 → dp → Option (Int32 × dp)} {K49 : Int} (h_kt49 : ∀ (x2v : Int32) (x3v : Int32) (x4v : Int32) (x5v : Int32) (δ : dp), RI ad h.1 δ0 δ → ((q_I δ 12 5 a0).toInt < 0 → 2 ≤ (x2v).toInt ∧ (x2v).toInt ≤ 16 ∧ 1 ≤ (x3v).toInt ∧ (x3v).toInt ≤ 5) → ((x4v).toInt = 0 ∨ (x4v).toInt = 1) → 501 - (q_I δ 12 4 a0).toInt < K49 → ok (kt49 x2v x3v x4v x5v δ) (fun r => RI ad h.1 δ0 r.2 ∧ (kp [(12, 0), (12, 2), (12, 3), (12, 4), (12, 5), (12, 6), (12, 7), (12, 8), (12, 10), (12, 11), (12, 12), (12, 18)] δ r.2 ∧ q_V r.2 = q_V δ ∧ kr ad [100, 103, 106] δ r.2) ∧ (q_I r.2 12 2 a0).toInt = (q_I δ 12 2 a0).toInt)) {x2v : Int32} {x3v : Int32} {x4v : Int32} {x5v : Int32} (k_a0 : q_K h.1 a0 = 12) {δ : dp} (z0 : (q_I δ 12 5 a0).toInt < 0 → 2 ≤ (x2v).toInt ∧ (x2v).toInt ≤ 16 ∧ 1 ≤ (x3v).toInt ∧ (x3v).toInt ≤ 5) (z1 : (x4v).toInt = 0 ∨ (x4v).toInt = 1) (z2 : 501 - (q_I δ 12 4 a0).toInt < K49) (I : RI ad h.1 δ0 δ) : ok (J_X12_shape_258 N h.1 a0 x1 kt49 x2v x3v x4v x5v δ) (fun r => RI ad h.1 δ0 r.2 ∧ (kp [(12, 0), (12, 2), (12, 3), (12, 4), (12, 5), (12, 6), (12, 7), (12, 8), (12, 10), (12, 11), (12, 12), (12, 18)] δ r.2 ∧ q_V r.2 = q_V δ ∧ kr ad [100, 103, 106] δ r.2) ∧ (q_I r.2 12 2 a0).toInt = (q_I δ 12 2 a0).toInt) := by
  unfold J_X12_shape_258
  have f1 := cb_12_5 I k_a0
  have f2 := ti_b x2v
  have f3 := ti_b x3v
  have f4 := ti_b x4v
  have f5 := cb_12_4 I k_a0
  refine ok_bind (k_X12_sign L hN (a0 := a0) (x1 := (59 : Int32)) k_a0 (show (59 : Int) ≠ 0 by first | assumption | omega) I) (fun r6 hr7 => ?_)
  obtain ⟨i8, ⟨u12, u13, u14, u15⟩, p9, p10, p11⟩ := hr7
  have u16 := kp_t kp_r u12
  have v17 : q_V r6 = q_V δ := (u13).trans rfl
  have v18 := kr_t (kr_r (ad := ad)) u15
  have f19 := cb_12_4 i8 k_a0
  have f20 := cb_12_5 i8 k_a0
  refine ok_mono (h_kt49 x2v x3v x4v x5v r6 i8 (show (q_I r6 12 5 a0).toInt < 0 → 2 ≤ (x2v).toInt ∧ (x2v).toInt ≤ 16 ∧ 1 ≤ (x3v).toInt ∧ (x3v).toInt ≤ 5 by first | assumption | omega) (show (x4v).toInt = 0 ∨ (x4v).toInt = 1 by first | assumption | omega) (show 501 - (q_I r6 12 4 a0).toInt < _ by omega)) (fun r21 hr22 => ?_)
  obtain ⟨i23, ⟨u25, u26, u27⟩, p24⟩ := hr22
  have u28 := kp_t u16 u25
  have v29 : q_V r21.2 = q_V δ := (u26).trans v17
  have v30 := kr_t v18 u27
  have f31 := cb_12_2 i23 k_a0
  have f32 := cb_12_2 i8 k_a0
  have f33 : (q_I r6 12 2 a0).toInt = (q_I δ 12 2 a0).toInt := congrArg Int32.toInt (u12 12 2 a0 (by decide))
  have f34 := cb_12_2 I k_a0
  have f35 := ti_b r21.1
  exact ⟨by assumption, ⟨kp_w (by decide) u28, v29, kr_w (by decide) v30⟩, by first | assumption | omega⟩
set_option maxHeartbeats 4000000 in
theorem kj_X12_shape_219 {ad : List Nat} {h : hp} (L : Lay TLx ad h) {δ0 : dp} {N : Nat} (hN : 10000000 ≤ N) {a0 : Nat} {x1 : Int32} {kt49 : Int32 → Int32 → Int32 → Int32 → dp → Option (Int32 × dp)} {K49 : Int} (h_kt49 : ∀ (x2v : Int32) (x3v : Int32) (x4v : Int32) (x5v : Int32) (δ : dp), RI ad h.1 δ0 δ → ((q_I δ 12 5 a0).toInt < 0 → 2 ≤ (x2v).toInt ∧ (x2v).toInt ≤ 16 ∧ 1 ≤ (x3v).toInt ∧ (x3v).toInt ≤ 5) → ((x4v).toInt = 0 ∨ (x4v).toInt = 1) → 501 - (q_I δ 12 4 a0).toInt < K49 → ok (kt49 x2v x3v x4v x5v δ) (fun r => RI ad h.1 δ0 r.2 ∧ (kp [(12, 0), (12, 2), (12, 3), (12, 4), (12, 5), (12, 6), (12, 7), (12, 8), (12, 10), (12, 11), (12, 12), (12, 18)] δ r.2 ∧ q_V r.2 = q_V δ ∧ kr ad [100, 103, 106] δ r.2) ∧ (q_I r.2 12 2 a0).toInt = (q_I δ 12 2 a0).toInt)) {xs0 : Int32} {x2v : Int32} {x3v : Int32} {x5v : Int32} (k_a0 : q_K h.1 a0 = 12) {δ : dp} (z0 : (q_I δ 12 5 a0).toInt < 0 → 2 ≤ (x2v).toInt ∧ (x2v).toInt ≤ 16 ∧ 1 ≤ (x3v).toInt ∧ (x3v).toInt ≤ 5) (z1 : (xs0).toInt = 0 ∨ (xs0).toInt = 1) (z2 : 501 - (q_I δ 12 4 a0).toInt < K49) (I : RI ad h.1 δ0 δ) : ok (J_X12_shape_219 N h.1 a0 x1 kt49 xs0 x2v x3v x5v δ) (fun r => RI ad h.1 δ0 r.2 ∧ (kp [(12, 0), (12, 2), (12, 3), (12, 4), (12, 5), (12, 6), (12, 7), (12, 8), (12, 10), (12, 11), (12, 12), (12, 18)] δ r.2 ∧ q_V r.2 = q_V δ ∧ kr ad [100, 103, 106] δ r.2) ∧ (q_I r.2 12 2 a0).toInt = (q_I δ 12 2 a0).toInt) := by
  unfold J_X12_shape_219
  have f1 := cb_12_5 I k_a0
  have f2 := ti_b x2v
  have f3 := ti_b x3v
  have f4 := ti_b xs0
  have f5 := cb_12_4 I k_a0
  refine ok_ite (fun h6 => ?_) (fun h6 => ?_)
  · have c7 : xs0.toInt = (0 : Int) := o_eq h6
    refine ok_bind (k_X12_word L hN (a0 := a0) k_a0 I) (fun r8 hr9 => ?_)
    obtain ⟨i10, ⟨u13, u14, u15, u16⟩, p11, p12⟩ := hr9
    have u17 := kp_t kp_r u13
    have v18 : q_V r8.2 = q_V δ := (u14).trans rfl
    have v19 := kr_t (kr_r (ad := ad)) u16
    have f20 := cb_12_4 i10 k_a0
    have f21 : hc ad r8.2 a0 = (q_R r8.2 (Ad ad 101) (q_I r8.2 12 4 a0).toNatClampNeg).toInt := rfl
    have t22 := ti_tn (q_I r8.2 12 4 a0)
    have f23 : (q_R r8.2 (Ad ad 101) (q_I r8.2 12 4 a0).toNatClampNeg).toInt = (q_R δ (Ad ad 101) (q_I r8.2 12 4 a0).toNatClampNeg).toInt := congrArg Int32.toInt (congrFun (u16 101 (by decide) (by decide) (by decide)) _)
    have f24 := ti_b (q_R δ (Ad ad 101) (q_I r8.2 12 4 a0).toNatClampNeg)
    have f25 := ti_b (q_R r8.2 (Ad ad 101) (q_I r8.2 12 4 a0).toNatClampNeg)
    have f26 := ti_b r8.1
    have f27 := cb_12_3 I k_a0
    have f28 := ti_b r8.1
    refine ok_bind (k_X12_of L hN (a0 := 4) (show 4 < 16 by first | assumption | omega) i10) (fun r29 hr30 => ?_)
    obtain ⟨i31, p32⟩ := hr30
    try rw [i31]
    have f33 := ti_b r29.1
    have f34 := ti_b r29.1
    refine ok_ite (fun h35 => ?_) (fun h35 => ?_)
    · have c36 : r8.1.toInt = r29.1.toInt := o_eq h35
      unfold J_X12_shape_247
      refine ok_bind (k_X12_fine L hN (a0 := a0) k_a0 i10) (fun r37 hr38 => ?_)
      obtain ⟨i39, p40, p41, p42⟩ := hr38
      try rw [i39]
      have f43 := bo_l p40
      have f44 := cb_12_5 i10 k_a0
      have f45 : (q_I r8.2 12 5 a0).toInt = (q_I δ 12 5 a0).toInt := congrArg Int32.toInt (u13 12 5 a0 (by decide))
      have f46 := ti_b r37.1
      have f47 := ti_b r37.1
      refine ok_ite (fun h48 => ?_) (fun h48 => ?_)
      · have c49 : r37.1.toInt = (0 : Int) := o_eq h48
        refine ok_mono (kj_X12_shape_258 L hN (K49 := K49) (a0 := a0) (x1 := x1) (x2v := x2v) (x3v := x3v) (x4v := xs0) (x5v := x5v) h_kt49 k_a0 (show (q_I r8.2 12 5 a0).toInt < 0 → 2 ≤ (x2v).toInt ∧ (x2v).toInt ≤ 16 ∧ 1 ≤ (x3v).toInt ∧ (x3v).toInt ≤ 5 by first | assumption | omega) (show (xs0).toInt = 0 ∨ (xs0).toInt = 1 by first | assumption | omega) (show 501 - (q_I r8.2 12 4 a0).toInt < K49 by first | assumption | omega) i10) (fun r50 hr51 => ?_)
        obtain ⟨i52, ⟨u54, u55, u56⟩, p53⟩ := hr51
        have u57 := kp_t u17 u54
        have v58 : q_V r50.2 = q_V δ := (u55).trans v18
        have v59 := kr_t v19 u56
        have f60 := cb_12_2 i52 k_a0
        have f61 := cb_12_2 i10 k_a0
        have f62 : (q_I r8.2 12 2 a0).toInt = (q_I δ 12 2 a0).toInt := congrArg Int32.toInt (u13 12 2 a0 (by decide))
        have f63 := cb_12_2 I k_a0
        have f64 := ti_b r50.1
        exact ⟨by assumption, ⟨kp_w (by decide) u57, v58, kr_w (by decide) v59⟩, by first | assumption | omega⟩
      · have c65 : r37.1.toInt ≠ (0 : Int) := o_ne h48
        refine ok_bind (k_X12_pass L hN (a0 := a0) k_a0 i10) (fun r66 hr67 => ?_)
        obtain ⟨i68, ⟨u71, u72, u73, u74⟩, p69, p70⟩ := hr67
        have u75 := kp_t u17 u71
        have v76 : q_V r66 = q_V δ := (u72).trans v18
        have v77 := kr_t v19 u74
        have f78 := cb_12_4 i68 k_a0
        have f79 := cb_12_3 i10 k_a0
        have f80 : (q_I r8.2 12 3 a0).toInt = (q_I δ 12 3 a0).toInt := congrArg Int32.toInt (u13 12 3 a0 (by decide))
        have f81 := cb_12_5 i68 k_a0
        have f82 : (q_I r66 12 5 a0).toInt = (q_I r8.2 12 5 a0).toInt := congrArg Int32.toInt (u71 12 5 a0 (by decide))
        refine ok_mono (kj_X12_shape_258 L hN (K49 := K49) (a0 := a0) (x1 := x1) (x2v := x2v) (x3v := x3v) (x4v := xs0) (x5v := x5v) h_kt49 k_a0 (show (q_I r66 12 5 a0).toInt < 0 → 2 ≤ (x2v).toInt ∧ (x2v).toInt ≤ 16 ∧ 1 ≤ (x3v).toInt ∧ (x3v).toInt ≤ 5 by first | assumption | omega) (show (xs0).toInt = 0 ∨ (xs0).toInt = 1 by first | assumption | omega) (show 501 - (q_I r66 12 4 a0).toInt < K49 by first | assumption | omega) i68) (fun r83 hr84 => ?_)
        obtain ⟨i85, ⟨u87, u88, u89⟩, p86⟩ := hr84
        have u90 := kp_t u75 u87
        have v91 : q_V r83.2 = q_V δ := (u88).trans v76
        have v92 := kr_t v77 u89
        have f93 := cb_12_2 i85 k_a0
        have f94 := cb_12_2 i68 k_a0
        have f95 : (q_I r66 12 2 a0).toInt = (q_I r8.2 12 2 a0).toInt := congrArg Int32.toInt (u71 12 2 a0 (by decide))
        have f96 := cb_12_2 i10 k_a0
        have f97 : (q_I r8.2 12 2 a0).toInt = (q_I δ 12 2 a0).toInt := congrArg Int32.toInt (u13 12 2 a0 (by decide))
        have f98 := cb_12_2 I k_a0
        have f99 := ti_b r83.1
        exact ⟨by assumption, ⟨kp_w (by decide) u90, v91, kr_w (by decide) v92⟩, by first | assumption | omega⟩
    · have c100 : r8.1.toInt ≠ r29.1.toInt := o_ne h35
      refine ok_bind (k_X12_wrong L hN (a0 := a0) (x1 := (1 : Int32)) (x2 := (q_I r8.2 12 4 a0)) k_a0 (show 0 ≤ ((q_I r8.2 12 4 a0)).toInt by first | assumption | omega) (show ((q_I r8.2 12 4 a0)).toInt ≤ 500 by first | assumption | omega) i10) (fun r101 hr102 => ?_)
      obtain ⟨i103, ⟨u106, u107, u108, u109⟩, p104, p105⟩ := hr102
      have u110 := kp_t u17 u106
      have v111 : q_V r101 = q_V δ := (u107).trans v18
      have v112 := kr_t v19 u109
      have f113 := cb_12_5 i103 k_a0
      have f114 := cb_12_5 i10 k_a0
      have f115 : (q_I r8.2 12 5 a0).toInt = (q_I δ 12 5 a0).toInt := congrArg Int32.toInt (u13 12 5 a0 (by decide))
      unfold J_X12_shape_247
      refine ok_bind (k_X12_fine L hN (a0 := a0) k_a0 i103) (fun r116 hr117 => ?_)
      obtain ⟨i118, p119, p120, p121⟩ := hr117
      try rw [i118]
      have f122 := bo_l p119
      have f123 := ti_b r116.1
      have f124 := ti_b r116.1
      refine ok_ite (fun h125 => ?_) (fun h125 => ?_)
      · have c126 : r116.1.toInt = (0 : Int) := o_eq h125
        have f127 := cb_12_4 i103 k_a0
        have f128 : (q_I r101 12 4 a0).toInt = (q_I r8.2 12 4 a0).toInt := congrArg Int32.toInt (u106 12 4 a0 (by decide))
        refine ok_mono (kj_X12_shape_258 L hN (K49 := K49) (a0 := a0) (x1 := x1) (x2v := x2v) (x3v := x3v) (x4v := xs0) (x5v := x5v) h_kt49 k_a0 (show (q_I r101 12 5 a0).toInt < 0 → 2 ≤ (x2v).toInt ∧ (x2v).toInt ≤ 16 ∧ 1 ≤ (x3v).toInt ∧ (x3v).toInt ≤ 5 by first | assumption | omega) (show (xs0).toInt = 0 ∨ (xs0).toInt = 1 by first | assumption | omega) (show 501 - (q_I r101 12 4 a0).toInt < K49 by first | assumption | omega) i103) (fun r129 hr130 => ?_)
        obtain ⟨i131, ⟨u133, u134, u135⟩, p132⟩ := hr130
        have u136 := kp_t u110 u133
        have v137 : q_V r129.2 = q_V δ := (u134).trans v111
        have v138 := kr_t v112 u135
        have f139 := cb_12_2 i131 k_a0
        have f140 := cb_12_2 i103 k_a0
        have f141 : (q_I r101 12 2 a0).toInt = (q_I r8.2 12 2 a0).toInt := congrArg Int32.toInt (u106 12 2 a0 (by decide))
        have f142 := cb_12_2 i10 k_a0
        have f143 : (q_I r8.2 12 2 a0).toInt = (q_I δ 12 2 a0).toInt := congrArg Int32.toInt (u13 12 2 a0 (by decide))
        have f144 := cb_12_2 I k_a0
        have f145 := ti_b r129.1
        exact ⟨by assumption, ⟨kp_w (by decide) u136, v137, kr_w (by decide) v138⟩, by first | assumption | omega⟩
      · have c146 : r116.1.toInt ≠ (0 : Int) := o_ne h125
        refine ok_bind (k_X12_pass L hN (a0 := a0) k_a0 i103) (fun r147 hr148 => ?_)
        obtain ⟨i149, ⟨u152, u153, u154, u155⟩, p150, p151⟩ := hr148
        have u156 := kp_t u110 u152
        have v157 : q_V r147 = q_V δ := (u153).trans v111
        have v158 := kr_t v112 u155
        have f159 := cb_12_4 i103 k_a0
        have f160 : (q_I r101 12 4 a0).toInt = (q_I r8.2 12 4 a0).toInt := congrArg Int32.toInt (u106 12 4 a0 (by decide))
        have f161 := cb_12_4 i149 k_a0
        have f162 : hc ad r101 a0 = (q_R r101 (Ad ad 101) (q_I r101 12 4 a0).toNatClampNeg).toInt := rfl
        have t163 := ti_tn (q_I r101 12 4 a0)
        have f164 : (q_R r101 (Ad ad 101) (q_I r101 12 4 a0).toNatClampNeg).toInt = (q_R r8.2 (Ad ad 101) (q_I r101 12 4 a0).toNatClampNeg).toInt := congrArg Int32.toInt (congrFun (u109 101 (by decide) (by decide) (by decide)) _)
        have f165 : (q_R r8.2 (Ad ad 101) (q_I r101 12 4 a0).toNatClampNeg).toInt = (q_R δ (Ad ad 101) (q_I r101 12 4 a0).toNatClampNeg).toInt := congrArg Int32.toInt (congrFun (u16 101 (by decide) (by decide) (by decide)) _)
        have f166 := ti_b (q_R δ (Ad ad 101) (q_I r101 12 4 a0).toNatClampNeg)
        have f167 := ti_b (q_R r8.2 (Ad ad 101) (q_I r101 12 4 a0).toNatClampNeg)
        have f168 := ti_b (q_R r101 (Ad ad 101) (q_I r101 12 4 a0).toNatClampNeg)
        have f169 := cb_12_3 i103 k_a0
        have f170 : (q_I r101 12 3 a0).toInt = (q_I r8.2 12 3 a0).toInt := congrArg Int32.toInt (u106 12 3 a0 (by decide))
        have f171 := cb_12_3 i10 k_a0
        have f172 : (q_I r8.2 12 3 a0).toInt = (q_I δ 12 3 a0).toInt := congrArg Int32.toInt (u13 12 3 a0 (by decide))
        have f173 := cb_12_5 i149 k_a0
        have f174 : (q_I r147 12 5 a0).toInt = (q_I r101 12 5 a0).toInt := congrArg Int32.toInt (u152 12 5 a0 (by decide))
        refine ok_mono (kj_X12_shape_258 L hN (K49 := K49) (a0 := a0) (x1 := x1) (x2v := x2v) (x3v := x3v) (x4v := xs0) (x5v := x5v) h_kt49 k_a0 (show (q_I r147 12 5 a0).toInt < 0 → 2 ≤ (x2v).toInt ∧ (x2v).toInt ≤ 16 ∧ 1 ≤ (x3v).toInt ∧ (x3v).toInt ≤ 5 by first | assumption | omega) (show (xs0).toInt = 0 ∨ (xs0).toInt = 1 by first | assumption | omega) (show 501 - (q_I r147 12 4 a0).toInt < K49 by first | assumption | omega) i149) (fun r175 hr176 => ?_)
        obtain ⟨i177, ⟨u179, u180, u181⟩, p178⟩ := hr176
        have u182 := kp_t u156 u179
        have v183 : q_V r175.2 = q_V δ := (u180).trans v157
        have v184 := kr_t v158 u181
        have f185 := cb_12_2 i177 k_a0
        have f186 := cb_12_2 i149 k_a0
        have f187 : (q_I r147 12 2 a0).toInt = (q_I r101 12 2 a0).toInt := congrArg Int32.toInt (u152 12 2 a0 (by decide))
        have f188 := cb_12_2 i103 k_a0
        have f189 : (q_I r101 12 2 a0).toInt = (q_I r8.2 12 2 a0).toInt := congrArg Int32.toInt (u106 12 2 a0 (by decide))
        have f190 := cb_12_2 i10 k_a0
        have f191 : (q_I r8.2 12 2 a0).toInt = (q_I δ 12 2 a0).toInt := congrArg Int32.toInt (u13 12 2 a0 (by decide))
        have f192 := cb_12_2 I k_a0
        have f193 := ti_b r175.1
        exact ⟨by assumption, ⟨kp_w (by decide) u182, v183, kr_w (by decide) v184⟩, by first | assumption | omega⟩
  · have c194 : xs0.toInt ≠ (0 : Int) := o_ne h6
    unfold J_X12_shape_247
    refine ok_bind (k_X12_fine L hN (a0 := a0) k_a0 I) (fun r195 hr196 => ?_)
    obtain ⟨i197, p198, p199, p200⟩ := hr196
    try rw [i197]
    have f201 := bo_l p198
    have f202 := ti_b r195.1
    have f203 := ti_b r195.1
    refine ok_ite (fun h204 => ?_) (fun h204 => ?_)
    · have c205 : r195.1.toInt = (0 : Int) := o_eq h204
      refine ok_mono (kj_X12_shape_258 L hN (K49 := K49) (a0 := a0) (x1 := x1) (x2v := x2v) (x3v := x3v) (x4v := xs0) (x5v := x5v) h_kt49 k_a0 (show (q_I δ 12 5 a0).toInt < 0 → 2 ≤ (x2v).toInt ∧ (x2v).toInt ≤ 16 ∧ 1 ≤ (x3v).toInt ∧ (x3v).toInt ≤ 5 by first | assumption | omega) (show (xs0).toInt = 0 ∨ (xs0).toInt = 1 by first | assumption | omega) (show 501 - (q_I δ 12 4 a0).toInt < K49 by first | assumption | omega) I) (fun r206 hr207 => ?_)
      obtain ⟨i208, ⟨u210, u211, u212⟩, p209⟩ := hr207
      have u213 := kp_t kp_r u210
      have v214 : q_V r206.2 = q_V δ := (u211).trans rfl
      have v215 := kr_t (kr_r (ad := ad)) u212
      have f216 := cb_12_2 i208 k_a0
      have f217 := cb_12_2 I k_a0
      have f218 := ti_b r206.1
      exact ⟨by assumption, ⟨kp_w (by decide) u213, v214, kr_w (by decide) v215⟩, by first | assumption | omega⟩
    · have c219 : r195.1.toInt ≠ (0 : Int) := o_ne h204
      refine ok_bind (k_X12_pass L hN (a0 := a0) k_a0 I) (fun r220 hr221 => ?_)
      obtain ⟨i222, ⟨u225, u226, u227, u228⟩, p223, p224⟩ := hr221
      have u229 := kp_t kp_r u225
      have v230 : q_V r220 = q_V δ := (u226).trans rfl
      have v231 := kr_t (kr_r (ad := ad)) u228
      have f232 := cb_12_4 i222 k_a0
      have f233 : hc ad δ a0 = (q_R δ (Ad ad 101) (q_I δ 12 4 a0).toNatClampNeg).toInt := rfl
      have t234 := ti_tn (q_I δ 12 4 a0)
      have f235 := ti_b (q_R δ (Ad ad 101) (q_I δ 12 4 a0).toNatClampNeg)
      have f236 := cb_12_3 I k_a0
      have f237 := cb_12_5 i222 k_a0
      have f238 : (q_I r220 12 5 a0).toInt = (q_I δ 12 5 a0).toInt := congrArg Int32.toInt (u225 12 5 a0 (by decide))
      refine ok_mono (kj_X12_shape_258 L hN (K49 := K49) (a0 := a0) (x1 := x1) (x2v := x2v) (x3v := x3v) (x4v := xs0) (x5v := x5v) h_kt49 k_a0 (show (q_I r220 12 5 a0).toInt < 0 → 2 ≤ (x2v).toInt ∧ (x2v).toInt ≤ 16 ∧ 1 ≤ (x3v).toInt ∧ (x3v).toInt ≤ 5 by first | assumption | omega) (show (xs0).toInt = 0 ∨ (xs0).toInt = 1 by first | assumption | omega) (show 501 - (q_I r220 12 4 a0).toInt < K49 by first | assumption | omega) i222) (fun r239 hr240 => ?_)
      obtain ⟨i241, ⟨u243, u244, u245⟩, p242⟩ := hr240
      have u246 := kp_t u229 u243
      have v247 : q_V r239.2 = q_V δ := (u244).trans v230
      have v248 := kr_t v231 u245
      have f249 := cb_12_2 i241 k_a0
      have f250 := cb_12_2 i222 k_a0
      have f251 : (q_I r220 12 2 a0).toInt = (q_I δ 12 2 a0).toInt := congrArg Int32.toInt (u225 12 2 a0 (by decide))
      have f252 := cb_12_2 I k_a0
      have f253 := ti_b r239.1
      exact ⟨by assumption, ⟨kp_w (by decide) u246, v247, kr_w (by decide) v248⟩, by first | assumption | omega⟩
set_option maxHeartbeats 4000000 in
theorem kj_X12_shape_148 {ad : List Nat} {h : hp} (L : Lay TLx ad h) {δ0 : dp} {N : Nat} (hN : 10000000 ≤ N) {a0 : Nat} {x1 : Int32} {kt49 : Int32 → Int32 → Int32 → Int32 → dp → Option (Int32 × dp)} {K49 : Int} (h_kt49 : ∀ (x2v : Int32) (x3v : Int32) (x4v : Int32) (x5v : Int32) (δ : dp), RI ad h.1 δ0 δ → ((q_I δ 12 5 a0).toInt < 0 → 2 ≤ (x2v).toInt ∧ (x2v).toInt ≤ 16 ∧ 1 ≤ (x3v).toInt ∧ (x3v).toInt ≤ 5) → ((x4v).toInt = 0 ∨ (x4v).toInt = 1) → 501 - (q_I δ 12 4 a0).toInt < K49 → ok (kt49 x2v x3v x4v x5v δ) (fun r => RI ad h.1 δ0 r.2 ∧ (kp [(12, 0), (12, 2), (12, 3), (12, 4), (12, 5), (12, 6), (12, 7), (12, 8), (12, 10), (12, 11), (12, 12), (12, 18)] δ r.2 ∧ q_V r.2 = q_V δ ∧ kr ad [100, 103, 106] δ r.2) ∧ (q_I r.2 12 2 a0).toInt = (q_I δ 12 2 a0).toInt)) {x2v : Int32} {x3v : Int32} {x4v : Int32} {x5v : Int32} {x6v : Int32} (k_a0 : q_K h.1 a0 = 12) {δ : dp} (z0 : (q_I δ 12 5 a0).toInt < 0 → 2 ≤ (x2v).toInt ∧ (x2v).toInt ≤ 16 ∧ 1 ≤ (x3v).toInt ∧ (x3v).toInt ≤ 5) (z1 : (x4v).toInt = 0 ∨ (x4v).toInt = 1) (z2 : (q_I δ 12 5 a0).toInt < 0 → (q_I δ 12 4 a0).toInt < (q_I δ 12 3 a0).toInt ∧ 97 ≤ hc ad δ a0 ∧ hc ad δ a0 ≤ 122) (z3 : 501 - (q_I δ 12 4 a0).toInt ≤ K49) (I : RI ad h.1 δ0 δ) : ok (J_X12_shape_148 N h.1 a0 x1 kt49 x2v x3v x4v x5v x6v δ) (fun r => RI ad h.1 δ0 r.2 ∧ (kp [(12, 0), (12, 2), (12, 3), (12, 4), (12, 5), (12, 6), (12, 7), (12, 8), (12, 10), (12, 11), (12, 12), (12, 18)] δ r.2 ∧ q_V r.2 = q_V δ ∧ kr ad [100, 103, 106] δ r.2) ∧ (q_I r.2 12 2 a0).toInt = (q_I δ 12 2 a0).toInt) := by
  unfold J_X12_shape_148
  have f1 : hc ad δ a0 = (q_R δ (Ad ad 101) (q_I δ 12 4 a0).toNatClampNeg).toInt := rfl
  have f2 := cb_12_4 I k_a0
  have t3 := ti_tn (q_I δ 12 4 a0)
  have f4 := ti_b (q_R δ (Ad ad 101) (q_I δ 12 4 a0).toNatClampNeg)
  have f5 := cb_12_5 I k_a0
  have f6 := ti_b x2v
  have f7 := ti_b x3v
  have f8 := ti_b x4v
  have f9 := cb_12_3 I k_a0
  refine ok_bind (k_X12_fine L hN (a0 := a0) k_a0 I) (fun r10 hr11 => ?_)
  obtain ⟨i12, p13, p14, p15⟩ := hr11
  try rw [i12]
  have f16 := bo_l p13
  have f17 := ti_b r10.1
  have f18 := ti_b r10.1
  refine ok_ite (fun h19 => ?_) (fun h19 => ?_)
  · have c20 : r10.1.toInt = (0 : Int) := o_eq h19
    unfold J_X12_shape_267
    refine ok_bind (k_X12_fine L hN (a0 := a0) k_a0 I) (fun r21 hr22 => ?_)
    obtain ⟨i23, p24, p25, p26⟩ := hr22
    try rw [i23]
    have f27 := bo_l p24
    have f28 := ti_b r21.1
    have f29 := ti_b r21.1
    refine ok_ite (fun h30 => ?_) (fun h30 => ?_)
    · have c31 : r21.1.toInt = (0 : Int) := o_eq h30
      refine ok_bind (k_X12_result L hN (a0 := a0) (x1 := (0 : Int32)) k_a0 I) (fun r32 hr33 => ?_)
      obtain ⟨i34, ⟨u35, u36, u37, u38⟩⟩ := hr33
      have u39 := kp_t kp_r u35
      have v40 : q_V r32.2 = q_V δ := (u36).trans rfl
      have v41 := kr_t (kr_r (ad := ad)) u38
      have f42 := ti_b r32.1
      have f43 := cb_12_2 i34 k_a0
      have f44 : (q_I r32.2 12 2 a0).toInt = (q_I δ 12 2 a0).toInt := congrArg Int32.toInt (u35 12 2 a0 (by decide))
      have f45 := cb_12_2 I k_a0
      exact ok_some (show RI ad h.1 δ0 r32.2 ∧ (kp [(12, 0), (12, 2), (12, 3), (12, 4), (12, 5), (12, 6), (12, 7), (12, 8), (12, 10), (12, 11), (12, 12), (12, 18)] δ r32.2 ∧ q_V r32.2 = q_V δ ∧ kr ad [100, 103, 106] δ r32.2) ∧ (q_I r32.2 12 2 a0).toInt = (q_I δ 12 2 a0).toInt from ⟨i34, ⟨kp_w (by decide) u39, v40, kr_w (by decide) v41⟩, by first | assumption | omega⟩)
    · have c46 : r21.1.toInt ≠ (0 : Int) := o_ne h30
      refine ok_bdv (fun d47 e48 => ?_)
      have i49 : RI ad h.1 δ0 d47 := by rw [e48]; exact cs_12_10 L I k_a0 (show 2 ≤ x2v.toInt by omega) (show x2v.toInt ≤ 16 by omega)
      have u50 := kp_I kp_r e48
      have v51 : q_V d47 = q_V δ := ((show q_V d47 = q_V δ by rw [e48]; rfl)).trans rfl
      have v52 := kr_N (kr_r (ad := ad)) (show q_R d47 = q_R δ by rw [e48]; rfl)
      refine ok_bdv (fun d53 e54 => ?_)
      have i55 : RI ad h.1 δ0 d53 := by rw [e54]; exact cs_12_11 L i49 k_a0 (show 1 ≤ x3v.toInt by omega) (show x3v.toInt ≤ 5 by omega)
      have u56 := kp_I u50 e54
      have v57 : q_V d53 = q_V δ := ((show q_V d53 = q_V d47 by rw [e54]; rfl)).trans v51
      have v58 := kr_N v52 (show q_R d53 = q_R d47 by rw [e54]; rfl)
      refine ok_gp (show bo x4v by first | assumption | exact bo_0 | exact bo_1 | exact bo_i (by omega) (by omega)) ?_
      refine ok_bdv (fun d59 e60 => ?_)
      have i61 : RI ad h.1 δ0 d59 := by rw [e60]; exact cs_12_12 L i55 k_a0 (show 0 ≤ x4v.toInt by omega) (show x4v.toInt ≤ 1 by omega)
      have u62 := kp_I u56 e60
      have v63 : q_V d59 = q_V δ := ((show q_V d59 = q_V d53 by rw [e60]; rfl)).trans v57
      have v64 := kr_N v58 (show q_R d59 = q_R d53 by rw [e60]; rfl)
      refine ok_mono (kl_X12_shape_299 L hN   k_a0 _ (0 : Int32) d59 i61 (show 0 ≤ (0 : Int) by first | assumption | omega) (show (0 : Int) ≤ 4 by first | assumption | omega) (show 4 - (0 : Int) < _ by omega)) (fun r65 hr66 => ?_)
      obtain ⟨i67, ⟨u69, u70, u71⟩, p68⟩ := hr66
      have u72 := kp_t u62 u69
      have v73 : q_V r65.2 = q_V δ := (u70).trans v63
      have v74 := kr_t v64 u71
      have f75 := cb_12_2 i67 k_a0
      have f76 := cb_12_2 i61 k_a0
      have f77 : (q_I d59 12 2 a0).toInt = (q_I d53 12 2 a0).toInt := congrArg Int32.toInt (by rw [e60]; exact rI_o (by decide))
      have f78 := cb_12_2 i55 k_a0
      have f79 : (q_I d53 12 2 a0).toInt = (q_I d47 12 2 a0).toInt := congrArg Int32.toInt (by rw [e54]; exact rI_o (by decide))
      have f80 := cb_12_2 i49 k_a0
      have f81 : (q_I d47 12 2 a0).toInt = (q_I δ 12 2 a0).toInt := congrArg Int32.toInt (by rw [e48]; exact rI_o (by decide))
      have f82 := cb_12_2 I k_a0
      have f83 := ti_b r65.1
      exact ⟨by assumption, ⟨kp_w (by decide) u72, v73, kr_w (by decide) v74⟩, by first | assumption | omega⟩
  · have c84 : r10.1.toInt ≠ (0 : Int) := o_ne h19
    have f87 := ti_b (x5v ||| x6v)
    refine ok_biv (fun vx85 e86 => ?_)
    have f88 : vx85.toInt = (x5v ||| x6v).toInt := congrArg Int32.toInt e86
    refine ok_bind (k_X12_pass L hN (a0 := a0) k_a0 I) (fun r89 hr90 => ?_)
    obtain ⟨i91, ⟨u94, u95, u96, u97⟩, p92, p93⟩ := hr90
    have u98 := kp_t kp_r u94
    have v99 : q_V r89 = q_V δ := (u95).trans rfl
    have v100 := kr_t (kr_r (ad := ad)) u97
    have f101 := cb_12_4 i91 k_a0
    have f102 := ti_b x6v
    refine ok_ite (fun h103 => ?_) (fun h103 => ?_)
    · have c104 : x6v.toInt = (1 : Int) := o_eq h103
      refine ok_bind (k_X12_readNumber L hN (a0 := a0) (x1 := (2 : Int32)) (x2 := (16 : Int32)) k_a0 i91) (fun r105 hr106 => ?_)
      obtain ⟨i107, ⟨u114, u115, u116, u117⟩, p108, p109, p110, p111, p112, p113⟩ := hr106
      have u118 := kp_t u98 u114
      have v119 : q_V r105.2 = q_V δ := (u115).trans v99
      have v120 := kr_t v100 u117
      have f121 := cb_12_4 i107 k_a0
      have f122 := cb_12_5 i91 k_a0
      have f123 : (q_I r89 12 5 a0).toInt = (q_I δ 12 5 a0).toInt := congrArg Int32.toInt (u94 12 5 a0 (by decide))
      have f124 := cb_12_5 i107 k_a0
      have f125 := ti_b r105.1
      replace p113 : ((q_I r105.2 12 5 a0).toInt < 0 → (2 : Int) ≤ (r105.1).toInt ∧ (r105.1).toInt ≤ (16 : Int)) := p113
      have f126 := ti_b r105.1
      refine ok_mono (kj_X12_shape_258 L hN (K49 := K49) (a0 := a0) (x1 := x1) (x2v := r105.1) (x3v := x3v) (x4v := x4v) (x5v := vx85) h_kt49 k_a0 (show (q_I r105.2 12 5 a0).toInt < 0 → 2 ≤ (r105.1).toInt ∧ (r105.1).toInt ≤ 16 ∧ 1 ≤ (x3v).toInt ∧ (x3v).toInt ≤ 5 by first | assumption | omega) (show (x4v).toInt = 0 ∨ (x4v).toInt = 1 by first | assumption | omega) (show 501 - (q_I r105.2 12 4 a0).toInt < K49 by first | assumption | omega) i107) (fun r127 hr128 => ?_)
      obtain ⟨i129, ⟨u131, u132, u133⟩, p130⟩ := hr128
      have u134 := kp_t u118 u131
      have v135 : q_V r127.2 = q_V δ := (u132).trans v119
      have v136 := kr_t v120 u133
      have f137 := cb_12_2 i129 k_a0
      have f138 := cb_12_2 i107 k_a0
      have f139 : (q_I r105.2 12 2 a0).toInt = (q_I r89 12 2 a0).toInt := congrArg Int32.toInt (u114 12 2 a0 (by decide))
      have f140 := cb_12_2 i91 k_a0
      have f141 : (q_I r89 12 2 a0).toInt = (q_I δ 12 2 a0).toInt := congrArg Int32.toInt (u94 12 2 a0 (by decide))
      have f142 := cb_12_2 I k_a0
      have f143 := ti_b r127.1
      exact ⟨by assumption, ⟨kp_w (by decide) u134, v135, kr_w (by decide) v136⟩, by first | assumption | omega⟩
    · have c144 : x6v.toInt ≠ (1 : Int) := o_ne h103
      refine ok_ite (fun h145 => ?_) (fun h145 => ?_)
      · have c146 : x6v.toInt = (4 : Int) := o_eq h145
        refine ok_bind (k_X12_readNumber L hN (a0 := a0) (x1 := (1 : Int32)) (x2 := (5 : Int32)) k_a0 i91) (fun r147 hr148 => ?_)
        obtain ⟨i149, ⟨u156, u157, u158, u159⟩, p150, p151, p152, p153, p154, p155⟩ := hr148
        have u160 := kp_t u98 u156
        have v161 : q_V r147.2 = q_V δ := (u157).trans v99
        have v162 := kr_t v100 u159
        have f163 := cb_12_4 i149 k_a0
        have f164 := cb_12_5 i91 k_a0
        have f165 : (q_I r89 12 5 a0).toInt = (q_I δ 12 5 a0).toInt := congrArg Int32.toInt (u94 12 5 a0 (by decide))
        have f166 := cb_12_5 i149 k_a0
        have f167 := ti_b r147.1
        replace p155 : ((q_I r147.2 12 5 a0).toInt < 0 → (1 : Int) ≤ (r147.1).toInt ∧ (r147.1).toInt ≤ (5 : Int)) := p155
        have f168 := ti_b r147.1
        refine ok_mono (kj_X12_shape_258 L hN (K49 := K49) (a0 := a0) (x1 := x1) (x2v := x2v) (x3v := r147.1) (x4v := x4v) (x5v := vx85) h_kt49 k_a0 (show (q_I r147.2 12 5 a0).toInt < 0 → 2 ≤ (x2v).toInt ∧ (x2v).toInt ≤ 16 ∧ 1 ≤ (r147.1).toInt ∧ (r147.1).toInt ≤ 5 by first | assumption | omega) (show (x4v).toInt = 0 ∨ (x4v).toInt = 1 by first | assumption | omega) (show 501 - (q_I r147.2 12 4 a0).toInt < K49 by first | assumption | omega) i149) (fun r169 hr170 => ?_)
        obtain ⟨i171, ⟨u173, u174, u175⟩, p172⟩ := hr170
        have u176 := kp_t u160 u173
        have v177 : q_V r169.2 = q_V δ := (u174).trans v161
        have v178 := kr_t v162 u175
        have f179 := cb_12_2 i171 k_a0
        have f180 := cb_12_2 i149 k_a0
        have f181 : (q_I r147.2 12 2 a0).toInt = (q_I r89 12 2 a0).toInt := congrArg Int32.toInt (u156 12 2 a0 (by decide))
        have f182 := cb_12_2 i91 k_a0
        have f183 : (q_I r89 12 2 a0).toInt = (q_I δ 12 2 a0).toInt := congrArg Int32.toInt (u94 12 2 a0 (by decide))
        have f184 := cb_12_2 I k_a0
        have f185 := ti_b r169.1
        exact ⟨by assumption, ⟨kp_w (by decide) u176, v177, kr_w (by decide) v178⟩, by first | assumption | omega⟩
      · have c186 : x6v.toInt ≠ (4 : Int) := o_ne h145
        refine ok_bind (k_X12_word L hN (a0 := a0) k_a0 i91) (fun r187 hr188 => ?_)
        obtain ⟨i189, ⟨u192, u193, u194, u195⟩, p190, p191⟩ := hr188
        have u196 := kp_t u98 u192
        have v197 : q_V r187.2 = q_V δ := (u193).trans v99
        have v198 := kr_t v100 u195
        have f199 := cb_12_4 i189 k_a0
        have f200 : hc ad r187.2 a0 = (q_R r187.2 (Ad ad 101) (q_I r187.2 12 4 a0).toNatClampNeg).toInt := rfl
        have t201 := ti_tn (q_I r187.2 12 4 a0)
        have f202 : (q_R r187.2 (Ad ad 101) (q_I r187.2 12 4 a0).toNatClampNeg).toInt = (q_R r89 (Ad ad 101) (q_I r187.2 12 4 a0).toNatClampNeg).toInt := congrArg Int32.toInt (congrFun (u195 101 (by decide) (by decide) (by decide)) _)
        have f203 : (q_R r89 (Ad ad 101) (q_I r187.2 12 4 a0).toNatClampNeg).toInt = (q_R δ (Ad ad 101) (q_I r187.2 12 4 a0).toNatClampNeg).toInt := congrArg Int32.toInt (congrFun (u97 101 (by decide) (by decide) (by decide)) _)
        have f204 := ti_b (q_R δ (Ad ad 101) (q_I r187.2 12 4 a0).toNatClampNeg)
        have f205 := ti_b (q_R r89 (Ad ad 101) (q_I r187.2 12 4 a0).toNatClampNeg)
        have f206 := ti_b (q_R r187.2 (Ad ad 101) (q_I r187.2 12 4 a0).toNatClampNeg)
        have f207 := ti_b r187.1
        have f208 := cb_12_3 i91 k_a0
        have f209 : (q_I r89 12 3 a0).toInt = (q_I δ 12 3 a0).toInt := congrArg Int32.toInt (u94 12 3 a0 (by decide))
        have f210 := ti_b r187.1
        refine ok_bind (k_X12_of L hN (a0 := 3) (show 3 < 16 by first | assumption | omega) i189) (fun r211 hr212 => ?_)
        obtain ⟨i213, p214⟩ := hr212
        try rw [i213]
        have f215 := ti_b r211.1
        have f216 := ti_b r211.1
        refine ok_ite (fun h217 => ?_) (fun h217 => ?_)
        · have c218 : r187.1.toInt = r211.1.toInt := o_eq h217
          have f219 := cb_12_5 i189 k_a0
          have f220 : (q_I r187.2 12 5 a0).toInt = (q_I r89 12 5 a0).toInt := congrArg Int32.toInt (u192 12 5 a0 (by decide))
          have f221 := cb_12_5 i91 k_a0
          have f222 : (q_I r89 12 5 a0).toInt = (q_I δ 12 5 a0).toInt := congrArg Int32.toInt (u94 12 5 a0 (by decide))
          refine ok_mono (kj_X12_shape_219 L hN (K49 := K49) (a0 := a0) (x1 := x1) (xs0 := (1 : Int32)) (x2v := x2v) (x3v := x3v) (x5v := vx85) h_kt49 k_a0 (show (q_I r187.2 12 5 a0).toInt < 0 → 2 ≤ (x2v).toInt ∧ (x2v).toInt ≤ 16 ∧ 1 ≤ (x3v).toInt ∧ (x3v).toInt ≤ 5 by first | assumption | omega) (show (1 : Int) = 0 ∨ (1 : Int) = 1 by first | assumption | omega) (show 501 - (q_I r187.2 12 4 a0).toInt < K49 by first | assumption | omega) i189) (fun r223 hr224 => ?_)
          obtain ⟨i225, ⟨u227, u228, u229⟩, p226⟩ := hr224
          have u230 := kp_t u196 u227
          have v231 : q_V r223.2 = q_V δ := (u228).trans v197
          have v232 := kr_t v198 u229
          have f233 := cb_12_2 i225 k_a0
          have f234 := cb_12_2 i189 k_a0
          have f235 : (q_I r187.2 12 2 a0).toInt = (q_I r89 12 2 a0).toInt := congrArg Int32.toInt (u192 12 2 a0 (by decide))
          have f236 := cb_12_2 i91 k_a0
          have f237 : (q_I r89 12 2 a0).toInt = (q_I δ 12 2 a0).toInt := congrArg Int32.toInt (u94 12 2 a0 (by decide))
          have f238 := cb_12_2 I k_a0
          have f239 := ti_b r223.1
          exact ⟨by assumption, ⟨kp_w (by decide) u230, v231, kr_w (by decide) v232⟩, by first | assumption | omega⟩
        · have c240 : r187.1.toInt ≠ r211.1.toInt := o_ne h217
          have f241 := cb_12_5 i189 k_a0
          have f242 : (q_I r187.2 12 5 a0).toInt = (q_I r89 12 5 a0).toInt := congrArg Int32.toInt (u192 12 5 a0 (by decide))
          have f243 := cb_12_5 i91 k_a0
          have f244 : (q_I r89 12 5 a0).toInt = (q_I δ 12 5 a0).toInt := congrArg Int32.toInt (u94 12 5 a0 (by decide))
          refine ok_mono (kj_X12_shape_219 L hN (K49 := K49) (a0 := a0) (x1 := x1) (xs0 := (0 : Int32)) (x2v := x2v) (x3v := x3v) (x5v := vx85) h_kt49 k_a0 (show (q_I r187.2 12 5 a0).toInt < 0 → 2 ≤ (x2v).toInt ∧ (x2v).toInt ≤ 16 ∧ 1 ≤ (x3v).toInt ∧ (x3v).toInt ≤ 5 by first | assumption | omega) (show (0 : Int) = 0 ∨ (0 : Int) = 1 by first | assumption | omega) (show 501 - (q_I r187.2 12 4 a0).toInt < K49 by first | assumption | omega) i189) (fun r245 hr246 => ?_)
          obtain ⟨i247, ⟨u249, u250, u251⟩, p248⟩ := hr246
          have u252 := kp_t u196 u249
          have v253 : q_V r245.2 = q_V δ := (u250).trans v197
          have v254 := kr_t v198 u251
          have f255 := cb_12_2 i247 k_a0
          have f256 := cb_12_2 i189 k_a0
          have f257 : (q_I r187.2 12 2 a0).toInt = (q_I r89 12 2 a0).toInt := congrArg Int32.toInt (u192 12 2 a0 (by decide))
          have f258 := cb_12_2 i91 k_a0
          have f259 : (q_I r89 12 2 a0).toInt = (q_I δ 12 2 a0).toInt := congrArg Int32.toInt (u94 12 2 a0 (by decide))
          have f260 := cb_12_2 I k_a0
          have f261 := ti_b r245.1
          exact ⟨by assumption, ⟨kp_w (by decide) u252, v253, kr_w (by decide) v254⟩, by first | assumption | omega⟩
set_option maxHeartbeats 4000000 in
theorem kj_X12_shape_112 {ad : List Nat} {h : hp} (L : Lay TLx ad h) {δ0 : dp} {N : Nat} (hN : 10000000 ≤ N) {a0 : Nat} {x1 : Int32} {kt49 : Int32 → Int32 → Int32 → Int32 → dp → Option (Int32 × dp)} {K49 : Int} (h_kt49 : ∀ (x2v : Int32) (x3v : Int32) (x4v : Int32) (x5v : Int32) (δ : dp), RI ad h.1 δ0 δ → ((q_I δ 12 5 a0).toInt < 0 → 2 ≤ (x2v).toInt ∧ (x2v).toInt ≤ 16 ∧ 1 ≤ (x3v).toInt ∧ (x3v).toInt ≤ 5) → ((x4v).toInt = 0 ∨ (x4v).toInt = 1) → 501 - (q_I δ 12 4 a0).toInt < K49 → ok (kt49 x2v x3v x4v x5v δ) (fun r => RI ad h.1 δ0 r.2 ∧ (kp [(12, 0), (12, 2), (12, 3), (12, 4), (12, 5), (12, 6), (12, 7), (12, 8), (12, 10), (12, 11), (12, 12), (12, 18)] δ r.2 ∧ q_V r.2 = q_V δ ∧ kr ad [100, 103, 106] δ r.2) ∧ (q_I r.2 12 2 a0).toInt = (q_I δ 12 2 a0).toInt)) {xs0 : Int32} {x2v : Int32} {x3v : Int32} {x4v : Int32} {x5v : Int32} (k_a0 : q_K h.1 a0 = 12) {δ : dp} (z0 : (q_I δ 12 5 a0).toInt < 0 → 2 ≤ (x2v).toInt ∧ (x2v).toInt ≤ 16 ∧ 1 ≤ (x3v).toInt ∧ (x3v).toInt ≤ 5) (z1 : (x4v).toInt = 0 ∨ (x4v).toInt = 1) (z2 : (xs0).toInt = 0 ∨ (q_I δ 12 4 a0).toInt < (q_I δ 12 3 a0).toInt ∧ 97 ≤ hc ad δ a0 ∧ hc ad δ a0 ≤ 122) (z3 : 501 - (q_I δ 12 4 a0).toInt ≤ K49) (I : RI ad h.1 δ0 δ) : ok (J_X12_shape_112 N h.1 a0 x1 kt49 xs0 x2v x3v x4v x5v δ) (fun r => RI ad h.1 δ0 r.2 ∧ (kp [(12, 0), (12, 2), (12, 3), (12, 4), (12, 5), (12, 6), (12, 7), (12, 8), (12, 10), (12, 11), (12, 12), (12, 18)] δ r.2 ∧ q_V r.2 = q_V δ ∧ kr ad [100, 103, 106] δ r.2) ∧ (q_I r.2 12 2 a0).toInt = (q_I δ 12 2 a0).toInt) := by
  unfold J_X12_shape_112
  have f1 : hc ad δ a0 = (q_R δ (Ad ad 101) (q_I δ 12 4 a0).toNatClampNeg).toInt := rfl
  have f2 := cb_12_4 I k_a0
  have t3 := ti_tn (q_I δ 12 4 a0)
  have f4 := ti_b (q_R δ (Ad ad 101) (q_I δ 12 4 a0).toNatClampNeg)
  have f5 := cb_12_5 I k_a0
  have f6 := ti_b x2v
  have f7 := ti_b x3v
  have f8 := ti_b x4v
  have f9 := ti_b xs0
  have f10 := cb_12_3 I k_a0
  refine ok_ite (fun h11 => ?_) (fun h11 => ?_)
  · have c12 : xs0.toInt = (0 : Int) := o_eq h11
    refine ok_bind (k_X12_wrong L hN (a0 := a0) (x1 := (1 : Int32)) (x2 := (q_I δ 12 4 a0)) k_a0 (show 0 ≤ ((q_I δ 12 4 a0)).toInt by first | assumption | omega) (show ((q_I δ 12 4 a0)).toInt ≤ 500 by first | assumption | omega) I) (fun r13 hr14 => ?_)
    obtain ⟨i15, ⟨u18, u19, u20, u21⟩, p16, p17⟩ := hr14
    have u22 := kp_t kp_r u18
    have v23 : q_V r13 = q_V δ := (u19).trans rfl
    have v24 := kr_t (kr_r (ad := ad)) u21
    have f25 := cb_12_5 i15 k_a0
    have f26 : hc ad r13 a0 = (q_R r13 (Ad ad 101) (q_I r13 12 4 a0).toNatClampNeg).toInt := rfl
    have f27 := cb_12_4 i15 k_a0
    have f28 : (q_I r13 12 4 a0).toInt = (q_I δ 12 4 a0).toInt := congrArg Int32.toInt (u18 12 4 a0 (by decide))
    have t29 := ti_tn (q_I r13 12 4 a0)
    have f30 : (q_R r13 (Ad ad 101) (q_I r13 12 4 a0).toNatClampNeg).toInt = (q_R δ (Ad ad 101) (q_I r13 12 4 a0).toNatClampNeg).toInt := congrArg Int32.toInt (congrFun (u21 101 (by decide) (by decide) (by decide)) _)
    have f31 := ti_b (q_R δ (Ad ad 101) (q_I r13 12 4 a0).toNatClampNeg)
    have f32 := ti_b (q_R r13 (Ad ad 101) (q_I r13 12 4 a0).toNatClampNeg)
    have f33 := cb_12_3 i15 k_a0
    have f34 : (q_I r13 12 3 a0).toInt = (q_I δ 12 3 a0).toInt := congrArg Int32.toInt (u18 12 3 a0 (by decide))
    refine ok_mono (kj_X12_shape_148 L hN (K49 := K49) (a0 := a0) (x1 := x1) (x2v := x2v) (x3v := x3v) (x4v := x4v) (x5v := x5v) (x6v := xs0) h_kt49 k_a0 (show (q_I r13 12 5 a0).toInt < 0 → 2 ≤ (x2v).toInt ∧ (x2v).toInt ≤ 16 ∧ 1 ≤ (x3v).toInt ∧ (x3v).toInt ≤ 5 by first | assumption | omega) (show (x4v).toInt = 0 ∨ (x4v).toInt = 1 by first | assumption | omega) (show (q_I r13 12 5 a0).toInt < 0 → (q_I r13 12 4 a0).toInt < (q_I r13 12 3 a0).toInt ∧ 97 ≤ hc ad r13 a0 ∧ hc ad r13 a0 ≤ 122 by first | assumption | omega) (show 501 - (q_I r13 12 4 a0).toInt ≤ K49 by first | assumption | omega) i15) (fun r35 hr36 => ?_)
    obtain ⟨i37, ⟨u39, u40, u41⟩, p38⟩ := hr36
    have u42 := kp_t u22 u39
    have v43 : q_V r35.2 = q_V δ := (u40).trans v23
    have v44 := kr_t v24 u41
    have f45 := cb_12_2 i37 k_a0
    have f46 := cb_12_2 i15 k_a0
    have f47 : (q_I r13 12 2 a0).toInt = (q_I δ 12 2 a0).toInt := congrArg Int32.toInt (u18 12 2 a0 (by decide))
    have f48 := cb_12_2 I k_a0
    have f49 := ti_b r35.1
    exact ⟨by assumption, ⟨kp_w (by decide) u42, v43, kr_w (by decide) v44⟩, by first | assumption | omega⟩
  · have c50 : xs0.toInt ≠ (0 : Int) := o_ne h11
    have f51 := ti_b (x5v &&& xs0)
    refine ok_ite (fun h52 => ?_) (fun h52 => ?_)
    · have c53 : (x5v &&& xs0).toInt = (0 : Int) := o_eq h52
      refine ok_mono (kj_X12_shape_148 L hN (K49 := K49) (a0 := a0) (x1 := x1) (x2v := x2v) (x3v := x3v) (x4v := x4v) (x5v := x5v) (x6v := xs0) h_kt49 k_a0 (show (q_I δ 12 5 a0).toInt < 0 → 2 ≤ (x2v).toInt ∧ (x2v).toInt ≤ 16 ∧ 1 ≤ (x3v).toInt ∧ (x3v).toInt ≤ 5 by first | assumption | omega) (show (x4v).toInt = 0 ∨ (x4v).toInt = 1 by first | assumption | omega) (show (q_I δ 12 5 a0).toInt < 0 → (q_I δ 12 4 a0).toInt < (q_I δ 12 3 a0).toInt ∧ 97 ≤ hc ad δ a0 ∧ hc ad δ a0 ≤ 122 by first | assumption | omega) (show 501 - (q_I δ 12 4 a0).toInt ≤ K49 by first | assumption | omega) I) (fun r54 hr55 => ?_)
      obtain ⟨i56, ⟨u58, u59, u60⟩, p57⟩ := hr55
      have u61 := kp_t kp_r u58
      have v62 : q_V r54.2 = q_V δ := (u59).trans rfl
      have v63 := kr_t (kr_r (ad := ad)) u60
      have f64 := cb_12_2 i56 k_a0
      have f65 := cb_12_2 I k_a0
      have f66 := ti_b r54.1
      exact ⟨by assumption, ⟨kp_w (by decide) u61, v62, kr_w (by decide) v63⟩, by first | assumption | omega⟩
    · have c67 : (x5v &&& xs0).toInt ≠ (0 : Int) := o_ne h52
      refine ok_bind (k_X12_wrong L hN (a0 := a0) (x1 := (4 : Int32)) (x2 := (q_I δ 12 4 a0)) k_a0 (show 0 ≤ ((q_I δ 12 4 a0)).toInt by first | assumption | omega) (show ((q_I δ 12 4 a0)).toInt ≤ 500 by first | assumption | omega) I) (fun r68 hr69 => ?_)
      obtain ⟨i70, ⟨u73, u74, u75, u76⟩, p71, p72⟩ := hr69
      have u77 := kp_t kp_r u73
      have v78 : q_V r68 = q_V δ := (u74).trans rfl
      have v79 := kr_t (kr_r (ad := ad)) u76
      have f80 := cb_12_5 i70 k_a0
      have f81 : hc ad r68 a0 = (q_R r68 (Ad ad 101) (q_I r68 12 4 a0).toNatClampNeg).toInt := rfl
      have f82 := cb_12_4 i70 k_a0
      have f83 : (q_I r68 12 4 a0).toInt = (q_I δ 12 4 a0).toInt := congrArg Int32.toInt (u73 12 4 a0 (by decide))
      have t84 := ti_tn (q_I r68 12 4 a0)
      have f85 : (q_R r68 (Ad ad 101) (q_I r68 12 4 a0).toNatClampNeg).toInt = (q_R δ (Ad ad 101) (q_I r68 12 4 a0).toNatClampNeg).toInt := congrArg Int32.toInt (congrFun (u76 101 (by decide) (by decide) (by decide)) _)
      have f86 := ti_b (q_R δ (Ad ad 101) (q_I r68 12 4 a0).toNatClampNeg)
      have f87 := ti_b (q_R r68 (Ad ad 101) (q_I r68 12 4 a0).toNatClampNeg)
      have f88 := cb_12_3 i70 k_a0
      have f89 : (q_I r68 12 3 a0).toInt = (q_I δ 12 3 a0).toInt := congrArg Int32.toInt (u73 12 3 a0 (by decide))
      refine ok_mono (kj_X12_shape_148 L hN (K49 := K49) (a0 := a0) (x1 := x1) (x2v := x2v) (x3v := x3v) (x4v := x4v) (x5v := x5v) (x6v := xs0) h_kt49 k_a0 (show (q_I r68 12 5 a0).toInt < 0 → 2 ≤ (x2v).toInt ∧ (x2v).toInt ≤ 16 ∧ 1 ≤ (x3v).toInt ∧ (x3v).toInt ≤ 5 by first | assumption | omega) (show (x4v).toInt = 0 ∨ (x4v).toInt = 1 by first | assumption | omega) (show (q_I r68 12 5 a0).toInt < 0 → (q_I r68 12 4 a0).toInt < (q_I r68 12 3 a0).toInt ∧ 97 ≤ hc ad r68 a0 ∧ hc ad r68 a0 ≤ 122 by first | assumption | omega) (show 501 - (q_I r68 12 4 a0).toInt ≤ K49 by first | assumption | omega) i70) (fun r90 hr91 => ?_)
      obtain ⟨i92, ⟨u94, u95, u96⟩, p93⟩ := hr91
      have u97 := kp_t u77 u94
      have v98 : q_V r90.2 = q_V δ := (u95).trans v78
      have v99 := kr_t v79 u96
      have f100 := cb_12_2 i92 k_a0
      have f101 := cb_12_2 i70 k_a0
      have f102 : (q_I r68 12 2 a0).toInt = (q_I δ 12 2 a0).toInt := congrArg Int32.toInt (u73 12 2 a0 (by decide))
      have f103 := cb_12_2 I k_a0
      have f104 := ti_b r90.1
      exact ⟨by assumption, ⟨kp_w (by decide) u97, v98, kr_w (by decide) v99⟩, by first | assumption | omega⟩
set_option maxHeartbeats 4000000 in
theorem kl_X12_shape_49 {ad : List Nat} {h : hp} (L : Lay TLx ad h) {δ0 : dp} {N : Nat} (hN : 10000000 ≤ N) {a0 : Nat} {x1 : Int32} (k_a0 : q_K h.1 a0 = 12) : ∀ (n : Nat) (x2v : Int32) (x3v : Int32) (x4v : Int32) (x5v : Int32) (δ : dp), RI ad h.1 δ0 δ → ((q_I δ 12 5 a0).toInt < 0 → 2 ≤ (x2v).toInt ∧ (x2v).toInt ≤ 16 ∧ 1 ≤ (x3v).toInt ∧ (x3v).toInt ≤ 5) → ((x4v).toInt = 0 ∨ (x4v).toInt = 1) → 501 - (q_I δ 12 4 a0).toInt < (n : Int) → ok (L_X12_shape_49 N h.1 a0 x1 n x2v x3v x4v x5v δ) (fun r => RI ad h.1 δ0 r.2 ∧ (kp [(12, 0), (12, 2), (12, 3), (12, 4), (12, 5), (12, 6), (12, 7), (12, 8), (12, 10), (12, 11), (12, 12), (12, 18)] δ r.2 ∧ q_V r.2 = q_V δ ∧ kr ad [100, 103, 106] δ r.2) ∧ (q_I r.2 12 2 a0).toInt = (q_I δ 12 2 a0).toInt) := by
  intro n
  induction n with
  | zero =>
    intro x2v x3v x4v x5v δ I j0 j1 hm
    have f1 := cb_12_5 I k_a0
    have f2 := ti_b x2v
    have f3 := ti_b x3v
    have f4 := ti_b x4v
    have f5 := cb_12_4 I k_a0
    exfalso; omega
  | succ n ih =>
    intro x2v x3v x4v x5v δ I j0 j1 hm
    unfold L_X12_shape_49
    have f1 := cb_12_5 I k_a0
    have f2 := ti_b x2v
    have f3 := ti_b x3v
    have f4 := ti_b x4v
    have f5 := cb_12_4 I k_a0
    refine ok_bind (k_X12_fine L hN (a0 := a0) k_a0 I) (fun r6 hr7 => ?_)
    obtain ⟨i8, p9, p10, p11⟩ := hr7
    try rw [i8]
    have f12 := bo_l p9
    have f13 := ti_b r6.1
    have f14 := ti_b r6.1
    refine ok_ite (fun h15 => ?_) (fun h15 => ?_)
    · have c16 : r6.1.toInt = (0 : Int) := o_eq h15
      unfold J_X12_shape_267
      refine ok_bind (k_X12_fine L hN (a0 := a0) k_a0 I) (fun r17 hr18 => ?_)
      obtain ⟨i19, p20, p21, p22⟩ := hr18
      try rw [i19]
      have f23 := bo_l p20
      have f24 := ti_b r17.1
      have f25 := ti_b r17.1
      refine ok_ite (fun h26 => ?_) (fun h26 => ?_)
      · have c27 : r17.1.toInt = (0 : Int) := o_eq h26
        refine ok_bind (k_X12_result L hN (a0 := a0) (x1 := (0 : Int32)) k_a0 I) (fun r28 hr29 => ?_)
        obtain ⟨i30, ⟨u31, u32, u33, u34⟩⟩ := hr29
        have u35 := kp_t kp_r u31
        have v36 : q_V r28.2 = q_V δ := (u32).trans rfl
        have v37 := kr_t (kr_r (ad := ad)) u34
        have f38 := ti_b r28.1
        have f39 := cb_12_2 i30 k_a0
        have f40 : (q_I r28.2 12 2 a0).toInt = (q_I δ 12 2 a0).toInt := congrArg Int32.toInt (u31 12 2 a0 (by decide))
        have f41 := cb_12_2 I k_a0
        exact ok_some (show RI ad h.1 δ0 r28.2 ∧ (kp [(12, 0), (12, 2), (12, 3), (12, 4), (12, 5), (12, 6), (12, 7), (12, 8), (12, 10), (12, 11), (12, 12), (12, 18)] δ r28.2 ∧ q_V r28.2 = q_V δ ∧ kr ad [100, 103, 106] δ r28.2) ∧ (q_I r28.2 12 2 a0).toInt = (q_I δ 12 2 a0).toInt from ⟨i30, ⟨kp_w (by decide) u35, v36, kr_w (by decide) v37⟩, by first | assumption | omega⟩)
      · have c42 : r17.1.toInt ≠ (0 : Int) := o_ne h26
        refine ok_bdv (fun d43 e44 => ?_)
        have i45 : RI ad h.1 δ0 d43 := by rw [e44]; exact cs_12_10 L I k_a0 (show 2 ≤ x2v.toInt by omega) (show x2v.toInt ≤ 16 by omega)
        have u46 := kp_I kp_r e44
        have v47 : q_V d43 = q_V δ := ((show q_V d43 = q_V δ by rw [e44]; rfl)).trans rfl
        have v48 := kr_N (kr_r (ad := ad)) (show q_R d43 = q_R δ by rw [e44]; rfl)
        refine ok_bdv (fun d49 e50 => ?_)
        have i51 : RI ad h.1 δ0 d49 := by rw [e50]; exact cs_12_11 L i45 k_a0 (show 1 ≤ x3v.toInt by omega) (show x3v.toInt ≤ 5 by omega)
        have u52 := kp_I u46 e50
        have v53 : q_V d49 = q_V δ := ((show q_V d49 = q_V d43 by rw [e50]; rfl)).trans v47
        have v54 := kr_N v48 (show q_R d49 = q_R d43 by rw [e50]; rfl)
        refine ok_gp (show bo x4v by first | assumption | exact bo_0 | exact bo_1 | exact bo_i (by omega) (by omega)) ?_
        refine ok_bdv (fun d55 e56 => ?_)
        have i57 : RI ad h.1 δ0 d55 := by rw [e56]; exact cs_12_12 L i51 k_a0 (show 0 ≤ x4v.toInt by omega) (show x4v.toInt ≤ 1 by omega)
        have u58 := kp_I u52 e56
        have v59 : q_V d55 = q_V δ := ((show q_V d55 = q_V d49 by rw [e56]; rfl)).trans v53
        have v60 := kr_N v54 (show q_R d55 = q_R d49 by rw [e56]; rfl)
        refine ok_mono (kl_X12_shape_299 L hN   k_a0 _ (0 : Int32) d55 i57 (show 0 ≤ (0 : Int) by first | assumption | omega) (show (0 : Int) ≤ 4 by first | assumption | omega) (show 4 - (0 : Int) < _ by omega)) (fun r61 hr62 => ?_)
        obtain ⟨i63, ⟨u65, u66, u67⟩, p64⟩ := hr62
        have u68 := kp_t u58 u65
        have v69 : q_V r61.2 = q_V δ := (u66).trans v59
        have v70 := kr_t v60 u67
        have f71 := cb_12_2 i63 k_a0
        have f72 := cb_12_2 i57 k_a0
        have f73 : (q_I d55 12 2 a0).toInt = (q_I d49 12 2 a0).toInt := congrArg Int32.toInt (by rw [e56]; exact rI_o (by decide))
        have f74 := cb_12_2 i51 k_a0
        have f75 : (q_I d49 12 2 a0).toInt = (q_I d43 12 2 a0).toInt := congrArg Int32.toInt (by rw [e50]; exact rI_o (by decide))
        have f76 := cb_12_2 i45 k_a0
        have f77 : (q_I d43 12 2 a0).toInt = (q_I δ 12 2 a0).toInt := congrArg Int32.toInt (by rw [e44]; exact rI_o (by decide))
        have f78 := cb_12_2 I k_a0
        have f79 := ti_b r61.1
        exact ⟨by assumption, ⟨kp_w (by decide) u68, v69, kr_w (by decide) v70⟩, by first | assumption | omega⟩
    · have c80 : r6.1.toInt ≠ (0 : Int) := o_ne h15
      refine ok_bind (k_X12_isMore L hN (a0 := a0) k_a0 I) (fun r81 hr82 => ?_)
      obtain ⟨i83, ⟨u87, u88, u89, u90⟩, p84, p85, p86⟩ := hr82
      have u91 := kp_t kp_r u87
      have v92 : q_V r81.2 = q_V δ := (u88).trans rfl
      have v93 := kr_t (kr_r (ad := ad)) u90
      have f94 := bo_l p84
      have f95 := cb_12_4 i83 k_a0
      have f96 := ti_b r81.1
      have f97 := cb_12_3 I k_a0
      have f98 := ti_b r81.1
      refine ok_ite (fun h99 => ?_) (fun h99 => ?_)
      · have c100 : r81.1.toInt = (0 : Int) := o_eq h99
        unfold J_X12_shape_267
        refine ok_bind (k_X12_fine L hN (a0 := a0) k_a0 i83) (fun r101 hr102 => ?_)
        obtain ⟨i103, p104, p105, p106⟩ := hr102
        try rw [i103]
        have f107 := bo_l p104
        have f108 := cb_12_5 i83 k_a0
        have f109 : (q_I r81.2 12 5 a0).toInt = (q_I δ 12 5 a0).toInt := congrArg Int32.toInt (u87 12 5 a0 (by decide))
        have f110 := ti_b r101.1
        have f111 := ti_b r101.1
        refine ok_ite (fun h112 => ?_) (fun h112 => ?_)
        · have c113 : r101.1.toInt = (0 : Int) := o_eq h112
          refine ok_bind (k_X12_result L hN (a0 := a0) (x1 := (0 : Int32)) k_a0 i83) (fun r114 hr115 => ?_)
          obtain ⟨i116, ⟨u117, u118, u119, u120⟩⟩ := hr115
          have u121 := kp_t u91 u117
          have v122 : q_V r114.2 = q_V δ := (u118).trans v92
          have v123 := kr_t v93 u120
          have f124 := ti_b r114.1
          have f125 := cb_12_2 i116 k_a0
          have f126 : (q_I r114.2 12 2 a0).toInt = (q_I r81.2 12 2 a0).toInt := congrArg Int32.toInt (u117 12 2 a0 (by decide))
          have f127 := cb_12_2 i83 k_a0
          have f128 : (q_I r81.2 12 2 a0).toInt = (q_I δ 12 2 a0).toInt := congrArg Int32.toInt (u87 12 2 a0 (by decide))
          have f129 := cb_12_2 I k_a0
          exact ok_some (show RI ad h.1 δ0 r114.2 ∧ (kp [(12, 0), (12, 2), (12, 3), (12, 4), (12, 5), (12, 6), (12, 7), (12, 8), (12, 10), (12, 11), (12, 12), (12, 18)] δ r114.2 ∧ q_V r114.2 = q_V δ ∧ kr ad [100, 103, 106] δ r114.2) ∧ (q_I r114.2 12 2 a0).toInt = (q_I δ 12 2 a0).toInt from ⟨i116, ⟨kp_w (by decide) u121, v122, kr_w (by decide) v123⟩, by first | assumption | omega⟩)
        · have c130 : r101.1.toInt ≠ (0 : Int) := o_ne h112
          refine ok_bdv (fun d131 e132 => ?_)
          have i133 : RI ad h.1 δ0 d131 := by rw [e132]; exact cs_12_10 L i83 k_a0 (show 2 ≤ x2v.toInt by omega) (show x2v.toInt ≤ 16 by omega)
          have u134 := kp_I u91 e132
          have v135 : q_V d131 = q_V δ := ((show q_V d131 = q_V r81.2 by rw [e132]; rfl)).trans v92
          have v136 := kr_N v93 (show q_R d131 = q_R r81.2 by rw [e132]; rfl)
          refine ok_bdv (fun d137 e138 => ?_)
          have i139 : RI ad h.1 δ0 d137 := by rw [e138]; exact cs_12_11 L i133 k_a0 (show 1 ≤ x3v.toInt by omega) (show x3v.toInt ≤ 5 by omega)
          have u140 := kp_I u134 e138
          have v141 : q_V d137 = q_V δ := ((show q_V d137 = q_V d131 by rw [e138]; rfl)).trans v135
          have v142 := kr_N v136 (show q_R d137 = q_R d131 by rw [e138]; rfl)
          refine ok_gp (show bo x4v by first | assumption | exact bo_0 | exact bo_1 | exact bo_i (by omega) (by omega)) ?_
          refine ok_bdv (fun d143 e144 => ?_)
          have i145 : RI ad h.1 δ0 d143 := by rw [e144]; exact cs_12_12 L i139 k_a0 (show 0 ≤ x4v.toInt by omega) (show x4v.toInt ≤ 1 by omega)
          have u146 := kp_I u140 e144
          have v147 : q_V d143 = q_V δ := ((show q_V d143 = q_V d137 by rw [e144]; rfl)).trans v141
          have v148 := kr_N v142 (show q_R d143 = q_R d137 by rw [e144]; rfl)
          refine ok_mono (kl_X12_shape_299 L hN   k_a0 _ (0 : Int32) d143 i145 (show 0 ≤ (0 : Int) by first | assumption | omega) (show (0 : Int) ≤ 4 by first | assumption | omega) (show 4 - (0 : Int) < _ by omega)) (fun r149 hr150 => ?_)
          obtain ⟨i151, ⟨u153, u154, u155⟩, p152⟩ := hr150
          have u156 := kp_t u146 u153
          have v157 : q_V r149.2 = q_V δ := (u154).trans v147
          have v158 := kr_t v148 u155
          have f159 := cb_12_2 i151 k_a0
          have f160 := cb_12_2 i145 k_a0
          have f161 : (q_I d143 12 2 a0).toInt = (q_I d137 12 2 a0).toInt := congrArg Int32.toInt (by rw [e144]; exact rI_o (by decide))
          have f162 := cb_12_2 i139 k_a0
          have f163 : (q_I d137 12 2 a0).toInt = (q_I d131 12 2 a0).toInt := congrArg Int32.toInt (by rw [e138]; exact rI_o (by decide))
          have f164 := cb_12_2 i133 k_a0
          have f165 : (q_I d131 12 2 a0).toInt = (q_I r81.2 12 2 a0).toInt := congrArg Int32.toInt (by rw [e132]; exact rI_o (by decide))
          have f166 := cb_12_2 i83 k_a0
          have f167 : (q_I r81.2 12 2 a0).toInt = (q_I δ 12 2 a0).toInt := congrArg Int32.toInt (u87 12 2 a0 (by decide))
          have f168 := cb_12_2 I k_a0
          have f169 := ti_b r149.1
          exact ⟨by assumption, ⟨kp_w (by decide) u156, v157, kr_w (by decide) v158⟩, by first | assumption | omega⟩
      · have c170 : r81.1.toInt ≠ (0 : Int) := o_ne h99
        refine ok_bind (k_X12_word L hN (a0 := a0) k_a0 i83) (fun r171 hr172 => ?_)
        obtain ⟨i173, ⟨u176, u177, u178, u179⟩, p174, p175⟩ := hr172
        have u180 := kp_t u91 u176
        have v181 : q_V r171.2 = q_V δ := (u177).trans v92
        have v182 := kr_t v93 u179
        have f183 := cb_12_4 i173 k_a0
        have f184 : hc ad r171.2 a0 = (q_R r171.2 (Ad ad 101) (q_I r171.2 12 4 a0).toNatClampNeg).toInt := rfl
        have t185 := ti_tn (q_I r171.2 12 4 a0)
        have f186 : (q_R r171.2 (Ad ad 101) (q_I r171.2 12 4 a0).toNatClampNeg).toInt = (q_R r81.2 (Ad ad 101) (q_I r171.2 12 4 a0).toNatClampNeg).toInt := congrArg Int32.toInt (congrFun (u179 101 (by decide) (by decide) (by decide)) _)
        have f187 : (q_R r81.2 (Ad ad 101) (q_I r171.2 12 4 a0).toNatClampNeg).toInt = (q_R δ (Ad ad 101) (q_I r171.2 12 4 a0).toNatClampNeg).toInt := congrArg Int32.toInt (congrFun (u90 101 (by decide) (by decide) (by decide)) _)
        have f188 := ti_b (q_R δ (Ad ad 101) (q_I r171.2 12 4 a0).toNatClampNeg)
        have f189 := ti_b (q_R r81.2 (Ad ad 101) (q_I r171.2 12 4 a0).toNatClampNeg)
        have f190 := ti_b (q_R r171.2 (Ad ad 101) (q_I r171.2 12 4 a0).toNatClampNeg)
        have f191 := ti_b r171.1
        have f192 := cb_12_3 i83 k_a0
        have f193 : (q_I r81.2 12 3 a0).toInt = (q_I δ 12 3 a0).toInt := congrArg Int32.toInt (u87 12 3 a0 (by decide))
        have f194 := ti_b r171.1
        refine ok_bind (k_X12_of L hN (a0 := 0) (show 0 < 16 by first | assumption | omega) i173) (fun r195 hr196 => ?_)
        obtain ⟨i197, p198⟩ := hr196
        try rw [i197]
        have f199 := ti_b r195.1
        have f200 := ti_b r195.1
        refine ok_ite (fun h201 => ?_) (fun h201 => ?_)
        · have c202 : r171.1.toInt = r195.1.toInt := o_eq h201
          unfold J_X12_shape_112
          refine ok_ite (fun h203 => ?_) (fun h203 => ?_)
          · have c204 : (1 : Int) = (0 : Int) := o_eq h203
            refine ok_bind (k_X12_wrong L hN (a0 := a0) (x1 := (1 : Int32)) (x2 := (q_I r171.2 12 4 a0)) k_a0 (show 0 ≤ ((q_I r171.2 12 4 a0)).toInt by first | assumption | omega) (show ((q_I r171.2 12 4 a0)).toInt ≤ 500 by first | assumption | omega) i173) (fun r205 hr206 => ?_)
            obtain ⟨i207, ⟨u210, u211, u212, u213⟩, p208, p209⟩ := hr206
            have u214 := kp_t u180 u210
            have v215 : q_V r205 = q_V δ := (u211).trans v181
            have v216 := kr_t v182 u213
            have f217 := cb_12_5 i207 k_a0
            have f218 := cb_12_5 i173 k_a0
            have f219 : (q_I r171.2 12 5 a0).toInt = (q_I r81.2 12 5 a0).toInt := congrArg Int32.toInt (u176 12 5 a0 (by decide))
            have f220 := cb_12_5 i83 k_a0
            have f221 : (q_I r81.2 12 5 a0).toInt = (q_I δ 12 5 a0).toInt := congrArg Int32.toInt (u87 12 5 a0 (by decide))
            have f222 : hc ad r205 a0 = (q_R r205 (Ad ad 101) (q_I r205 12 4 a0).toNatClampNeg).toInt := rfl
            have f223 := cb_12_4 i207 k_a0
            have f224 : (q_I r205 12 4 a0).toInt = (q_I r171.2 12 4 a0).toInt := congrArg Int32.toInt (u210 12 4 a0 (by decide))
            have t225 := ti_tn (q_I r205 12 4 a0)
            have f226 : (q_R r205 (Ad ad 101) (q_I r205 12 4 a0).toNatClampNeg).toInt = (q_R r171.2 (Ad ad 101) (q_I r205 12 4 a0).toNatClampNeg).toInt := congrArg Int32.toInt (congrFun (u213 101 (by decide) (by decide) (by decide)) _)
            have f227 : (q_R r171.2 (Ad ad 101) (q_I r205 12 4 a0).toNatClampNeg).toInt = (q_R r81.2 (Ad ad 101) (q_I r205 12 4 a0).toNatClampNeg).toInt := congrArg Int32.toInt (congrFun (u179 101 (by decide) (by decide) (by decide)) _)
            have f228 : (q_R r81.2 (Ad ad 101) (q_I r205 12 4 a0).toNatClampNeg).toInt = (q_R δ (Ad ad 101) (q_I r205 12 4 a0).toNatClampNeg).toInt := congrArg Int32.toInt (congrFun (u90 101 (by decide) (by decide) (by decide)) _)
            have f229 := ti_b (q_R δ (Ad ad 101) (q_I r205 12 4 a0).toNatClampNeg)
            have f230 := ti_b (q_R r81.2 (Ad ad 101) (q_I r205 12 4 a0).toNatClampNeg)
            have f231 := ti_b (q_R r171.2 (Ad ad 101) (q_I r205 12 4 a0).toNatClampNeg)
            have f232 := ti_b (q_R r205 (Ad ad 101) (q_I r205 12 4 a0).toNatClampNeg)
            have f233 := cb_12_3 i207 k_a0
            have f234 : (q_I r205 12 3 a0).toInt = (q_I r171.2 12 3 a0).toInt := congrArg Int32.toInt (u210 12 3 a0 (by decide))
            have f235 := cb_12_3 i173 k_a0
            have f236 : (q_I r171.2 12 3 a0).toInt = (q_I r81.2 12 3 a0).toInt := congrArg Int32.toInt (u176 12 3 a0 (by decide))
            refine ok_mono (kj_X12_shape_148 L hN (K49 := (n : Int)) (a0 := a0) (x1 := x1) (x2v := x2v) (x3v := x3v) (x4v := x4v) (x5v := x5v) (x6v := (1 : Int32)) ih k_a0 (show (q_I r205 12 5 a0).toInt < 0 → 2 ≤ (x2v).toInt ∧ (x2v).toInt ≤ 16 ∧ 1 ≤ (x3v).toInt ∧ (x3v).toInt ≤ 5 by first | assumption | omega) (show (x4v).toInt = 0 ∨ (x4v).toInt = 1 by first | assumption | omega) (show (q_I r205 12 5 a0).toInt < 0 → (q_I r205 12 4 a0).toInt < (q_I r205 12 3 a0).toInt ∧ 97 ≤ hc ad r205 a0 ∧ hc ad r205 a0 ≤ 122 by first | assumption | omega) (show 501 - (q_I r205 12 4 a0).toInt ≤ (n : Int) by first | assumption | omega) i207) (fun r237 hr238 => ?_)
            obtain ⟨i239, ⟨u241, u242, u243⟩, p240⟩ := hr238
            have u244 := kp_t u214 u241
            have v245 : q_V r237.2 = q_V δ := (u242).trans v215
            have v246 := kr_t v216 u243
            have f247 := cb_12_2 i239 k_a0
            have f248 := cb_12_2 i207 k_a0
            have f249 : (q_I r205 12 2 a0).toInt = (q_I r171.2 12 2 a0).toInt := congrArg Int32.toInt (u210 12 2 a0 (by decide))
            have f250 := cb_12_2 i173 k_a0
            have f251 : (q_I r171.2 12 2 a0).toInt = (q_I r81.2 12 2 a0).toInt := congrArg Int32.toInt (u176 12 2 a0 (by decide))
            have f252 := cb_12_2 i83 k_a0
            have f253 : (q_I r81.2 12 2 a0).toInt = (q_I δ 12 2 a0).toInt := congrArg Int32.toInt (u87 12 2 a0 (by decide))
            have f254 := cb_12_2 I k_a0
            have f255 := ti_b r237.1
            exact ⟨by assumption, ⟨kp_w (by decide) u244, v245, kr_w (by decide) v246⟩, by first | assumption | omega⟩
          · have c256 : (1 : Int) ≠ (0 : Int) := o_ne h203
            have f257 := ti_b (x5v &&& (1 : Int32))
            refine ok_ite (fun h258 => ?_) (fun h258 => ?_)
            · have c259 : (x5v &&& (1 : Int32)).toInt = (0 : Int) := o_eq h258
              have f260 := cb_12_5 i173 k_a0
              have f261 : (q_I r171.2 12 5 a0).toInt = (q_I r81.2 12 5 a0).toInt := congrArg Int32.toInt (u176 12 5 a0 (by decide))
              have f262 := cb_12_5 i83 k_a0
              have f263 : (q_I r81.2 12 5 a0).toInt = (q_I δ 12 5 a0).toInt := congrArg Int32.toInt (u87 12 5 a0 (by decide))
              have f264 := cb_12_3 i173 k_a0
              have f265 : (q_I r171.2 12 3 a0).toInt = (q_I r81.2 12 3 a0).toInt := congrArg Int32.toInt (u176 12 3 a0 (by decide))
              refine ok_mono (kj_X12_shape_148 L hN (K49 := (n : Int)) (a0 := a0) (x1 := x1) (x2v := x2v) (x3v := x3v) (x4v := x4v) (x5v := x5v) (x6v := (1 : Int32)) ih k_a0 (show (q_I r171.2 12 5 a0).toInt < 0 → 2 ≤ (x2v).toInt ∧ (x2v).toInt ≤ 16 ∧ 1 ≤ (x3v).toInt ∧ (x3v).toInt ≤ 5 by first | assumption | omega) (show (x4v).toInt = 0 ∨ (x4v).toInt = 1 by first | assumption | omega) (show (q_I r171.2 12 5 a0).toInt < 0 → (q_I r171.2 12 4 a0).toInt < (q_I r171.2 12 3 a0).toInt ∧ 97 ≤ hc ad r171.2 a0 ∧ hc ad r171.2 a0 ≤ 122 by first | assumption | omega) (show 501 - (q_I r171.2 12 4 a0).toInt ≤ (n : Int) by first | assumption | omega) i173) (fun r266 hr267 => ?_)
              obtain ⟨i268, ⟨u270, u271, u272⟩, p269⟩ := hr267
              have u273 := kp_t u180 u270
              have v274 : q_V r266.2 = q_V δ := (u271).trans v181
              have v275 := kr_t v182 u272
              have f276 := cb_12_2 i268 k_a0
              have f277 := cb_12_2 i173 k_a0
              have f278 : (q_I r171.2 12 2 a0).toInt = (q_I r81.2 12 2 a0).toInt := congrArg Int32.toInt (u176 12 2 a0 (by decide))
              have f279 := cb_12_2 i83 k_a0
              have f280 : (q_I r81.2 12 2 a0).toInt = (q_I δ 12 2 a0).toInt := congrArg Int32.toInt (u87 12 2 a0 (by decide))
              have f281 := cb_12_2 I k_a0
              have f282 := ti_b r266.1
              exact ⟨by assumption, ⟨kp_w (by decide) u273, v274, kr_w (by decide) v275⟩, by first | assumption | omega⟩
            · have c283 : (x5v &&& (1 : Int32)).toInt ≠ (0 : Int) := o_ne h258
              refine ok_bind (k_X12_wrong L hN (a0 := a0) (x1 := (4 : Int32)) (x2 := (q_I r171.2 12 4 a0)) k_a0 (show 0 ≤ ((q_I r171.2 12 4 a0)).toInt by first | assumption | omega) (show ((q_I r171.2 12 4 a0)).toInt ≤ 500 by first | assumption | omega) i173) (fun r284 hr285 => ?_)
              obtain ⟨i286, ⟨u289, u290, u291, u292⟩, p287, p288⟩ := hr285
              have u293 := kp_t u180 u289
              have v294 : q_V r284 = q_V δ := (u290).trans v181
              have v295 := kr_t v182 u292
              have f296 := cb_12_5 i286 k_a0
              have f297 := cb_12_5 i173 k_a0
              have f298 : (q_I r171.2 12 5 a0).toInt = (q_I r81.2 12 5 a0).toInt := congrArg Int32.toInt (u176 12 5 a0 (by decide))
              have f299 := cb_12_5 i83 k_a0
              have f300 : (q_I r81.2 12 5 a0).toInt = (q_I δ 12 5 a0).toInt := congrArg Int32.toInt (u87 12 5 a0 (by decide))
              have f301 : hc ad r284 a0 = (q_R r284 (Ad ad 101) (q_I r284 12 4 a0).toNatClampNeg).toInt := rfl
              have f302 := cb_12_4 i286 k_a0
              have f303 : (q_I r284 12 4 a0).toInt = (q_I r171.2 12 4 a0).toInt := congrArg Int32.toInt (u289 12 4 a0 (by decide))
              have t304 := ti_tn (q_I r284 12 4 a0)
              have f305 : (q_R r284 (Ad ad 101) (q_I r284 12 4 a0).toNatClampNeg).toInt = (q_R r171.2 (Ad ad 101) (q_I r284 12 4 a0).toNatClampNeg).toInt := congrArg Int32.toInt (congrFun (u292 101 (by decide) (by decide) (by decide)) _)
              have f306 : (q_R r171.2 (Ad ad 101) (q_I r284 12 4 a0).toNatClampNeg).toInt = (q_R r81.2 (Ad ad 101) (q_I r284 12 4 a0).toNatClampNeg).toInt := congrArg Int32.toInt (congrFun (u179 101 (by decide) (by decide) (by decide)) _)
              have f307 : (q_R r81.2 (Ad ad 101) (q_I r284 12 4 a0).toNatClampNeg).toInt = (q_R δ (Ad ad 101) (q_I r284 12 4 a0).toNatClampNeg).toInt := congrArg Int32.toInt (congrFun (u90 101 (by decide) (by decide) (by decide)) _)
              have f308 := ti_b (q_R δ (Ad ad 101) (q_I r284 12 4 a0).toNatClampNeg)
              have f309 := ti_b (q_R r81.2 (Ad ad 101) (q_I r284 12 4 a0).toNatClampNeg)
              have f310 := ti_b (q_R r171.2 (Ad ad 101) (q_I r284 12 4 a0).toNatClampNeg)
              have f311 := ti_b (q_R r284 (Ad ad 101) (q_I r284 12 4 a0).toNatClampNeg)
              have f312 := cb_12_3 i286 k_a0
              have f313 : (q_I r284 12 3 a0).toInt = (q_I r171.2 12 3 a0).toInt := congrArg Int32.toInt (u289 12 3 a0 (by decide))
              have f314 := cb_12_3 i173 k_a0
              have f315 : (q_I r171.2 12 3 a0).toInt = (q_I r81.2 12 3 a0).toInt := congrArg Int32.toInt (u176 12 3 a0 (by decide))
              refine ok_mono (kj_X12_shape_148 L hN (K49 := (n : Int)) (a0 := a0) (x1 := x1) (x2v := x2v) (x3v := x3v) (x4v := x4v) (x5v := x5v) (x6v := (1 : Int32)) ih k_a0 (show (q_I r284 12 5 a0).toInt < 0 → 2 ≤ (x2v).toInt ∧ (x2v).toInt ≤ 16 ∧ 1 ≤ (x3v).toInt ∧ (x3v).toInt ≤ 5 by first | assumption | omega) (show (x4v).toInt = 0 ∨ (x4v).toInt = 1 by first | assumption | omega) (show (q_I r284 12 5 a0).toInt < 0 → (q_I r284 12 4 a0).toInt < (q_I r284 12 3 a0).toInt ∧ 97 ≤ hc ad r284 a0 ∧ hc ad r284 a0 ≤ 122 by first | assumption | omega) (show 501 - (q_I r284 12 4 a0).toInt ≤ (n : Int) by first | assumption | omega) i286) (fun r316 hr317 => ?_)
              obtain ⟨i318, ⟨u320, u321, u322⟩, p319⟩ := hr317
              have u323 := kp_t u293 u320
              have v324 : q_V r316.2 = q_V δ := (u321).trans v294
              have v325 := kr_t v295 u322
              have f326 := cb_12_2 i318 k_a0
              have f327 := cb_12_2 i286 k_a0
              have f328 : (q_I r284 12 2 a0).toInt = (q_I r171.2 12 2 a0).toInt := congrArg Int32.toInt (u289 12 2 a0 (by decide))
              have f329 := cb_12_2 i173 k_a0
              have f330 : (q_I r171.2 12 2 a0).toInt = (q_I r81.2 12 2 a0).toInt := congrArg Int32.toInt (u176 12 2 a0 (by decide))
              have f331 := cb_12_2 i83 k_a0
              have f332 : (q_I r81.2 12 2 a0).toInt = (q_I δ 12 2 a0).toInt := congrArg Int32.toInt (u87 12 2 a0 (by decide))
              have f333 := cb_12_2 I k_a0
              have f334 := ti_b r316.1
              exact ⟨by assumption, ⟨kp_w (by decide) u323, v324, kr_w (by decide) v325⟩, by first | assumption | omega⟩
        · have c335 : r171.1.toInt ≠ r195.1.toInt := o_ne h201
          refine ok_bind (k_X12_word L hN (a0 := a0) k_a0 i173) (fun r336 hr337 => ?_)
          obtain ⟨i338, ⟨u341, u342, u343, u344⟩, p339, p340⟩ := hr337
          have u345 := kp_t u180 u341
          have v346 : q_V r336.2 = q_V δ := (u342).trans v181
          have v347 := kr_t v182 u344
          have f348 := cb_12_4 i338 k_a0
          have f349 : hc ad r336.2 a0 = (q_R r336.2 (Ad ad 101) (q_I r336.2 12 4 a0).toNatClampNeg).toInt := rfl
          have t350 := ti_tn (q_I r336.2 12 4 a0)
          have f351 : (q_R r336.2 (Ad ad 101) (q_I r336.2 12 4 a0).toNatClampNeg).toInt = (q_R r171.2 (Ad ad 101) (q_I r336.2 12 4 a0).toNatClampNeg).toInt := congrArg Int32.toInt (congrFun (u344 101 (by decide) (by decide) (by decide)) _)
          have f352 : (q_R r171.2 (Ad ad 101) (q_I r336.2 12 4 a0).toNatClampNeg).toInt = (q_R r81.2 (Ad ad 101) (q_I r336.2 12 4 a0).toNatClampNeg).toInt := congrArg Int32.toInt (congrFun (u179 101 (by decide) (by decide) (by decide)) _)
          have f353 : (q_R r81.2 (Ad ad 101) (q_I r336.2 12 4 a0).toNatClampNeg).toInt = (q_R δ (Ad ad 101) (q_I r336.2 12 4 a0).toNatClampNeg).toInt := congrArg Int32.toInt (congrFun (u90 101 (by decide) (by decide) (by decide)) _)
          have f354 := ti_b (q_R δ (Ad ad 101) (q_I r336.2 12 4 a0).toNatClampNeg)
          have f355 := ti_b (q_R r81.2 (Ad ad 101) (q_I r336.2 12 4 a0).toNatClampNeg)
          have f356 := ti_b (q_R r171.2 (Ad ad 101) (q_I r336.2 12 4 a0).toNatClampNeg)
          have f357 := ti_b (q_R r336.2 (Ad ad 101) (q_I r336.2 12 4 a0).toNatClampNeg)
          have f358 := ti_b r336.1
          have f359 := cb_12_3 i173 k_a0
          have f360 : (q_I r171.2 12 3 a0).toInt = (q_I r81.2 12 3 a0).toInt := congrArg Int32.toInt (u176 12 3 a0 (by decide))
          have f361 := ti_b r336.1
          refine ok_bind (k_X12_of L hN (a0 := 1) (show 1 < 16 by first | assumption | omega) i338) (fun r362 hr363 => ?_)
          obtain ⟨i364, p365⟩ := hr363
          try rw [i364]
          have f366 := ti_b r362.1
          have f367 := ti_b r362.1
          refine ok_ite (fun h368 => ?_) (fun h368 => ?_)
          · have c369 : r336.1.toInt = r362.1.toInt := o_eq h368
            unfold J_X12_shape_112
            refine ok_ite (fun h370 => ?_) (fun h370 => ?_)
            · have c371 : (2 : Int) = (0 : Int) := o_eq h370
              refine ok_bind (k_X12_wrong L hN (a0 := a0) (x1 := (1 : Int32)) (x2 := (q_I r336.2 12 4 a0)) k_a0 (show 0 ≤ ((q_I r336.2 12 4 a0)).toInt by first | assumption | omega) (show ((q_I r336.2 12 4 a0)).toInt ≤ 500 by first | assumption | omega) i338) (fun r372 hr373 => ?_)
              obtain ⟨i374, ⟨u377, u378, u379, u380⟩, p375, p376⟩ := hr373
              have u381 := kp_t u345 u377
              have v382 : q_V r372 = q_V δ := (u378).trans v346
              have v383 := kr_t v347 u380
              have f384 := cb_12_5 i374 k_a0
              have f385 := cb_12_5 i338 k_a0
              have f386 : (q_I r336.2 12 5 a0).toInt = (q_I r171.2 12 5 a0).toInt := congrArg Int32.toInt (u341 12 5 a0 (by decide))
              have f387 := cb_12_5 i173 k_a0
              have f388 : (q_I r171.2 12 5 a0).toInt = (q_I r81.2 12 5 a0).toInt := congrArg Int32.toInt (u176 12 5 a0 (by decide))
              have f389 := cb_12_5 i83 k_a0
              have f390 : (q_I r81.2 12 5 a0).toInt = (q_I δ 12 5 a0).toInt := congrArg Int32.toInt (u87 12 5 a0 (by decide))
              have f391 : hc ad r372 a0 = (q_R r372 (Ad ad 101) (q_I r372 12 4 a0).toNatClampNeg).toInt := rfl
              have f392 := cb_12_4 i374 k_a0
              have f393 : (q_I r372 12 4 a0).toInt = (q_I r336.2 12 4 a0).toInt := congrArg Int32.toInt (u377 12 4 a0 (by decide))
              have t394 := ti_tn (q_I r372 12 4 a0)
              have f395 : (q_R r372 (Ad ad 101) (q_I r372 12 4 a0).toNatClampNeg).toInt = (q_R r336.2 (Ad ad 101) (q_I r372 12 4 a0).toNatClampNeg).toInt := congrArg Int32.toInt (congrFun (u380 101 (by decide) (by decide) (by decide)) _)
              have f396 : (q_R r336.2 (Ad ad 101) (q_I r372 12 4 a0).toNatClampNeg).toInt = (q_R r171.2 (Ad ad 101) (q_I r372 12 4 a0).toNatClampNeg).toInt := congrArg Int32.toInt (congrFun (u344 101 (by decide) (by decide) (by decide)) _)
              have f397 : (q_R r171.2 (Ad ad 101) (q_I r372 12 4 a0).toNatClampNeg).toInt = (q_R r81.2 (Ad ad 101) (q_I r372 12 4 a0).toNatClampNeg).toInt := congrArg Int32.toInt (congrFun (u179 101 (by decide) (by decide) (by decide)) _)
              have f398 : (q_R r81.2 (Ad ad 101) (q_I r372 12 4 a0).toNatClampNeg).toInt = (q_R δ (Ad ad 101) (q_I r372 12 4 a0).toNatClampNeg).toInt := congrArg Int32.toInt (congrFun (u90 101 (by decide) (by decide) (by decide)) _)
              have f399 := ti_b (q_R δ (Ad ad 101) (q_I r372 12 4 a0).toNatClampNeg)
              have f400 := ti_b (q_R r81.2 (Ad ad 101) (q_I r372 12 4 a0).toNatClampNeg)
              have f401 := ti_b (q_R r171.2 (Ad ad 101) (q_I r372 12 4 a0).toNatClampNeg)
              have f402 := ti_b (q_R r336.2 (Ad ad 101) (q_I r372 12 4 a0).toNatClampNeg)
              have f403 := ti_b (q_R r372 (Ad ad 101) (q_I r372 12 4 a0).toNatClampNeg)
              have f404 := cb_12_3 i374 k_a0
              have f405 : (q_I r372 12 3 a0).toInt = (q_I r336.2 12 3 a0).toInt := congrArg Int32.toInt (u377 12 3 a0 (by decide))
              have f406 := cb_12_3 i338 k_a0
              have f407 : (q_I r336.2 12 3 a0).toInt = (q_I r171.2 12 3 a0).toInt := congrArg Int32.toInt (u341 12 3 a0 (by decide))
              refine ok_mono (kj_X12_shape_148 L hN (K49 := (n : Int)) (a0 := a0) (x1 := x1) (x2v := x2v) (x3v := x3v) (x4v := x4v) (x5v := x5v) (x6v := (2 : Int32)) ih k_a0 (show (q_I r372 12 5 a0).toInt < 0 → 2 ≤ (x2v).toInt ∧ (x2v).toInt ≤ 16 ∧ 1 ≤ (x3v).toInt ∧ (x3v).toInt ≤ 5 by first | assumption | omega) (show (x4v).toInt = 0 ∨ (x4v).toInt = 1 by first | assumption | omega) (show (q_I r372 12 5 a0).toInt < 0 → (q_I r372 12 4 a0).toInt < (q_I r372 12 3 a0).toInt ∧ 97 ≤ hc ad r372 a0 ∧ hc ad r372 a0 ≤ 122 by first | assumption | omega) (show 501 - (q_I r372 12 4 a0).toInt ≤ (n : Int) by first | assumption | omega) i374) (fun r408 hr409 => ?_)
              obtain ⟨i410, ⟨u412, u413, u414⟩, p411⟩ := hr409
              have u415 := kp_t u381 u412
              have v416 : q_V r408.2 = q_V δ := (u413).trans v382
              have v417 := kr_t v383 u414
              have f418 := cb_12_2 i410 k_a0
              have f419 := cb_12_2 i374 k_a0
              have f420 : (q_I r372 12 2 a0).toInt = (q_I r336.2 12 2 a0).toInt := congrArg Int32.toInt (u377 12 2 a0 (by decide))
              have f421 := cb_12_2 i338 k_a0
              have f422 : (q_I r336.2 12 2 a0).toInt = (q_I r171.2 12 2 a0).toInt := congrArg Int32.toInt (u341 12 2 a0 (by decide))
              have f423 := cb_12_2 i173 k_a0
              have f424 : (q_I r171.2 12 2 a0).toInt = (q_I r81.2 12 2 a0).toInt := congrArg Int32.toInt (u176 12 2 a0 (by decide))
              have f425 := cb_12_2 i83 k_a0
              have f426 : (q_I r81.2 12 2 a0).toInt = (q_I δ 12 2 a0).toInt := congrArg Int32.toInt (u87 12 2 a0 (by decide))
              have f427 := cb_12_2 I k_a0
              have f428 := ti_b r408.1
              exact ⟨by assumption, ⟨kp_w (by decide) u415, v416, kr_w (by decide) v417⟩, by first | assumption | omega⟩
            · have c429 : (2 : Int) ≠ (0 : Int) := o_ne h370
              have f430 := ti_b (x5v &&& (2 : Int32))
              refine ok_ite (fun h431 => ?_) (fun h431 => ?_)
              · have c432 : (x5v &&& (2 : Int32)).toInt = (0 : Int) := o_eq h431
                have f433 := cb_12_5 i338 k_a0
                have f434 : (q_I r336.2 12 5 a0).toInt = (q_I r171.2 12 5 a0).toInt := congrArg Int32.toInt (u341 12 5 a0 (by decide))
                have f435 := cb_12_5 i173 k_a0
                have f436 : (q_I r171.2 12 5 a0).toInt = (q_I r81.2 12 5 a0).toInt := congrArg Int32.toInt (u176 12 5 a0 (by decide))
                have f437 := cb_12_5 i83 k_a0
                have f438 : (q_I r81.2 12 5 a0).toInt = (q_I δ 12 5 a0).toInt := congrArg Int32.toInt (u87 12 5 a0 (by decide))
                have f439 := cb_12_3 i338 k_a0
                have f440 : (q_I r336.2 12 3 a0).toInt = (q_I r171.2 12 3 a0).toInt := congrArg Int32.toInt (u341 12 3 a0 (by decide))
                refine ok_mono (kj_X12_shape_148 L hN (K49 := (n : Int)) (a0 := a0) (x1 := x1) (x2v := x2v) (x3v := x3v) (x4v := x4v) (x5v := x5v) (x6v := (2 : Int32)) ih k_a0 (show (q_I r336.2 12 5 a0).toInt < 0 → 2 ≤ (x2v).toInt ∧ (x2v).toInt ≤ 16 ∧ 1 ≤ (x3v).toInt ∧ (x3v).toInt ≤ 5 by first | assumption | omega) (show (x4v).toInt = 0 ∨ (x4v).toInt = 1 by first | assumption | omega) (show (q_I r336.2 12 5 a0).toInt < 0 → (q_I r336.2 12 4 a0).toInt < (q_I r336.2 12 3 a0).toInt ∧ 97 ≤ hc ad r336.2 a0 ∧ hc ad r336.2 a0 ≤ 122 by first | assumption | omega) (show 501 - (q_I r336.2 12 4 a0).toInt ≤ (n : Int) by first | assumption | omega) i338) (fun r441 hr442 => ?_)
                obtain ⟨i443, ⟨u445, u446, u447⟩, p444⟩ := hr442
                have u448 := kp_t u345 u445
                have v449 : q_V r441.2 = q_V δ := (u446).trans v346
                have v450 := kr_t v347 u447
                have f451 := cb_12_2 i443 k_a0
                have f452 := cb_12_2 i338 k_a0
                have f453 : (q_I r336.2 12 2 a0).toInt = (q_I r171.2 12 2 a0).toInt := congrArg Int32.toInt (u341 12 2 a0 (by decide))
                have f454 := cb_12_2 i173 k_a0
                have f455 : (q_I r171.2 12 2 a0).toInt = (q_I r81.2 12 2 a0).toInt := congrArg Int32.toInt (u176 12 2 a0 (by decide))
                have f456 := cb_12_2 i83 k_a0
                have f457 : (q_I r81.2 12 2 a0).toInt = (q_I δ 12 2 a0).toInt := congrArg Int32.toInt (u87 12 2 a0 (by decide))
                have f458 := cb_12_2 I k_a0
                have f459 := ti_b r441.1
                exact ⟨by assumption, ⟨kp_w (by decide) u448, v449, kr_w (by decide) v450⟩, by first | assumption | omega⟩
              · have c460 : (x5v &&& (2 : Int32)).toInt ≠ (0 : Int) := o_ne h431
                refine ok_bind (k_X12_wrong L hN (a0 := a0) (x1 := (4 : Int32)) (x2 := (q_I r336.2 12 4 a0)) k_a0 (show 0 ≤ ((q_I r336.2 12 4 a0)).toInt by first | assumption | omega) (show ((q_I r336.2 12 4 a0)).toInt ≤ 500 by first | assumption | omega) i338) (fun r461 hr462 => ?_)
                obtain ⟨i463, ⟨u466, u467, u468, u469⟩, p464, p465⟩ := hr462
                have u470 := kp_t u345 u466
                have v471 : q_V r461 = q_V δ := (u467).trans v346
                have v472 := kr_t v347 u469
                have f473 := cb_12_5 i463 k_a0
                have f474 := cb_12_5 i338 k_a0
                have f475 : (q_I r336.2 12 5 a0).toInt = (q_I r171.2 12 5 a0).toInt := congrArg Int32.toInt (u341 12 5 a0 (by decide))
                have f476 := cb_12_5 i173 k_a0
                have f477 : (q_I r171.2 12 5 a0).toInt = (q_I r81.2 12 5 a0).toInt := congrArg Int32.toInt (u176 12 5 a0 (by decide))
                have f478 := cb_12_5 i83 k_a0
                have f479 : (q_I r81.2 12 5 a0).toInt = (q_I δ 12 5 a0).toInt := congrArg Int32.toInt (u87 12 5 a0 (by decide))
                have f480 : hc ad r461 a0 = (q_R r461 (Ad ad 101) (q_I r461 12 4 a0).toNatClampNeg).toInt := rfl
                have f481 := cb_12_4 i463 k_a0
                have f482 : (q_I r461 12 4 a0).toInt = (q_I r336.2 12 4 a0).toInt := congrArg Int32.toInt (u466 12 4 a0 (by decide))
                have t483 := ti_tn (q_I r461 12 4 a0)
                have f484 : (q_R r461 (Ad ad 101) (q_I r461 12 4 a0).toNatClampNeg).toInt = (q_R r336.2 (Ad ad 101) (q_I r461 12 4 a0).toNatClampNeg).toInt := congrArg Int32.toInt (congrFun (u469 101 (by decide) (by decide) (by decide)) _)
                have f485 : (q_R r336.2 (Ad ad 101) (q_I r461 12 4 a0).toNatClampNeg).toInt = (q_R r171.2 (Ad ad 101) (q_I r461 12 4 a0).toNatClampNeg).toInt := congrArg Int32.toInt (congrFun (u344 101 (by decide) (by decide) (by decide)) _)
                have f486 : (q_R r171.2 (Ad ad 101) (q_I r461 12 4 a0).toNatClampNeg).toInt = (q_R r81.2 (Ad ad 101) (q_I r461 12 4 a0).toNatClampNeg).toInt := congrArg Int32.toInt (congrFun (u179 101 (by decide) (by decide) (by decide)) _)
                have f487 : (q_R r81.2 (Ad ad 101) (q_I r461 12 4 a0).toNatClampNeg).toInt = (q_R δ (Ad ad 101) (q_I r461 12 4 a0).toNatClampNeg).toInt := congrArg Int32.toInt (congrFun (u90 101 (by decide) (by decide) (by decide)) _)
                have f488 := ti_b (q_R δ (Ad ad 101) (q_I r461 12 4 a0).toNatClampNeg)
                have f489 := ti_b (q_R r81.2 (Ad ad 101) (q_I r461 12 4 a0).toNatClampNeg)
                have f490 := ti_b (q_R r171.2 (Ad ad 101) (q_I r461 12 4 a0).toNatClampNeg)
                have f491 := ti_b (q_R r336.2 (Ad ad 101) (q_I r461 12 4 a0).toNatClampNeg)
                have f492 := ti_b (q_R r461 (Ad ad 101) (q_I r461 12 4 a0).toNatClampNeg)
                have f493 := cb_12_3 i463 k_a0
                have f494 : (q_I r461 12 3 a0).toInt = (q_I r336.2 12 3 a0).toInt := congrArg Int32.toInt (u466 12 3 a0 (by decide))
                have f495 := cb_12_3 i338 k_a0
                have f496 : (q_I r336.2 12 3 a0).toInt = (q_I r171.2 12 3 a0).toInt := congrArg Int32.toInt (u341 12 3 a0 (by decide))
                refine ok_mono (kj_X12_shape_148 L hN (K49 := (n : Int)) (a0 := a0) (x1 := x1) (x2v := x2v) (x3v := x3v) (x4v := x4v) (x5v := x5v) (x6v := (2 : Int32)) ih k_a0 (show (q_I r461 12 5 a0).toInt < 0 → 2 ≤ (x2v).toInt ∧ (x2v).toInt ≤ 16 ∧ 1 ≤ (x3v).toInt ∧ (x3v).toInt ≤ 5 by first | assumption | omega) (show (x4v).toInt = 0 ∨ (x4v).toInt = 1 by first | assumption | omega) (show (q_I r461 12 5 a0).toInt < 0 → (q_I r461 12 4 a0).toInt < (q_I r461 12 3 a0).toInt ∧ 97 ≤ hc ad r461 a0 ∧ hc ad r461 a0 ≤ 122 by first | assumption | omega) (show 501 - (q_I r461 12 4 a0).toInt ≤ (n : Int) by first | assumption | omega) i463) (fun r497 hr498 => ?_)
                obtain ⟨i499, ⟨u501, u502, u503⟩, p500⟩ := hr498
                have u504 := kp_t u470 u501
                have v505 : q_V r497.2 = q_V δ := (u502).trans v471
                have v506 := kr_t v472 u503
                have f507 := cb_12_2 i499 k_a0
                have f508 := cb_12_2 i463 k_a0
                have f509 : (q_I r461 12 2 a0).toInt = (q_I r336.2 12 2 a0).toInt := congrArg Int32.toInt (u466 12 2 a0 (by decide))
                have f510 := cb_12_2 i338 k_a0
                have f511 : (q_I r336.2 12 2 a0).toInt = (q_I r171.2 12 2 a0).toInt := congrArg Int32.toInt (u341 12 2 a0 (by decide))
                have f512 := cb_12_2 i173 k_a0
                have f513 : (q_I r171.2 12 2 a0).toInt = (q_I r81.2 12 2 a0).toInt := congrArg Int32.toInt (u176 12 2 a0 (by decide))
                have f514 := cb_12_2 i83 k_a0
                have f515 : (q_I r81.2 12 2 a0).toInt = (q_I δ 12 2 a0).toInt := congrArg Int32.toInt (u87 12 2 a0 (by decide))
                have f516 := cb_12_2 I k_a0
                have f517 := ti_b r497.1
                exact ⟨by assumption, ⟨kp_w (by decide) u504, v505, kr_w (by decide) v506⟩, by first | assumption | omega⟩
          · have c518 : r336.1.toInt ≠ r362.1.toInt := o_ne h368
            refine ok_bind (k_X12_word L hN (a0 := a0) k_a0 i338) (fun r519 hr520 => ?_)
            obtain ⟨i521, ⟨u524, u525, u526, u527⟩, p522, p523⟩ := hr520
            have u528 := kp_t u345 u524
            have v529 : q_V r519.2 = q_V δ := (u525).trans v346
            have v530 := kr_t v347 u527
            have f531 := cb_12_4 i521 k_a0
            have f532 : hc ad r519.2 a0 = (q_R r519.2 (Ad ad 101) (q_I r519.2 12 4 a0).toNatClampNeg).toInt := rfl
            have t533 := ti_tn (q_I r519.2 12 4 a0)
            have f534 : (q_R r519.2 (Ad ad 101) (q_I r519.2 12 4 a0).toNatClampNeg).toInt = (q_R r336.2 (Ad ad 101) (q_I r519.2 12 4 a0).toNatClampNeg).toInt := congrArg Int32.toInt (congrFun (u527 101 (by decide) (by decide) (by decide)) _)
            have f535 : (q_R r336.2 (Ad ad 101) (q_I r519.2 12 4 a0).toNatClampNeg).toInt = (q_R r171.2 (Ad ad 101) (q_I r519.2 12 4 a0).toNatClampNeg).toInt := congrArg Int32.toInt (congrFun (u344 101 (by decide) (by decide) (by decide)) _)
            have f536 : (q_R r171.2 (Ad ad 101) (q_I r519.2 12 4 a0).toNatClampNeg).toInt = (q_R r81.2 (Ad ad 101) (q_I r519.2 12 4 a0).toNatClampNeg).toInt := congrArg Int32.toInt (congrFun (u179 101 (by decide) (by decide) (by decide)) _)
            have f537 : (q_R r81.2 (Ad ad 101) (q_I r519.2 12 4 a0).toNatClampNeg).toInt = (q_R δ (Ad ad 101) (q_I r519.2 12 4 a0).toNatClampNeg).toInt := congrArg Int32.toInt (congrFun (u90 101 (by decide) (by decide) (by decide)) _)
            have f538 := ti_b (q_R δ (Ad ad 101) (q_I r519.2 12 4 a0).toNatClampNeg)
            have f539 := ti_b (q_R r81.2 (Ad ad 101) (q_I r519.2 12 4 a0).toNatClampNeg)
            have f540 := ti_b (q_R r171.2 (Ad ad 101) (q_I r519.2 12 4 a0).toNatClampNeg)
            have f541 := ti_b (q_R r336.2 (Ad ad 101) (q_I r519.2 12 4 a0).toNatClampNeg)
            have f542 := ti_b (q_R r519.2 (Ad ad 101) (q_I r519.2 12 4 a0).toNatClampNeg)
            have f543 := ti_b r519.1
            have f544 := cb_12_3 i338 k_a0
            have f545 : (q_I r336.2 12 3 a0).toInt = (q_I r171.2 12 3 a0).toInt := congrArg Int32.toInt (u341 12 3 a0 (by decide))
            have f546 := ti_b r519.1
            refine ok_bind (k_X12_of L hN (a0 := 2) (show 2 < 16 by first | assumption | omega) i521) (fun r547 hr548 => ?_)
            obtain ⟨i549, p550⟩ := hr548
            try rw [i549]
            have f551 := ti_b r547.1
            have f552 := ti_b r547.1
            refine ok_ite (fun h553 => ?_) (fun h553 => ?_)
            · have c554 : r519.1.toInt = r547.1.toInt := o_eq h553
              unfold J_X12_shape_112
              refine ok_ite (fun h555 => ?_) (fun h555 => ?_)
              · have c556 : (4 : Int) = (0 : Int) := o_eq h555
                refine ok_bind (k_X12_wrong L hN (a0 := a0) (x1 := (1 : Int32)) (x2 := (q_I r519.2 12 4 a0)) k_a0 (show 0 ≤ ((q_I r519.2 12 4 a0)).toInt by first | assumption | omega) (show ((q_I r519.2 12 4 a0)).toInt ≤ 500 by first | assumption | omega) i521) (fun r557 hr558 => ?_)
                obtain ⟨i559, ⟨u562, u563, u564, u565⟩, p560, p561⟩ := hr558
                have u566 := kp_t u528 u562
                have v567 : q_V r557 = q_V δ := (u563).trans v529
                have v568 := kr_t v530 u565
                have f569 := cb_12_5 i559 k_a0
                have f570 := cb_12_5 i521 k_a0
                have f571 : (q_I r519.2 12 5 a0).toInt = (q_I r336.2 12 5 a0).toInt := congrArg Int32.toInt (u524 12 5 a0 (by decide))
                have f572 := cb_12_5 i338 k_a0
                have f573 : (q_I r336.2 12 5 a0).toInt = (q_I r171.2 12 5 a0).toInt := congrArg Int32.toInt (u341 12 5 a0 (by decide))
                have f574 := cb_12_5 i173 k_a0
                have f575 : (q_I r171.2 12 5 a0).toInt = (q_I r81.2 12 5 a0).toInt := congrArg Int32.toInt (u176 12 5 a0 (by decide))
                have f576 := cb_12_5 i83 k_a0
                have f577 : (q_I r81.2 12 5 a0).toInt = (q_I δ 12 5 a0).toInt := congrArg Int32.toInt (u87 12 5 a0 (by decide))
                have f578 : hc ad r557 a0 = (q_R r557 (Ad ad 101) (q_I r557 12 4 a0).toNatClampNeg).toInt := rfl
                have f579 := cb_12_4 i559 k_a0
                have f580 : (q_I r557 12 4 a0).toInt = (q_I r519.2 12 4 a0).toInt := congrArg Int32.toInt (u562 12 4 a0 (by decide))
                have t581 := ti_tn (q_I r557 12 4 a0)
                have f582 : (q_R r557 (Ad ad 101) (q_I r557 12 4 a0).toNatClampNeg).toInt = (q_R r519.2 (Ad ad 101) (q_I r557 12 4 a0).toNatClampNeg).toInt := congrArg Int32.toInt (congrFun (u565 101 (by decide) (by decide) (by decide)) _)
                have f583 : (q_R r519.2 (Ad ad 101) (q_I r557 12 4 a0).toNatClampNeg).toInt = (q_R r336.2 (Ad ad 101) (q_I r557 12 4 a0).toNatClampNeg).toInt := congrArg Int32.toInt (congrFun (u527 101 (by decide) (by decide) (by decide)) _)
                have f584 : (q_R r336.2 (Ad ad 101) (q_I r557 12 4 a0).toNatClampNeg).toInt = (q_R r171.2 (Ad ad 101) (q_I r557 12 4 a0).toNatClampNeg).toInt := congrArg Int32.toInt (congrFun (u344 101 (by decide) (by decide) (by decide)) _)
                have f585 : (q_R r171.2 (Ad ad 101) (q_I r557 12 4 a0).toNatClampNeg).toInt = (q_R r81.2 (Ad ad 101) (q_I r557 12 4 a0).toNatClampNeg).toInt := congrArg Int32.toInt (congrFun (u179 101 (by decide) (by decide) (by decide)) _)
                have f586 : (q_R r81.2 (Ad ad 101) (q_I r557 12 4 a0).toNatClampNeg).toInt = (q_R δ (Ad ad 101) (q_I r557 12 4 a0).toNatClampNeg).toInt := congrArg Int32.toInt (congrFun (u90 101 (by decide) (by decide) (by decide)) _)
                have f587 := ti_b (q_R δ (Ad ad 101) (q_I r557 12 4 a0).toNatClampNeg)
                have f588 := ti_b (q_R r81.2 (Ad ad 101) (q_I r557 12 4 a0).toNatClampNeg)
                have f589 := ti_b (q_R r171.2 (Ad ad 101) (q_I r557 12 4 a0).toNatClampNeg)
                have f590 := ti_b (q_R r336.2 (Ad ad 101) (q_I r557 12 4 a0).toNatClampNeg)
                have f591 := ti_b (q_R r519.2 (Ad ad 101) (q_I r557 12 4 a0).toNatClampNeg)
                have f592 := ti_b (q_R r557 (Ad ad 101) (q_I r557 12 4 a0).toNatClampNeg)
                have f593 := cb_12_3 i559 k_a0
                have f594 : (q_I r557 12 3 a0).toInt = (q_I r519.2 12 3 a0).toInt := congrArg Int32.toInt (u562 12 3 a0 (by decide))
                have f595 := cb_12_3 i521 k_a0
                have f596 : (q_I r519.2 12 3 a0).toInt = (q_I r336.2 12 3 a0).toInt := congrArg Int32.toInt (u524 12 3 a0 (by decide))
                refine ok_mono (kj_X12_shape_148 L hN (K49 := (n : Int)) (a0 := a0) (x1 := x1) (x2v := x2v) (x3v := x3v) (x4v := x4v) (x5v := x5v) (x6v := (4 : Int32)) ih k_a0 (show (q_I r557 12 5 a0).toInt < 0 → 2 ≤ (x2v).toInt ∧ (x2v).toInt ≤ 16 ∧ 1 ≤ (x3v).toInt ∧ (x3v).toInt ≤ 5 by first | assumption | omega) (show (x4v).toInt = 0 ∨ (x4v).toInt = 1 by first | assumption | omega) (show (q_I r557 12 5 a0).toInt < 0 → (q_I r557 12 4 a0).toInt < (q_I r557 12 3 a0).toInt ∧ 97 ≤ hc ad r557 a0 ∧ hc ad r557 a0 ≤ 122 by first | assumption | omega) (show 501 - (q_I r557 12 4 a0).toInt ≤ (n : Int) by first | assumption | omega) i559) (fun r597 hr598 => ?_)
                obtain ⟨i599, ⟨u601, u602, u603⟩, p600⟩ := hr598
                have u604 := kp_t u566 u601
                have v605 : q_V r597.2 = q_V δ := (u602).trans v567
                have v606 := kr_t v568 u603
                have f607 := cb_12_2 i599 k_a0
                have f608 := cb_12_2 i559 k_a0
                have f609 : (q_I r557 12 2 a0).toInt = (q_I r519.2 12 2 a0).toInt := congrArg Int32.toInt (u562 12 2 a0 (by decide))
                have f610 := cb_12_2 i521 k_a0
                have f611 : (q_I r519.2 12 2 a0).toInt = (q_I r336.2 12 2 a0).toInt := congrArg Int32.toInt (u524 12 2 a0 (by decide))
                have f612 := cb_12_2 i338 k_a0
                have f613 : (q_I r336.2 12 2 a0).toInt = (q_I r171.2 12 2 a0).toInt := congrArg Int32.toInt (u341 12 2 a0 (by decide))
                have f614 := cb_12_2 i173 k_a0
                have f615 : (q_I r171.2 12 2 a0).toInt = (q_I r81.2 12 2 a0).toInt := congrArg Int32.toInt (u176 12 2 a0 (by decide))
                have f616 := cb_12_2 i83 k_a0
                have f617 : (q_I r81.2 12 2 a0).toInt = (q_I δ 12 2 a0).toInt := congrArg Int32.toInt (u87 12 2 a0 (by decide))
                have f618 := cb_12_2 I k_a0
                have f619 := ti_b r597.1
                exact ⟨by assumption, ⟨kp_w (by decide) u604, v605, kr_w (by decide) v606⟩, by first | assumption | omega⟩
              · have c620 : (4 : Int) ≠ (0 : Int) := o_ne h555
                have f621 := ti_b (x5v &&& (4 : Int32))
                refine ok_ite (fun h622 => ?_) (fun h622 => ?_)
                · have c623 : (x5v &&& (4 : Int32)).toInt = (0 : Int) := o_eq h622
                  have f624 := cb_12_5 i521 k_a0
                  have f625 : (q_I r519.2 12 5 a0).toInt = (q_I r336.2 12 5 a0).toInt := congrArg Int32.toInt (u524 12 5 a0 (by decide))
                  have f626 := cb_12_5 i338 k_a0
                  have f627 : (q_I r336.2 12 5 a0).toInt = (q_I r171.2 12 5 a0).toInt := congrArg Int32.toInt (u341 12 5 a0 (by decide))
                  have f628 := cb_12_5 i173 k_a0
                  have f629 : (q_I r171.2 12 5 a0).toInt = (q_I r81.2 12 5 a0).toInt := congrArg Int32.toInt (u176 12 5 a0 (by decide))
                  have f630 := cb_12_5 i83 k_a0
                  have f631 : (q_I r81.2 12 5 a0).toInt = (q_I δ 12 5 a0).toInt := congrArg Int32.toInt (u87 12 5 a0 (by decide))
                  have f632 := cb_12_3 i521 k_a0
                  have f633 : (q_I r519.2 12 3 a0).toInt = (q_I r336.2 12 3 a0).toInt := congrArg Int32.toInt (u524 12 3 a0 (by decide))
                  refine ok_mono (kj_X12_shape_148 L hN (K49 := (n : Int)) (a0 := a0) (x1 := x1) (x2v := x2v) (x3v := x3v) (x4v := x4v) (x5v := x5v) (x6v := (4 : Int32)) ih k_a0 (show (q_I r519.2 12 5 a0).toInt < 0 → 2 ≤ (x2v).toInt ∧ (x2v).toInt ≤ 16 ∧ 1 ≤ (x3v).toInt ∧ (x3v).toInt ≤ 5 by first | assumption | omega) (show (x4v).toInt = 0 ∨ (x4v).toInt = 1 by first | assumption | omega) (show (q_I r519.2 12 5 a0).toInt < 0 → (q_I r519.2 12 4 a0).toInt < (q_I r519.2 12 3 a0).toInt ∧ 97 ≤ hc ad r519.2 a0 ∧ hc ad r519.2 a0 ≤ 122 by first | assumption | omega) (show 501 - (q_I r519.2 12 4 a0).toInt ≤ (n : Int) by first | assumption | omega) i521) (fun r634 hr635 => ?_)
                  obtain ⟨i636, ⟨u638, u639, u640⟩, p637⟩ := hr635
                  have u641 := kp_t u528 u638
                  have v642 : q_V r634.2 = q_V δ := (u639).trans v529
                  have v643 := kr_t v530 u640
                  have f644 := cb_12_2 i636 k_a0
                  have f645 := cb_12_2 i521 k_a0
                  have f646 : (q_I r519.2 12 2 a0).toInt = (q_I r336.2 12 2 a0).toInt := congrArg Int32.toInt (u524 12 2 a0 (by decide))
                  have f647 := cb_12_2 i338 k_a0
                  have f648 : (q_I r336.2 12 2 a0).toInt = (q_I r171.2 12 2 a0).toInt := congrArg Int32.toInt (u341 12 2 a0 (by decide))
                  have f649 := cb_12_2 i173 k_a0
                  have f650 : (q_I r171.2 12 2 a0).toInt = (q_I r81.2 12 2 a0).toInt := congrArg Int32.toInt (u176 12 2 a0 (by decide))
                  have f651 := cb_12_2 i83 k_a0
                  have f652 : (q_I r81.2 12 2 a0).toInt = (q_I δ 12 2 a0).toInt := congrArg Int32.toInt (u87 12 2 a0 (by decide))
                  have f653 := cb_12_2 I k_a0
                  have f654 := ti_b r634.1
                  exact ⟨by assumption, ⟨kp_w (by decide) u641, v642, kr_w (by decide) v643⟩, by first | assumption | omega⟩
                · have c655 : (x5v &&& (4 : Int32)).toInt ≠ (0 : Int) := o_ne h622
                  refine ok_bind (k_X12_wrong L hN (a0 := a0) (x1 := (4 : Int32)) (x2 := (q_I r519.2 12 4 a0)) k_a0 (show 0 ≤ ((q_I r519.2 12 4 a0)).toInt by first | assumption | omega) (show ((q_I r519.2 12 4 a0)).toInt ≤ 500 by first | assumption | omega) i521) (fun r656 hr657 => ?_)
                  obtain ⟨i658, ⟨u661, u662, u663, u664⟩, p659, p660⟩ := hr657
                  have u665 := kp_t u528 u661
                  have v666 : q_V r656 = q_V δ := (u662).trans v529
                  have v667 := kr_t v530 u664
                  have f668 := cb_12_5 i658 k_a0
                  have f669 := cb_12_5 i521 k_a0
                  have f670 : (q_I r519.2 12 5 a0).toInt = (q_I r336.2 12 5 a0).toInt := congrArg Int32.toInt (u524 12 5 a0 (by decide))
                  have f671 := cb_12_5 i338 k_a0
                  have f672 : (q_I r336.2 12 5 a0).toInt = (q_I r171.2 12 5 a0).toInt := congrArg Int32.toInt (u341 12 5 a0 (by decide))
                  have f673 := cb_12_5 i173 k_a0
                  have f674 : (q_I r171.2 12 5 a0).toInt = (q_I r81.2 12 5 a0).toInt := congrArg Int32.toInt (u176 12 5 a0 (by decide))
                  have f675 := cb_12_5 i83 k_a0
                  have f676 : (q_I r81.2 12 5 a0).toInt = (q_I δ 12 5 a0).toInt := congrArg Int32.toInt (u87 12 5 a0 (by decide))
                  have f677 : hc ad r656 a0 = (q_R r656 (Ad ad 101) (q_I r656 12 4 a0).toNatClampNeg).toInt := rfl
                  have f678 := cb_12_4 i658 k_a0
                  have f679 : (q_I r656 12 4 a0).toInt = (q_I r519.2 12 4 a0).toInt := congrArg Int32.toInt (u661 12 4 a0 (by decide))
                  have t680 := ti_tn (q_I r656 12 4 a0)
                  have f681 : (q_R r656 (Ad ad 101) (q_I r656 12 4 a0).toNatClampNeg).toInt = (q_R r519.2 (Ad ad 101) (q_I r656 12 4 a0).toNatClampNeg).toInt := congrArg Int32.toInt (congrFun (u664 101 (by decide) (by decide) (by decide)) _)
                  have f682 : (q_R r519.2 (Ad ad 101) (q_I r656 12 4 a0).toNatClampNeg).toInt = (q_R r336.2 (Ad ad 101) (q_I r656 12 4 a0).toNatClampNeg).toInt := congrArg Int32.toInt (congrFun (u527 101 (by decide) (by decide) (by decide)) _)
                  have f683 : (q_R r336.2 (Ad ad 101) (q_I r656 12 4 a0).toNatClampNeg).toInt = (q_R r171.2 (Ad ad 101) (q_I r656 12 4 a0).toNatClampNeg).toInt := congrArg Int32.toInt (congrFun (u344 101 (by decide) (by decide) (by decide)) _)
                  have f684 : (q_R r171.2 (Ad ad 101) (q_I r656 12 4 a0).toNatClampNeg).toInt = (q_R r81.2 (Ad ad 101) (q_I r656 12 4 a0).toNatClampNeg).toInt := congrArg Int32.toInt (congrFun (u179 101 (by decide) (by decide) (by decide)) _)
                  have f685 : (q_R r81.2 (Ad ad 101) (q_I r656 12 4 a0).toNatClampNeg).toInt = (q_R δ (Ad ad 101) (q_I r656 12 4 a0).toNatClampNeg).toInt := congrArg Int32.toInt (congrFun (u90 101 (by decide) (by decide) (by decide)) _)
                  have f686 := ti_b (q_R δ (Ad ad 101) (q_I r656 12 4 a0).toNatClampNeg)
                  have f687 := ti_b (q_R r81.2 (Ad ad 101) (q_I r656 12 4 a0).toNatClampNeg)
                  have f688 := ti_b (q_R r171.2 (Ad ad 101) (q_I r656 12 4 a0).toNatClampNeg)
                  have f689 := ti_b (q_R r336.2 (Ad ad 101) (q_I r656 12 4 a0).toNatClampNeg)
                  have f690 := ti_b (q_R r519.2 (Ad ad 101) (q_I r656 12 4 a0).toNatClampNeg)
                  have f691 := ti_b (q_R r656 (Ad ad 101) (q_I r656 12 4 a0).toNatClampNeg)
                  have f692 := cb_12_3 i658 k_a0
                  have f693 : (q_I r656 12 3 a0).toInt = (q_I r519.2 12 3 a0).toInt := congrArg Int32.toInt (u661 12 3 a0 (by decide))
                  have f694 := cb_12_3 i521 k_a0
                  have f695 : (q_I r519.2 12 3 a0).toInt = (q_I r336.2 12 3 a0).toInt := congrArg Int32.toInt (u524 12 3 a0 (by decide))
                  refine ok_mono (kj_X12_shape_148 L hN (K49 := (n : Int)) (a0 := a0) (x1 := x1) (x2v := x2v) (x3v := x3v) (x4v := x4v) (x5v := x5v) (x6v := (4 : Int32)) ih k_a0 (show (q_I r656 12 5 a0).toInt < 0 → 2 ≤ (x2v).toInt ∧ (x2v).toInt ≤ 16 ∧ 1 ≤ (x3v).toInt ∧ (x3v).toInt ≤ 5 by first | assumption | omega) (show (x4v).toInt = 0 ∨ (x4v).toInt = 1 by first | assumption | omega) (show (q_I r656 12 5 a0).toInt < 0 → (q_I r656 12 4 a0).toInt < (q_I r656 12 3 a0).toInt ∧ 97 ≤ hc ad r656 a0 ∧ hc ad r656 a0 ≤ 122 by first | assumption | omega) (show 501 - (q_I r656 12 4 a0).toInt ≤ (n : Int) by first | assumption | omega) i658) (fun r696 hr697 => ?_)
                  obtain ⟨i698, ⟨u700, u701, u702⟩, p699⟩ := hr697
                  have u703 := kp_t u665 u700
                  have v704 : q_V r696.2 = q_V δ := (u701).trans v666
                  have v705 := kr_t v667 u702
                  have f706 := cb_12_2 i698 k_a0
                  have f707 := cb_12_2 i658 k_a0
                  have f708 : (q_I r656 12 2 a0).toInt = (q_I r519.2 12 2 a0).toInt := congrArg Int32.toInt (u661 12 2 a0 (by decide))
                  have f709 := cb_12_2 i521 k_a0
                  have f710 : (q_I r519.2 12 2 a0).toInt = (q_I r336.2 12 2 a0).toInt := congrArg Int32.toInt (u524 12 2 a0 (by decide))
                  have f711 := cb_12_2 i338 k_a0
                  have f712 : (q_I r336.2 12 2 a0).toInt = (q_I r171.2 12 2 a0).toInt := congrArg Int32.toInt (u341 12 2 a0 (by decide))
                  have f713 := cb_12_2 i173 k_a0
                  have f714 : (q_I r171.2 12 2 a0).toInt = (q_I r81.2 12 2 a0).toInt := congrArg Int32.toInt (u176 12 2 a0 (by decide))
                  have f715 := cb_12_2 i83 k_a0
                  have f716 : (q_I r81.2 12 2 a0).toInt = (q_I δ 12 2 a0).toInt := congrArg Int32.toInt (u87 12 2 a0 (by decide))
                  have f717 := cb_12_2 I k_a0
                  have f718 := ti_b r696.1
                  exact ⟨by assumption, ⟨kp_w (by decide) u703, v704, kr_w (by decide) v705⟩, by first | assumption | omega⟩
            · have c719 : r519.1.toInt ≠ r547.1.toInt := o_ne h553
              unfold J_X12_shape_112
              refine ok_ite (fun h720 => ?_) (fun h720 => ?_)
              · have c721 : (0 : Int) = (0 : Int) := o_eq h720
                refine ok_bind (k_X12_wrong L hN (a0 := a0) (x1 := (1 : Int32)) (x2 := (q_I r519.2 12 4 a0)) k_a0 (show 0 ≤ ((q_I r519.2 12 4 a0)).toInt by first | assumption | omega) (show ((q_I r519.2 12 4 a0)).toInt ≤ 500 by first | assumption | omega) i521) (fun r722 hr723 => ?_)
                obtain ⟨i724, ⟨u727, u728, u729, u730⟩, p725, p726⟩ := hr723
                have u731 := kp_t u528 u727
                have v732 : q_V r722 = q_V δ := (u728).trans v529
                have v733 := kr_t v530 u730
                have f734 := cb_12_5 i724 k_a0
                have f735 := cb_12_5 i521 k_a0
                have f736 : (q_I r519.2 12 5 a0).toInt = (q_I r336.2 12 5 a0).toInt := congrArg Int32.toInt (u524 12 5 a0 (by decide))
                have f737 := cb_12_5 i338 k_a0
                have f738 : (q_I r336.2 12 5 a0).toInt = (q_I r171.2 12 5 a0).toInt := congrArg Int32.toInt (u341 12 5 a0 (by decide))
                have f739 := cb_12_5 i173 k_a0
                have f740 : (q_I r171.2 12 5 a0).toInt = (q_I r81.2 12 5 a0).toInt := congrArg Int32.toInt (u176 12 5 a0 (by decide))
                have f741 := cb_12_5 i83 k_a0
                have f742 : (q_I r81.2 12 5 a0).toInt = (q_I δ 12 5 a0).toInt := congrArg Int32.toInt (u87 12 5 a0 (by decide))
                have f743 : hc ad r722 a0 = (q_R r722 (Ad ad 101) (q_I r722 12 4 a0).toNatClampNeg).toInt := rfl
                have f744 := cb_12_4 i724 k_a0
                have f745 : (q_I r722 12 4 a0).toInt = (q_I r519.2 12 4 a0).toInt := congrArg Int32.toInt (u727 12 4 a0 (by decide))
                have t746 := ti_tn (q_I r722 12 4 a0)
                have f747 : (q_R r722 (Ad ad 101) (q_I r722 12 4 a0).toNatClampNeg).toInt = (q_R r519.2 (Ad ad 101) (q_I r722 12 4 a0).toNatClampNeg).toInt := congrArg Int32.toInt (congrFun (u730 101 (by decide) (by decide) (by decide)) _)
                have f748 : (q_R r519.2 (Ad ad 101) (q_I r722 12 4 a0).toNatClampNeg).toInt = (q_R r336.2 (Ad ad 101) (q_I r722 12 4 a0).toNatClampNeg).toInt := congrArg Int32.toInt (congrFun (u527 101 (by decide) (by decide) (by decide)) _)
                have f749 : (q_R r336.2 (Ad ad 101) (q_I r722 12 4 a0).toNatClampNeg).toInt = (q_R r171.2 (Ad ad 101) (q_I r722 12 4 a0).toNatClampNeg).toInt := congrArg Int32.toInt (congrFun (u344 101 (by decide) (by decide) (by decide)) _)
                have f750 : (q_R r171.2 (Ad ad 101) (q_I r722 12 4 a0).toNatClampNeg).toInt = (q_R r81.2 (Ad ad 101) (q_I r722 12 4 a0).toNatClampNeg).toInt := congrArg Int32.toInt (congrFun (u179 101 (by decide) (by decide) (by decide)) _)
                have f751 : (q_R r81.2 (Ad ad 101) (q_I r722 12 4 a0).toNatClampNeg).toInt = (q_R δ (Ad ad 101) (q_I r722 12 4 a0).toNatClampNeg).toInt := congrArg Int32.toInt (congrFun (u90 101 (by decide) (by decide) (by decide)) _)
                have f752 := ti_b (q_R δ (Ad ad 101) (q_I r722 12 4 a0).toNatClampNeg)
                have f753 := ti_b (q_R r81.2 (Ad ad 101) (q_I r722 12 4 a0).toNatClampNeg)
                have f754 := ti_b (q_R r171.2 (Ad ad 101) (q_I r722 12 4 a0).toNatClampNeg)
                have f755 := ti_b (q_R r336.2 (Ad ad 101) (q_I r722 12 4 a0).toNatClampNeg)
                have f756 := ti_b (q_R r519.2 (Ad ad 101) (q_I r722 12 4 a0).toNatClampNeg)
                have f757 := ti_b (q_R r722 (Ad ad 101) (q_I r722 12 4 a0).toNatClampNeg)
                have f758 := cb_12_3 i724 k_a0
                have f759 : (q_I r722 12 3 a0).toInt = (q_I r519.2 12 3 a0).toInt := congrArg Int32.toInt (u727 12 3 a0 (by decide))
                have f760 := cb_12_3 i521 k_a0
                have f761 : (q_I r519.2 12 3 a0).toInt = (q_I r336.2 12 3 a0).toInt := congrArg Int32.toInt (u524 12 3 a0 (by decide))
                refine ok_mono (kj_X12_shape_148 L hN (K49 := (n : Int)) (a0 := a0) (x1 := x1) (x2v := x2v) (x3v := x3v) (x4v := x4v) (x5v := x5v) (x6v := (0 : Int32)) ih k_a0 (show (q_I r722 12 5 a0).toInt < 0 → 2 ≤ (x2v).toInt ∧ (x2v).toInt ≤ 16 ∧ 1 ≤ (x3v).toInt ∧ (x3v).toInt ≤ 5 by first | assumption | omega) (show (x4v).toInt = 0 ∨ (x4v).toInt = 1 by first | assumption | omega) (show (q_I r722 12 5 a0).toInt < 0 → (q_I r722 12 4 a0).toInt < (q_I r722 12 3 a0).toInt ∧ 97 ≤ hc ad r722 a0 ∧ hc ad r722 a0 ≤ 122 by first | assumption | omega) (show 501 - (q_I r722 12 4 a0).toInt ≤ (n : Int) by first | assumption | omega) i724) (fun r762 hr763 => ?_)
                obtain ⟨i764, ⟨u766, u767, u768⟩, p765⟩ := hr763
                have u769 := kp_t u731 u766
                have v770 : q_V r762.2 = q_V δ := (u767).trans v732
                have v771 := kr_t v733 u768
                have f772 := cb_12_2 i764 k_a0
                have f773 := cb_12_2 i724 k_a0
                have f774 : (q_I r722 12 2 a0).toInt = (q_I r519.2 12 2 a0).toInt := congrArg Int32.toInt (u727 12 2 a0 (by decide))
                have f775 := cb_12_2 i521 k_a0
                have f776 : (q_I r519.2 12 2 a0).toInt = (q_I r336.2 12 2 a0).toInt := congrArg Int32.toInt (u524 12 2 a0 (by decide))
                have f777 := cb_12_2 i338 k_a0
                have f778 : (q_I r336.2 12 2 a0).toInt = (q_I r171.2 12 2 a0).toInt := congrArg Int32.toInt (u341 12 2 a0 (by decide))
                have f779 := cb_12_2 i173 k_a0
                have f780 : (q_I r171.2 12 2 a0).toInt = (q_I r81.2 12 2 a0).toInt := congrArg Int32.toInt (u176 12 2 a0 (by decide))
                have f781 := cb_12_2 i83 k_a0
                have f782 : (q_I r81.2 12 2 a0).toInt = (q_I δ 12 2 a0).toInt := congrArg Int32.toInt (u87 12 2 a0 (by decide))
                have f783 := cb_12_2 I k_a0
                have f784 := ti_b r762.1
                exact ⟨by assumption, ⟨kp_w (by decide) u769, v770, kr_w (by decide) v771⟩, by first | assumption | omega⟩
              · have c785 : (0 : Int) ≠ (0 : Int) := o_ne h720
                have f786 := ti_b (x5v &&& (0 : Int32))
                refine ok_ite (fun h787 => ?_) (fun h787 => ?_)
                · have c788 : (x5v &&& (0 : Int32)).toInt = (0 : Int) := o_eq h787
                  have f789 := cb_12_5 i521 k_a0
                  have f790 : (q_I r519.2 12 5 a0).toInt = (q_I r336.2 12 5 a0).toInt := congrArg Int32.toInt (u524 12 5 a0 (by decide))
                  have f791 := cb_12_5 i338 k_a0
                  have f792 : (q_I r336.2 12 5 a0).toInt = (q_I r171.2 12 5 a0).toInt := congrArg Int32.toInt (u341 12 5 a0 (by decide))
                  have f793 := cb_12_5 i173 k_a0
                  have f794 : (q_I r171.2 12 5 a0).toInt = (q_I r81.2 12 5 a0).toInt := congrArg Int32.toInt (u176 12 5 a0 (by decide))
                  have f795 := cb_12_5 i83 k_a0
                  have f796 : (q_I r81.2 12 5 a0).toInt = (q_I δ 12 5 a0).toInt := congrArg Int32.toInt (u87 12 5 a0 (by decide))
                  have f797 := cb_12_3 i521 k_a0
                  have f798 : (q_I r519.2 12 3 a0).toInt = (q_I r336.2 12 3 a0).toInt := congrArg Int32.toInt (u524 12 3 a0 (by decide))
                  refine ok_mono (kj_X12_shape_148 L hN (K49 := (n : Int)) (a0 := a0) (x1 := x1) (x2v := x2v) (x3v := x3v) (x4v := x4v) (x5v := x5v) (x6v := (0 : Int32)) ih k_a0 (show (q_I r519.2 12 5 a0).toInt < 0 → 2 ≤ (x2v).toInt ∧ (x2v).toInt ≤ 16 ∧ 1 ≤ (x3v).toInt ∧ (x3v).toInt ≤ 5 by first | assumption | omega) (show (x4v).toInt = 0 ∨ (x4v).toInt = 1 by first | assumption | omega) (show (q_I r519.2 12 5 a0).toInt < 0 → (q_I r519.2 12 4 a0).toInt < (q_I r519.2 12 3 a0).toInt ∧ 97 ≤ hc ad r519.2 a0 ∧ hc ad r519.2 a0 ≤ 122 by first | assumption | omega) (show 501 - (q_I r519.2 12 4 a0).toInt ≤ (n : Int) by first | assumption | omega) i521) (fun r799 hr800 => ?_)
                  obtain ⟨i801, ⟨u803, u804, u805⟩, p802⟩ := hr800
                  have u806 := kp_t u528 u803
                  have v807 : q_V r799.2 = q_V δ := (u804).trans v529
                  have v808 := kr_t v530 u805
                  have f809 := cb_12_2 i801 k_a0
                  have f810 := cb_12_2 i521 k_a0
                  have f811 : (q_I r519.2 12 2 a0).toInt = (q_I r336.2 12 2 a0).toInt := congrArg Int32.toInt (u524 12 2 a0 (by decide))
                  have f812 := cb_12_2 i338 k_a0
                  have f813 : (q_I r336.2 12 2 a0).toInt = (q_I r171.2 12 2 a0).toInt := congrArg Int32.toInt (u341 12 2 a0 (by decide))
                  have f814 := cb_12_2 i173 k_a0
                  have f815 : (q_I r171.2 12 2 a0).toInt = (q_I r81.2 12 2 a0).toInt := congrArg Int32.toInt (u176 12 2 a0 (by decide))
                  have f816 := cb_12_2 i83 k_a0
                  have f817 : (q_I r81.2 12 2 a0).toInt = (q_I δ 12 2 a0).toInt := congrArg Int32.toInt (u87 12 2 a0 (by decide))
                  have f818 := cb_12_2 I k_a0
                  have f819 := ti_b r799.1
                  exact ⟨by assumption, ⟨kp_w (by decide) u806, v807, kr_w (by decide) v808⟩, by first | assumption | omega⟩
                · have c820 : (x5v &&& (0 : Int32)).toInt ≠ (0 : Int) := o_ne h787
                  refine ok_bind (k_X12_wrong L hN (a0 := a0) (x1 := (4 : Int32)) (x2 := (q_I r519.2 12 4 a0)) k_a0 (show 0 ≤ ((q_I r519.2 12 4 a0)).toInt by first | assumption | omega) (show ((q_I r519.2 12 4 a0)).toInt ≤ 500 by first | assumption | omega) i521) (fun r821 hr822 => ?_)
                  obtain ⟨i823, ⟨u826, u827, u828, u829⟩, p824, p825⟩ := hr822
                  have u830 := kp_t u528 u826
                  have v831 : q_V r821 = q_V δ := (u827).trans v529
                  have v832 := kr_t v530 u829
                  have f833 := cb_12_5 i823 k_a0
                  have f834 := cb_12_5 i521 k_a0
                  have f835 : (q_I r519.2 12 5 a0).toInt = (q_I r336.2 12 5 a0).toInt := congrArg Int32.toInt (u524 12 5 a0 (by decide))
                  have f836 := cb_12_5 i338 k_a0
                  have f837 : (q_I r336.2 12 5 a0).toInt = (q_I r171.2 12 5 a0).toInt := congrArg Int32.toInt (u341 12 5 a0 (by decide))
                  have f838 := cb_12_5 i173 k_a0
                  have f839 : (q_I r171.2 12 5 a0).toInt = (q_I r81.2 12 5 a0).toInt := congrArg Int32.toInt (u176 12 5 a0 (by decide))
                  have f840 := cb_12_5 i83 k_a0
                  have f841 : (q_I r81.2 12 5 a0).toInt = (q_I δ 12 5 a0).toInt := congrArg Int32.toInt (u87 12 5 a0 (by decide))
                  have f842 : hc ad r821 a0 = (q_R r821 (Ad ad 101) (q_I r821 12 4 a0).toNatClampNeg).toInt := rfl
                  have f843 := cb_12_4 i823 k_a0
                  have f844 : (q_I r821 12 4 a0).toInt = (q_I r519.2 12 4 a0).toInt := congrArg Int32.toInt (u826 12 4 a0 (by decide))
                  have t845 := ti_tn (q_I r821 12 4 a0)
                  have f846 : (q_R r821 (Ad ad 101) (q_I r821 12 4 a0).toNatClampNeg).toInt = (q_R r519.2 (Ad ad 101) (q_I r821 12 4 a0).toNatClampNeg).toInt := congrArg Int32.toInt (congrFun (u829 101 (by decide) (by decide) (by decide)) _)
                  have f847 : (q_R r519.2 (Ad ad 101) (q_I r821 12 4 a0).toNatClampNeg).toInt = (q_R r336.2 (Ad ad 101) (q_I r821 12 4 a0).toNatClampNeg).toInt := congrArg Int32.toInt (congrFun (u527 101 (by decide) (by decide) (by decide)) _)
                  have f848 : (q_R r336.2 (Ad ad 101) (q_I r821 12 4 a0).toNatClampNeg).toInt = (q_R r171.2 (Ad ad 101) (q_I r821 12 4 a0).toNatClampNeg).toInt := congrArg Int32.toInt (congrFun (u344 101 (by decide) (by decide) (by decide)) _)
                  have f849 : (q_R r171.2 (Ad ad 101) (q_I r821 12 4 a0).toNatClampNeg).toInt = (q_R r81.2 (Ad ad 101) (q_I r821 12 4 a0).toNatClampNeg).toInt := congrArg Int32.toInt (congrFun (u179 101 (by decide) (by decide) (by decide)) _)
                  have f850 : (q_R r81.2 (Ad ad 101) (q_I r821 12 4 a0).toNatClampNeg).toInt = (q_R δ (Ad ad 101) (q_I r821 12 4 a0).toNatClampNeg).toInt := congrArg Int32.toInt (congrFun (u90 101 (by decide) (by decide) (by decide)) _)
                  have f851 := ti_b (q_R δ (Ad ad 101) (q_I r821 12 4 a0).toNatClampNeg)
                  have f852 := ti_b (q_R r81.2 (Ad ad 101) (q_I r821 12 4 a0).toNatClampNeg)
                  have f853 := ti_b (q_R r171.2 (Ad ad 101) (q_I r821 12 4 a0).toNatClampNeg)
                  have f854 := ti_b (q_R r336.2 (Ad ad 101) (q_I r821 12 4 a0).toNatClampNeg)
                  have f855 := ti_b (q_R r519.2 (Ad ad 101) (q_I r821 12 4 a0).toNatClampNeg)
                  have f856 := ti_b (q_R r821 (Ad ad 101) (q_I r821 12 4 a0).toNatClampNeg)
                  have f857 := cb_12_3 i823 k_a0
                  have f858 : (q_I r821 12 3 a0).toInt = (q_I r519.2 12 3 a0).toInt := congrArg Int32.toInt (u826 12 3 a0 (by decide))
                  have f859 := cb_12_3 i521 k_a0
                  have f860 : (q_I r519.2 12 3 a0).toInt = (q_I r336.2 12 3 a0).toInt := congrArg Int32.toInt (u524 12 3 a0 (by decide))
                  refine ok_mono (kj_X12_shape_148 L hN (K49 := (n : Int)) (a0 := a0) (x1 := x1) (x2v := x2v) (x3v := x3v) (x4v := x4v) (x5v := x5v) (x6v := (0 : Int32)) ih k_a0 (show (q_I r821 12 5 a0).toInt < 0 → 2 ≤ (x2v).toInt ∧ (x2v).toInt ≤ 16 ∧ 1 ≤ (x3v).toInt ∧ (x3v).toInt ≤ 5 by first | assumption | omega) (show (x4v).toInt = 0 ∨ (x4v).toInt = 1 by first | assumption | omega) (show (q_I r821 12 5 a0).toInt < 0 → (q_I r821 12 4 a0).toInt < (q_I r821 12 3 a0).toInt ∧ 97 ≤ hc ad r821 a0 ∧ hc ad r821 a0 ≤ 122 by first | assumption | omega) (show 501 - (q_I r821 12 4 a0).toInt ≤ (n : Int) by first | assumption | omega) i823) (fun r861 hr862 => ?_)
                  obtain ⟨i863, ⟨u865, u866, u867⟩, p864⟩ := hr862
                  have u868 := kp_t u830 u865
                  have v869 : q_V r861.2 = q_V δ := (u866).trans v831
                  have v870 := kr_t v832 u867
                  have f871 := cb_12_2 i863 k_a0
                  have f872 := cb_12_2 i823 k_a0
                  have f873 : (q_I r821 12 2 a0).toInt = (q_I r519.2 12 2 a0).toInt := congrArg Int32.toInt (u826 12 2 a0 (by decide))
                  have f874 := cb_12_2 i521 k_a0
                  have f875 : (q_I r519.2 12 2 a0).toInt = (q_I r336.2 12 2 a0).toInt := congrArg Int32.toInt (u524 12 2 a0 (by decide))
                  have f876 := cb_12_2 i338 k_a0
                  have f877 : (q_I r336.2 12 2 a0).toInt = (q_I r171.2 12 2 a0).toInt := congrArg Int32.toInt (u341 12 2 a0 (by decide))
                  have f878 := cb_12_2 i173 k_a0
                  have f879 : (q_I r171.2 12 2 a0).toInt = (q_I r81.2 12 2 a0).toInt := congrArg Int32.toInt (u176 12 2 a0 (by decide))
                  have f880 := cb_12_2 i83 k_a0
                  have f881 : (q_I r81.2 12 2 a0).toInt = (q_I δ 12 2 a0).toInt := congrArg Int32.toInt (u87 12 2 a0 (by decide))
                  have f882 := cb_12_2 I k_a0
                  have f883 := ti_b r861.1
                  exact ⟨by assumption, ⟨kp_w (by decide) u868, v869, kr_w (by decide) v870⟩, by first | assumption | omega⟩
set_option maxHeartbeats 4000000 in
theorem k_X12_shape {ad : List Nat} {h : hp} (L : Lay TLx ad h) {δ0 : dp} {N : Nat} (hN : 10000000 ≤ N) {a0 : Nat} {x1 : Int32} (k_a0 : q_K h.1 a0 = 12) {δ : dp} (I : RI ad h.1 δ0 δ) : ok (D_X12_shape N h.1 a0 x1 δ) (fun r => RI ad h.1 δ0 r.2 ∧ (kp [(12, 0), (12, 2), (12, 3), (12, 4), (12, 5), (12, 6), (12, 7), (12, 8), (12, 10), (12, 11), (12, 12), (12, 18)] δ r.2 ∧ q_V r.2 = q_V δ ∧ kr ad [100, 103, 106] δ r.2) ∧ (0 ≤ (x1).toInt ∧ (x1).toInt ≤ (q_I δ 12 2 a0).toInt → (q_I r.2 12 2 a0).toInt = 0) ∧ ((x1).toInt < 0 ∨ (q_I δ 12 2 a0).toInt < (x1).toInt → (q_I r.2 12 2 a0).toInt = (q_I δ 12 2 a0).toInt)) := by
  unfold D_X12_shape
  refine ok_bdv (fun d1 e2 => ?_)
  have i3 : RI ad h.1 δ0 d1 := by rw [e2]; exact cs_12_0 L I
  have u4 := kp_I kp_r e2
  have v5 : q_V d1 = q_V δ := ((show q_V d1 = q_V δ by rw [e2]; rfl)).trans rfl
  have v6 := kr_N (kr_r (ad := ad)) (show q_R d1 = q_R δ by rw [e2]; rfl)
  have f7 := ti_b x1
  refine ok_ite (fun h8 => ?_) (fun h8 => ?_)
  · have c9 : x1.toInt < (0 : Int) := o_lt h8
    unfold J_X12_shape_22
    unfold J_X12_shape_23
    refine ok_bind (k_X12_may L hN (a0 := a0) (x1 := (0 : Int32)) (x2 := (1 : Int32)) (x3 := (2 : Int32)) k_a0 (show (1 : Int) ≠ 0 by first | assumption | omega) (show 0 ≤ (2 : Int) by first | assumption | omega) (show (2 : Int) ≤ 2 by first | assumption | omega) i3) (fun r10 hr11 => ?_)
    obtain ⟨i12, ⟨u16, u17, u18⟩, p13, p14, p15⟩ := hr11
    have u19 := kp_t u4 u16
    have v20 : q_V r10.2 = q_V δ := (u17).trans v5
    have v21 := kr_t v6 u18
    have f22 := bo_l p13
    have f23 := ti_b r10.1
    replace p14 : ((r10.1).toInt = 1 → (0 : Int) ≠ 0) := p14
    have f24 := ti_b (q_I d1 12 0 a0)
    have f25 : (q_I d1 12 0 a0).toInt = (0 : Int) := congrArg Int32.toInt (show q_I d1 12 0 a0 = (0 : Int32) by rw [e2]; exact rI_s)
    replace p15 : ((q_I d1 12 0 a0).toInt = 0 → (r10.1).toInt = 0 → (0 : Int) = 0) := p15
    have f26 := ti_b r10.1
    refine ok_ite (fun h27 => ?_) (fun h27 => ?_)
    · have c28 : r10.1.toInt = (0 : Int) := o_eq h27
      have f29 := cb_12_2 I k_a0
      have f30 := cb_12_2 i12 k_a0
      have f31 : (q_I r10.2 12 2 a0).toInt = (q_I d1 12 2 a0).toInt := congrArg Int32.toInt (u16 12 2 a0 (by decide))
      have f32 := cb_12_2 i3 k_a0
      have f33 : (q_I d1 12 2 a0).toInt = (q_I δ 12 2 a0).toInt := congrArg Int32.toInt (by rw [e2]; exact rI_o (by decide))
      exact ok_some (show RI ad h.1 δ0 r10.2 ∧ (kp [(12, 0), (12, 2), (12, 3), (12, 4), (12, 5), (12, 6), (12, 7), (12, 8), (12, 10), (12, 11), (12, 12), (12, 18)] δ r10.2 ∧ q_V r10.2 = q_V δ ∧ kr ad [100, 103, 106] δ r10.2) ∧ (0 ≤ (x1).toInt ∧ (x1).toInt ≤ (q_I δ 12 2 a0).toInt → (q_I r10.2 12 2 a0).toInt = 0) ∧ ((x1).toInt < 0 ∨ (q_I δ 12 2 a0).toInt < (x1).toInt → (q_I r10.2 12 2 a0).toInt = (q_I δ 12 2 a0).toInt) from ⟨i12, ⟨kp_w (by decide) u19, v20, kr_w (by decide) v21⟩, by first | assumption | omega, by first | assumption | omega⟩)
    · have c34 : r10.1.toInt ≠ (0 : Int) := o_ne h27
      refine ok_bind (k_X12_begins L hN (a0 := a0) (x1 := x1) k_a0 (show 0 ≤ (x1).toInt by first | assumption | omega) (show (x1).toInt ≤ 500 by first | assumption | omega) i12) (fun r35 hr36 => ?_)
      obtain ⟨i37, ⟨u43, u44, u45, u46⟩, p38, p39, p40, p41, p42⟩ := hr36
      have u47 := kp_t u19 u43
      have v48 : q_V r35 = q_V δ := (u44).trans v20
      have v49 := kr_t v21 u46
      have f50 := cb_12_2 i37 k_a0
      have f51 := cb_12_4 i37 k_a0
      have f52 := cb_12_3 i37 k_a0
      have f53 := cb_12_5 i37 k_a0
      have f54 := ti_b (q_I r35 12 7 a0)
      refine ok_mono (kl_X12_shape_49 L hN   k_a0 _ (8 : Int32) (1 : Int32) (1 : Int32) (0 : Int32) r35 i37 (show (q_I r35 12 5 a0).toInt < 0 → 2 ≤ (8 : Int) ∧ (8 : Int) ≤ 16 ∧ 1 ≤ (1 : Int) ∧ (1 : Int) ≤ 5 by first | assumption | omega) (show (1 : Int) = 0 ∨ (1 : Int) = 1 by first | assumption | omega) (show 501 - (q_I r35 12 4 a0).toInt < _ by omega)) (fun r55 hr56 => ?_)
      obtain ⟨i57, ⟨u59, u60, u61⟩, p58⟩ := hr56
      have u62 := kp_t u47 u59
      have v63 : q_V r55.2 = q_V δ := (u60).trans v48
      have v64 := kr_t v49 u61
      have f65 := cb_12_2 i57 k_a0
      have f66 := ti_b r55.1
      have f67 := cb_12_2 I k_a0
      exact ⟨by assumption, ⟨kp_w (by decide) u62, v63, kr_w (by decide) v64⟩, by first | assumption | omega, by first | assumption | omega⟩
  · have c68 : (0 : Int) ≤ x1.toInt := o_nlt h8
    have f69 := cb_12_2 i3 k_a0
    have f70 : (q_I d1 12 2 a0).toInt = (q_I δ 12 2 a0).toInt := congrArg Int32.toInt (by rw [e2]; exact rI_o (by decide))
    have f71 := cb_12_2 I k_a0
    refine ok_ite (fun h72 => ?_) (fun h72 => ?_)
    · have c73 : (q_I d1 12 2 a0).toInt < x1.toInt := o_lt h72
      unfold J_X12_shape_22
      unfold J_X12_shape_23
      refine ok_bind (k_X12_may L hN (a0 := a0) (x1 := (0 : Int32)) (x2 := (1 : Int32)) (x3 := (2 : Int32)) k_a0 (show (1 : Int) ≠ 0 by first | assumption | omega) (show 0 ≤ (2 : Int) by first | assumption | omega) (show (2 : Int) ≤ 2 by first | assumption | omega) i3) (fun r74 hr75 => ?_)
      obtain ⟨i76, ⟨u80, u81, u82⟩, p77, p78, p79⟩ := hr75
      have u83 := kp_t u4 u80
      have v84 : q_V r74.2 = q_V δ := (u81).trans v5
      have v85 := kr_t v6 u82
      have f86 := bo_l p77
      have f87 := ti_b r74.1
      replace p78 : ((r74.1).toInt = 1 → (0 : Int) ≠ 0) := p78
      have f88 := ti_b (q_I d1 12 0 a0)
      have f89 : (q_I d1 12 0 a0).toInt = (0 : Int) := congrArg Int32.toInt (show q_I d1 12 0 a0 = (0 : Int32) by rw [e2]; exact rI_s)
      replace p79 : ((q_I d1 12 0 a0).toInt = 0 → (r74.1).toInt = 0 → (0 : Int) = 0) := p79
      have f90 := ti_b r74.1
      refine ok_ite (fun h91 => ?_) (fun h91 => ?_)
      · have c92 : r74.1.toInt = (0 : Int) := o_eq h91
        have f93 := cb_12_2 i76 k_a0
        have f94 : (q_I r74.2 12 2 a0).toInt = (q_I d1 12 2 a0).toInt := congrArg Int32.toInt (u80 12 2 a0 (by decide))
        exact ok_some (show RI ad h.1 δ0 r74.2 ∧ (kp [(12, 0), (12, 2), (12, 3), (12, 4), (12, 5), (12, 6), (12, 7), (12, 8), (12, 10), (12, 11), (12, 12), (12, 18)] δ r74.2 ∧ q_V r74.2 = q_V δ ∧ kr ad [100, 103, 106] δ r74.2) ∧ (0 ≤ (x1).toInt ∧ (x1).toInt ≤ (q_I δ 12 2 a0).toInt → (q_I r74.2 12 2 a0).toInt = 0) ∧ ((x1).toInt < 0 ∨ (q_I δ 12 2 a0).toInt < (x1).toInt → (q_I r74.2 12 2 a0).toInt = (q_I δ 12 2 a0).toInt) from ⟨i76, ⟨kp_w (by decide) u83, v84, kr_w (by decide) v85⟩, by first | assumption | omega, by first | assumption | omega⟩)
      · have c95 : r74.1.toInt ≠ (0 : Int) := o_ne h91
        refine ok_bind (k_X12_begins L hN (a0 := a0) (x1 := x1) k_a0 (show 0 ≤ (x1).toInt by first | assumption | omega) (show (x1).toInt ≤ 500 by first | assumption | omega) i76) (fun r96 hr97 => ?_)
        obtain ⟨i98, ⟨u104, u105, u106, u107⟩, p99, p100, p101, p102, p103⟩ := hr97
        have u108 := kp_t u83 u104
        have v109 : q_V r96 = q_V δ := (u105).trans v84
        have v110 := kr_t v85 u107
        have f111 := cb_12_2 i98 k_a0
        have f112 := cb_12_4 i98 k_a0
        have f113 := cb_12_3 i98 k_a0
        have f114 := cb_12_5 i98 k_a0
        have f115 := ti_b (q_I r96 12 7 a0)
        refine ok_mono (kl_X12_shape_49 L hN   k_a0 _ (8 : Int32) (1 : Int32) (1 : Int32) (0 : Int32) r96 i98 (show (q_I r96 12 5 a0).toInt < 0 → 2 ≤ (8 : Int) ∧ (8 : Int) ≤ 16 ∧ 1 ≤ (1 : Int) ∧ (1 : Int) ≤ 5 by first | assumption | omega) (show (1 : Int) = 0 ∨ (1 : Int) = 1 by first | assumption | omega) (show 501 - (q_I r96 12 4 a0).toInt < _ by omega)) (fun r116 hr117 => ?_)
        obtain ⟨i118, ⟨u120, u121, u122⟩, p119⟩ := hr117
        have u123 := kp_t u108 u120
        have v124 : q_V r116.2 = q_V δ := (u121).trans v109
        have v125 := kr_t v110 u122
        have f126 := cb_12_2 i118 k_a0
        have f127 := ti_b r116.1
        exact ⟨by assumption, ⟨kp_w (by decide) u123, v124, kr_w (by decide) v125⟩, by first | assumption | omega, by first | assumption | omega⟩
    · have c128 : x1.toInt ≤ (q_I d1 12 2 a0).toInt := o_nlt h72
      unfold J_X12_shape_23
      refine ok_bind (k_X12_may L hN (a0 := a0) (x1 := (1 : Int32)) (x2 := (1 : Int32)) (x3 := (2 : Int32)) k_a0 (show (1 : Int) ≠ 0 by first | assumption | omega) (show 0 ≤ (2 : Int) by first | assumption | omega) (show (2 : Int) ≤ 2 by first | assumption | omega) i3) (fun r129 hr130 => ?_)
      obtain ⟨i131, ⟨u135, u136, u137⟩, p132, p133, p134⟩ := hr130
      have u138 := kp_t u4 u135
      have v139 : q_V r129.2 = q_V δ := (u136).trans v5
      have v140 := kr_t v6 u137
      have f141 := bo_l p132
      have f142 := ti_b r129.1
      replace p133 : ((r129.1).toInt = 1 → (1 : Int) ≠ 0) := p133
      have f143 := ti_b (q_I d1 12 0 a0)
      have f144 : (q_I d1 12 0 a0).toInt = (0 : Int) := congrArg Int32.toInt (show q_I d1 12 0 a0 = (0 : Int32) by rw [e2]; exact rI_s)
      replace p134 : ((q_I d1 12 0 a0).toInt = 0 → (r129.1).toInt = 0 → (1 : Int) = 0) := p134
      have f145 := ti_b r129.1
      refine ok_ite (fun h146 => ?_) (fun h146 => ?_)
      · have c147 : r129.1.toInt = (0 : Int) := o_eq h146
        have f148 := cb_12_2 i131 k_a0
        have f149 : (q_I r129.2 12 2 a0).toInt = (q_I d1 12 2 a0).toInt := congrArg Int32.toInt (u135 12 2 a0 (by decide))
        exact ok_some (show RI ad h.1 δ0 r129.2 ∧ (kp [(12, 0), (12, 2), (12, 3), (12, 4), (12, 5), (12, 6), (12, 7), (12, 8), (12, 10), (12, 11), (12, 12), (12, 18)] δ r129.2 ∧ q_V r129.2 = q_V δ ∧ kr ad [100, 103, 106] δ r129.2) ∧ (0 ≤ (x1).toInt ∧ (x1).toInt ≤ (q_I δ 12 2 a0).toInt → (q_I r129.2 12 2 a0).toInt = 0) ∧ ((x1).toInt < 0 ∨ (q_I δ 12 2 a0).toInt < (x1).toInt → (q_I r129.2 12 2 a0).toInt = (q_I δ 12 2 a0).toInt) from ⟨i131, ⟨kp_w (by decide) u138, v139, kr_w (by decide) v140⟩, by first | assumption | omega, by first | assumption | omega⟩)
      · have c150 : r129.1.toInt ≠ (0 : Int) := o_ne h146
        refine ok_bind (k_X12_begins L hN (a0 := a0) (x1 := x1) k_a0 (show 0 ≤ (x1).toInt by first | assumption | omega) (show (x1).toInt ≤ 500 by first | assumption | omega) i131) (fun r151 hr152 => ?_)
        obtain ⟨i153, ⟨u159, u160, u161, u162⟩, p154, p155, p156, p157, p158⟩ := hr152
        have u163 := kp_t u138 u159
        have v164 : q_V r151 = q_V δ := (u160).trans v139
        have v165 := kr_t v140 u162
        have f166 := cb_12_2 i153 k_a0
        have f167 := cb_12_4 i153 k_a0
        have f168 := cb_12_3 i153 k_a0
        have f169 := cb_12_5 i153 k_a0
        have f170 := ti_b (q_I r151 12 7 a0)
        refine ok_mono (kl_X12_shape_49 L hN   k_a0 _ (8 : Int32) (1 : Int32) (1 : Int32) (0 : Int32) r151 i153 (show (q_I r151 12 5 a0).toInt < 0 → 2 ≤ (8 : Int) ∧ (8 : Int) ≤ 16 ∧ 1 ≤ (1 : Int) ∧ (1 : Int) ≤ 5 by first | assumption | omega) (show (1 : Int) = 0 ∨ (1 : Int) = 1 by first | assumption | omega) (show 501 - (q_I r151 12 4 a0).toInt < _ by omega)) (fun r171 hr172 => ?_)
        obtain ⟨i173, ⟨u175, u176, u177⟩, p174⟩ := hr172
        have u178 := kp_t u163 u175
        have v179 : q_V r171.2 = q_V δ := (u176).trans v164
        have v180 := kr_t v165 u177
        have f181 := cb_12_2 i173 k_a0
        have f182 := ti_b r171.1
        exact ⟨by assumption, ⟨kp_w (by decide) u178, v179, kr_w (by decide) v180⟩, by first | assumption | omega, by first | assumption | omega⟩
