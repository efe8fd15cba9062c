/-! 79.zd.rows (by gen_safe.py) -/
set_option maxHeartbeats 4000000 in
theorem k_X12_rows {ad : List Nat} {h : hp} (L : Lay TLx ad h) {δ0 : dp} {N : Nat} (hN : 10000000 ≤ N) {a0 : Nat} {x1 : Int32} (k_a0 : q_K h.1 a0 = 12) {δ : dp} (z0 : 1 ≤ (x1).toInt) (z1 : (x1).toInt ≤ 6) (I : RI ad h.1 δ0 δ) : ok (D_X12_rows N h.1 a0 x1 δ) (fun r => RI ad h.1 δ0 r ∧ (kp [(12, 36), (12, 45)] δ r ∧ q_V r = q_V δ ∧ kr ad [119, 122, 123] δ r)) := by
  unfold D_X12_rows
  have f1 := ti_b x1
  have f2 := cb_12_10 I k_a0
  refine ok_ite (fun h3 => ?_) (fun h3 => ?_)
  · have c4 : (4 : Int) < (q_I δ 12 10 a0).toInt := o_lt h3
    refine ok_bind (k_X12_findTwo L hN (a0 := a0) (x1 := x1) k_a0 I) (fun r5 hr6 => ?_)
    obtain ⟨i7, ⟨u8, u9, u10⟩⟩ := hr6
    have u11 := kp_t kp_r u8
    have v12 : q_V r5 = q_V δ := (u9).trans rfl
    have v13 := kr_t (kr_r (ad := ad)) u10
    unfold J_X12_rows_21
    exact ok_some (show RI ad h.1 δ0 r5 ∧ (kp [(12, 36), (12, 45)] δ r5 ∧ q_V r5 = q_V δ ∧ kr ad [119, 122, 123] δ r5) from ⟨i7, ⟨kp_w (by decide) u11, v12, kr_w (by decide) v13⟩⟩)
  · have c14 : (q_I δ 12 10 a0).toInt ≤ (4 : Int) := o_nlt h3
    refine ok_bind (k_X12_findRow L hN (a0 := a0) (x1 := x1) k_a0 (show (q_I δ 12 10 a0).toInt ≤ 4 by first | assumption | omega) (show 1 ≤ (x1).toInt by first | assumption | omega) (show (x1).toInt ≤ 6 by first | assumption | omega) I) (fun r15 hr16 => ?_)
    obtain ⟨i17, ⟨u18, u19, u20⟩⟩ := hr16
    have u21 := kp_t kp_r u18
    have v22 : q_V r15 = q_V δ := (u19).trans rfl
    have v23 := kr_t (kr_r (ad := ad)) u20
    unfold J_X12_rows_21
    exact ok_some (show RI ad h.1 δ0 r15 ∧ (kp [(12, 36), (12, 45)] δ r15 ∧ q_V r15 = q_V δ ∧ kr ad [119, 122, 123] δ r15) from ⟨i17, ⟨kp_w (by decide) u21, v22, kr_w (by decide) v23⟩⟩)
set_option maxHeartbeats 4000000 in
theorem k_X12_row {ad : List Nat} {h : hp} (L : Lay TLx ad h) {δ0 : dp} {N : Nat} (hN : 10000000 ≤ N) {a0 : Nat} {x1 : Int32} (k_a0 : q_K h.1 a0 = 12) {δ : dp} (I : RI ad h.1 δ0 δ) : ok (D_X12_row N h.1 a0 x1 δ) (fun r => RI ad h.1 δ0 r.2 ∧ (kp [(12, 0), (12, 36), (12, 45)] δ r.2 ∧ q_V r.2 = q_V δ ∧ kr ad [100, 119, 122, 123] δ r.2)) := by
  unfold D_X12_row
  refine ok_bdv (fun d1 e2 => ?_)
  have i3 : RI ad h.1 δ0 d1 := by rw [e2]; exact cs_12_0 L I
  have u4 := kp_I kp_r e2
  have v5 : q_V d1 = q_V δ := ((show q_V d1 = q_V δ by rw [e2]; rfl)).trans rfl
  have v6 := kr_N (kr_r (ad := ad)) (show q_R d1 = q_R δ by rw [e2]; rfl)
  refine ok_bind (k_X12_isRow L hN (a0 := a0) (x1 := x1) k_a0 i3) (fun r7 hr8 => ?_)
  obtain ⟨i9, p10, p11, p12⟩ := hr8
  try rw [i9]
  have f13 := bo_l p10
  have f14 := ti_b r7.1
  have f15 := ti_b x1
  have f16 := cb_12_10 i3 k_a0
  have f17 : (q_I d1 12 10 a0).toInt = (q_I δ 12 10 a0).toInt := congrArg Int32.toInt (by rw [e2]; exact rI_o (by decide))
  have f18 := cb_12_10 I k_a0
  have f19 := ti_b r7.1
  refine ok_bind (k_X12_may L hN (a0 := a0) (x1 := r7.1) (x2 := (1 : Int32)) (x3 := (2 : Int32)) k_a0 (show (1 : Int) ≠ 0 by first | assumption | omega) (show 0 ≤ (2 : Int) by first | assumption | omega) (show (2 : Int) ≤ 2 by first | assumption | omega) i3) (fun r20 hr21 => ?_)
  obtain ⟨i22, ⟨u26, u27, u28⟩, p23, p24, p25⟩ := hr21
  have u29 := kp_t u4 u26
  have v30 : q_V r20.2 = q_V δ := (u27).trans v5
  have v31 := kr_t v6 u28
  have f32 := bo_l p23
  have f33 := ti_b r20.1
  have f34 := ti_b (q_I d1 12 0 a0)
  have f35 : (q_I d1 12 0 a0).toInt = (0 : Int) := congrArg Int32.toInt (show q_I d1 12 0 a0 = (0 : Int32) by rw [e2]; exact rI_s)
  have f36 := ti_b r20.1
  refine ok_ite (fun h37 => ?_) (fun h37 => ?_)
  · have c38 : r20.1.toInt = (0 : Int) := o_eq h37
    exact ok_some (show RI ad h.1 δ0 r20.2 ∧ (kp [(12, 0), (12, 36), (12, 45)] δ r20.2 ∧ q_V r20.2 = q_V δ ∧ kr ad [100, 119, 122, 123] δ r20.2) from ⟨i22, ⟨kp_w (by decide) u29, v30, kr_w (by decide) v31⟩⟩)
  · have c39 : r20.1.toInt ≠ (0 : Int) := o_ne h37
    refine ok_bind (k_X12_rows L hN (a0 := a0) (x1 := x1) k_a0 (show 1 ≤ (x1).toInt by first | assumption | omega) (show (x1).toInt ≤ 6 by first | assumption | omega) i22) (fun r40 hr41 => ?_)
    obtain ⟨i42, ⟨u43, u44, u45⟩⟩ := hr41
    have u46 := kp_t u29 u43
    have v47 : q_V r40 = q_V δ := (u44).trans v30
    have v48 := kr_t v31 u45
    exact ok_some (show RI ad h.1 δ0 r40 ∧ (kp [(12, 0), (12, 36), (12, 45)] δ r40 ∧ q_V r40 = q_V δ ∧ kr ad [100, 119, 122, 123] δ r40) from ⟨i42, ⟨kp_w (by decide) u46, v47, kr_w (by decide) v48⟩⟩)
set_option maxHeartbeats 4000000 in
theorem k_X12_rowCall {ad : List Nat} {h : hp} (L : Lay TLx ad h) {δ0 : dp} {N : Nat} (hN : 10000000 ≤ N) {a0 : Nat} {x1 : Int32} {x2 : Int32} (k_a0 : q_K h.1 a0 = 12) {δ : dp} (I : RI ad h.1 δ0 δ) : ok (D_X12_rowCall N h.1 a0 x1 x2 δ) (fun r => RI ad h.1 δ0 r.2 ∧ (kp [(12, 0), (12, 36), (12, 45)] δ r.2 ∧ q_V r.2 = q_V δ ∧ kr ad [100, 119, 122, 123] δ r.2)) := by
  unfold D_X12_rowCall
  refine ok_bdv (fun d1 e2 => ?_)
  have i3 : RI ad h.1 δ0 d1 := by rw [e2]; exact cs_12_0 L I
  have u4 := kp_I kp_r e2
  have v5 : q_V d1 = q_V δ := ((show q_V d1 = q_V δ by rw [e2]; rfl)).trans rfl
  have v6 := kr_N (kr_r (ad := ad)) (show q_R d1 = q_R δ by rw [e2]; rfl)
  refine ok_bind (k_X12_isRow L hN (a0 := a0) (x1 := x1) k_a0 i3) (fun r7 hr8 => ?_)
  obtain ⟨i9, p10, p11, p12⟩ := hr8
  try rw [i9]
  have f13 := bo_l p10
  have f14 := ti_b r7.1
  have f15 := ti_b x1
  have f16 := cb_12_10 i3 k_a0
  have f17 : (q_I d1 12 10 a0).toInt = (q_I δ 12 10 a0).toInt := congrArg Int32.toInt (by rw [e2]; exact rI_o (by decide))
  have f18 := cb_12_10 I k_a0
  have f19 := ti_b r7.1
  refine ok_bind (k_X12_may L hN (a0 := a0) (x1 := r7.1) (x2 := (1 : Int32)) (x3 := (2 : Int32)) k_a0 (show (1 : Int) ≠ 0 by first | assumption | omega) (show 0 ≤ (2 : Int) by first | assumption | omega) (show (2 : Int) ≤ 2 by first | assumption | omega) i3) (fun r20 hr21 => ?_)
  obtain ⟨i22, ⟨u26, u27, u28⟩, p23, p24, p25⟩ := hr21
  have u29 := kp_t u4 u26
  have v30 : q_V r20.2 = q_V δ := (u27).trans v5
  have v31 := kr_t v6 u28
  have f32 := bo_l p23
  have f33 := ti_b r20.1
  have f34 := ti_b (q_I d1 12 0 a0)
  have f35 : (q_I d1 12 0 a0).toInt = (0 : Int) := congrArg Int32.toInt (show q_I d1 12 0 a0 = (0 : Int32) by rw [e2]; exact rI_s)
  have f36 := ti_b r20.1
  refine ok_ite (fun h37 => ?_) (fun h37 => ?_)
  · have c38 : r20.1.toInt = (0 : Int) := o_eq h37
    exact ok_some (show RI ad h.1 δ0 r20.2 ∧ (kp [(12, 0), (12, 36), (12, 45)] δ r20.2 ∧ q_V r20.2 = q_V δ ∧ kr ad [100, 119, 122, 123] δ r20.2) from ⟨i22, ⟨kp_w (by decide) u29, v30, kr_w (by decide) v31⟩⟩)
  · have c39 : r20.1.toInt ≠ (0 : Int) := o_ne h37
    refine ok_bind (k_X12_rows L hN (a0 := a0) (x1 := x1) k_a0 (show 1 ≤ (x1).toInt by first | assumption | omega) (show (x1).toInt ≤ 6 by first | assumption | omega) i22) (fun r40 hr41 => ?_)
    obtain ⟨i42, ⟨u43, u44, u45⟩⟩ := hr41
    have u46 := kp_t u29 u43
    have v47 : q_V r40 = q_V δ := (u44).trans v30
    have v48 := kr_t v31 u45
    refine ok_bind (k_X12_within L hN (x0 := x2) (x1 := (0 : Int32)) (x2 := (x1 - (1 : Int32)))  i42) (fun r49 hr50 => ?_)
    obtain ⟨i51, p52, p53, p54⟩ := hr50
    try rw [i51]
    have f55 := bo_l p52
    have f56 := ti_b r49.1
    have f57 := ti_b x2
    first | (have q59 := te_subc (c := 1) (n := 1) rfl x1 (by omega) (by omega); obtain ⟨f60, f61, f62⟩ := q59) | (obtain ⟨q59, f60, f61, f62⟩ := ti_subc (c := 1) (n := 1) rfl x1)
    replace p53 : ((r49.1).toInt = 1 → (0 : Int) ≤ (x2).toInt ∧ (x2).toInt ≤ ((x1 - (1 : Int32))).toInt) := p53
    replace p54 : ((r49.1).toInt = 0 → (x2).toInt < (0 : Int) ∨ ((x1 - (1 : Int32))).toInt < (x2).toInt) := p54
    have f63 := ti_b r49.1
    refine ok_ite (fun h64 => ?_) (fun h64 => ?_)
    · have c65 : r49.1.toInt = (0 : Int) := o_eq h64
      unfold J_X12_rowCall_67
      exact ok_some (show RI ad h.1 δ0 r40 ∧ (kp [(12, 0), (12, 36), (12, 45)] δ r40 ∧ q_V r40 = q_V δ ∧ kr ad [100, 119, 122, 123] δ r40) from ⟨i42, ⟨kp_w (by decide) u46, v47, kr_w (by decide) v48⟩⟩)
    · have c66 : r49.1.toInt ≠ (0 : Int) := o_ne h64
      obtain ⟨b67, o68, k69, n70, w71⟩ := gO_12_44 L k_a0
      obtain rfl := gS_12_44 L k_a0 o68
      refine ok_at o68 ?_
      have t72 := ti_tn x2
      refine ok_gd (fun hc73 => ?_) ?_
      · rcases hc73 with hc73 | hc73
        · have c74 : x2.toInt < (0 : Int) := o_lt hc73
          omega
        · omega
      refine ok_bind (k_X12_all L hN (a0 := a0) k_a0 i42) (fun r75 hr76 => ?_)
      obtain ⟨i77, p78, p79, p80, p81⟩ := hr76
      try rw [i77]
      have f82 := ti_b r75.1
      have f83 := cb_12_10 i42 k_a0
      have f84 : (q_I r40 12 10 a0).toInt = (q_I r20.2 12 10 a0).toInt := congrArg Int32.toInt (u43 12 10 a0 (by decide))
      have f85 := cb_12_10 i22 k_a0
      have f86 : (q_I r20.2 12 10 a0).toInt = (q_I d1 12 10 a0).toInt := congrArg Int32.toInt (u26 12 10 a0 (by decide))
      have f87 := ti_b r75.1
      refine ok_gd (fun hc88 => ?_) ?_
      · have c89 : r75.1.toInt = (0 : Int) := o_eq hc88
        omega
      refine ok_at o68 ?_
      refine ok_gd (fun hc90 => ?_) ?_
      · rcases hc90 with hc90 | hc90
        · have c91 : x2.toInt < (0 : Int) := o_lt hc90
          omega
        · omega
      refine ok_bind (k_X12_all L hN (a0 := a0) k_a0 i42) (fun r92 hr93 => ?_)
      obtain ⟨i94, p95, p96, p97, p98⟩ := hr93
      try rw [i94]
      have f99 := ti_b r92.1
      have f100 := ti_b r92.1
      refine ok_gd (fun hc101 => ?_) ?_
      · have c102 : r92.1.toInt = (0 : Int) := o_eq hc101
        omega
      unfold J_X12_rowCall_67
      exact ok_some (show RI ad h.1 δ0 r40 ∧ (kp [(12, 0), (12, 36), (12, 45)] δ r40 ∧ q_V r40 = q_V δ ∧ kr ad [100, 119, 122, 123] δ r40) from ⟨i42, ⟨kp_w (by decide) u46, v47, kr_w (by decide) v48⟩⟩)
