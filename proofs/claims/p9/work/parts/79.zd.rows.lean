/-! 79.zd.rows (by gen_safe.py) -/
set_option maxHeartbeats 4000000 in
theorem k_X12_rows {ad : List Nat} {h : hp} (L : Lay TLx ad h) {δ0 : dp} {N : Nat} (hN : 10000000 ≤ N) {a0 : Nat} {x1 : Int32} (k_a0 : q_K h.1 a0 = 12) {δ : dp} (z0 : 1 ≤ (x1).toInt) (z1 : (x1).toInt ≤ 6) (I : RI ad h.1 δ0 δ) : ok (D_X12_rows N h.1 a0 x1 δ) (fun r => RI ad h.1 δ0 r ∧ (kp [(12, 36), (12, 45)] δ r ∧ q_V r = q_V δ ∧ kr ad [119, 122, 123] δ r)) := by
  unfold D_X12_rows
  have f1 := ti_b x1
  have f2 := cb_12_10 I k_a0
  refine ok_ite (fun h3 => ?_) (fun h3 => ?_)
  · have c4 : (4 : Int) < (q_I δ 12 10 a0).toInt := o_lt h3
    refine ok_bind (k_X12_findTwo L hN (a0 := a0) (x1 := x1) k_a0 I) (fun r5 hr6 => ?_)
    obtain ⟨i7, ⟨u8, u9, u10⟩⟩ := hr6
    have u11 := kp_t kp_r u8
    have v12 : q_V r5 = q_V δ := (u9).trans rfl
    have v13 := kr_t (kr_r (ad := ad)) u10
    unfold J_X12_rows_21
    exact ok_some (show RI ad h.1 δ0 r5 ∧ (kp [(12, 36), (12, 45)] δ r5 ∧ q_V r5 = q_V δ ∧ kr ad [119, 122, 123] δ r5) from ⟨i7, ⟨kp_w (by decide) u11, v12, kr_w (by decide) v13⟩⟩)
  · have c14 : (q_I δ 12 10 a0).toInt ≤ (4 : Int) := o_nlt h3
    refine ok_bind (k_X12_findRow L hN (a0 := a0) (x1 := x1) k_a0 (show (q_I δ 12 10 a0).toInt ≤ 4 by first | with_reducible assumption | omega) (show 1 ≤ (x1).toInt by first | with_reducible assumption | omega) (show (x1).toInt ≤ 6 by first | with_reducible assumption | omega) I) (fun r15 hr16 => ?_)
    obtain ⟨i17, ⟨u18, u19, u20⟩⟩ := hr16
    have u21 := kp_t kp_r u18
    have v22 : q_V r15 = q_V δ := (u19).trans rfl
    have v23 := kr_t (kr_r (ad := ad)) u20
    unfold J_X12_rows_21
    exact ok_some (show RI ad h.1 δ0 r15 ∧ (kp [(12, 36), (12, 45)] δ r15 ∧ q_V r15 = q_V δ ∧ kr ad [119, 122, 123] δ r15) from ⟨i17, ⟨kp_w (by decide) u21, v22, kr_w (by decide) v23⟩⟩)
set_option maxHeartbeats 4000000 in
theorem k_X12_row {ad : List Nat} {h : hp} (L : Lay TLx ad h) {δ0 : dp} {N : Nat} (hN : 10000000 ≤ N) {a0 : Nat} {x1 : Int32} (k_a0 : q_K h.1 a0 = 12) {δ : dp} (I : RI ad h.1 δ0 δ) : ok (D_X12_row N h.1 a0 x1 δ) (fun r => RI ad h.1 δ0 r.2 ∧ (kp [(12, 0), (12, 36), (12, 45)] δ r.2 ∧ q_V r.2 = q_V δ ∧ kr ad [100, 119, 122, 123] δ r.2)) := by
  unfold D_X12_row
  refine ok_bdv (fun d1 e2 => ?_)
  have i3 : RI ad h.1 δ0 d1 := by rw [e2]; exact cs_12_0 L I
  have u4 := kp_I kp_r e2
  have v5 : q_V d1 = q_V δ := ((show q_V d1 = q_V δ by rw [e2]; rfl)).trans rfl
  have v6 := kr_N (kr_r (ad := ad)) (show q_R d1 = q_R δ by rw [e2]; rfl)
  refine ok_bind (k_X12_isRow L hN (a0 := a0) (x1 := x1) k_a0 i3) (fun r7 hr8 => ?_)
  obtain ⟨i9, p10, p11, p12⟩ := hr8
  try rw [i9]
  have f13 := bo_l p10
  have f14 := ti_b r7.1
  have f15 := ti_b x1
  have f16 : (q_I d1 12 10 a0).toInt = (q_I δ 12 10 a0).toInt := congrArg Int32.toInt (by rw [e2]; exact rI_o (by decide))
  have f17 := cb_12_10 I k_a0
  refine ok_bind (k_X12_may L hN (a0 := a0) (x1 := r7.1) (x2 := (1 : Int32)) (x3 := (2 : Int32)) k_a0 (show (1 : Int) ≠ 0 by first | with_reducible assumption | omega) (show 0 ≤ (2 : Int) by first | with_reducible assumption | omega) (show (2 : Int) ≤ 2 by first | with_reducible assumption | omega) i3) (fun r18 hr19 => ?_)
  obtain ⟨i20, ⟨u24, u25, u26⟩, p21, p22, p23⟩ := hr19
  have u27 := kp_t u4 u24
  have v28 : q_V r18.2 = q_V δ := (u25).trans v5
  have v29 := kr_t v6 u26
  have f30 := bo_l p21
  have f31 := ti_b r18.1
  have f32 := ti_b (q_I d1 12 0 a0)
  have f33 : (q_I d1 12 0 a0).toInt = (0 : Int) := congrArg Int32.toInt (show q_I d1 12 0 a0 = (0 : Int32) by rw [e2]; exact rI_s)
  refine ok_ite (fun h34 => ?_) (fun h34 => ?_)
  · have c35 : r18.1.toInt = (0 : Int) := o_eq h34
    exact ok_some (show RI ad h.1 δ0 r18.2 ∧ (kp [(12, 0), (12, 36), (12, 45)] δ r18.2 ∧ q_V r18.2 = q_V δ ∧ kr ad [100, 119, 122, 123] δ r18.2) from ⟨i20, ⟨kp_w (by decide) u27, v28, kr_w (by decide) v29⟩⟩)
  · have c36 : r18.1.toInt ≠ (0 : Int) := o_ne h34
    refine ok_bind (k_X12_rows L hN (a0 := a0) (x1 := x1) k_a0 (show 1 ≤ (x1).toInt by first | with_reducible assumption | omega) (show (x1).toInt ≤ 6 by first | with_reducible assumption | omega) i20) (fun r37 hr38 => ?_)
    obtain ⟨i39, ⟨u40, u41, u42⟩⟩ := hr38
    have u43 := kp_t u27 u40
    have v44 : q_V r37 = q_V δ := (u41).trans v28
    have v45 := kr_t v29 u42
    exact ok_some (show RI ad h.1 δ0 r37 ∧ (kp [(12, 0), (12, 36), (12, 45)] δ r37 ∧ q_V r37 = q_V δ ∧ kr ad [100, 119, 122, 123] δ r37) from ⟨i39, ⟨kp_w (by decide) u43, v44, kr_w (by decide) v45⟩⟩)
set_option maxHeartbeats 4000000 in
theorem k_X12_rowCall {ad : List Nat} {h : hp} (L : Lay TLx ad h) {δ0 : dp} {N : Nat} (hN : 10000000 ≤ N) {a0 : Nat} {x1 : Int32} {x2 : Int32} (k_a0 : q_K h.1 a0 = 12) {δ : dp} (I : RI ad h.1 δ0 δ) : ok (D_X12_rowCall N h.1 a0 x1 x2 δ) (fun r => RI ad h.1 δ0 r.2 ∧ (kp [(12, 0), (12, 36), (12, 45)] δ r.2 ∧ q_V r.2 = q_V δ ∧ kr ad [100, 119, 122, 123] δ r.2)) := by
  unfold D_X12_rowCall
  refine ok_bdv (fun d1 e2 => ?_)
  have i3 : RI ad h.1 δ0 d1 := by rw [e2]; exact cs_12_0 L I
  have u4 := kp_I kp_r e2
  have v5 : q_V d1 = q_V δ := ((show q_V d1 = q_V δ by rw [e2]; rfl)).trans rfl
  have v6 := kr_N (kr_r (ad := ad)) (show q_R d1 = q_R δ by rw [e2]; rfl)
  refine ok_bind (k_X12_isRow L hN (a0 := a0) (x1 := x1) k_a0 i3) (fun r7 hr8 => ?_)
  obtain ⟨i9, p10, p11, p12⟩ := hr8
  try rw [i9]
  have f13 := bo_l p10
  have f14 := ti_b r7.1
  have f15 := ti_b x1
  have f16 : (q_I d1 12 10 a0).toInt = (q_I δ 12 10 a0).toInt := congrArg Int32.toInt (by rw [e2]; exact rI_o (by decide))
  have f17 := cb_12_10 I k_a0
  refine ok_bind (k_X12_may L hN (a0 := a0) (x1 := r7.1) (x2 := (1 : Int32)) (x3 := (2 : Int32)) k_a0 (show (1 : Int) ≠ 0 by first | with_reducible assumption | omega) (show 0 ≤ (2 : Int) by first | with_reducible assumption | omega) (show (2 : Int) ≤ 2 by first | with_reducible assumption | omega) i3) (fun r18 hr19 => ?_)
  obtain ⟨i20, ⟨u24, u25, u26⟩, p21, p22, p23⟩ := hr19
  have u27 := kp_t u4 u24
  have v28 : q_V r18.2 = q_V δ := (u25).trans v5
  have v29 := kr_t v6 u26
  have f30 := bo_l p21
  have f31 := ti_b r18.1
  have f32 := ti_b (q_I d1 12 0 a0)
  have f33 : (q_I d1 12 0 a0).toInt = (0 : Int) := congrArg Int32.toInt (show q_I d1 12 0 a0 = (0 : Int32) by rw [e2]; exact rI_s)
  refine ok_ite (fun h34 => ?_) (fun h34 => ?_)
  · have c35 : r18.1.toInt = (0 : Int) := o_eq h34
    exact ok_some (show RI ad h.1 δ0 r18.2 ∧ (kp [(12, 0), (12, 36), (12, 45)] δ r18.2 ∧ q_V r18.2 = q_V δ ∧ kr ad [100, 119, 122, 123] δ r18.2) from ⟨i20, ⟨kp_w (by decide) u27, v28, kr_w (by decide) v29⟩⟩)
  · have c36 : r18.1.toInt ≠ (0 : Int) := o_ne h34
    refine ok_bind (k_X12_rows L hN (a0 := a0) (x1 := x1) k_a0 (show 1 ≤ (x1).toInt by first | with_reducible assumption | omega) (show (x1).toInt ≤ 6 by first | with_reducible assumption | omega) i20) (fun r37 hr38 => ?_)
    obtain ⟨i39, ⟨u40, u41, u42⟩⟩ := hr38
    have u43 := kp_t u27 u40
    have v44 : q_V r37 = q_V δ := (u41).trans v28
    have v45 := kr_t v29 u42
    refine ok_bind (k_X12_within L hN (x0 := x2) (x1 := (0 : Int32)) (x2 := (x1 - (1 : Int32)))  i39) (fun r46 hr47 => ?_)
    obtain ⟨i48, p49, p50, p51⟩ := hr47
    try rw [i48]
    have f52 := bo_l p49
    have f53 := ti_b r46.1
    have f54 := ti_b x2
    first | (have q56 := te_subc (c := 1) (n := 1) rfl x1 (by omega) (by omega); obtain ⟨f57, f58, f59⟩ := q56) | (obtain ⟨q56, f57, f58, f59⟩ := ti_subc (c := 1) (n := 1) rfl x1)
    replace p50 : ((r46.1).toInt = 1 → (0 : Int) ≤ (x2).toInt ∧ (x2).toInt ≤ ((x1 - (1 : Int32))).toInt) := p50
    replace p51 : ((r46.1).toInt = 0 → (x2).toInt < (0 : Int) ∨ ((x1 - (1 : Int32))).toInt < (x2).toInt) := p51
    refine ok_ite (fun h60 => ?_) (fun h60 => ?_)
    · have c61 : r46.1.toInt = (0 : Int) := o_eq h60
      unfold J_X12_rowCall_67
      exact ok_some (show RI ad h.1 δ0 r37 ∧ (kp [(12, 0), (12, 36), (12, 45)] δ r37 ∧ q_V r37 = q_V δ ∧ kr ad [100, 119, 122, 123] δ r37) from ⟨i39, ⟨kp_w (by decide) u43, v44, kr_w (by decide) v45⟩⟩)
    · have c62 : r46.1.toInt ≠ (0 : Int) := o_ne h60
      obtain ⟨b63, o64, k65, n66, w67⟩ := gO_12_44 L k_a0
      obtain rfl := gS_12_44 L k_a0 o64
      refine ok_at o64 ?_
      have t68 := ti_tn x2
      refine ok_gd (fun hc69 => ?_) ?_
      · rcases hc69 with hc69 | hc69
        · have c70 : x2.toInt < (0 : Int) := o_lt hc69
          omega
        · omega
      refine ok_bind (k_X12_all L hN (a0 := a0) k_a0 i39) (fun r71 hr72 => ?_)
      obtain ⟨i73, p74, p75, p76, p77⟩ := hr72
      try rw [i73]
      have f78 := ti_b r71.1
      have f79 : (q_I r37 12 10 a0).toInt = (q_I d1 12 10 a0).toInt := ((show (q_I r37 12 10 a0).toInt = (q_I r18.2 12 10 a0).toInt from congrArg Int32.toInt (u40 12 10 a0 (by decide))).trans (show (q_I r18.2 12 10 a0).toInt = (q_I d1 12 10 a0).toInt from congrArg Int32.toInt (u24 12 10 a0 (by decide))))
      refine ok_gd (fun hc80 => ?_) ?_
      · have c81 : r71.1.toInt = (0 : Int) := o_eq hc80
        omega
      refine ok_at o64 ?_
      refine ok_gd (fun hc82 => ?_) ?_
      · rcases hc82 with hc82 | hc82
        · have c83 : x2.toInt < (0 : Int) := o_lt hc82
          omega
        · omega
      refine ok_bind (k_X12_all L hN (a0 := a0) k_a0 i39) (fun r84 hr85 => ?_)
      obtain ⟨i86, p87, p88, p89, p90⟩ := hr85
      try rw [i86]
      have f91 := ti_b r84.1
      refine ok_gd (fun hc92 => ?_) ?_
      · have c93 : r84.1.toInt = (0 : Int) := o_eq hc92
        omega
      unfold J_X12_rowCall_67
      exact ok_some (show RI ad h.1 δ0 r37 ∧ (kp [(12, 0), (12, 36), (12, 45)] δ r37 ∧ q_V r37 = q_V δ ∧ kr ad [100, 119, 122, 123] δ r37) from ⟨i39, ⟨kp_w (by decide) u43, v44, kr_w (by decide) v45⟩⟩)
