section
/-! 71.kX11b (by gen_safe.py) -/
set_option maxHeartbeats 4000000 in
theorem k_X11_told {ad : List Nat} {h : hp} (L : Lay TLx ad h) {δ0 : dp} {N : Nat} (hN : 10000000 ≤ N) {a0 : Nat} {x1 : Int32} (k_a0 : q_K h.1 a0 = 11) {δ : dp} (I : CI ad h.1 δ0 δ) : ok (D_X11_told N h.1 a0 x1 δ) (fun r => CI ad h.1 δ0 r.2 ∧ (kp [] δ r.2 ∧ q_V r.2 = q_V δ) ∧ match r.1 with | .inl v => True | .inr n => ((n = 2) ∧ True)) := by
  unfold D_X11_told
  have f1 := ti_b x1
  refine ok_ite (fun h2 => ?_) (fun h2 => ?_)
  · have c3 : x1.toInt < (0 : Int) := o_lt h2
    unfold J_X11_told_14
    unfold J_X11_told_15
    refine ok_bxv (k_X11_need L hN (a0 := a0) (x1 := (0 : Int32)) k_a0 I) (fun n d hp => (show CI ad h.1 δ0 d ∧ (kp [] δ d ∧ q_V d = q_V δ) ∧ ((n = 2) ∧ True) from ⟨hp.1, ⟨kp_w (by decide) (kp_t kp_r hp.2.1.1), (hp.2.1.2).trans rfl⟩, (by have hq : n = 2 := hp.2.2.1; omega), trivial⟩)) (fun d4 hp5 => ?_)
    obtain ⟨i6, ⟨u7, u8⟩, p9⟩ := hp5
    have u10 := kp_t kp_r u7
    have v11 : q_V d4 = q_V δ := (u8).trans rfl
    exact absurd rfl (show (0 : Int) ≠ 0 from p9)
  · have c12 : (0 : Int) ≤ x1.toInt := o_nlt h2
    refine ok_ite (fun h13 => ?_) (fun h13 => ?_)
    · have c14 : (3 : Int) < x1.toInt := o_lt h13
      unfold J_X11_told_14
      unfold J_X11_told_15
      refine ok_bxv (k_X11_need L hN (a0 := a0) (x1 := (0 : Int32)) k_a0 I) (fun n d hp => (show CI ad h.1 δ0 d ∧ (kp [] δ d ∧ q_V d = q_V δ) ∧ ((n = 2) ∧ True) from ⟨hp.1, ⟨kp_w (by decide) (kp_t kp_r hp.2.1.1), (hp.2.1.2).trans rfl⟩, (by have hq : n = 2 := hp.2.2.1; omega), trivial⟩)) (fun d15 hp16 => ?_)
      obtain ⟨i17, ⟨u18, u19⟩, p20⟩ := hp16
      have u21 := kp_t kp_r u18
      have v22 : q_V d15 = q_V δ := (u19).trans rfl
      exact absurd rfl (show (0 : Int) ≠ 0 from p20)
    · have c23 : x1.toInt ≤ (3 : Int) := o_nlt h13
      unfold J_X11_told_15
      refine ok_bxv (k_X11_need L hN (a0 := a0) (x1 := (1 : Int32)) k_a0 I) (fun n d hp => (show CI ad h.1 δ0 d ∧ (kp [] δ d ∧ q_V d = q_V δ) ∧ ((n = 2) ∧ True) from ⟨hp.1, ⟨kp_w (by decide) (kp_t kp_r hp.2.1.1), (hp.2.1.2).trans rfl⟩, (by have hq : n = 2 := hp.2.2.1; omega), trivial⟩)) (fun d24 hp25 => ?_)
      obtain ⟨i26, ⟨u27, u28⟩, p29⟩ := hp25
      have u30 := kp_t kp_r u27
      have v31 : q_V d24 = q_V δ := (u28).trans rfl
      replace p29 : (1 : Int) ≠ 0 := p29
      refine ok_ite (fun h32 => ?_) (fun h32 => ?_)
      · have c33 : x1.toInt = (0 : Int) := o_eq h32
        obtain ⟨b34, o35, k36⟩ := gO_11_1 L k_a0
        refine ok_at o35 ?_
        exact ok_some (show CI ad h.1 δ0 d24 ∧ (kp [] δ d24 ∧ q_V d24 = q_V δ) ∧ True from ⟨i26, ⟨kp_w (by decide) u30, v31⟩, trivial⟩)
      · have c37 : x1.toInt ≠ (0 : Int) := o_ne h32
        refine ok_ite (fun h38 => ?_) (fun h38 => ?_)
        · have c39 : x1.toInt = (1 : Int) := o_eq h38
          obtain ⟨b40, o41, k42⟩ := gO_11_1 L k_a0
          refine ok_at o41 ?_
          have f43 : (q_I d24 5 1 b40).toInt = (q_I δ 5 1 b40).toInt := congrArg Int32.toInt (u27 5 1 b40 (by decide))
          have f44 := cb_5_1 I k42
          refine ok_ite (fun h45 => ?_) (fun h45 => ?_)
          · have c46 : (q_I d24 5 1 b40).toInt = (0 : Int) := o_eq h45
            unfold J_X11_told_50
            exact ok_some (show CI ad h.1 δ0 d24 ∧ (kp [] δ d24 ∧ q_V d24 = q_V δ) ∧ True from ⟨i26, ⟨kp_w (by decide) u30, v31⟩, trivial⟩)
          · have c47 : (q_I d24 5 1 b40).toInt ≠ (0 : Int) := o_ne h45
            unfold J_X11_told_50
            exact ok_some (show CI ad h.1 δ0 d24 ∧ (kp [] δ d24 ∧ q_V d24 = q_V δ) ∧ True from ⟨i26, ⟨kp_w (by decide) u30, v31⟩, trivial⟩)
        · have c48 : x1.toInt ≠ (1 : Int) := o_ne h38
          refine ok_ite (fun h49 => ?_) (fun h49 => ?_)
          · have c50 : x1.toInt = (2 : Int) := o_eq h49
            obtain ⟨b51, o52, k53⟩ := gO_11_1 L k_a0
            refine ok_at o52 ?_
            unfold J_X11_told_70
            exact ok_some (show CI ad h.1 δ0 d24 ∧ (kp [] δ d24 ∧ q_V d24 = q_V δ) ∧ True from ⟨i26, ⟨kp_w (by decide) u30, v31⟩, trivial⟩)
          · have c54 : x1.toInt ≠ (2 : Int) := o_ne h49
            unfold J_X11_told_70
            exact ok_some (show CI ad h.1 δ0 d24 ∧ (kp [] δ d24 ∧ q_V d24 = q_V δ) ∧ True from ⟨i26, ⟨kp_w (by decide) u30, v31⟩, trivial⟩)
set_option maxHeartbeats 4000000 in
theorem k_X11_of {ad : List Nat} {h : hp} (L : Lay TLx ad h) {δ0 : dp} {N : Nat} (hN : 10000000 ≤ N) {a0 : Nat} {x1 : Int32} {x2 : Int32} (k_a0 : q_K h.1 a0 = 11) {δ : dp} (I : CI ad h.1 δ0 δ) : ok (D_X11_of N h.1 a0 x1 x2 δ) (fun r => CI ad h.1 δ0 r.2 ∧ (kp [] δ r.2 ∧ q_V r.2 = q_V δ) ∧ match r.1 with | .inl v => True | .inr n => ((n = 0 ∨ n = 2) ∧ True)) := by
  unfold D_X11_of
  refine ok_bxv (k_X11_needHouse L hN (a0 := a0) (x1 := x1) k_a0 I) (fun n d hp => (show CI ad h.1 δ0 d ∧ (kp [] δ d ∧ q_V d = q_V δ) ∧ ((n = 0 ∨ n = 2) ∧ True) from ⟨hp.1, ⟨kp_w (by decide) (kp_t kp_r hp.2.1.1), (hp.2.1.2).trans rfl⟩, (by have hq : n = 0 := hp.2.2.1; omega), trivial⟩)) (fun d1 hp2 => ?_)
  obtain ⟨i3, ⟨u4, u5⟩, p6, p7⟩ := hp2
  have u8 := kp_t kp_r u4
  have v9 : q_V d1 = q_V δ := (u5).trans rfl
  have f10 := ti_b x1
  have f11 := ti_b x2
  refine ok_ite (fun h12 => ?_) (fun h12 => ?_)
  · have c13 : x2.toInt < (0 : Int) := o_lt h12
    unfold J_X11_of_19
    unfold J_X11_of_20
    refine ok_bxv (k_X11_need L hN (a0 := a0) (x1 := (0 : Int32)) k_a0 i3) (fun n d hp => (show CI ad h.1 δ0 d ∧ (kp [] δ d ∧ q_V d = q_V δ) ∧ ((n = 0 ∨ n = 2) ∧ True) from ⟨hp.1, ⟨kp_w (by decide) (kp_t u8 hp.2.1.1), (hp.2.1.2).trans v9⟩, (by have hq : n = 2 := hp.2.2.1; omega), trivial⟩)) (fun d14 hp15 => ?_)
    obtain ⟨i16, ⟨u17, u18⟩, p19⟩ := hp15
    have u20 := kp_t u8 u17
    have v21 : q_V d14 = q_V δ := (u18).trans v9
    exact absurd rfl (show (0 : Int) ≠ 0 from p19)
  · have c22 : (0 : Int) ≤ x2.toInt := o_nlt h12
    refine ok_ite (fun h23 => ?_) (fun h23 => ?_)
    · have c24 : (3 : Int) < x2.toInt := o_lt h23
      unfold J_X11_of_19
      unfold J_X11_of_20
      refine ok_bxv (k_X11_need L hN (a0 := a0) (x1 := (0 : Int32)) k_a0 i3) (fun n d hp => (show CI ad h.1 δ0 d ∧ (kp [] δ d ∧ q_V d = q_V δ) ∧ ((n = 0 ∨ n = 2) ∧ True) from ⟨hp.1, ⟨kp_w (by decide) (kp_t u8 hp.2.1.1), (hp.2.1.2).trans v9⟩, (by have hq : n = 2 := hp.2.2.1; omega), trivial⟩)) (fun d25 hp26 => ?_)
      obtain ⟨i27, ⟨u28, u29⟩, p30⟩ := hp26
      have u31 := kp_t u8 u28
      have v32 : q_V d25 = q_V δ := (u29).trans v9
      exact absurd rfl (show (0 : Int) ≠ 0 from p30)
    · have c33 : x2.toInt ≤ (3 : Int) := o_nlt h23
      unfold J_X11_of_20
      refine ok_bxv (k_X11_need L hN (a0 := a0) (x1 := (1 : Int32)) k_a0 i3) (fun n d hp => (show CI ad h.1 δ0 d ∧ (kp [] δ d ∧ q_V d = q_V δ) ∧ ((n = 0 ∨ n = 2) ∧ True) from ⟨hp.1, ⟨kp_w (by decide) (kp_t u8 hp.2.1.1), (hp.2.1.2).trans v9⟩, (by have hq : n = 2 := hp.2.2.1; omega), trivial⟩)) (fun d34 hp35 => ?_)
      obtain ⟨i36, ⟨u37, u38⟩, p39⟩ := hp35
      have u40 := kp_t u8 u37
      have v41 : q_V d34 = q_V δ := (u38).trans v9
      replace p39 : (1 : Int) ≠ 0 := p39
      refine ok_ite (fun h42 => ?_) (fun h42 => ?_)
      · have c43 : x2.toInt = (3 : Int) := o_eq h42
        obtain ⟨b44, o45, k46, n47, w48⟩ := gO_11_6 L k_a0
        refine ok_at o45 ?_
        have t49 := ti_tn x1
        refine ok_gd (fun hc50 => ?_) ?_
        · rcases hc50 with hc50 | hc50
          · have c51 : x1.toInt < (0 : Int) := o_lt hc50
            omega
          · omega
        obtain ⟨b52, o53, k54⟩ := gE_11_6 L k_a0 o45 (i := x1.toNatClampNeg) (by omega)
        refine ok_at o53 ?_
        unfold J_X11_of_53
        exact ok_some (show CI ad h.1 δ0 d34 ∧ (kp [] δ d34 ∧ q_V d34 = q_V δ) ∧ True from ⟨i36, ⟨kp_w (by decide) u40, v41⟩, trivial⟩)
      · have c55 : x2.toInt ≠ (3 : Int) := o_ne h42
        obtain ⟨b56, o57, k58, n59, w60⟩ := gO_11_6 L k_a0
        refine ok_at o57 ?_
        have t61 := ti_tn x1
        refine ok_gd (fun hc62 => ?_) ?_
        · rcases hc62 with hc62 | hc62
          · have c63 : x1.toInt < (0 : Int) := o_lt hc62
            omega
          · omega
        obtain ⟨b64, o65, k66⟩ := gE_11_6 L k_a0 o57 (i := x1.toNatClampNeg) (by omega)
        refine ok_at o65 ?_
        obtain ⟨b67, o68, k69⟩ := gO_2_0 L k66
        refine ok_at o68 ?_
        refine ok_bind (k_X3_tell L hN (a0 := b67) (x1 := x2) k69 i36) (fun r70 hr71 => ?_)
        have i72 := hr71
        try rw [i72]
        have f73 := ti_b r70.1
        unfold J_X11_of_53
        exact ok_some (show CI ad h.1 δ0 d34 ∧ (kp [] δ d34 ∧ q_V d34 = q_V δ) ∧ True from ⟨i36, ⟨kp_w (by decide) u40, v41⟩, trivial⟩)
set_option maxHeartbeats 4000000 in
theorem k_X11_next {ad : List Nat} {h : hp} (L : Lay TLx ad h) {δ0 : dp} {N : Nat} (hN : 10000000 ≤ N) {a0 : Nat} {x1 : Int32} {x2 : Int32} (k_a0 : q_K h.1 a0 = 11) {δ : dp} (I : CI ad h.1 δ0 δ) : ok (D_X11_next N h.1 a0 x1 x2 δ) (fun r => CI ad h.1 δ0 r.2 ∧ (kp [] δ r.2 ∧ q_V r.2 = q_V δ) ∧ match r.1 with | .inl v => True | .inr n => ((n = 0 ∨ n = 2) ∧ True)) := by
  unfold D_X11_next
  refine ok_bxv (k_X11_needHouse L hN (a0 := a0) (x1 := x1) k_a0 I) (fun n d hp => (show CI ad h.1 δ0 d ∧ (kp [] δ d ∧ q_V d = q_V δ) ∧ ((n = 0 ∨ n = 2) ∧ True) from ⟨hp.1, ⟨kp_w (by decide) (kp_t kp_r hp.2.1.1), (hp.2.1.2).trans rfl⟩, (by have hq : n = 0 := hp.2.2.1; omega), trivial⟩)) (fun d1 hp2 => ?_)
  obtain ⟨i3, ⟨u4, u5⟩, p6, p7⟩ := hp2
  have u8 := kp_t kp_r u4
  have v9 : q_V d1 = q_V δ := (u5).trans rfl
  have f10 := ti_b x1
  refine ok_bind (k_X11_mayAsk L hN (a0 := a0) (x1 := (3 : Int32)) (x2 := x2) k_a0 i3) (fun r11 hr12 => ?_)
  obtain ⟨i13, p14⟩ := hr12
  try rw [i13]
  have f15 := bo_t p14
  have f16 := ti_b r11.1
  refine ok_bxv (k_X11_need L hN (a0 := a0) (x1 := r11.1) k_a0 i3) (fun n d hp => (show CI ad h.1 δ0 d ∧ (kp [] δ d ∧ q_V d = q_V δ) ∧ ((n = 0 ∨ n = 2) ∧ True) from ⟨hp.1, ⟨kp_w (by decide) (kp_t u8 hp.2.1.1), (hp.2.1.2).trans v9⟩, (by have hq : n = 2 := hp.2.2.1; omega), trivial⟩)) (fun d17 hp18 => ?_)
  obtain ⟨i19, ⟨u20, u21⟩, p22⟩ := hp18
  have u23 := kp_t u8 u20
  have v24 : q_V d17 = q_V δ := (u21).trans v9
  obtain ⟨b25, o26, k27, n28, w29⟩ := gO_11_6 L k_a0
  refine ok_at o26 ?_
  have t30 := ti_tn x1
  refine ok_gd (fun hc31 => ?_) ?_
  · rcases hc31 with hc31 | hc31
    · have c32 : x1.toInt < (0 : Int) := o_lt hc31
      omega
    · omega
  obtain ⟨b33, o34, k35⟩ := gE_11_6 L k_a0 o26 (i := x1.toNatClampNeg) (by omega)
  refine ok_at o34 ?_
  obtain ⟨b36, o37, k38⟩ := gO_2_0 L k35
  refine ok_at o37 ?_
  refine ok_bind (k_X3_above L hN (a0 := b36) (x1 := x2) k38 i19) (fun r39 hr40 => ?_)
  have i41 := hr40
  try rw [i41]
  have f42 := ti_b r39.1
  exact ok_some (show CI ad h.1 δ0 d17 ∧ (kp [] δ d17 ∧ q_V d17 = q_V δ) ∧ True from ⟨i19, ⟨kp_w (by decide) u23, v24⟩, trivial⟩)
set_option maxHeartbeats 4000000 in
theorem k_X11_before {ad : List Nat} {h : hp} (L : Lay TLx ad h) {δ0 : dp} {N : Nat} (hN : 10000000 ≤ N) {a0 : Nat} {x1 : Int32} {x2 : Int32} (k_a0 : q_K h.1 a0 = 11) {δ : dp} (I : CI ad h.1 δ0 δ) : ok (D_X11_before N h.1 a0 x1 x2 δ) (fun r => CI ad h.1 δ0 r.2 ∧ (kp [] δ r.2 ∧ q_V r.2 = q_V δ) ∧ match r.1 with | .inl v => True | .inr n => ((n = 0 ∨ n = 2) ∧ True)) := by
  unfold D_X11_before
  refine ok_bxv (k_X11_needHouse L hN (a0 := a0) (x1 := x1) k_a0 I) (fun n d hp => (show CI ad h.1 δ0 d ∧ (kp [] δ d ∧ q_V d = q_V δ) ∧ ((n = 0 ∨ n = 2) ∧ True) from ⟨hp.1, ⟨kp_w (by decide) (kp_t kp_r hp.2.1.1), (hp.2.1.2).trans rfl⟩, (by have hq : n = 0 := hp.2.2.1; omega), trivial⟩)) (fun d1 hp2 => ?_)
  obtain ⟨i3, ⟨u4, u5⟩, p6, p7⟩ := hp2
  have u8 := kp_t kp_r u4
  have v9 : q_V d1 = q_V δ := (u5).trans rfl
  have f10 := ti_b x1
  refine ok_bind (k_X11_mayAsk L hN (a0 := a0) (x1 := (4 : Int32)) (x2 := x2) k_a0 i3) (fun r11 hr12 => ?_)
  obtain ⟨i13, p14⟩ := hr12
  try rw [i13]
  have f15 := bo_t p14
  have f16 := ti_b r11.1
  refine ok_bxv (k_X11_need L hN (a0 := a0) (x1 := r11.1) k_a0 i3) (fun n d hp => (show CI ad h.1 δ0 d ∧ (kp [] δ d ∧ q_V d = q_V δ) ∧ ((n = 0 ∨ n = 2) ∧ True) from ⟨hp.1, ⟨kp_w (by decide) (kp_t u8 hp.2.1.1), (hp.2.1.2).trans v9⟩, (by have hq : n = 2 := hp.2.2.1; omega), trivial⟩)) (fun d17 hp18 => ?_)
  obtain ⟨i19, ⟨u20, u21⟩, p22⟩ := hp18
  have u23 := kp_t u8 u20
  have v24 : q_V d17 = q_V δ := (u21).trans v9
  obtain ⟨b25, o26, k27, n28, w29⟩ := gO_11_6 L k_a0
  refine ok_at o26 ?_
  have t30 := ti_tn x1
  refine ok_gd (fun hc31 => ?_) ?_
  · rcases hc31 with hc31 | hc31
    · have c32 : x1.toInt < (0 : Int) := o_lt hc31
      omega
    · omega
  obtain ⟨b33, o34, k35⟩ := gE_11_6 L k_a0 o26 (i := x1.toNatClampNeg) (by omega)
  refine ok_at o34 ?_
  obtain ⟨b36, o37, k38⟩ := gO_2_0 L k35
  refine ok_at o37 ?_
  refine ok_bind (k_X3_below L hN (a0 := b36) (x1 := x2) k38 i19) (fun r39 hr40 => ?_)
  have i41 := hr40
  try rw [i41]
  have f42 := ti_b r39.1
  exact ok_some (show CI ad h.1 δ0 d17 ∧ (kp [] δ d17 ∧ q_V d17 = q_V δ) ∧ True from ⟨i19, ⟨kp_w (by decide) u23, v24⟩, trivial⟩)
set_option maxHeartbeats 4000000 in
theorem k_X11_kth {ad : List Nat} {h : hp} (L : Lay TLx ad h) {δ0 : dp} {N : Nat} (hN : 10000000 ≤ N) {a0 : Nat} {x1 : Int32} {x2 : Int32} (k_a0 : q_K h.1 a0 = 11) {δ : dp} (I : CI ad h.1 δ0 δ) : ok (D_X11_kth N h.1 a0 x1 x2 δ) (fun r => CI ad h.1 δ0 r.2 ∧ (kp [] δ r.2 ∧ q_V r.2 = q_V δ) ∧ match r.1 with | .inl v => True | .inr n => ((n = 0) ∧ True)) := by
  unfold D_X11_kth
  refine ok_bxv (k_X11_needHouse L hN (a0 := a0) (x1 := x1) k_a0 I) (fun n d hp => (show CI ad h.1 δ0 d ∧ (kp [] δ d ∧ q_V d = q_V δ) ∧ ((n = 0) ∧ True) from ⟨hp.1, ⟨kp_w (by decide) (kp_t kp_r hp.2.1.1), (hp.2.1.2).trans rfl⟩, (by have hq : n = 0 := hp.2.2.1; omega), trivial⟩)) (fun d1 hp2 => ?_)
  obtain ⟨i3, ⟨u4, u5⟩, p6, p7⟩ := hp2
  have u8 := kp_t kp_r u4
  have v9 : q_V d1 = q_V δ := (u5).trans rfl
  have f10 := ti_b x1
  obtain ⟨b11, o12, k13, n14, w15⟩ := gO_11_6 L k_a0
  refine ok_at o12 ?_
  have t16 := ti_tn x1
  refine ok_gd (fun hc17 => ?_) ?_
  · rcases hc17 with hc17 | hc17
    · have c18 : x1.toInt < (0 : Int) := o_lt hc17
      omega
    · omega
  obtain ⟨b19, o20, k21⟩ := gE_11_6 L k_a0 o12 (i := x1.toNatClampNeg) (by omega)
  refine ok_at o20 ?_
  obtain ⟨b22, o23, k24⟩ := gO_2_0 L k21
  refine ok_at o23 ?_
  refine ok_bind (k_X3_at L hN (a0 := b22) (x1 := x2) k24 i3) (fun r25 hr26 => ?_)
  have i27 := hr26
  try rw [i27]
  have f28 := ti_b r25.1
  exact ok_some (show CI ad h.1 δ0 d1 ∧ (kp [] δ d1 ∧ q_V d1 = q_V δ) ∧ True from ⟨i3, ⟨kp_w (by decide) u8, v9⟩, trivial⟩)
set_option maxHeartbeats 4000000 in
theorem k_X11_between {ad : List Nat} {h : hp} (L : Lay TLx ad h) {δ0 : dp} {N : Nat} (hN : 10000000 ≤ N) {a0 : Nat} {x1 : Int32} {x2 : Int32} {x3 : Int32} (k_a0 : q_K h.1 a0 = 11) {δ : dp} (I : CI ad h.1 δ0 δ) : ok (D_X11_between N h.1 a0 x1 x2 x3 δ) (fun r => CI ad h.1 δ0 r.2 ∧ (kp [] δ r.2 ∧ q_V r.2 = q_V δ) ∧ match r.1 with | .inl v => True | .inr n => ((n = 0 ∨ n = 2) ∧ True)) := by
  unfold D_X11_between
  refine ok_bxv (k_X11_needHouse L hN (a0 := a0) (x1 := x1) k_a0 I) (fun n d hp => (show CI ad h.1 δ0 d ∧ (kp [] δ d ∧ q_V d = q_V δ) ∧ ((n = 0 ∨ n = 2) ∧ True) from ⟨hp.1, ⟨kp_w (by decide) (kp_t kp_r hp.2.1.1), (hp.2.1.2).trans rfl⟩, (by have hq : n = 0 := hp.2.2.1; omega), trivial⟩)) (fun d1 hp2 => ?_)
  obtain ⟨i3, ⟨u4, u5⟩, p6, p7⟩ := hp2
  have u8 := kp_t kp_r u4
  have v9 : q_V d1 = q_V δ := (u5).trans rfl
  have f10 := ti_b x1
  refine ok_bind (k_X11_isNumber L hN (a0 := a0) (x1 := x2) k_a0 i3) (fun r11 hr12 => ?_)
  obtain ⟨i13, p14⟩ := hr12
  try rw [i13]
  have f15 := bo_t p14
  have f16 := ti_b r11.1
  refine ok_ite (fun h17 => ?_) (fun h17 => ?_)
  · have c18 : r11.1.toInt = (0 : Int) := o_eq h17
    unfold J_X11_between_26
    unfold J_X11_between_27
    refine ok_bxv (k_X11_need L hN (a0 := a0) (x1 := (0 : Int32)) k_a0 i3) (fun n d hp => (show CI ad h.1 δ0 d ∧ (kp [] δ d ∧ q_V d = q_V δ) ∧ ((n = 0 ∨ n = 2) ∧ True) from ⟨hp.1, ⟨kp_w (by decide) (kp_t u8 hp.2.1.1), (hp.2.1.2).trans v9⟩, (by have hq : n = 2 := hp.2.2.1; omega), trivial⟩)) (fun d19 hp20 => ?_)
    obtain ⟨i21, ⟨u22, u23⟩, p24⟩ := hp20
    have u25 := kp_t u8 u22
    have v26 : q_V d19 = q_V δ := (u23).trans v9
    exact absurd rfl (show (0 : Int) ≠ 0 from p24)
  · have c27 : r11.1.toInt ≠ (0 : Int) := o_ne h17
    refine ok_bind (k_X11_isNumber L hN (a0 := a0) (x1 := x3) k_a0 i3) (fun r28 hr29 => ?_)
    obtain ⟨i30, p31⟩ := hr29
    try rw [i30]
    have f32 := bo_t p31
    have f33 := ti_b r28.1
    refine ok_ite (fun h34 => ?_) (fun h34 => ?_)
    · have c35 : r28.1.toInt = (0 : Int) := o_eq h34
      unfold J_X11_between_26
      unfold J_X11_between_27
      refine ok_bxv (k_X11_need L hN (a0 := a0) (x1 := (0 : Int32)) k_a0 i3) (fun n d hp => (show CI ad h.1 δ0 d ∧ (kp [] δ d ∧ q_V d = q_V δ) ∧ ((n = 0 ∨ n = 2) ∧ True) from ⟨hp.1, ⟨kp_w (by decide) (kp_t u8 hp.2.1.1), (hp.2.1.2).trans v9⟩, (by have hq : n = 2 := hp.2.2.1; omega), trivial⟩)) (fun d36 hp37 => ?_)
      obtain ⟨i38, ⟨u39, u40⟩, p41⟩ := hp37
      have u42 := kp_t u8 u39
      have v43 : q_V d36 = q_V δ := (u40).trans v9
      exact absurd rfl (show (0 : Int) ≠ 0 from p41)
    · have c44 : r28.1.toInt ≠ (0 : Int) := o_ne h34
      unfold J_X11_between_27
      refine ok_bxv (k_X11_need L hN (a0 := a0) (x1 := (1 : Int32)) k_a0 i3) (fun n d hp => (show CI ad h.1 δ0 d ∧ (kp [] δ d ∧ q_V d = q_V δ) ∧ ((n = 0 ∨ n = 2) ∧ True) from ⟨hp.1, ⟨kp_w (by decide) (kp_t u8 hp.2.1.1), (hp.2.1.2).trans v9⟩, (by have hq : n = 2 := hp.2.2.1; omega), trivial⟩)) (fun d45 hp46 => ?_)
      obtain ⟨i47, ⟨u48, u49⟩, p50⟩ := hp46
      have u51 := kp_t u8 u48
      have v52 : q_V d45 = q_V δ := (u49).trans v9
      replace p50 : (1 : Int) ≠ 0 := p50
      obtain ⟨b53, o54, k55, n56, w57⟩ := gO_11_6 L k_a0
      refine ok_at o54 ?_
      have t58 := ti_tn x1
      refine ok_gd (fun hc59 => ?_) ?_
      · rcases hc59 with hc59 | hc59
        · have c60 : x1.toInt < (0 : Int) := o_lt hc59
          omega
        · omega
      obtain ⟨b61, o62, k63⟩ := gE_11_6 L k_a0 o54 (i := x1.toNatClampNeg) (by omega)
      refine ok_at o62 ?_
      obtain ⟨b64, o65, k66⟩ := gO_2_0 L k63
      refine ok_at o65 ?_
      have f67 := ti_b x2
      have f68 := ti_b x3
      refine ok_ite (fun h69 => ?_) (fun h69 => ?_)
      · have c70 : x2.toInt ≤ x3.toInt := o_le h69
        refine ok_bind (k_X3_firstFrom L hN (a0 := b64) (x1 := (x3 + (1 : Int32))) k66 i47) (fun r71 hr72 => ?_)
        obtain ⟨i73, p74, p75⟩ := hr72
        try rw [i73]
        have f76 := ti_b r71.1
        have f77 : (q_I d45 3 1 b64).toInt = (q_I δ 3 1 b64).toInt := ((show (q_I d45 3 1 b64).toInt = (q_I d1 3 1 b64).toInt from congrArg Int32.toInt (u48 3 1 b64 (by decide))).trans (show (q_I d1 3 1 b64).toInt = (q_I δ 3 1 b64).toInt from congrArg Int32.toInt (u4 3 1 b64 (by decide))))
        obtain ⟨b78, o79, k80, ⟨n81, n82⟩, w83⟩ := gO_3_0 L k66
        have f84 := cb_3_1 I k66 o79
        refine ok_bind (k_X3_firstFrom L hN (a0 := b64) (x1 := x2) k66 i47) (fun r85 hr86 => ?_)
        obtain ⟨i87, p88, p89⟩ := hr86
        try rw [i87]
        have f90 := ti_b r85.1
        unfold J_X11_between_65
        exact ok_some (show CI ad h.1 δ0 d45 ∧ (kp [] δ d45 ∧ q_V d45 = q_V δ) ∧ True from ⟨i47, ⟨kp_w (by decide) u51, v52⟩, trivial⟩)
      · have c91 : x3.toInt < x2.toInt := o_nle h69
        unfold J_X11_between_65
        exact ok_some (show CI ad h.1 δ0 d45 ∧ (kp [] δ d45 ∧ q_V d45 = q_V δ) ∧ True from ⟨i47, ⟨kp_w (by decide) u51, v52⟩, trivial⟩)
set_option maxHeartbeats 4000000 in
theorem k_X11_size {ad : List Nat} {h : hp} (L : Lay TLx ad h) {δ0 : dp} {N : Nat} (hN : 10000000 ≤ N) {a0 : Nat} {x1 : Int32} {x2 : Int32} (k_a0 : q_K h.1 a0 = 11) {δ : dp} (I : CI ad h.1 δ0 δ) : ok (D_X11_size N h.1 a0 x1 x2 δ) (fun r => CI ad h.1 δ0 r.2 ∧ (kp [] δ r.2 ∧ q_V r.2 = q_V δ) ∧ match r.1 with | .inl v => True | .inr n => ((n = 0 ∨ n = 2) ∧ True)) := by
  unfold D_X11_size
  refine ok_bxv (k_X11_needHouse L hN (a0 := a0) (x1 := x1) k_a0 I) (fun n d hp => (show CI ad h.1 δ0 d ∧ (kp [] δ d ∧ q_V d = q_V δ) ∧ ((n = 0 ∨ n = 2) ∧ True) from ⟨hp.1, ⟨kp_w (by decide) (kp_t kp_r hp.2.1.1), (hp.2.1.2).trans rfl⟩, (by have hq : n = 0 := hp.2.2.1; omega), trivial⟩)) (fun d1 hp2 => ?_)
  obtain ⟨i3, ⟨u4, u5⟩, p6, p7⟩ := hp2
  have u8 := kp_t kp_r u4
  have v9 : q_V d1 = q_V δ := (u5).trans rfl
  have f10 := ti_b x1
  refine ok_bind (k_X11_isKind L hN (x0 := x2)  i3) (fun r11 hr12 => ?_)
  obtain ⟨i13, p14⟩ := hr12
  try rw [i13]
  have f15 := bo_t p14
  have f16 := ti_b r11.1
  refine ok_bxv (k_X11_need L hN (a0 := a0) (x1 := r11.1) k_a0 i3) (fun n d hp => (show CI ad h.1 δ0 d ∧ (kp [] δ d ∧ q_V d = q_V δ) ∧ ((n = 0 ∨ n = 2) ∧ True) from ⟨hp.1, ⟨kp_w (by decide) (kp_t u8 hp.2.1.1), (hp.2.1.2).trans v9⟩, (by have hq : n = 2 := hp.2.2.1; omega), trivial⟩)) (fun d17 hp18 => ?_)
  obtain ⟨i19, ⟨u20, u21⟩, p22⟩ := hp18
  have u23 := kp_t u8 u20
  have v24 : q_V d17 = q_V δ := (u21).trans v9
  have f25 := ti_b x2
  refine ok_ite (fun h26 => ?_) (fun h26 => ?_)
  · have c27 : x2.toInt = (0 : Int) := o_eq h26
    obtain ⟨b28, o29, k30, n31, w32⟩ := gO_11_6 L k_a0
    refine ok_at o29 ?_
    have t33 := ti_tn x1
    refine ok_gd (fun hc34 => ?_) ?_
    · rcases hc34 with hc34 | hc34
      · have c35 : x1.toInt < (0 : Int) := o_lt hc34
        omega
      · omega
    obtain ⟨b36, o37, k38⟩ := gE_11_6 L k_a0 o29 (i := x1.toNatClampNeg) (by omega)
    refine ok_at o37 ?_
    obtain ⟨b39, o40, k41⟩ := gO_2_1 L k38
    refine ok_at o40 ?_
    refine ok_bind (k_X1_allCells L hN (a0 := b39) k41 i19) (fun r42 hr43 => ?_)
    have i44 := hr43
    try rw [i44]
    have f45 := ti_b r42.1
    exact ok_some (show CI ad h.1 δ0 d17 ∧ (kp [] δ d17 ∧ q_V d17 = q_V δ) ∧ True from ⟨i19, ⟨kp_w (by decide) u23, v24⟩, trivial⟩)
  · have c46 : x2.toInt ≠ (0 : Int) := o_ne h26
    refine ok_ite (fun h47 => ?_) (fun h47 => ?_)
    · have c48 : x2.toInt = (1 : Int) := o_eq h47
      obtain ⟨b49, o50, k51⟩ := gO_11_1 L k_a0
      refine ok_at o50 ?_
      refine ok_bind (k_X5_greatest L hN (a0 := b49) k51 i19) (fun r52 hr53 => ?_)
      obtain ⟨i54, p55, p56, p57, p58⟩ := hr53
      try rw [i54]
      have f59 := ti_b r52.1
      have f60 : (q_I d17 5 0 b49).toInt = (q_I δ 5 0 b49).toInt := ((show (q_I d17 5 0 b49).toInt = (q_I d1 5 0 b49).toInt from congrArg Int32.toInt (u20 5 0 b49 (by decide))).trans (show (q_I d1 5 0 b49).toInt = (q_I δ 5 0 b49).toInt from congrArg Int32.toInt (u4 5 0 b49 (by decide))))
      have f61 := cb_5_0 I k51
      refine ok_bind (k_X3_wordOf L hN (x0 := r52.1)  i19) (fun r62 hr63 => ?_)
      have i64 := hr63
      try rw [i64]
      have f65 := ti_b r62.1
      unfold J_X11_size_62
      exact ok_some (show CI ad h.1 δ0 d17 ∧ (kp [] δ d17 ∧ q_V d17 = q_V δ) ∧ True from ⟨i19, ⟨kp_w (by decide) u23, v24⟩, trivial⟩)
    · have c66 : x2.toInt ≠ (1 : Int) := o_ne h47
      obtain ⟨b67, o68, k69, n70, w71⟩ := gO_11_6 L k_a0
      refine ok_at o68 ?_
      have t72 := ti_tn x1
      refine ok_gd (fun hc73 => ?_) ?_
      · rcases hc73 with hc73 | hc73
        · have c74 : x1.toInt < (0 : Int) := o_lt hc73
          omega
        · omega
      obtain ⟨b75, o76, k77⟩ := gE_11_6 L k_a0 o68 (i := x1.toNatClampNeg) (by omega)
      refine ok_at o76 ?_
      obtain ⟨b78, o79, k80⟩ := gO_2_0 L k77
      refine ok_at o79 ?_
      unfold J_X11_size_62
      exact ok_some (show CI ad h.1 δ0 d17 ∧ (kp [] δ d17 ∧ q_V d17 = q_V δ) ∧ True from ⟨i19, ⟨kp_w (by decide) u23, v24⟩, trivial⟩)
set_option maxHeartbeats 4000000 in
theorem k_X11_bound {ad : List Nat} {h : hp} (L : Lay TLx ad h) {δ0 : dp} {N : Nat} (hN : 10000000 ≤ N) {a0 : Nat} {x1 : Int32} (k_a0 : q_K h.1 a0 = 11) {δ : dp} (I : CI ad h.1 δ0 δ) : ok (D_X11_bound N h.1 a0 x1 δ) (fun r => CI ad h.1 δ0 r.2 ∧ (kp [] δ r.2 ∧ q_V r.2 = q_V δ) ∧ match r.1 with | .inl v => True | .inr n => ((n = 2) ∧ True)) := by
  unfold D_X11_bound
  refine ok_bind (k_X11_isCall L hN (x0 := x1)  I) (fun r1 hr2 => ?_)
  obtain ⟨i3, p4, p5⟩ := hr2
  try rw [i3]
  have f6 := bo_t p4
  have f7 := ti_b r1.1
  have f8 := ti_b x1
  refine ok_bxv (k_X11_need L hN (a0 := a0) (x1 := r1.1) k_a0 I) (fun n d hp => (show CI ad h.1 δ0 d ∧ (kp [] δ d ∧ q_V d = q_V δ) ∧ ((n = 2) ∧ True) from ⟨hp.1, ⟨kp_w (by decide) (kp_t kp_r hp.2.1.1), (hp.2.1.2).trans rfl⟩, (by have hq : n = 2 := hp.2.2.1; omega), trivial⟩)) (fun d9 hp10 => ?_)
  obtain ⟨i11, ⟨u12, u13⟩, p14⟩ := hp10
  have u15 := kp_t kp_r u12
  have v16 : q_V d9 = q_V δ := (u13).trans rfl
  obtain ⟨b17, o18, k19⟩ := gO_11_1 L k_a0
  refine ok_at o18 ?_
  refine ok_bind (k_X5_boundOf L hN (a0 := b17) (x1 := x1) k19 i11) (fun r20 hr21 => ?_)
  have i22 := hr21
  try rw [i22]
  have f23 := ti_b r20.1
  exact ok_some (show CI ad h.1 δ0 d9 ∧ (kp [] δ d9 ∧ q_V d9 = q_V δ) ∧ True from ⟨i11, ⟨kp_w (by decide) u15, v16⟩, trivial⟩)
set_option maxHeartbeats 4000000 in
theorem k_X11_was {ad : List Nat} {h : hp} (L : Lay TLx ad h) {δ0 : dp} {N : Nat} (hN : 10000000 ≤ N) {a0 : Nat} {x1 : Int32} {x2 : Int32} {x3 : Int32} (k_a0 : q_K h.1 a0 = 11) {δ : dp} (I : CI ad h.1 δ0 δ) : ok (D_X11_was N h.1 a0 x1 x2 x3 δ) (fun r => CI ad h.1 δ0 r.2 ∧ (kp [(3, 1)] δ r.2 ∧ q_V r.2 = q_V δ) ∧ match r.1 with | .inl v => True | .inr n => ((n = 0 ∨ n = 2) ∧ True)) := by
  unfold D_X11_was
  refine ok_bxv (k_X11_needHouse L hN (a0 := a0) (x1 := x1) k_a0 I) (fun n d hp => (show CI ad h.1 δ0 d ∧ (kp [(3, 1)] δ d ∧ q_V d = q_V δ) ∧ ((n = 0 ∨ n = 2) ∧ True) from ⟨hp.1, ⟨kp_w (by decide) (kp_t kp_r hp.2.1.1), (hp.2.1.2).trans rfl⟩, (by have hq : n = 0 := hp.2.2.1; omega), trivial⟩)) (fun d1 hp2 => ?_)
  obtain ⟨i3, ⟨u4, u5⟩, p6, p7⟩ := hp2
  have u8 := kp_t kp_r u4
  have v9 : q_V d1 = q_V δ := (u5).trans rfl
  have f10 := ti_b x1
  have f11 := ti_b x2
  refine ok_ite (fun h12 => ?_) (fun h12 => ?_)
  · have c13 : x2.toInt < (0 : Int) := o_lt h12
    unfold J_X11_was_36
    unfold J_X11_was_37
    refine ok_bxv (k_X11_need L hN (a0 := a0) (x1 := (0 : Int32)) k_a0 i3) (fun n d hp => (show CI ad h.1 δ0 d ∧ (kp [(3, 1)] δ d ∧ q_V d = q_V δ) ∧ ((n = 0 ∨ n = 2) ∧ True) from ⟨hp.1, ⟨kp_w (by decide) (kp_t u8 hp.2.1.1), (hp.2.1.2).trans v9⟩, (by have hq : n = 2 := hp.2.2.1; omega), trivial⟩)) (fun d14 hp15 => ?_)
    obtain ⟨i16, ⟨u17, u18⟩, p19⟩ := hp15
    have u20 := kp_t u8 u17
    have v21 : q_V d14 = q_V δ := (u18).trans v9
    exact absurd rfl (show (0 : Int) ≠ 0 from p19)
  · have c22 : (0 : Int) ≤ x2.toInt := o_nlt h12
    obtain ⟨b23, o24, k25, n26, w27⟩ := gO_11_6 L k_a0
    refine ok_at o24 ?_
    have t28 := ti_tn x1
    refine ok_gd (fun hc29 => ?_) ?_
    · rcases hc29 with hc29 | hc29
      · have c30 : x1.toInt < (0 : Int) := o_lt hc29
        omega
      · omega
    obtain ⟨b31, o32, k33⟩ := gE_11_6 L k_a0 o24 (i := x1.toNatClampNeg) (by omega)
    refine ok_at o32 ?_
    have f34 : (q_I d1 2 4 b31).toInt = (q_I δ 2 4 b31).toInt := congrArg Int32.toInt (u4 2 4 b31 (by decide))
    have f35 := cb_2_4 I k33
    refine ok_ite (fun h36 => ?_) (fun h36 => ?_)
    · have c37 : (q_I d1 2 4 b31).toInt < x2.toInt := o_lt h36
      unfold J_X11_was_36
      unfold J_X11_was_37
      refine ok_bxv (k_X11_need L hN (a0 := a0) (x1 := (0 : Int32)) k_a0 i3) (fun n d hp => (show CI ad h.1 δ0 d ∧ (kp [(3, 1)] δ d ∧ q_V d = q_V δ) ∧ ((n = 0 ∨ n = 2) ∧ True) from ⟨hp.1, ⟨kp_w (by decide) (kp_t u8 hp.2.1.1), (hp.2.1.2).trans v9⟩, (by have hq : n = 2 := hp.2.2.1; omega), trivial⟩)) (fun d38 hp39 => ?_)
      obtain ⟨i40, ⟨u41, u42⟩, p43⟩ := hp39
      have u44 := kp_t u8 u41
      have v45 : q_V d38 = q_V δ := (u42).trans v9
      exact absurd rfl (show (0 : Int) ≠ 0 from p43)
    · have c46 : x2.toInt ≤ (q_I d1 2 4 b31).toInt := o_nlt h36
      have f47 := ti_b x3
      refine ok_ite (fun h48 => ?_) (fun h48 => ?_)
      · have c49 : x3.toInt < (0 : Int) := o_lt h48
        unfold J_X11_was_36
        unfold J_X11_was_37
        refine ok_bxv (k_X11_need L hN (a0 := a0) (x1 := (0 : Int32)) k_a0 i3) (fun n d hp => (show CI ad h.1 δ0 d ∧ (kp [(3, 1)] δ d ∧ q_V d = q_V δ) ∧ ((n = 0 ∨ n = 2) ∧ True) from ⟨hp.1, ⟨kp_w (by decide) (kp_t u8 hp.2.1.1), (hp.2.1.2).trans v9⟩, (by have hq : n = 2 := hp.2.2.1; omega), trivial⟩)) (fun d50 hp51 => ?_)
        obtain ⟨i52, ⟨u53, u54⟩, p55⟩ := hp51
        have u56 := kp_t u8 u53
        have v57 : q_V d50 = q_V δ := (u54).trans v9
        exact absurd rfl (show (0 : Int) ≠ 0 from p55)
      · have c58 : (0 : Int) ≤ x3.toInt := o_nlt h48
        refine ok_ite (fun h59 => ?_) (fun h59 => ?_)
        · have c60 : (2 : Int) < x3.toInt := o_lt h59
          unfold J_X11_was_36
          unfold J_X11_was_37
          refine ok_bxv (k_X11_need L hN (a0 := a0) (x1 := (0 : Int32)) k_a0 i3) (fun n d hp => (show CI ad h.1 δ0 d ∧ (kp [(3, 1)] δ d ∧ q_V d = q_V δ) ∧ ((n = 0 ∨ n = 2) ∧ True) from ⟨hp.1, ⟨kp_w (by decide) (kp_t u8 hp.2.1.1), (hp.2.1.2).trans v9⟩, (by have hq : n = 2 := hp.2.2.1; omega), trivial⟩)) (fun d61 hp62 => ?_)
          obtain ⟨i63, ⟨u64, u65⟩, p66⟩ := hp62
          have u67 := kp_t u8 u64
          have v68 : q_V d61 = q_V δ := (u65).trans v9
          exact absurd rfl (show (0 : Int) ≠ 0 from p66)
        · have c69 : x3.toInt ≤ (2 : Int) := o_nlt h59
          unfold J_X11_was_37
          refine ok_bxv (k_X11_need L hN (a0 := a0) (x1 := (1 : Int32)) k_a0 i3) (fun n d hp => (show CI ad h.1 δ0 d ∧ (kp [(3, 1)] δ d ∧ q_V d = q_V δ) ∧ ((n = 0 ∨ n = 2) ∧ True) from ⟨hp.1, ⟨kp_w (by decide) (kp_t u8 hp.2.1.1), (hp.2.1.2).trans v9⟩, (by have hq : n = 2 := hp.2.2.1; omega), trivial⟩)) (fun d70 hp71 => ?_)
          obtain ⟨i72, ⟨u73, u74⟩, p75⟩ := hp71
          have u76 := kp_t u8 u73
          have v77 : q_V d70 = q_V δ := (u74).trans v9
          replace p75 : (1 : Int) ≠ 0 := p75
          refine ok_at o24 ?_
          refine ok_gd (fun hc78 => ?_) ?_
          · rcases hc78 with hc78 | hc78
            · have c79 : x1.toInt < (0 : Int) := o_lt hc78
              omega
            · omega
          obtain ⟨b80, o81, k82⟩ := gE_11_6 L k_a0 o24 (i := x1.toNatClampNeg) (by omega)
          refine ok_at o81 ?_
          obtain ⟨b83, o84, k85⟩ := gO_11_7 L k_a0
          refine ok_at o84 ?_
          refine ok_bind (k_X2_fillPast L hN (a0 := b80) (a1 := b83) (x2 := x2) k82 k85 (show 0 ≤ (x2).toInt by first | with_reducible assumption | omega) (show (x2).toInt ≤ 1000 by first | with_reducible assumption | omega) i72) (fun r86 hr87 => ?_)
          obtain ⟨i88, ⟨u89, u90⟩⟩ := hr87
          have u91 := kp_t u76 u89
          have v92 : q_V r86 = q_V δ := (u90).trans v77
          refine ok_at o84 ?_
          refine ok_bind (k_X3_tell L hN (a0 := b83) (x1 := x3) k85 i88) (fun r93 hr94 => ?_)
          have i95 := hr94
          try rw [i95]
          have f96 := ti_b r93.1
          exact ok_some (show CI ad h.1 δ0 r86 ∧ (kp [(3, 1)] δ r86 ∧ q_V r86 = q_V δ) ∧ True from ⟨i88, ⟨kp_w (by decide) u91, v92⟩, trivial⟩)
set_option maxHeartbeats 4000000 in
theorem k_X11_asked {ad : List Nat} {h : hp} (L : Lay TLx ad h) {δ0 : dp} {N : Nat} (hN : 10000000 ≤ N) {a0 : Nat} {x1 : Int32} {x2 : Int32} {x3 : Int32} {x4 : Int32} (k_a0 : q_K h.1 a0 = 11) {δ : dp} (I : CI ad h.1 δ0 δ) : ok (D_X11_asked N h.1 a0 x1 x2 x3 x4 δ) (fun r => CI ad h.1 δ0 r.2 ∧ (kp [(3, 1)] δ r.2 ∧ q_V r.2 = q_V δ) ∧ match r.1 with | .inl v => True | .inr n => ((n = 0 ∨ n = 2) ∧ True)) := by
  unfold D_X11_asked
  refine ok_bxv (k_X11_needHouse L hN (a0 := a0) (x1 := x1) k_a0 I) (fun n d hp => (show CI ad h.1 δ0 d ∧ (kp [(3, 1)] δ d ∧ q_V d = q_V δ) ∧ ((n = 0 ∨ n = 2) ∧ True) from ⟨hp.1, ⟨kp_w (by decide) (kp_t kp_r hp.2.1.1), (hp.2.1.2).trans rfl⟩, (by have hq : n = 0 := hp.2.2.1; omega), trivial⟩)) (fun d1 hp2 => ?_)
  obtain ⟨i3, ⟨u4, u5⟩, p6, p7⟩ := hp2
  have u8 := kp_t kp_r u4
  have v9 : q_V d1 = q_V δ := (u5).trans rfl
  have f10 := ti_b x1
  have f11 := ti_b x2
  refine ok_ite (fun h12 => ?_) (fun h12 => ?_)
  · have c13 : x2.toInt < (0 : Int) := o_lt h12
    unfold J_X11_asked_49
    unfold J_X11_asked_50
    refine ok_bxv (k_X11_need L hN (a0 := a0) (x1 := (0 : Int32)) k_a0 i3) (fun n d hp => (show CI ad h.1 δ0 d ∧ (kp [(3, 1)] δ d ∧ q_V d = q_V δ) ∧ ((n = 0 ∨ n = 2) ∧ True) from ⟨hp.1, ⟨kp_w (by decide) (kp_t u8 hp.2.1.1), (hp.2.1.2).trans v9⟩, (by have hq : n = 2 := hp.2.2.1; omega), trivial⟩)) (fun d14 hp15 => ?_)
    obtain ⟨i16, ⟨u17, u18⟩, p19⟩ := hp15
    have u20 := kp_t u8 u17
    have v21 : q_V d14 = q_V δ := (u18).trans v9
    exact absurd rfl (show (0 : Int) ≠ 0 from p19)
  · have c22 : (0 : Int) ≤ x2.toInt := o_nlt h12
    obtain ⟨b23, o24, k25, n26, w27⟩ := gO_11_6 L k_a0
    refine ok_at o24 ?_
    have t28 := ti_tn x1
    refine ok_gd (fun hc29 => ?_) ?_
    · rcases hc29 with hc29 | hc29
      · have c30 : x1.toInt < (0 : Int) := o_lt hc29
        omega
      · omega
    obtain ⟨b31, o32, k33⟩ := gE_11_6 L k_a0 o24 (i := x1.toNatClampNeg) (by omega)
    refine ok_at o32 ?_
    have f34 : (q_I d1 2 4 b31).toInt = (q_I δ 2 4 b31).toInt := congrArg Int32.toInt (u4 2 4 b31 (by decide))
    have f35 := cb_2_4 I k33
    refine ok_ite (fun h36 => ?_) (fun h36 => ?_)
    · have c37 : (q_I d1 2 4 b31).toInt < x2.toInt := o_lt h36
      unfold J_X11_asked_49
      unfold J_X11_asked_50
      refine ok_bxv (k_X11_need L hN (a0 := a0) (x1 := (0 : Int32)) k_a0 i3) (fun n d hp => (show CI ad h.1 δ0 d ∧ (kp [(3, 1)] δ d ∧ q_V d = q_V δ) ∧ ((n = 0 ∨ n = 2) ∧ True) from ⟨hp.1, ⟨kp_w (by decide) (kp_t u8 hp.2.1.1), (hp.2.1.2).trans v9⟩, (by have hq : n = 2 := hp.2.2.1; omega), trivial⟩)) (fun d38 hp39 => ?_)
      obtain ⟨i40, ⟨u41, u42⟩, p43⟩ := hp39
      have u44 := kp_t u8 u41
      have v45 : q_V d38 = q_V δ := (u42).trans v9
      exact absurd rfl (show (0 : Int) ≠ 0 from p43)
    · have c46 : x2.toInt ≤ (q_I d1 2 4 b31).toInt := o_nlt h36
      refine ok_bind (k_X11_isCall L hN (x0 := x3)  i3) (fun r47 hr48 => ?_)
      obtain ⟨i49, p50, p51⟩ := hr48
      try rw [i49]
      have f52 := bo_t p50
      have f53 := ti_b r47.1
      have f54 := ti_b x3
      refine ok_ite (fun h55 => ?_) (fun h55 => ?_)
      · have c56 : r47.1.toInt = (0 : Int) := o_eq h55
        unfold J_X11_asked_49
        unfold J_X11_asked_50
        refine ok_bxv (k_X11_need L hN (a0 := a0) (x1 := (0 : Int32)) k_a0 i3) (fun n d hp => (show CI ad h.1 δ0 d ∧ (kp [(3, 1)] δ d ∧ q_V d = q_V δ) ∧ ((n = 0 ∨ n = 2) ∧ True) from ⟨hp.1, ⟨kp_w (by decide) (kp_t u8 hp.2.1.1), (hp.2.1.2).trans v9⟩, (by have hq : n = 2 := hp.2.2.1; omega), trivial⟩)) (fun d57 hp58 => ?_)
        obtain ⟨i59, ⟨u60, u61⟩, p62⟩ := hp58
        have u63 := kp_t u8 u60
        have v64 : q_V d57 = q_V δ := (u61).trans v9
        exact absurd rfl (show (0 : Int) ≠ 0 from p62)
      · have c65 : r47.1.toInt ≠ (0 : Int) := o_ne h55
        refine ok_ite (fun h66 => ?_) (fun h66 => ?_)
        · have c67 : x3.toInt < (2 : Int) := o_lt h66
          unfold J_X11_asked_49
          unfold J_X11_asked_50
          refine ok_bxv (k_X11_need L hN (a0 := a0) (x1 := (0 : Int32)) k_a0 i3) (fun n d hp => (show CI ad h.1 δ0 d ∧ (kp [(3, 1)] δ d ∧ q_V d = q_V δ) ∧ ((n = 0 ∨ n = 2) ∧ True) from ⟨hp.1, ⟨kp_w (by decide) (kp_t u8 hp.2.1.1), (hp.2.1.2).trans v9⟩, (by have hq : n = 2 := hp.2.2.1; omega), trivial⟩)) (fun d68 hp69 => ?_)
          obtain ⟨i70, ⟨u71, u72⟩, p73⟩ := hp69
          have u74 := kp_t u8 u71
          have v75 : q_V d68 = q_V δ := (u72).trans v9
          exact absurd rfl (show (0 : Int) ≠ 0 from p73)
        · have c76 : (2 : Int) ≤ x3.toInt := o_nlt h66
          refine ok_bind (k_X11_mayAsk L hN (a0 := a0) (x1 := x3) (x2 := x4) k_a0 i3) (fun r77 hr78 => ?_)
          obtain ⟨i79, p80⟩ := hr78
          try rw [i79]
          have f81 := bo_t p80
          have f82 := ti_b r77.1
          refine ok_ite (fun h83 => ?_) (fun h83 => ?_)
          · have c84 : r77.1.toInt = (0 : Int) := o_eq h83
            unfold J_X11_asked_49
            unfold J_X11_asked_50
            refine ok_bxv (k_X11_need L hN (a0 := a0) (x1 := (0 : Int32)) k_a0 i3) (fun n d hp => (show CI ad h.1 δ0 d ∧ (kp [(3, 1)] δ d ∧ q_V d = q_V δ) ∧ ((n = 0 ∨ n = 2) ∧ True) from ⟨hp.1, ⟨kp_w (by decide) (kp_t u8 hp.2.1.1), (hp.2.1.2).trans v9⟩, (by have hq : n = 2 := hp.2.2.1; omega), trivial⟩)) (fun d85 hp86 => ?_)
            obtain ⟨i87, ⟨u88, u89⟩, p90⟩ := hp86
            have u91 := kp_t u8 u88
            have v92 : q_V d85 = q_V δ := (u89).trans v9
            exact absurd rfl (show (0 : Int) ≠ 0 from p90)
          · have c93 : r77.1.toInt ≠ (0 : Int) := o_ne h83
            unfold J_X11_asked_50
            refine ok_bxv (k_X11_need L hN (a0 := a0) (x1 := (1 : Int32)) k_a0 i3) (fun n d hp => (show CI ad h.1 δ0 d ∧ (kp [(3, 1)] δ d ∧ q_V d = q_V δ) ∧ ((n = 0 ∨ n = 2) ∧ True) from ⟨hp.1, ⟨kp_w (by decide) (kp_t u8 hp.2.1.1), (hp.2.1.2).trans v9⟩, (by have hq : n = 2 := hp.2.2.1; omega), trivial⟩)) (fun d94 hp95 => ?_)
            obtain ⟨i96, ⟨u97, u98⟩, p99⟩ := hp95
            have u100 := kp_t u8 u97
            have v101 : q_V d94 = q_V δ := (u98).trans v9
            replace p99 : (1 : Int) ≠ 0 := p99
            refine ok_at o24 ?_
            refine ok_gd (fun hc102 => ?_) ?_
            · rcases hc102 with hc102 | hc102
              · have c103 : x1.toInt < (0 : Int) := o_lt hc102
                omega
              · omega
            obtain ⟨b104, o105, k106⟩ := gE_11_6 L k_a0 o24 (i := x1.toNatClampNeg) (by omega)
            refine ok_at o105 ?_
            obtain ⟨b107, o108, k109⟩ := gO_11_7 L k_a0
            refine ok_at o108 ?_
            refine ok_bind (k_X2_fillPast L hN (a0 := b104) (a1 := b107) (x2 := x2) k106 k109 (show 0 ≤ (x2).toInt by first | with_reducible assumption | omega) (show (x2).toInt ≤ 1000 by first | with_reducible assumption | omega) i96) (fun r110 hr111 => ?_)
            obtain ⟨i112, ⟨u113, u114⟩⟩ := hr111
            have u115 := kp_t u100 u113
            have v116 : q_V r110 = q_V δ := (u114).trans v101
            refine ok_at o108 ?_
            refine ok_bind (k_X3_answer L hN (a0 := b107) (x1 := x3) (x2 := x4) k109 i112) (fun r117 hr118 => ?_)
            obtain ⟨i119, ⟨u120, u121⟩⟩ := hr118
            have u122 := kp_t u115 u120
            have v123 : q_V r117.2 = q_V δ := (u121).trans v116
            have f124 := ti_b r117.1
            exact ok_some (show CI ad h.1 δ0 r117.2 ∧ (kp [(3, 1)] δ r117.2 ∧ q_V r117.2 = q_V δ) ∧ True from ⟨i119, ⟨kp_w (by decide) u122, v123⟩, trivial⟩)
set_option maxHeartbeats 4000000 in
theorem k_X11_since {ad : List Nat} {h : hp} (L : Lay TLx ad h) {δ0 : dp} {N : Nat} (hN : 10000000 ≤ N) {a0 : Nat} {x1 : Int32} {x2 : Int32} {x3 : Int32} (k_a0 : q_K h.1 a0 = 11) {δ : dp} (I : CI ad h.1 δ0 δ) : ok (D_X11_since N h.1 a0 x1 x2 x3 δ) (fun r => CI ad h.1 δ0 r.2 ∧ (kp [] δ r.2 ∧ q_V r.2 = q_V δ) ∧ match r.1 with | .inl v => True | .inr n => ((n = 0 ∨ n = 2) ∧ True)) := by
  unfold D_X11_since
  refine ok_bxv (k_X11_needHouse L hN (a0 := a0) (x1 := x1) k_a0 I) (fun n d hp => (show CI ad h.1 δ0 d ∧ (kp [] δ d ∧ q_V d = q_V δ) ∧ ((n = 0 ∨ n = 2) ∧ True) from ⟨hp.1, ⟨kp_w (by decide) (kp_t kp_r hp.2.1.1), (hp.2.1.2).trans rfl⟩, (by have hq : n = 0 := hp.2.2.1; omega), trivial⟩)) (fun d1 hp2 => ?_)
  obtain ⟨i3, ⟨u4, u5⟩, p6, p7⟩ := hp2
  have u8 := kp_t kp_r u4
  have v9 : q_V d1 = q_V δ := (u5).trans rfl
  have f10 := ti_b x1
  refine ok_bind (k_X11_isNumber L hN (a0 := a0) (x1 := x2) k_a0 i3) (fun r11 hr12 => ?_)
  obtain ⟨i13, p14⟩ := hr12
  try rw [i13]
  have f15 := bo_t p14
  have f16 := ti_b r11.1
  refine ok_ite (fun h17 => ?_) (fun h17 => ?_)
  · have c18 : r11.1.toInt = (0 : Int) := o_eq h17
    unfold J_X11_since_27
    unfold J_X11_since_28
    refine ok_bxv (k_X11_need L hN (a0 := a0) (x1 := (0 : Int32)) k_a0 i3) (fun n d hp => (show CI ad h.1 δ0 d ∧ (kp [] δ d ∧ q_V d = q_V δ) ∧ ((n = 0 ∨ n = 2) ∧ True) from ⟨hp.1, ⟨kp_w (by decide) (kp_t u8 hp.2.1.1), (hp.2.1.2).trans v9⟩, (by have hq : n = 2 := hp.2.2.1; omega), trivial⟩)) (fun d19 hp20 => ?_)
    obtain ⟨i21, ⟨u22, u23⟩, p24⟩ := hp20
    have u25 := kp_t u8 u22
    have v26 : q_V d19 = q_V δ := (u23).trans v9
    exact absurd rfl (show (0 : Int) ≠ 0 from p24)
  · have c27 : r11.1.toInt ≠ (0 : Int) := o_ne h17
    have f28 := ti_b x3
    refine ok_ite (fun h29 => ?_) (fun h29 => ?_)
    · have c30 : x3.toInt = (0 : Int) := o_eq h29
      unfold J_X11_since_23
      unfold J_X11_since_28
      refine ok_bxv (k_X11_need L hN (a0 := a0) (x1 := (1 : Int32)) k_a0 i3) (fun n d hp => (show CI ad h.1 δ0 d ∧ (kp [] δ d ∧ q_V d = q_V δ) ∧ ((n = 0 ∨ n = 2) ∧ True) from ⟨hp.1, ⟨kp_w (by decide) (kp_t u8 hp.2.1.1), (hp.2.1.2).trans v9⟩, (by have hq : n = 2 := hp.2.2.1; omega), trivial⟩)) (fun d31 hp32 => ?_)
      obtain ⟨i33, ⟨u34, u35⟩, p36⟩ := hp32
      have u37 := kp_t u8 u34
      have v38 : q_V d31 = q_V δ := (u35).trans v9
      replace p36 : (1 : Int) ≠ 0 := p36
      obtain ⟨b39, o40, k41, n42, w43⟩ := gO_11_6 L k_a0
      refine ok_at o40 ?_
      have t44 := ti_tn x1
      refine ok_gd (fun hc45 => ?_) ?_
      · rcases hc45 with hc45 | hc45
        · have c46 : x1.toInt < (0 : Int) := o_lt hc45
          omega
        · omega
      obtain ⟨b47, o48, k49⟩ := gE_11_6 L k_a0 o40 (i := x1.toNatClampNeg) (by omega)
      refine ok_at o48 ?_
      refine ok_ite (fun h50 => ?_) (fun h50 => ?_)
      · have c51 : x3.toInt = (0 : Int) := o_eq h50
        unfold J_X11_since_46
        refine ok_bind (k_X2_lastChange L hN (a0 := b47) (x1 := (0 : Int32)) (x2 := x2) k49 i33) (fun r52 hr53 => ?_)
        have i54 := hr53
        try rw [i54]
        have f55 := ti_b r52.1
        exact ok_some (show CI ad h.1 δ0 d31 ∧ (kp [] δ d31 ∧ q_V d31 = q_V δ) ∧ True from ⟨i33, ⟨kp_w (by decide) u37, v38⟩, trivial⟩)
      · have c56 : x3.toInt ≠ (0 : Int) := o_ne h50
        unfold J_X11_since_46
        refine ok_bind (k_X2_lastChange L hN (a0 := b47) (x1 := (1 : Int32)) (x2 := x2) k49 i33) (fun r57 hr58 => ?_)
        have i59 := hr58
        try rw [i59]
        have f60 := ti_b r57.1
        exact ok_some (show CI ad h.1 δ0 d31 ∧ (kp [] δ d31 ∧ q_V d31 = q_V δ) ∧ True from ⟨i33, ⟨kp_w (by decide) u37, v38⟩, trivial⟩)
    · have c61 : x3.toInt ≠ (0 : Int) := o_ne h29
      refine ok_ite (fun h62 => ?_) (fun h62 => ?_)
      · have c63 : x3.toInt = (1 : Int) := o_eq h62
        unfold J_X11_since_23
        unfold J_X11_since_28
        refine ok_bxv (k_X11_need L hN (a0 := a0) (x1 := (1 : Int32)) k_a0 i3) (fun n d hp => (show CI ad h.1 δ0 d ∧ (kp [] δ d ∧ q_V d = q_V δ) ∧ ((n = 0 ∨ n = 2) ∧ True) from ⟨hp.1, ⟨kp_w (by decide) (kp_t u8 hp.2.1.1), (hp.2.1.2).trans v9⟩, (by have hq : n = 2 := hp.2.2.1; omega), trivial⟩)) (fun d64 hp65 => ?_)
        obtain ⟨i66, ⟨u67, u68⟩, p69⟩ := hp65
        have u70 := kp_t u8 u67
        have v71 : q_V d64 = q_V δ := (u68).trans v9
        replace p69 : (1 : Int) ≠ 0 := p69
        obtain ⟨b72, o73, k74, n75, w76⟩ := gO_11_6 L k_a0
        refine ok_at o73 ?_
        have t77 := ti_tn x1
        refine ok_gd (fun hc78 => ?_) ?_
        · rcases hc78 with hc78 | hc78
          · have c79 : x1.toInt < (0 : Int) := o_lt hc78
            omega
          · omega
        obtain ⟨b80, o81, k82⟩ := gE_11_6 L k_a0 o73 (i := x1.toNatClampNeg) (by omega)
        refine ok_at o81 ?_
        refine ok_ite (fun h83 => ?_) (fun h83 => ?_)
        · have c84 : x3.toInt = (0 : Int) := o_eq h83
          unfold J_X11_since_46
          refine ok_bind (k_X2_lastChange L hN (a0 := b80) (x1 := (0 : Int32)) (x2 := x2) k82 i66) (fun r85 hr86 => ?_)
          have i87 := hr86
          try rw [i87]
          have f88 := ti_b r85.1
          exact ok_some (show CI ad h.1 δ0 d64 ∧ (kp [] δ d64 ∧ q_V d64 = q_V δ) ∧ True from ⟨i66, ⟨kp_w (by decide) u70, v71⟩, trivial⟩)
        · have c89 : x3.toInt ≠ (0 : Int) := o_ne h83
          unfold J_X11_since_46
          refine ok_bind (k_X2_lastChange L hN (a0 := b80) (x1 := (1 : Int32)) (x2 := x2) k82 i66) (fun r90 hr91 => ?_)
          have i92 := hr91
          try rw [i92]
          have f93 := ti_b r90.1
          exact ok_some (show CI ad h.1 δ0 d64 ∧ (kp [] δ d64 ∧ q_V d64 = q_V δ) ∧ True from ⟨i66, ⟨kp_w (by decide) u70, v71⟩, trivial⟩)
      · have c94 : x3.toInt ≠ (1 : Int) := o_ne h62
        unfold J_X11_since_27
        unfold J_X11_since_28
        refine ok_bxv (k_X11_need L hN (a0 := a0) (x1 := (0 : Int32)) k_a0 i3) (fun n d hp => (show CI ad h.1 δ0 d ∧ (kp [] δ d ∧ q_V d = q_V δ) ∧ ((n = 0 ∨ n = 2) ∧ True) from ⟨hp.1, ⟨kp_w (by decide) (kp_t u8 hp.2.1.1), (hp.2.1.2).trans v9⟩, (by have hq : n = 2 := hp.2.2.1; omega), trivial⟩)) (fun d95 hp96 => ?_)
        obtain ⟨i97, ⟨u98, u99⟩, p100⟩ := hp96
        have u101 := kp_t u8 u98
        have v102 : q_V d95 = q_V δ := (u99).trans v9
        exact absurd rfl (show (0 : Int) ≠ 0 from p100)
set_option maxHeartbeats 4000000 in
theorem k_X11_room {ad : List Nat} {h : hp} (L : Lay TLx ad h) {δ0 : dp} {N : Nat} (hN : 10000000 ≤ N) {a0 : Nat} {x1 : Int32} {x2 : Int32} (k_a0 : q_K h.1 a0 = 11) {δ : dp} (I : CI ad h.1 δ0 δ) : ok (D_X11_room N h.1 a0 x1 x2 δ) (fun r => CI ad h.1 δ0 r.2 ∧ (kp [] δ r.2 ∧ q_V r.2 = q_V δ) ∧ match r.1 with | .inl v => True | .inr n => ((n = 0 ∨ n = 2) ∧ True)) := by
  unfold D_X11_room
  refine ok_bxv (k_X11_needHouse L hN (a0 := a0) (x1 := x1) k_a0 I) (fun n d hp => (show CI ad h.1 δ0 d ∧ (kp [] δ d ∧ q_V d = q_V δ) ∧ ((n = 0 ∨ n = 2) ∧ True) from ⟨hp.1, ⟨kp_w (by decide) (kp_t kp_r hp.2.1.1), (hp.2.1.2).trans rfl⟩, (by have hq : n = 0 := hp.2.2.1; omega), trivial⟩)) (fun d1 hp2 => ?_)
  obtain ⟨i3, ⟨u4, u5⟩, p6, p7⟩ := hp2
  have u8 := kp_t kp_r u4
  have v9 : q_V d1 = q_V δ := (u5).trans rfl
  have f10 := ti_b x1
  have f11 := ti_b x2
  refine ok_ite (fun h12 => ?_) (fun h12 => ?_)
  · have c13 : x2.toInt = (0 : Int) := o_eq h12
    unfold J_X11_room_15
    unfold J_X11_room_20
    refine ok_bxv (k_X11_need L hN (a0 := a0) (x1 := (1 : Int32)) k_a0 i3) (fun n d hp => (show CI ad h.1 δ0 d ∧ (kp [] δ d ∧ q_V d = q_V δ) ∧ ((n = 0 ∨ n = 2) ∧ True) from ⟨hp.1, ⟨kp_w (by decide) (kp_t u8 hp.2.1.1), (hp.2.1.2).trans v9⟩, (by have hq : n = 2 := hp.2.2.1; omega), trivial⟩)) (fun d14 hp15 => ?_)
    obtain ⟨i16, ⟨u17, u18⟩, p19⟩ := hp15
    have u20 := kp_t u8 u17
    have v21 : q_V d14 = q_V δ := (u18).trans v9
    replace p19 : (1 : Int) ≠ 0 := p19
    refine ok_ite (fun h22 => ?_) (fun h22 => ?_)
    · have c23 : x2.toInt = (0 : Int) := o_eq h22
      obtain ⟨b24, o25, k26, n27, w28⟩ := gO_11_6 L k_a0
      refine ok_at o25 ?_
      have t29 := ti_tn x1
      refine ok_gd (fun hc30 => ?_) ?_
      · rcases hc30 with hc30 | hc30
        · have c31 : x1.toInt < (0 : Int) := o_lt hc30
          omega
        · omega
      obtain ⟨b32, o33, k34⟩ := gE_11_6 L k_a0 o25 (i := x1.toNatClampNeg) (by omega)
      refine ok_at o33 ?_
      refine ok_bind (k_X2_copying L hN (a0 := b32) k34 i16) (fun r35 hr36 => ?_)
      have i37 := hr36
      try rw [i37]
      have f38 := ti_b r35.1
      unfold J_X11_room_48
      exact ok_some (show CI ad h.1 δ0 d14 ∧ (kp [] δ d14 ∧ q_V d14 = q_V δ) ∧ True from ⟨i16, ⟨kp_w (by decide) u20, v21⟩, trivial⟩)
    · have c39 : x2.toInt ≠ (0 : Int) := o_ne h22
      obtain ⟨b40, o41, k42, n43, w44⟩ := gO_11_6 L k_a0
      refine ok_at o41 ?_
      have t45 := ti_tn x1
      refine ok_gd (fun hc46 => ?_) ?_
      · rcases hc46 with hc46 | hc46
        · have c47 : x1.toInt < (0 : Int) := o_lt hc46
          omega
        · omega
      obtain ⟨b48, o49, k50⟩ := gE_11_6 L k_a0 o41 (i := x1.toNatClampNeg) (by omega)
      refine ok_at o49 ?_
      unfold J_X11_room_48
      exact ok_some (show CI ad h.1 δ0 d14 ∧ (kp [] δ d14 ∧ q_V d14 = q_V δ) ∧ True from ⟨i16, ⟨kp_w (by decide) u20, v21⟩, trivial⟩)
  · have c51 : x2.toInt ≠ (0 : Int) := o_ne h12
    refine ok_ite (fun h52 => ?_) (fun h52 => ?_)
    · have c53 : x2.toInt = (1 : Int) := o_eq h52
      unfold J_X11_room_15
      unfold J_X11_room_20
      refine ok_bxv (k_X11_need L hN (a0 := a0) (x1 := (1 : Int32)) k_a0 i3) (fun n d hp => (show CI ad h.1 δ0 d ∧ (kp [] δ d ∧ q_V d = q_V δ) ∧ ((n = 0 ∨ n = 2) ∧ True) from ⟨hp.1, ⟨kp_w (by decide) (kp_t u8 hp.2.1.1), (hp.2.1.2).trans v9⟩, (by have hq : n = 2 := hp.2.2.1; omega), trivial⟩)) (fun d54 hp55 => ?_)
      obtain ⟨i56, ⟨u57, u58⟩, p59⟩ := hp55
      have u60 := kp_t u8 u57
      have v61 : q_V d54 = q_V δ := (u58).trans v9
      replace p59 : (1 : Int) ≠ 0 := p59
      refine ok_ite (fun h62 => ?_) (fun h62 => ?_)
      · have c63 : x2.toInt = (0 : Int) := o_eq h62
        obtain ⟨b64, o65, k66, n67, w68⟩ := gO_11_6 L k_a0
        refine ok_at o65 ?_
        have t69 := ti_tn x1
        refine ok_gd (fun hc70 => ?_) ?_
        · rcases hc70 with hc70 | hc70
          · have c71 : x1.toInt < (0 : Int) := o_lt hc70
            omega
          · omega
        obtain ⟨b72, o73, k74⟩ := gE_11_6 L k_a0 o65 (i := x1.toNatClampNeg) (by omega)
        refine ok_at o73 ?_
        refine ok_bind (k_X2_copying L hN (a0 := b72) k74 i56) (fun r75 hr76 => ?_)
        have i77 := hr76
        try rw [i77]
        have f78 := ti_b r75.1
        unfold J_X11_room_48
        exact ok_some (show CI ad h.1 δ0 d54 ∧ (kp [] δ d54 ∧ q_V d54 = q_V δ) ∧ True from ⟨i56, ⟨kp_w (by decide) u60, v61⟩, trivial⟩)
      · have c79 : x2.toInt ≠ (0 : Int) := o_ne h62
        obtain ⟨b80, o81, k82, n83, w84⟩ := gO_11_6 L k_a0
        refine ok_at o81 ?_
        have t85 := ti_tn x1
        refine ok_gd (fun hc86 => ?_) ?_
        · rcases hc86 with hc86 | hc86
          · have c87 : x1.toInt < (0 : Int) := o_lt hc86
            omega
          · omega
        obtain ⟨b88, o89, k90⟩ := gE_11_6 L k_a0 o81 (i := x1.toNatClampNeg) (by omega)
        refine ok_at o89 ?_
        unfold J_X11_room_48
        exact ok_some (show CI ad h.1 δ0 d54 ∧ (kp [] δ d54 ∧ q_V d54 = q_V δ) ∧ True from ⟨i56, ⟨kp_w (by decide) u60, v61⟩, trivial⟩)
    · have c91 : x2.toInt ≠ (1 : Int) := o_ne h52
      unfold J_X11_room_20
      refine ok_bxv (k_X11_need L hN (a0 := a0) (x1 := (0 : Int32)) k_a0 i3) (fun n d hp => (show CI ad h.1 δ0 d ∧ (kp [] δ d ∧ q_V d = q_V δ) ∧ ((n = 0 ∨ n = 2) ∧ True) from ⟨hp.1, ⟨kp_w (by decide) (kp_t u8 hp.2.1.1), (hp.2.1.2).trans v9⟩, (by have hq : n = 2 := hp.2.2.1; omega), trivial⟩)) (fun d92 hp93 => ?_)
      obtain ⟨i94, ⟨u95, u96⟩, p97⟩ := hp93
      have u98 := kp_t u8 u95
      have v99 : q_V d92 = q_V δ := (u96).trans v9
      exact absurd rfl (show (0 : Int) ≠ 0 from p97)
set_option maxHeartbeats 4000000 in
theorem k_X11_runs {ad : List Nat} {h : hp} (L : Lay TLx ad h) {δ0 : dp} {N : Nat} (hN : 10000000 ≤ N) {a0 : Nat} {x1 : Int32} {x2 : Int32} (k_a0 : q_K h.1 a0 = 11) {δ : dp} (I : CI ad h.1 δ0 δ) : ok (D_X11_runs N h.1 a0 x1 x2 δ) (fun r => CI ad h.1 δ0 r.2 ∧ (kp [] δ r.2 ∧ q_V r.2 = q_V δ) ∧ match r.1 with | .inl v => True | .inr n => ((n = 0) ∧ True)) := by
  unfold D_X11_runs
  refine ok_bxv (k_X11_needHouse L hN (a0 := a0) (x1 := x1) k_a0 I) (fun n d hp => (show CI ad h.1 δ0 d ∧ (kp [] δ d ∧ q_V d = q_V δ) ∧ ((n = 0) ∧ True) from ⟨hp.1, ⟨kp_w (by decide) (kp_t kp_r hp.2.1.1), (hp.2.1.2).trans rfl⟩, (by have hq : n = 0 := hp.2.2.1; omega), trivial⟩)) (fun d1 hp2 => ?_)
  obtain ⟨i3, ⟨u4, u5⟩, p6, p7⟩ := hp2
  have u8 := kp_t kp_r u4
  have v9 : q_V d1 = q_V δ := (u5).trans rfl
  have f10 := ti_b x1
  refine ok_bxv (k_X11_needHouse L hN (a0 := a0) (x1 := x2) k_a0 i3) (fun n d hp => (show CI ad h.1 δ0 d ∧ (kp [] δ d ∧ q_V d = q_V δ) ∧ ((n = 0) ∧ True) from ⟨hp.1, ⟨kp_w (by decide) (kp_t u8 hp.2.1.1), (hp.2.1.2).trans v9⟩, (by have hq : n = 0 := hp.2.2.1; omega), trivial⟩)) (fun d11 hp12 => ?_)
  obtain ⟨i13, ⟨u14, u15⟩, p16, p17⟩ := hp12
  have u18 := kp_t u8 u14
  have v19 : q_V d11 = q_V δ := (u15).trans v9
  have f20 := ti_b x2
  obtain ⟨b21, o22, k23, n24, w25⟩ := gO_11_6 L k_a0
  refine ok_at o22 ?_
  have t26 := ti_tn x1
  refine ok_gd (fun hc27 => ?_) ?_
  · rcases hc27 with hc27 | hc27
    · have c28 : x1.toInt < (0 : Int) := o_lt hc27
      omega
    · omega
  obtain ⟨b29, o30, k31⟩ := gE_11_6 L k_a0 o22 (i := x1.toNatClampNeg) (by omega)
  refine ok_at o30 ?_
  obtain ⟨b32, o33, k34⟩ := gO_2_0 L k31
  refine ok_at o33 ?_
  refine ok_at o22 ?_
  have t35 := ti_tn x2
  refine ok_gd (fun hc36 => ?_) ?_
  · rcases hc36 with hc36 | hc36
    · have c37 : x2.toInt < (0 : Int) := o_lt hc36
      omega
    · omega
  obtain ⟨b38, o39, k40⟩ := gE_11_6 L k_a0 o22 (i := x2.toNatClampNeg) (by omega)
  refine ok_at o39 ?_
  obtain ⟨b41, o42, k43⟩ := gO_2_0 L k40
  refine ok_at o42 ?_
  refine ok_bind (k_X3_runsWith L hN (a0 := b32) (a1 := b41) k34 k43 i13) (fun r44 hr45 => ?_)
  have i46 := hr45
  try rw [i46]
  have f47 := ti_b r44.1
  exact ok_some (show CI ad h.1 δ0 d11 ∧ (kp [] δ d11 ∧ q_V d11 = q_V δ) ∧ True from ⟨i13, ⟨kp_w (by decide) u18, v19⟩, trivial⟩)
set_option maxHeartbeats 4000000 in
theorem k_X11_gap {ad : List Nat} {h : hp} (L : Lay TLx ad h) {δ0 : dp} {N : Nat} (hN : 10000000 ≤ N) {a0 : Nat} {x1 : Int32} {x2 : Int32} (k_a0 : q_K h.1 a0 = 11) {δ : dp} (I : CI ad h.1 δ0 δ) : ok (D_X11_gap N h.1 a0 x1 x2 δ) (fun r => CI ad h.1 δ0 r.2 ∧ (kp [] δ r.2 ∧ q_V r.2 = q_V δ) ∧ match r.1 with | .inl v => True | .inr n => ((n = 0 ∨ n = 2) ∧ True)) := by
  unfold D_X11_gap
  refine ok_bxv (k_X11_needHouse L hN (a0 := a0) (x1 := x1) k_a0 I) (fun n d hp => (show CI ad h.1 δ0 d ∧ (kp [] δ d ∧ q_V d = q_V δ) ∧ ((n = 0 ∨ n = 2) ∧ True) from ⟨hp.1, ⟨kp_w (by decide) (kp_t kp_r hp.2.1.1), (hp.2.1.2).trans rfl⟩, (by have hq : n = 0 := hp.2.2.1; omega), trivial⟩)) (fun d1 hp2 => ?_)
  obtain ⟨i3, ⟨u4, u5⟩, p6, p7⟩ := hp2
  have u8 := kp_t kp_r u4
  have v9 : q_V d1 = q_V δ := (u5).trans rfl
  have f10 := ti_b x1
  have f11 := ti_b x2
  refine ok_ite (fun h12 => ?_) (fun h12 => ?_)
  · have c13 : x2.toInt = (0 : Int) := o_eq h12
    unfold J_X11_gap_15
    unfold J_X11_gap_20
    refine ok_bxv (k_X11_need L hN (a0 := a0) (x1 := (1 : Int32)) k_a0 i3) (fun n d hp => (show CI ad h.1 δ0 d ∧ (kp [] δ d ∧ q_V d = q_V δ) ∧ ((n = 0 ∨ n = 2) ∧ True) from ⟨hp.1, ⟨kp_w (by decide) (kp_t u8 hp.2.1.1), (hp.2.1.2).trans v9⟩, (by have hq : n = 2 := hp.2.2.1; omega), trivial⟩)) (fun d14 hp15 => ?_)
    obtain ⟨i16, ⟨u17, u18⟩, p19⟩ := hp15
    have u20 := kp_t u8 u17
    have v21 : q_V d14 = q_V δ := (u18).trans v9
    replace p19 : (1 : Int) ≠ 0 := p19
    obtain ⟨b22, o23, k24, n25, w26⟩ := gO_11_6 L k_a0
    refine ok_at o23 ?_
    have t27 := ti_tn x1
    refine ok_gd (fun hc28 => ?_) ?_
    · rcases hc28 with hc28 | hc28
      · have c29 : x1.toInt < (0 : Int) := o_lt hc28
        omega
      · omega
    obtain ⟨b30, o31, k32⟩ := gE_11_6 L k_a0 o23 (i := x1.toNatClampNeg) (by omega)
    refine ok_at o31 ?_
    obtain ⟨b33, o34, k35⟩ := gO_2_0 L k32
    refine ok_at o34 ?_
    refine ok_bind (k_X3_widestGap L hN (a0 := b33) k35 i16) (fun r36 hr37 => ?_)
    have i38 := hr37
    try rw [i38]
    have f39 := ti_b r36.1
    refine ok_ite (fun h40 => ?_) (fun h40 => ?_)
    · have c41 : r36.1.toInt = (-1 : Int) := o_eq h40
      exact ok_some (show CI ad h.1 δ0 d14 ∧ (kp [] δ d14 ∧ q_V d14 = q_V δ) ∧ True from ⟨i16, ⟨kp_w (by decide) u20, v21⟩, trivial⟩)
    · have c42 : r36.1.toInt ≠ (-1 : Int) := o_ne h40
      refine ok_ite (fun h43 => ?_) (fun h43 => ?_)
      · have c44 : x2.toInt = (0 : Int) := o_eq h43
        refine ok_bind (k_X3_at L hN (a0 := b33) (x1 := (r36.1 + (1 : Int32))) k35 i16) (fun r45 hr46 => ?_)
        have i47 := hr46
        try rw [i47]
        have f48 := ti_b r45.1
        refine ok_bind (k_X3_at L hN (a0 := b33) (x1 := r36.1) k35 i16) (fun r49 hr50 => ?_)
        have i51 := hr50
        try rw [i51]
        have f52 := ti_b r49.1
        unfold J_X11_gap_75
        exact ok_some (show CI ad h.1 δ0 d14 ∧ (kp [] δ d14 ∧ q_V d14 = q_V δ) ∧ True from ⟨i16, ⟨kp_w (by decide) u20, v21⟩, trivial⟩)
      · have c53 : x2.toInt ≠ (0 : Int) := o_ne h43
        refine ok_bind (k_X3_at L hN (a0 := b33) (x1 := r36.1) k35 i16) (fun r54 hr55 => ?_)
        have i56 := hr55
        try rw [i56]
        have f57 := ti_b r54.1
        unfold J_X11_gap_75
        exact ok_some (show CI ad h.1 δ0 d14 ∧ (kp [] δ d14 ∧ q_V d14 = q_V δ) ∧ True from ⟨i16, ⟨kp_w (by decide) u20, v21⟩, trivial⟩)
  · have c58 : x2.toInt ≠ (0 : Int) := o_ne h12
    refine ok_ite (fun h59 => ?_) (fun h59 => ?_)
    · have c60 : x2.toInt = (1 : Int) := o_eq h59
      unfold J_X11_gap_15
      unfold J_X11_gap_20
      refine ok_bxv (k_X11_need L hN (a0 := a0) (x1 := (1 : Int32)) k_a0 i3) (fun n d hp => (show CI ad h.1 δ0 d ∧ (kp [] δ d ∧ q_V d = q_V δ) ∧ ((n = 0 ∨ n = 2) ∧ True) from ⟨hp.1, ⟨kp_w (by decide) (kp_t u8 hp.2.1.1), (hp.2.1.2).trans v9⟩, (by have hq : n = 2 := hp.2.2.1; omega), trivial⟩)) (fun d61 hp62 => ?_)
      obtain ⟨i63, ⟨u64, u65⟩, p66⟩ := hp62
      have u67 := kp_t u8 u64
      have v68 : q_V d61 = q_V δ := (u65).trans v9
      replace p66 : (1 : Int) ≠ 0 := p66
      obtain ⟨b69, o70, k71, n72, w73⟩ := gO_11_6 L k_a0
      refine ok_at o70 ?_
      have t74 := ti_tn x1
      refine ok_gd (fun hc75 => ?_) ?_
      · rcases hc75 with hc75 | hc75
        · have c76 : x1.toInt < (0 : Int) := o_lt hc75
          omega
        · omega
      obtain ⟨b77, o78, k79⟩ := gE_11_6 L k_a0 o70 (i := x1.toNatClampNeg) (by omega)
      refine ok_at o78 ?_
      obtain ⟨b80, o81, k82⟩ := gO_2_0 L k79
      refine ok_at o81 ?_
      refine ok_bind (k_X3_widestGap L hN (a0 := b80) k82 i63) (fun r83 hr84 => ?_)
      have i85 := hr84
      try rw [i85]
      have f86 := ti_b r83.1
      refine ok_ite (fun h87 => ?_) (fun h87 => ?_)
      · have c88 : r83.1.toInt = (-1 : Int) := o_eq h87
        exact ok_some (show CI ad h.1 δ0 d61 ∧ (kp [] δ d61 ∧ q_V d61 = q_V δ) ∧ True from ⟨i63, ⟨kp_w (by decide) u67, v68⟩, trivial⟩)
      · have c89 : r83.1.toInt ≠ (-1 : Int) := o_ne h87
        refine ok_ite (fun h90 => ?_) (fun h90 => ?_)
        · have c91 : x2.toInt = (0 : Int) := o_eq h90
          refine ok_bind (k_X3_at L hN (a0 := b80) (x1 := (r83.1 + (1 : Int32))) k82 i63) (fun r92 hr93 => ?_)
          have i94 := hr93
          try rw [i94]
          have f95 := ti_b r92.1
          refine ok_bind (k_X3_at L hN (a0 := b80) (x1 := r83.1) k82 i63) (fun r96 hr97 => ?_)
          have i98 := hr97
          try rw [i98]
          have f99 := ti_b r96.1
          unfold J_X11_gap_75
          exact ok_some (show CI ad h.1 δ0 d61 ∧ (kp [] δ d61 ∧ q_V d61 = q_V δ) ∧ True from ⟨i63, ⟨kp_w (by decide) u67, v68⟩, trivial⟩)
        · have c100 : x2.toInt ≠ (0 : Int) := o_ne h90
          refine ok_bind (k_X3_at L hN (a0 := b80) (x1 := r83.1) k82 i63) (fun r101 hr102 => ?_)
          have i103 := hr102
          try rw [i103]
          have f104 := ti_b r101.1
          unfold J_X11_gap_75
          exact ok_some (show CI ad h.1 δ0 d61 ∧ (kp [] δ d61 ∧ q_V d61 = q_V δ) ∧ True from ⟨i63, ⟨kp_w (by decide) u67, v68⟩, trivial⟩)
    · have c105 : x2.toInt ≠ (1 : Int) := o_ne h59
      unfold J_X11_gap_20
      refine ok_bxv (k_X11_need L hN (a0 := a0) (x1 := (0 : Int32)) k_a0 i3) (fun n d hp => (show CI ad h.1 δ0 d ∧ (kp [] δ d ∧ q_V d = q_V δ) ∧ ((n = 0 ∨ n = 2) ∧ True) from ⟨hp.1, ⟨kp_w (by decide) (kp_t u8 hp.2.1.1), (hp.2.1.2).trans v9⟩, (by have hq : n = 2 := hp.2.2.1; omega), trivial⟩)) (fun d106 hp107 => ?_)
      obtain ⟨i108, ⟨u109, u110⟩, p111⟩ := hp107
      have u112 := kp_t u8 u109
      have v113 : q_V d106 = q_V δ := (u110).trans v9
      exact absurd rfl (show (0 : Int) ≠ 0 from p111)
set_option maxHeartbeats 4000000 in
theorem k_X11_has {ad : List Nat} {h : hp} (L : Lay TLx ad h) {δ0 : dp} {N : Nat} (hN : 10000000 ≤ N) {a0 : Nat} {x1 : Int32} {x2 : Int32} (k_a0 : q_K h.1 a0 = 11) {δ : dp} (I : CI ad h.1 δ0 δ) : ok (D_X11_has N h.1 a0 x1 x2 δ) (fun r => CI ad h.1 δ0 r.2 ∧ (kp [] δ r.2 ∧ q_V r.2 = q_V δ) ∧ match r.1 with | .inl v => True | .inr n => ((n = 0 ∨ n = 2) ∧ True)) := by
  unfold D_X11_has
  refine ok_bxv (k_X11_needHouse L hN (a0 := a0) (x1 := x1) k_a0 I) (fun n d hp => (show CI ad h.1 δ0 d ∧ (kp [] δ d ∧ q_V d = q_V δ) ∧ ((n = 0 ∨ n = 2) ∧ True) from ⟨hp.1, ⟨kp_w (by decide) (kp_t kp_r hp.2.1.1), (hp.2.1.2).trans rfl⟩, (by have hq : n = 0 := hp.2.2.1; omega), trivial⟩)) (fun d1 hp2 => ?_)
  obtain ⟨i3, ⟨u4, u5⟩, p6, p7⟩ := hp2
  have u8 := kp_t kp_r u4
  have v9 : q_V d1 = q_V δ := (u5).trans rfl
  have f10 := ti_b x1
  refine ok_bxv (k_X11_needNumber L hN (a0 := a0) (x1 := x2) k_a0 i3) (fun n d hp => (show CI ad h.1 δ0 d ∧ (kp [] δ d ∧ q_V d = q_V δ) ∧ ((n = 0 ∨ n = 2) ∧ True) from ⟨hp.1, ⟨kp_w (by decide) (kp_t u8 hp.2.1.1), (hp.2.1.2).trans v9⟩, (by have hq : n = 2 := hp.2.2.1; omega), trivial⟩)) (fun d11 hp12 => ?_)
  obtain ⟨i13, ⟨u14, u15⟩, p16⟩ := hp12
  have u17 := kp_t u8 u14
  have v18 : q_V d11 = q_V δ := (u15).trans v9
  obtain ⟨b19, o20, k21, n22, w23⟩ := gO_11_6 L k_a0
  refine ok_at o20 ?_
  have t24 := ti_tn x1
  refine ok_gd (fun hc25 => ?_) ?_
  · rcases hc25 with hc25 | hc25
    · have c26 : x1.toInt < (0 : Int) := o_lt hc25
      omega
    · omega
  obtain ⟨b27, o28, k29⟩ := gE_11_6 L k_a0 o20 (i := x1.toNatClampNeg) (by omega)
  refine ok_at o28 ?_
  obtain ⟨b30, o31, k32⟩ := gO_2_0 L k29
  refine ok_at o31 ?_
  refine ok_bind (k_X3_holds L hN (a0 := b30) (x1 := x2) k32 i13) (fun r33 hr34 => ?_)
  obtain ⟨i35, p36⟩ := hr34
  try rw [i35]
  have f37 := bo_t p36
  have f38 := ti_b r33.1
  refine ok_gp (show bo r33.1 by first | assumption | exact bo_0 | exact bo_1) ?_
  exact ok_some (show CI ad h.1 δ0 d11 ∧ (kp [] δ d11 ∧ q_V d11 = q_V δ) ∧ True from ⟨i13, ⟨kp_w (by decide) u17, v18⟩, trivial⟩)
set_option maxHeartbeats 4000000 in
theorem k_X11_touches {ad : List Nat} {h : hp} (L : Lay TLx ad h) {δ0 : dp} {N : Nat} (hN : 10000000 ≤ N) {a0 : Nat} {x1 : Int32} {x2 : Int32} {x3 : Int32} {x4 : Int32} (k_a0 : q_K h.1 a0 = 11) {δ : dp} (I : CI ad h.1 δ0 δ) : ok (D_X11_touches N h.1 a0 x1 x2 x3 x4 δ) (fun r => CI ad h.1 δ0 r.2 ∧ (kp [(1, 3), (1, 4), (1, 5), (1, 6), (1, 7), (1, 8), (1, 9), (1, 10), (1, 11), (1, 12), (1, 13), (1, 14), (1, 15)] δ r.2 ∧ q_V r.2 = q_V δ) ∧ match r.1 with | .inl v => True | .inr n => ((n = 0 ∨ n = 2) ∧ True)) := by
  unfold D_X11_touches
  refine ok_bxv (k_X11_needHouse L hN (a0 := a0) (x1 := x1) k_a0 I) (fun n d hp => (show CI ad h.1 δ0 d ∧ (kp [(1, 3), (1, 4), (1, 5), (1, 6), (1, 7), (1, 8), (1, 9), (1, 10), (1, 11), (1, 12), (1, 13), (1, 14), (1, 15)] δ d ∧ q_V d = q_V δ) ∧ ((n = 0 ∨ n = 2) ∧ True) from ⟨hp.1, ⟨kp_w (by decide) (kp_t kp_r hp.2.1.1), (hp.2.1.2).trans rfl⟩, (by have hq : n = 0 := hp.2.2.1; omega), trivial⟩)) (fun d1 hp2 => ?_)
  obtain ⟨i3, ⟨u4, u5⟩, p6, p7⟩ := hp2
  have u8 := kp_t kp_r u4
  have v9 : q_V d1 = q_V δ := (u5).trans rfl
  have f10 := ti_b x1
  refine ok_bind (k_X11_isCall L hN (x0 := x2)  i3) (fun r11 hr12 => ?_)
  obtain ⟨i13, p14, p15⟩ := hr12
  try rw [i13]
  have f16 := bo_t p14
  have f17 := ti_b r11.1
  have f18 := ti_b x2
  refine ok_ite (fun h19 => ?_) (fun h19 => ?_)
  · have c20 : r11.1.toInt = (0 : Int) := o_eq h19
    unfold J_X11_touches_34
    unfold J_X11_touches_35
    refine ok_bxv (k_X11_need L hN (a0 := a0) (x1 := (0 : Int32)) k_a0 i3) (fun n d hp => (show CI ad h.1 δ0 d ∧ (kp [(1, 3), (1, 4), (1, 5), (1, 6), (1, 7), (1, 8), (1, 9), (1, 10), (1, 11), (1, 12), (1, 13), (1, 14), (1, 15)] δ d ∧ q_V d = q_V δ) ∧ ((n = 0 ∨ n = 2) ∧ True) from ⟨hp.1, ⟨kp_w (by decide) (kp_t u8 hp.2.1.1), (hp.2.1.2).trans v9⟩, (by have hq : n = 2 := hp.2.2.1; omega), trivial⟩)) (fun d21 hp22 => ?_)
    obtain ⟨i23, ⟨u24, u25⟩, p26⟩ := hp22
    have u27 := kp_t u8 u24
    have v28 : q_V d21 = q_V δ := (u25).trans v9
    exact absurd rfl (show (0 : Int) ≠ 0 from p26)
  · have c29 : r11.1.toInt ≠ (0 : Int) := o_ne h19
    refine ok_bind (k_X11_mayAsk L hN (a0 := a0) (x1 := x2) (x2 := x3) k_a0 i3) (fun r30 hr31 => ?_)
    obtain ⟨i32, p33⟩ := hr31
    try rw [i32]
    have f34 := bo_t p33
    have f35 := ti_b r30.1
    refine ok_ite (fun h36 => ?_) (fun h36 => ?_)
    · have c37 : r30.1.toInt = (0 : Int) := o_eq h36
      unfold J_X11_touches_34
      unfold J_X11_touches_35
      refine ok_bxv (k_X11_need L hN (a0 := a0) (x1 := (0 : Int32)) k_a0 i3) (fun n d hp => (show CI ad h.1 δ0 d ∧ (kp [(1, 3), (1, 4), (1, 5), (1, 6), (1, 7), (1, 8), (1, 9), (1, 10), (1, 11), (1, 12), (1, 13), (1, 14), (1, 15)] δ d ∧ q_V d = q_V δ) ∧ ((n = 0 ∨ n = 2) ∧ True) from ⟨hp.1, ⟨kp_w (by decide) (kp_t u8 hp.2.1.1), (hp.2.1.2).trans v9⟩, (by have hq : n = 2 := hp.2.2.1; omega), trivial⟩)) (fun d38 hp39 => ?_)
      obtain ⟨i40, ⟨u41, u42⟩, p43⟩ := hp39
      have u44 := kp_t u8 u41
      have v45 : q_V d38 = q_V δ := (u42).trans v9
      exact absurd rfl (show (0 : Int) ≠ 0 from p43)
    · have c46 : r30.1.toInt ≠ (0 : Int) := o_ne h36
      refine ok_bind (k_X11_isKind L hN (x0 := x4)  i3) (fun r47 hr48 => ?_)
      obtain ⟨i49, p50⟩ := hr48
      try rw [i49]
      have f51 := bo_t p50
      have f52 := ti_b r47.1
      refine ok_ite (fun h53 => ?_) (fun h53 => ?_)
      · have c54 : r47.1.toInt = (0 : Int) := o_eq h53
        unfold J_X11_touches_34
        unfold J_X11_touches_35
        refine ok_bxv (k_X11_need L hN (a0 := a0) (x1 := (0 : Int32)) k_a0 i3) (fun n d hp => (show CI ad h.1 δ0 d ∧ (kp [(1, 3), (1, 4), (1, 5), (1, 6), (1, 7), (1, 8), (1, 9), (1, 10), (1, 11), (1, 12), (1, 13), (1, 14), (1, 15)] δ d ∧ q_V d = q_V δ) ∧ ((n = 0 ∨ n = 2) ∧ True) from ⟨hp.1, ⟨kp_w (by decide) (kp_t u8 hp.2.1.1), (hp.2.1.2).trans v9⟩, (by have hq : n = 2 := hp.2.2.1; omega), trivial⟩)) (fun d55 hp56 => ?_)
        obtain ⟨i57, ⟨u58, u59⟩, p60⟩ := hp56
        have u61 := kp_t u8 u58
        have v62 : q_V d55 = q_V δ := (u59).trans v9
        exact absurd rfl (show (0 : Int) ≠ 0 from p60)
      · have c63 : r47.1.toInt ≠ (0 : Int) := o_ne h53
        unfold J_X11_touches_35
        refine ok_bxv (k_X11_need L hN (a0 := a0) (x1 := (1 : Int32)) k_a0 i3) (fun n d hp => (show CI ad h.1 δ0 d ∧ (kp [(1, 3), (1, 4), (1, 5), (1, 6), (1, 7), (1, 8), (1, 9), (1, 10), (1, 11), (1, 12), (1, 13), (1, 14), (1, 15)] δ d ∧ q_V d = q_V δ) ∧ ((n = 0 ∨ n = 2) ∧ True) from ⟨hp.1, ⟨kp_w (by decide) (kp_t u8 hp.2.1.1), (hp.2.1.2).trans v9⟩, (by have hq : n = 2 := hp.2.2.1; omega), trivial⟩)) (fun d64 hp65 => ?_)
        obtain ⟨i66, ⟨u67, u68⟩, p69⟩ := hp65
        have u70 := kp_t u8 u67
        have v71 : q_V d64 = q_V δ := (u68).trans v9
        replace p69 : (1 : Int) ≠ 0 := p69
        have f72 := ti_b x4
        refine ok_ite (fun h73 => ?_) (fun h73 => ?_)
        · have c74 : x4.toInt = (0 : Int) := o_eq h73
          obtain ⟨b75, o76, k77, n78, w79⟩ := gO_11_6 L k_a0
          refine ok_at o76 ?_
          have t80 := ti_tn x1
          refine ok_gd (fun hc81 => ?_) ?_
          · rcases hc81 with hc81 | hc81
            · have c82 : x1.toInt < (0 : Int) := o_lt hc81
              omega
            · omega
          obtain ⟨b83, o84, k85⟩ := gE_11_6 L k_a0 o76 (i := x1.toNatClampNeg) (by omega)
          refine ok_at o84 ?_
          obtain ⟨b86, o87, k88⟩ := gO_2_1 L k85
          refine ok_at o87 ?_
          obtain ⟨b91, o92, k93⟩ := gO_1_1 L k88
          refine ok_bind (k_X1_touchesOf L hN (a0 := b86) (x1 := x2) (x2 := x3) k88 o92 k93 i66) (fun r89 hr90 => ?_)
          obtain ⟨i94, ⟨u95, u96, u97⟩⟩ := hr90
          have u98 := kp_t u70 u95
          have v99 : q_V r89.2 = q_V δ := (u96).trans v71
          have f100 := ti_b r89.1
          exact ok_some (show CI ad h.1 δ0 r89.2 ∧ (kp [(1, 3), (1, 4), (1, 5), (1, 6), (1, 7), (1, 8), (1, 9), (1, 10), (1, 11), (1, 12), (1, 13), (1, 14), (1, 15)] δ r89.2 ∧ q_V r89.2 = q_V δ) ∧ True from ⟨i94, ⟨kp_w (by decide) u98, v99⟩, trivial⟩)
        · have c101 : x4.toInt ≠ (0 : Int) := o_ne h73
          obtain ⟨b102, o103, k104, n105, w106⟩ := gO_11_6 L k_a0
          refine ok_at o103 ?_
          have t107 := ti_tn x1
          refine ok_gd (fun hc108 => ?_) ?_
          · rcases hc108 with hc108 | hc108
            · have c109 : x1.toInt < (0 : Int) := o_lt hc108
              omega
            · omega
          obtain ⟨b110, o111, k112⟩ := gE_11_6 L k_a0 o103 (i := x1.toNatClampNeg) (by omega)
          refine ok_at o111 ?_
          obtain ⟨b113, o114, k115⟩ := gO_2_0 L k112
          refine ok_at o114 ?_
          refine ok_ite (fun h116 => ?_) (fun h116 => ?_)
          · have c117 : x4.toInt = (1 : Int) := o_eq h116
            obtain ⟨b118, o119, k120⟩ := gO_11_1 L k_a0
            refine ok_at o119 ?_
            refine ok_bind (k_X3_touchesInWords L hN (a0 := b113) (x1 := x2) (x2 := x3) (x3 := (q_I d64 5 0 b118)) k115 i66) (fun r121 hr122 => ?_)
            have i123 := hr122
            try rw [i123]
            have f124 := ti_b r121.1
            unfold J_X11_touches_99
            exact ok_some (show CI ad h.1 δ0 d64 ∧ (kp [(1, 3), (1, 4), (1, 5), (1, 6), (1, 7), (1, 8), (1, 9), (1, 10), (1, 11), (1, 12), (1, 13), (1, 14), (1, 15)] δ d64 ∧ q_V d64 = q_V δ) ∧ True from ⟨i66, ⟨kp_w (by decide) u70, v71⟩, trivial⟩)
          · have c125 : x4.toInt ≠ (1 : Int) := o_ne h116
            refine ok_bind (k_X3_touchesInRow L hN (a0 := b113) (x1 := x2) (x2 := x3) k115 i66) (fun r126 hr127 => ?_)
            have i128 := hr127
            try rw [i128]
            have f129 := ti_b r126.1
            unfold J_X11_touches_99
            exact ok_some (show CI ad h.1 δ0 d64 ∧ (kp [(1, 3), (1, 4), (1, 5), (1, 6), (1, 7), (1, 8), (1, 9), (1, 10), (1, 11), (1, 12), (1, 13), (1, 14), (1, 15)] δ d64 ∧ q_V d64 = q_V δ) ∧ True from ⟨i66, ⟨kp_w (by decide) u70, v71⟩, trivial⟩)
set_option maxHeartbeats 4000000 in
theorem k_X11_joins {ad : List Nat} {h : hp} (L : Lay TLx ad h) {δ0 : dp} {N : Nat} (hN : 10000000 ≤ N) {a0 : Nat} {x1 : Int32} {x2 : Int32} {x3 : Int32} (k_a0 : q_K h.1 a0 = 11) {δ : dp} (I : CI ad h.1 δ0 δ) : ok (D_X11_joins N h.1 a0 x1 x2 x3 δ) (fun r => CI ad h.1 δ0 r.2 ∧ (kp [(1, 3), (1, 4), (1, 5), (1, 6), (1, 7), (1, 8), (1, 9), (1, 10), (1, 11), (1, 12), (1, 13), (1, 14), (1, 15), (2, 4), (3, 1), (4, 16)] δ r.2 ∧ q_V r.2 = q_V δ) ∧ match r.1 with | .inl v => True | .inr n => ((n = 0 ∨ n = 2) ∧ True)) := by
  unfold D_X11_joins
  refine ok_bxv (k_X11_needHouse L hN (a0 := a0) (x1 := x1) k_a0 I) (fun n d hp => (show CI ad h.1 δ0 d ∧ (kp [(1, 3), (1, 4), (1, 5), (1, 6), (1, 7), (1, 8), (1, 9), (1, 10), (1, 11), (1, 12), (1, 13), (1, 14), (1, 15), (2, 4), (3, 1), (4, 16)] δ d ∧ q_V d = q_V δ) ∧ ((n = 0 ∨ n = 2) ∧ True) from ⟨hp.1, ⟨kp_w (by decide) (kp_t kp_r hp.2.1.1), (hp.2.1.2).trans rfl⟩, (by have hq : n = 0 := hp.2.2.1; omega), trivial⟩)) (fun d1 hp2 => ?_)
  obtain ⟨i3, ⟨u4, u5⟩, p6, p7⟩ := hp2
  have u8 := kp_t kp_r u4
  have v9 : q_V d1 = q_V δ := (u5).trans rfl
  have f10 := ti_b x1
  refine ok_bxv (k_X11_needHouse L hN (a0 := a0) (x1 := x2) k_a0 i3) (fun n d hp => (show CI ad h.1 δ0 d ∧ (kp [(1, 3), (1, 4), (1, 5), (1, 6), (1, 7), (1, 8), (1, 9), (1, 10), (1, 11), (1, 12), (1, 13), (1, 14), (1, 15), (2, 4), (3, 1), (4, 16)] δ d ∧ q_V d = q_V δ) ∧ ((n = 0 ∨ n = 2) ∧ True) from ⟨hp.1, ⟨kp_w (by decide) (kp_t u8 hp.2.1.1), (hp.2.1.2).trans v9⟩, (by have hq : n = 0 := hp.2.2.1; omega), trivial⟩)) (fun d11 hp12 => ?_)
  obtain ⟨i13, ⟨u14, u15⟩, p16, p17⟩ := hp12
  have u18 := kp_t u8 u14
  have v19 : q_V d11 = q_V δ := (u15).trans v9
  have f20 := ti_b x2
  refine ok_ite (fun h21 => ?_) (fun h21 => ?_)
  · have c22 : x1.toInt = x2.toInt := o_eq h21
    unfold J_X11_joins_29
    unfold J_X11_joins_30
    refine ok_bxv (k_X11_need L hN (a0 := a0) (x1 := (0 : Int32)) k_a0 i13) (fun n d hp => (show CI ad h.1 δ0 d ∧ (kp [(1, 3), (1, 4), (1, 5), (1, 6), (1, 7), (1, 8), (1, 9), (1, 10), (1, 11), (1, 12), (1, 13), (1, 14), (1, 15), (2, 4), (3, 1), (4, 16)] δ d ∧ q_V d = q_V δ) ∧ ((n = 0 ∨ n = 2) ∧ True) from ⟨hp.1, ⟨kp_w (by decide) (kp_t u18 hp.2.1.1), (hp.2.1.2).trans v19⟩, (by have hq : n = 2 := hp.2.2.1; omega), trivial⟩)) (fun d23 hp24 => ?_)
    obtain ⟨i25, ⟨u26, u27⟩, p28⟩ := hp24
    have u29 := kp_t u18 u26
    have v30 : q_V d23 = q_V δ := (u27).trans v19
    exact absurd rfl (show (0 : Int) ≠ 0 from p28)
  · have c31 : x1.toInt ≠ x2.toInt := o_ne h21
    have f32 := ti_b x3
    refine ok_ite (fun h33 => ?_) (fun h33 => ?_)
    · have c34 : x3.toInt < (0 : Int) := o_lt h33
      unfold J_X11_joins_29
      unfold J_X11_joins_30
      refine ok_bxv (k_X11_need L hN (a0 := a0) (x1 := (0 : Int32)) k_a0 i13) (fun n d hp => (show CI ad h.1 δ0 d ∧ (kp [(1, 3), (1, 4), (1, 5), (1, 6), (1, 7), (1, 8), (1, 9), (1, 10), (1, 11), (1, 12), (1, 13), (1, 14), (1, 15), (2, 4), (3, 1), (4, 16)] δ d ∧ q_V d = q_V δ) ∧ ((n = 0 ∨ n = 2) ∧ True) from ⟨hp.1, ⟨kp_w (by decide) (kp_t u18 hp.2.1.1), (hp.2.1.2).trans v19⟩, (by have hq : n = 2 := hp.2.2.1; omega), trivial⟩)) (fun d35 hp36 => ?_)
      obtain ⟨i37, ⟨u38, u39⟩, p40⟩ := hp36
      have u41 := kp_t u18 u38
      have v42 : q_V d35 = q_V δ := (u39).trans v19
      exact absurd rfl (show (0 : Int) ≠ 0 from p40)
    · have c43 : (0 : Int) ≤ x3.toInt := o_nlt h33
      refine ok_ite (fun h44 => ?_) (fun h44 => ?_)
      · have c45 : (2 : Int) < x3.toInt := o_lt h44
        unfold J_X11_joins_29
        unfold J_X11_joins_30
        refine ok_bxv (k_X11_need L hN (a0 := a0) (x1 := (0 : Int32)) k_a0 i13) (fun n d hp => (show CI ad h.1 δ0 d ∧ (kp [(1, 3), (1, 4), (1, 5), (1, 6), (1, 7), (1, 8), (1, 9), (1, 10), (1, 11), (1, 12), (1, 13), (1, 14), (1, 15), (2, 4), (3, 1), (4, 16)] δ d ∧ q_V d = q_V δ) ∧ ((n = 0 ∨ n = 2) ∧ True) from ⟨hp.1, ⟨kp_w (by decide) (kp_t u18 hp.2.1.1), (hp.2.1.2).trans v19⟩, (by have hq : n = 2 := hp.2.2.1; omega), trivial⟩)) (fun d46 hp47 => ?_)
        obtain ⟨i48, ⟨u49, u50⟩, p51⟩ := hp47
        have u52 := kp_t u18 u49
        have v53 : q_V d46 = q_V δ := (u50).trans v19
        exact absurd rfl (show (0 : Int) ≠ 0 from p51)
      · have c54 : x3.toInt ≤ (2 : Int) := o_nlt h44
        unfold J_X11_joins_30
        refine ok_bxv (k_X11_need L hN (a0 := a0) (x1 := (1 : Int32)) k_a0 i13) (fun n d hp => (show CI ad h.1 δ0 d ∧ (kp [(1, 3), (1, 4), (1, 5), (1, 6), (1, 7), (1, 8), (1, 9), (1, 10), (1, 11), (1, 12), (1, 13), (1, 14), (1, 15), (2, 4), (3, 1), (4, 16)] δ d ∧ q_V d = q_V δ) ∧ ((n = 0 ∨ n = 2) ∧ True) from ⟨hp.1, ⟨kp_w (by decide) (kp_t u18 hp.2.1.1), (hp.2.1.2).trans v19⟩, (by have hq : n = 2 := hp.2.2.1; omega), trivial⟩)) (fun d55 hp56 => ?_)
        obtain ⟨i57, ⟨u58, u59⟩, p60⟩ := hp56
        have u61 := kp_t u18 u58
        have v62 : q_V d55 = q_V δ := (u59).trans v19
        replace p60 : (1 : Int) ≠ 0 := p60
        obtain ⟨b63, o64, k65, n66, w67⟩ := gO_11_6 L k_a0
        refine ok_at o64 ?_
        have t68 := ti_tn x1
        refine ok_gd (fun hc69 => ?_) ?_
        · rcases hc69 with hc69 | hc69
          · have c70 : x1.toInt < (0 : Int) := o_lt hc69
            omega
          · omega
        obtain ⟨b71, o72, k73⟩ := gE_11_6 L k_a0 o64 (i := x1.toNatClampNeg) (by omega)
        refine ok_at o72 ?_
        refine ok_at o64 ?_
        have t74 := ti_tn x2
        refine ok_gd (fun hc75 => ?_) ?_
        · rcases hc75 with hc75 | hc75
          · have c76 : x2.toInt < (0 : Int) := o_lt hc75
            omega
          · omega
        obtain ⟨b77, o78, k79⟩ := gE_11_6 L k_a0 o64 (i := x2.toNatClampNeg) (by omega)
        refine ok_at o78 ?_
        obtain ⟨b80, o81, k82⟩ := gO_2_0 L k79
        refine ok_at o81 ?_
        obtain ⟨b83, o84, k85⟩ := gO_2_0 L k73
        refine ok_at o84 ?_
        refine ok_bind (k_X3_commonFrom L hN (a0 := b83) (x1 := (0 : Int32)) (a2 := b80) k85 k82 (show 0 ≤ (0 : Int) by first | with_reducible assumption | omega) (show (0 : Int) ≤ 2000 by first | with_reducible assumption | omega) i57) (fun r86 hr87 => ?_)
        have i88 := hr87
        try rw [i88]
        have f89 := ti_b r86.1
        refine ok_ite (fun h90 => ?_) (fun h90 => ?_)
        · have c91 : x3.toInt = (0 : Int) := o_eq h90
          unfold J_X11_joins_81
          refine ok_ite (fun h92 => ?_) (fun h92 => ?_)
          · have c93 : x3.toInt = (1 : Int) := o_eq h92
            refine ok_at o84 ?_
            unfold J_X11_joins_113
            refine ok_bind (k_X2_refusal L hN (a0 := b71) (x1 := ((q_I d55 3 1 b80) - r86.1)) (x2 := ((q_I d55 3 1 b83) - r86.1)) k73 i57) (fun r94 hr95 => ?_)
            have i96 := hr95
            try rw [i96]
            have f97 := ti_b r94.1
            refine ok_ite (fun h98 => ?_) (fun h98 => ?_)
            · have c99 : (0 : Int) ≤ r94.1.toInt := o_le h98
              obtain ⟨b100, o101, k102⟩ := gO_11_8 L k_a0
              refine ok_at o101 ?_
              refine ok_bind (k_X4_forget L hN (a0 := b100) k102 i57) (fun r103 hr104 => ?_)
              obtain ⟨i105, ⟨u106, u107, u108⟩⟩ := hr104
              have u109 := kp_t u61 u106
              have v110 : q_V r103 = q_V δ := (u107).trans v62
              refine ok_ite (fun h111 => ?_) (fun h111 => ?_)
              · have c112 : x3.toInt = (1 : Int) := o_eq h111
                refine ok_bind (k_X2_dropAllBut L hN (a0 := b71) (a1 := b80) k73 k82 i105) (fun r113 hr114 => ?_)
                obtain ⟨i115, ⟨u116, u117⟩⟩ := hr114
                have u118 := kp_t u109 u116
                have v119 : q_V r113.2 = q_V δ := (u117).trans v110
                have f120 := ti_b r113.1
                exact ok_some (show CI ad h.1 δ0 r113.2 ∧ (kp [(1, 3), (1, 4), (1, 5), (1, 6), (1, 7), (1, 8), (1, 9), (1, 10), (1, 11), (1, 12), (1, 13), (1, 14), (1, 15), (2, 4), (3, 1), (4, 16)] δ r113.2 ∧ q_V r113.2 = q_V δ) ∧ True from ⟨i115, ⟨kp_w (by decide) u118, v119⟩, trivial⟩)
              · have c121 : x3.toInt ≠ (1 : Int) := o_ne h111
                refine ok_ite (fun h122 => ?_) (fun h122 => ?_)
                · have c123 : x3.toInt = (0 : Int) := o_eq h122
                  unfold J_X11_joins_165
                  refine ok_bind (k_X2_makeAll L hN (a0 := b71) (x1 := (0 : Int32)) (a2 := b80) k73 k82 i105) (fun r124 hr125 => ?_)
                  obtain ⟨i126, ⟨u127, u128⟩⟩ := hr125
                  have u129 := kp_t u109 u127
                  have v130 : q_V r124.2 = q_V δ := (u128).trans v110
                  have f131 := ti_b r124.1
                  exact ok_some (show CI ad h.1 δ0 r124.2 ∧ (kp [(1, 3), (1, 4), (1, 5), (1, 6), (1, 7), (1, 8), (1, 9), (1, 10), (1, 11), (1, 12), (1, 13), (1, 14), (1, 15), (2, 4), (3, 1), (4, 16)] δ r124.2 ∧ q_V r124.2 = q_V δ) ∧ True from ⟨i126, ⟨kp_w (by decide) u129, v130⟩, trivial⟩)
                · have c132 : x3.toInt ≠ (0 : Int) := o_ne h122
                  unfold J_X11_joins_165
                  refine ok_bind (k_X2_makeAll L hN (a0 := b71) (x1 := (1 : Int32)) (a2 := b80) k73 k82 i105) (fun r133 hr134 => ?_)
                  obtain ⟨i135, ⟨u136, u137⟩⟩ := hr134
                  have u138 := kp_t u109 u136
                  have v139 : q_V r133.2 = q_V δ := (u137).trans v110
                  have f140 := ti_b r133.1
                  exact ok_some (show CI ad h.1 δ0 r133.2 ∧ (kp [(1, 3), (1, 4), (1, 5), (1, 6), (1, 7), (1, 8), (1, 9), (1, 10), (1, 11), (1, 12), (1, 13), (1, 14), (1, 15), (2, 4), (3, 1), (4, 16)] δ r133.2 ∧ q_V r133.2 = q_V δ) ∧ True from ⟨i135, ⟨kp_w (by decide) u138, v139⟩, trivial⟩)
            · have c141 : r94.1.toInt < (0 : Int) := o_nle h98
              exact ok_some (show CI ad h.1 δ0 d55 ∧ (kp [(1, 3), (1, 4), (1, 5), (1, 6), (1, 7), (1, 8), (1, 9), (1, 10), (1, 11), (1, 12), (1, 13), (1, 14), (1, 15), (2, 4), (3, 1), (4, 16)] δ d55 ∧ q_V d55 = q_V δ) ∧ True from ⟨i57, ⟨kp_w (by decide) u61, v62⟩, trivial⟩)
          · have c142 : x3.toInt ≠ (1 : Int) := o_ne h92
            refine ok_ite (fun h143 => ?_) (fun h143 => ?_)
            · have c144 : x3.toInt = (2 : Int) := o_eq h143
              unfold J_X11_joins_113
              refine ok_bind (k_X2_refusal L hN (a0 := b71) (x1 := ((q_I d55 3 1 b80) - r86.1)) (x2 := r86.1) k73 i57) (fun r145 hr146 => ?_)
              have i147 := hr146
              try rw [i147]
              have f148 := ti_b r145.1
              refine ok_ite (fun h149 => ?_) (fun h149 => ?_)
              · have c150 : (0 : Int) ≤ r145.1.toInt := o_le h149
                obtain ⟨b151, o152, k153⟩ := gO_11_8 L k_a0
                refine ok_at o152 ?_
                refine ok_bind (k_X4_forget L hN (a0 := b151) k153 i57) (fun r154 hr155 => ?_)
                obtain ⟨i156, ⟨u157, u158, u159⟩⟩ := hr155
                have u160 := kp_t u61 u157
                have v161 : q_V r154 = q_V δ := (u158).trans v62
                refine ok_ite (fun h162 => ?_) (fun h162 => ?_)
                · have c163 : x3.toInt = (1 : Int) := o_eq h162
                  refine ok_bind (k_X2_dropAllBut L hN (a0 := b71) (a1 := b80) k73 k82 i156) (fun r164 hr165 => ?_)
                  obtain ⟨i166, ⟨u167, u168⟩⟩ := hr165
                  have u169 := kp_t u160 u167
                  have v170 : q_V r164.2 = q_V δ := (u168).trans v161
                  have f171 := ti_b r164.1
                  exact ok_some (show CI ad h.1 δ0 r164.2 ∧ (kp [(1, 3), (1, 4), (1, 5), (1, 6), (1, 7), (1, 8), (1, 9), (1, 10), (1, 11), (1, 12), (1, 13), (1, 14), (1, 15), (2, 4), (3, 1), (4, 16)] δ r164.2 ∧ q_V r164.2 = q_V δ) ∧ True from ⟨i166, ⟨kp_w (by decide) u169, v170⟩, trivial⟩)
                · have c172 : x3.toInt ≠ (1 : Int) := o_ne h162
                  refine ok_ite (fun h173 => ?_) (fun h173 => ?_)
                  · have c174 : x3.toInt = (0 : Int) := o_eq h173
                    unfold J_X11_joins_165
                    refine ok_bind (k_X2_makeAll L hN (a0 := b71) (x1 := (0 : Int32)) (a2 := b80) k73 k82 i156) (fun r175 hr176 => ?_)
                    obtain ⟨i177, ⟨u178, u179⟩⟩ := hr176
                    have u180 := kp_t u160 u178
                    have v181 : q_V r175.2 = q_V δ := (u179).trans v161
                    have f182 := ti_b r175.1
                    exact ok_some (show CI ad h.1 δ0 r175.2 ∧ (kp [(1, 3), (1, 4), (1, 5), (1, 6), (1, 7), (1, 8), (1, 9), (1, 10), (1, 11), (1, 12), (1, 13), (1, 14), (1, 15), (2, 4), (3, 1), (4, 16)] δ r175.2 ∧ q_V r175.2 = q_V δ) ∧ True from ⟨i177, ⟨kp_w (by decide) u180, v181⟩, trivial⟩)
                  · have c183 : x3.toInt ≠ (0 : Int) := o_ne h173
                    unfold J_X11_joins_165
                    refine ok_bind (k_X2_makeAll L hN (a0 := b71) (x1 := (1 : Int32)) (a2 := b80) k73 k82 i156) (fun r184 hr185 => ?_)
                    obtain ⟨i186, ⟨u187, u188⟩⟩ := hr185
                    have u189 := kp_t u160 u187
                    have v190 : q_V r184.2 = q_V δ := (u188).trans v161
                    have f191 := ti_b r184.1
                    exact ok_some (show CI ad h.1 δ0 r184.2 ∧ (kp [(1, 3), (1, 4), (1, 5), (1, 6), (1, 7), (1, 8), (1, 9), (1, 10), (1, 11), (1, 12), (1, 13), (1, 14), (1, 15), (2, 4), (3, 1), (4, 16)] δ r184.2 ∧ q_V r184.2 = q_V δ) ∧ True from ⟨i186, ⟨kp_w (by decide) u189, v190⟩, trivial⟩)
              · have c192 : r145.1.toInt < (0 : Int) := o_nle h149
                exact ok_some (show CI ad h.1 δ0 d55 ∧ (kp [(1, 3), (1, 4), (1, 5), (1, 6), (1, 7), (1, 8), (1, 9), (1, 10), (1, 11), (1, 12), (1, 13), (1, 14), (1, 15), (2, 4), (3, 1), (4, 16)] δ d55 ∧ q_V d55 = q_V δ) ∧ True from ⟨i57, ⟨kp_w (by decide) u61, v62⟩, trivial⟩)
            · have c193 : x3.toInt ≠ (2 : Int) := o_ne h143
              unfold J_X11_joins_113
              refine ok_bind (k_X2_refusal L hN (a0 := b71) (x1 := ((q_I d55 3 1 b80) - r86.1)) (x2 := (0 : Int32)) k73 i57) (fun r194 hr195 => ?_)
              have i196 := hr195
              try rw [i196]
              have f197 := ti_b r194.1
              refine ok_ite (fun h198 => ?_) (fun h198 => ?_)
              · have c199 : (0 : Int) ≤ r194.1.toInt := o_le h198
                obtain ⟨b200, o201, k202⟩ := gO_11_8 L k_a0
                refine ok_at o201 ?_
                refine ok_bind (k_X4_forget L hN (a0 := b200) k202 i57) (fun r203 hr204 => ?_)
                obtain ⟨i205, ⟨u206, u207, u208⟩⟩ := hr204
                have u209 := kp_t u61 u206
                have v210 : q_V r203 = q_V δ := (u207).trans v62
                refine ok_ite (fun h211 => ?_) (fun h211 => ?_)
                · have c212 : x3.toInt = (1 : Int) := o_eq h211
                  refine ok_bind (k_X2_dropAllBut L hN (a0 := b71) (a1 := b80) k73 k82 i205) (fun r213 hr214 => ?_)
                  obtain ⟨i215, ⟨u216, u217⟩⟩ := hr214
                  have u218 := kp_t u209 u216
                  have v219 : q_V r213.2 = q_V δ := (u217).trans v210
                  have f220 := ti_b r213.1
                  exact ok_some (show CI ad h.1 δ0 r213.2 ∧ (kp [(1, 3), (1, 4), (1, 5), (1, 6), (1, 7), (1, 8), (1, 9), (1, 10), (1, 11), (1, 12), (1, 13), (1, 14), (1, 15), (2, 4), (3, 1), (4, 16)] δ r213.2 ∧ q_V r213.2 = q_V δ) ∧ True from ⟨i215, ⟨kp_w (by decide) u218, v219⟩, trivial⟩)
                · have c221 : x3.toInt ≠ (1 : Int) := o_ne h211
                  refine ok_ite (fun h222 => ?_) (fun h222 => ?_)
                  · have c223 : x3.toInt = (0 : Int) := o_eq h222
                    unfold J_X11_joins_165
                    refine ok_bind (k_X2_makeAll L hN (a0 := b71) (x1 := (0 : Int32)) (a2 := b80) k73 k82 i205) (fun r224 hr225 => ?_)
                    obtain ⟨i226, ⟨u227, u228⟩⟩ := hr225
                    have u229 := kp_t u209 u227
                    have v230 : q_V r224.2 = q_V δ := (u228).trans v210
                    have f231 := ti_b r224.1
                    exact ok_some (show CI ad h.1 δ0 r224.2 ∧ (kp [(1, 3), (1, 4), (1, 5), (1, 6), (1, 7), (1, 8), (1, 9), (1, 10), (1, 11), (1, 12), (1, 13), (1, 14), (1, 15), (2, 4), (3, 1), (4, 16)] δ r224.2 ∧ q_V r224.2 = q_V δ) ∧ True from ⟨i226, ⟨kp_w (by decide) u229, v230⟩, trivial⟩)
                  · have c232 : x3.toInt ≠ (0 : Int) := o_ne h222
                    unfold J_X11_joins_165
                    refine ok_bind (k_X2_makeAll L hN (a0 := b71) (x1 := (1 : Int32)) (a2 := b80) k73 k82 i205) (fun r233 hr234 => ?_)
                    obtain ⟨i235, ⟨u236, u237⟩⟩ := hr234
                    have u238 := kp_t u209 u236
                    have v239 : q_V r233.2 = q_V δ := (u237).trans v210
                    have f240 := ti_b r233.1
                    exact ok_some (show CI ad h.1 δ0 r233.2 ∧ (kp [(1, 3), (1, 4), (1, 5), (1, 6), (1, 7), (1, 8), (1, 9), (1, 10), (1, 11), (1, 12), (1, 13), (1, 14), (1, 15), (2, 4), (3, 1), (4, 16)] δ r233.2 ∧ q_V r233.2 = q_V δ) ∧ True from ⟨i235, ⟨kp_w (by decide) u238, v239⟩, trivial⟩)
              · have c241 : r194.1.toInt < (0 : Int) := o_nle h198
                exact ok_some (show CI ad h.1 δ0 d55 ∧ (kp [(1, 3), (1, 4), (1, 5), (1, 6), (1, 7), (1, 8), (1, 9), (1, 10), (1, 11), (1, 12), (1, 13), (1, 14), (1, 15), (2, 4), (3, 1), (4, 16)] δ d55 ∧ q_V d55 = q_V δ) ∧ True from ⟨i57, ⟨kp_w (by decide) u61, v62⟩, trivial⟩)
        · have c242 : x3.toInt ≠ (0 : Int) := o_ne h90
          unfold J_X11_joins_81
          refine ok_ite (fun h243 => ?_) (fun h243 => ?_)
          · have c244 : x3.toInt = (1 : Int) := o_eq h243
            refine ok_at o84 ?_
            unfold J_X11_joins_113
            refine ok_bind (k_X2_refusal L hN (a0 := b71) (x1 := (0 : Int32)) (x2 := ((q_I d55 3 1 b83) - r86.1)) k73 i57) (fun r245 hr246 => ?_)
            have i247 := hr246
            try rw [i247]
            have f248 := ti_b r245.1
            refine ok_ite (fun h249 => ?_) (fun h249 => ?_)
            · have c250 : (0 : Int) ≤ r245.1.toInt := o_le h249
              obtain ⟨b251, o252, k253⟩ := gO_11_8 L k_a0
              refine ok_at o252 ?_
              refine ok_bind (k_X4_forget L hN (a0 := b251) k253 i57) (fun r254 hr255 => ?_)
              obtain ⟨i256, ⟨u257, u258, u259⟩⟩ := hr255
              have u260 := kp_t u61 u257
              have v261 : q_V r254 = q_V δ := (u258).trans v62
              refine ok_ite (fun h262 => ?_) (fun h262 => ?_)
              · have c263 : x3.toInt = (1 : Int) := o_eq h262
                refine ok_bind (k_X2_dropAllBut L hN (a0 := b71) (a1 := b80) k73 k82 i256) (fun r264 hr265 => ?_)
                obtain ⟨i266, ⟨u267, u268⟩⟩ := hr265
                have u269 := kp_t u260 u267
                have v270 : q_V r264.2 = q_V δ := (u268).trans v261
                have f271 := ti_b r264.1
                exact ok_some (show CI ad h.1 δ0 r264.2 ∧ (kp [(1, 3), (1, 4), (1, 5), (1, 6), (1, 7), (1, 8), (1, 9), (1, 10), (1, 11), (1, 12), (1, 13), (1, 14), (1, 15), (2, 4), (3, 1), (4, 16)] δ r264.2 ∧ q_V r264.2 = q_V δ) ∧ True from ⟨i266, ⟨kp_w (by decide) u269, v270⟩, trivial⟩)
              · have c272 : x3.toInt ≠ (1 : Int) := o_ne h262
                refine ok_ite (fun h273 => ?_) (fun h273 => ?_)
                · have c274 : x3.toInt = (0 : Int) := o_eq h273
                  unfold J_X11_joins_165
                  refine ok_bind (k_X2_makeAll L hN (a0 := b71) (x1 := (0 : Int32)) (a2 := b80) k73 k82 i256) (fun r275 hr276 => ?_)
                  obtain ⟨i277, ⟨u278, u279⟩⟩ := hr276
                  have u280 := kp_t u260 u278
                  have v281 : q_V r275.2 = q_V δ := (u279).trans v261
                  have f282 := ti_b r275.1
                  exact ok_some (show CI ad h.1 δ0 r275.2 ∧ (kp [(1, 3), (1, 4), (1, 5), (1, 6), (1, 7), (1, 8), (1, 9), (1, 10), (1, 11), (1, 12), (1, 13), (1, 14), (1, 15), (2, 4), (3, 1), (4, 16)] δ r275.2 ∧ q_V r275.2 = q_V δ) ∧ True from ⟨i277, ⟨kp_w (by decide) u280, v281⟩, trivial⟩)
                · have c283 : x3.toInt ≠ (0 : Int) := o_ne h273
                  unfold J_X11_joins_165
                  refine ok_bind (k_X2_makeAll L hN (a0 := b71) (x1 := (1 : Int32)) (a2 := b80) k73 k82 i256) (fun r284 hr285 => ?_)
                  obtain ⟨i286, ⟨u287, u288⟩⟩ := hr285
                  have u289 := kp_t u260 u287
                  have v290 : q_V r284.2 = q_V δ := (u288).trans v261
                  have f291 := ti_b r284.1
                  exact ok_some (show CI ad h.1 δ0 r284.2 ∧ (kp [(1, 3), (1, 4), (1, 5), (1, 6), (1, 7), (1, 8), (1, 9), (1, 10), (1, 11), (1, 12), (1, 13), (1, 14), (1, 15), (2, 4), (3, 1), (4, 16)] δ r284.2 ∧ q_V r284.2 = q_V δ) ∧ True from ⟨i286, ⟨kp_w (by decide) u289, v290⟩, trivial⟩)
            · have c292 : r245.1.toInt < (0 : Int) := o_nle h249
              exact ok_some (show CI ad h.1 δ0 d55 ∧ (kp [(1, 3), (1, 4), (1, 5), (1, 6), (1, 7), (1, 8), (1, 9), (1, 10), (1, 11), (1, 12), (1, 13), (1, 14), (1, 15), (2, 4), (3, 1), (4, 16)] δ d55 ∧ q_V d55 = q_V δ) ∧ True from ⟨i57, ⟨kp_w (by decide) u61, v62⟩, trivial⟩)
          · have c293 : x3.toInt ≠ (1 : Int) := o_ne h243
            refine ok_ite (fun h294 => ?_) (fun h294 => ?_)
            · have c295 : x3.toInt = (2 : Int) := o_eq h294
              unfold J_X11_joins_113
              refine ok_bind (k_X2_refusal L hN (a0 := b71) (x1 := (0 : Int32)) (x2 := r86.1) k73 i57) (fun r296 hr297 => ?_)
              have i298 := hr297
              try rw [i298]
              have f299 := ti_b r296.1
              refine ok_ite (fun h300 => ?_) (fun h300 => ?_)
              · have c301 : (0 : Int) ≤ r296.1.toInt := o_le h300
                obtain ⟨b302, o303, k304⟩ := gO_11_8 L k_a0
                refine ok_at o303 ?_
                refine ok_bind (k_X4_forget L hN (a0 := b302) k304 i57) (fun r305 hr306 => ?_)
                obtain ⟨i307, ⟨u308, u309, u310⟩⟩ := hr306
                have u311 := kp_t u61 u308
                have v312 : q_V r305 = q_V δ := (u309).trans v62
                refine ok_ite (fun h313 => ?_) (fun h313 => ?_)
                · have c314 : x3.toInt = (1 : Int) := o_eq h313
                  refine ok_bind (k_X2_dropAllBut L hN (a0 := b71) (a1 := b80) k73 k82 i307) (fun r315 hr316 => ?_)
                  obtain ⟨i317, ⟨u318, u319⟩⟩ := hr316
                  have u320 := kp_t u311 u318
                  have v321 : q_V r315.2 = q_V δ := (u319).trans v312
                  have f322 := ti_b r315.1
                  exact ok_some (show CI ad h.1 δ0 r315.2 ∧ (kp [(1, 3), (1, 4), (1, 5), (1, 6), (1, 7), (1, 8), (1, 9), (1, 10), (1, 11), (1, 12), (1, 13), (1, 14), (1, 15), (2, 4), (3, 1), (4, 16)] δ r315.2 ∧ q_V r315.2 = q_V δ) ∧ True from ⟨i317, ⟨kp_w (by decide) u320, v321⟩, trivial⟩)
                · have c323 : x3.toInt ≠ (1 : Int) := o_ne h313
                  refine ok_ite (fun h324 => ?_) (fun h324 => ?_)
                  · have c325 : x3.toInt = (0 : Int) := o_eq h324
                    unfold J_X11_joins_165
                    refine ok_bind (k_X2_makeAll L hN (a0 := b71) (x1 := (0 : Int32)) (a2 := b80) k73 k82 i307) (fun r326 hr327 => ?_)
                    obtain ⟨i328, ⟨u329, u330⟩⟩ := hr327
                    have u331 := kp_t u311 u329
                    have v332 : q_V r326.2 = q_V δ := (u330).trans v312
                    have f333 := ti_b r326.1
                    exact ok_some (show CI ad h.1 δ0 r326.2 ∧ (kp [(1, 3), (1, 4), (1, 5), (1, 6), (1, 7), (1, 8), (1, 9), (1, 10), (1, 11), (1, 12), (1, 13), (1, 14), (1, 15), (2, 4), (3, 1), (4, 16)] δ r326.2 ∧ q_V r326.2 = q_V δ) ∧ True from ⟨i328, ⟨kp_w (by decide) u331, v332⟩, trivial⟩)
                  · have c334 : x3.toInt ≠ (0 : Int) := o_ne h324
                    unfold J_X11_joins_165
                    refine ok_bind (k_X2_makeAll L hN (a0 := b71) (x1 := (1 : Int32)) (a2 := b80) k73 k82 i307) (fun r335 hr336 => ?_)
                    obtain ⟨i337, ⟨u338, u339⟩⟩ := hr336
                    have u340 := kp_t u311 u338
                    have v341 : q_V r335.2 = q_V δ := (u339).trans v312
                    have f342 := ti_b r335.1
                    exact ok_some (show CI ad h.1 δ0 r335.2 ∧ (kp [(1, 3), (1, 4), (1, 5), (1, 6), (1, 7), (1, 8), (1, 9), (1, 10), (1, 11), (1, 12), (1, 13), (1, 14), (1, 15), (2, 4), (3, 1), (4, 16)] δ r335.2 ∧ q_V r335.2 = q_V δ) ∧ True from ⟨i337, ⟨kp_w (by decide) u340, v341⟩, trivial⟩)
              · have c343 : r296.1.toInt < (0 : Int) := o_nle h300
                exact ok_some (show CI ad h.1 δ0 d55 ∧ (kp [(1, 3), (1, 4), (1, 5), (1, 6), (1, 7), (1, 8), (1, 9), (1, 10), (1, 11), (1, 12), (1, 13), (1, 14), (1, 15), (2, 4), (3, 1), (4, 16)] δ d55 ∧ q_V d55 = q_V δ) ∧ True from ⟨i57, ⟨kp_w (by decide) u61, v62⟩, trivial⟩)
            · have c344 : x3.toInt ≠ (2 : Int) := o_ne h294
              unfold J_X11_joins_113
              refine ok_bind (k_X2_refusal L hN (a0 := b71) (x1 := (0 : Int32)) (x2 := (0 : Int32)) k73 i57) (fun r345 hr346 => ?_)
              have i347 := hr346
              try rw [i347]
              have f348 := ti_b r345.1
              refine ok_ite (fun h349 => ?_) (fun h349 => ?_)
              · have c350 : (0 : Int) ≤ r345.1.toInt := o_le h349
                obtain ⟨b351, o352, k353⟩ := gO_11_8 L k_a0
                refine ok_at o352 ?_
                refine ok_bind (k_X4_forget L hN (a0 := b351) k353 i57) (fun r354 hr355 => ?_)
                obtain ⟨i356, ⟨u357, u358, u359⟩⟩ := hr355
                have u360 := kp_t u61 u357
                have v361 : q_V r354 = q_V δ := (u358).trans v62
                refine ok_ite (fun h362 => ?_) (fun h362 => ?_)
                · have c363 : x3.toInt = (1 : Int) := o_eq h362
                  refine ok_bind (k_X2_dropAllBut L hN (a0 := b71) (a1 := b80) k73 k82 i356) (fun r364 hr365 => ?_)
                  obtain ⟨i366, ⟨u367, u368⟩⟩ := hr365
                  have u369 := kp_t u360 u367
                  have v370 : q_V r364.2 = q_V δ := (u368).trans v361
                  have f371 := ti_b r364.1
                  exact ok_some (show CI ad h.1 δ0 r364.2 ∧ (kp [(1, 3), (1, 4), (1, 5), (1, 6), (1, 7), (1, 8), (1, 9), (1, 10), (1, 11), (1, 12), (1, 13), (1, 14), (1, 15), (2, 4), (3, 1), (4, 16)] δ r364.2 ∧ q_V r364.2 = q_V δ) ∧ True from ⟨i366, ⟨kp_w (by decide) u369, v370⟩, trivial⟩)
                · have c372 : x3.toInt ≠ (1 : Int) := o_ne h362
                  refine ok_ite (fun h373 => ?_) (fun h373 => ?_)
                  · have c374 : x3.toInt = (0 : Int) := o_eq h373
                    unfold J_X11_joins_165
                    refine ok_bind (k_X2_makeAll L hN (a0 := b71) (x1 := (0 : Int32)) (a2 := b80) k73 k82 i356) (fun r375 hr376 => ?_)
                    obtain ⟨i377, ⟨u378, u379⟩⟩ := hr376
                    have u380 := kp_t u360 u378
                    have v381 : q_V r375.2 = q_V δ := (u379).trans v361
                    have f382 := ti_b r375.1
                    exact ok_some (show CI ad h.1 δ0 r375.2 ∧ (kp [(1, 3), (1, 4), (1, 5), (1, 6), (1, 7), (1, 8), (1, 9), (1, 10), (1, 11), (1, 12), (1, 13), (1, 14), (1, 15), (2, 4), (3, 1), (4, 16)] δ r375.2 ∧ q_V r375.2 = q_V δ) ∧ True from ⟨i377, ⟨kp_w (by decide) u380, v381⟩, trivial⟩)
                  · have c383 : x3.toInt ≠ (0 : Int) := o_ne h373
                    unfold J_X11_joins_165
                    refine ok_bind (k_X2_makeAll L hN (a0 := b71) (x1 := (1 : Int32)) (a2 := b80) k73 k82 i356) (fun r384 hr385 => ?_)
                    obtain ⟨i386, ⟨u387, u388⟩⟩ := hr385
                    have u389 := kp_t u360 u387
                    have v390 : q_V r384.2 = q_V δ := (u388).trans v361
                    have f391 := ti_b r384.1
                    exact ok_some (show CI ad h.1 δ0 r384.2 ∧ (kp [(1, 3), (1, 4), (1, 5), (1, 6), (1, 7), (1, 8), (1, 9), (1, 10), (1, 11), (1, 12), (1, 13), (1, 14), (1, 15), (2, 4), (3, 1), (4, 16)] δ r384.2 ∧ q_V r384.2 = q_V δ) ∧ True from ⟨i386, ⟨kp_w (by decide) u389, v390⟩, trivial⟩)
              · have c392 : r345.1.toInt < (0 : Int) := o_nle h349
                exact ok_some (show CI ad h.1 δ0 d55 ∧ (kp [(1, 3), (1, 4), (1, 5), (1, 6), (1, 7), (1, 8), (1, 9), (1, 10), (1, 11), (1, 12), (1, 13), (1, 14), (1, 15), (2, 4), (3, 1), (4, 16)] δ d55 ∧ q_V d55 = q_V δ) ∧ True from ⟨i57, ⟨kp_w (by decide) u61, v62⟩, trivial⟩)
set_option maxHeartbeats 4000000 in
theorem k_X11_put {ad : List Nat} {h : hp} (L : Lay TLx ad h) {δ0 : dp} {N : Nat} (hN : 10000000 ≤ N) {a0 : Nat} {x1 : Int32} {x2 : Int32} (k_a0 : q_K h.1 a0 = 11) {δ : dp} (I : CI ad h.1 δ0 δ) : ok (D_X11_put N h.1 a0 x1 x2 δ) (fun r => CI ad h.1 δ0 r.2 ∧ (kp [(1, 3), (1, 4), (1, 5), (1, 6), (1, 7), (1, 8), (1, 9), (1, 10), (1, 11), (1, 12), (1, 13), (1, 14), (1, 15), (2, 4), (3, 1), (4, 16)] δ r.2 ∧ q_V r.2 = q_V δ) ∧ match r.1 with | .inl v => True | .inr n => ((n = 0 ∨ n = 2) ∧ True)) := by
  unfold D_X11_put
  refine ok_bxv (k_X11_needHouse L hN (a0 := a0) (x1 := x1) k_a0 I) (fun n d hp => (show CI ad h.1 δ0 d ∧ (kp [(1, 3), (1, 4), (1, 5), (1, 6), (1, 7), (1, 8), (1, 9), (1, 10), (1, 11), (1, 12), (1, 13), (1, 14), (1, 15), (2, 4), (3, 1), (4, 16)] δ d ∧ q_V d = q_V δ) ∧ ((n = 0 ∨ n = 2) ∧ True) from ⟨hp.1, ⟨kp_w (by decide) (kp_t kp_r hp.2.1.1), (hp.2.1.2).trans rfl⟩, (by have hq : n = 0 := hp.2.2.1; omega), trivial⟩)) (fun d1 hp2 => ?_)
  obtain ⟨i3, ⟨u4, u5⟩, p6, p7⟩ := hp2
  have u8 := kp_t kp_r u4
  have v9 : q_V d1 = q_V δ := (u5).trans rfl
  have f10 := ti_b x1
  refine ok_bxv (k_X11_needNumber L hN (a0 := a0) (x1 := x2) k_a0 i3) (fun n d hp => (show CI ad h.1 δ0 d ∧ (kp [(1, 3), (1, 4), (1, 5), (1, 6), (1, 7), (1, 8), (1, 9), (1, 10), (1, 11), (1, 12), (1, 13), (1, 14), (1, 15), (2, 4), (3, 1), (4, 16)] δ d ∧ q_V d = q_V δ) ∧ ((n = 0 ∨ n = 2) ∧ True) from ⟨hp.1, ⟨kp_w (by decide) (kp_t u8 hp.2.1.1), (hp.2.1.2).trans v9⟩, (by have hq : n = 2 := hp.2.2.1; omega), trivial⟩)) (fun d11 hp12 => ?_)
  obtain ⟨i13, ⟨u14, u15⟩, p16⟩ := hp12
  have u17 := kp_t u8 u14
  have v18 : q_V d11 = q_V δ := (u15).trans v9
  obtain ⟨b19, o20, k21⟩ := gO_11_8 L k_a0
  refine ok_at o20 ?_
  refine ok_bind (k_X4_forget L hN (a0 := b19) k21 i13) (fun r22 hr23 => ?_)
  obtain ⟨i24, ⟨u25, u26, u27⟩⟩ := hr23
  have u28 := kp_t u17 u25
  have v29 : q_V r22 = q_V δ := (u26).trans v18
  obtain ⟨b30, o31, k32, n33, w34⟩ := gO_11_6 L k_a0
  refine ok_at o31 ?_
  have t35 := ti_tn x1
  refine ok_gd (fun hc36 => ?_) ?_
  · rcases hc36 with hc36 | hc36
    · have c37 : x1.toInt < (0 : Int) := o_lt hc36
      omega
    · omega
  obtain ⟨b38, o39, k40⟩ := gE_11_6 L k_a0 o31 (i := x1.toNatClampNeg) (by omega)
  refine ok_at o39 ?_
  refine ok_bind (k_X2_change L hN (a0 := b38) (x1 := (0 : Int32)) (x2 := x2) k40 i24) (fun r41 hr42 => ?_)
  obtain ⟨i43, ⟨u44, u45⟩⟩ := hr42
  have u46 := kp_t u28 u44
  have v47 : q_V r41.2 = q_V δ := (u45).trans v29
  have f48 := ti_b r41.1
  exact ok_some (show CI ad h.1 δ0 r41.2 ∧ (kp [(1, 3), (1, 4), (1, 5), (1, 6), (1, 7), (1, 8), (1, 9), (1, 10), (1, 11), (1, 12), (1, 13), (1, 14), (1, 15), (2, 4), (3, 1), (4, 16)] δ r41.2 ∧ q_V r41.2 = q_V δ) ∧ True from ⟨i43, ⟨kp_w (by decide) u46, v47⟩, trivial⟩)
set_option maxHeartbeats 4000000 in
theorem k_X11_drop {ad : List Nat} {h : hp} (L : Lay TLx ad h) {δ0 : dp} {N : Nat} (hN : 10000000 ≤ N) {a0 : Nat} {x1 : Int32} {x2 : Int32} (k_a0 : q_K h.1 a0 = 11) {δ : dp} (I : CI ad h.1 δ0 δ) : ok (D_X11_drop N h.1 a0 x1 x2 δ) (fun r => CI ad h.1 δ0 r.2 ∧ (kp [(1, 3), (1, 4), (1, 5), (1, 6), (1, 7), (1, 8), (1, 9), (1, 10), (1, 11), (1, 12), (1, 13), (1, 14), (1, 15), (2, 4), (3, 1), (4, 16)] δ r.2 ∧ q_V r.2 = q_V δ) ∧ match r.1 with | .inl v => True | .inr n => ((n = 0 ∨ n = 2) ∧ True)) := by
  unfold D_X11_drop
  refine ok_bxv (k_X11_needHouse L hN (a0 := a0) (x1 := x1) k_a0 I) (fun n d hp => (show CI ad h.1 δ0 d ∧ (kp [(1, 3), (1, 4), (1, 5), (1, 6), (1, 7), (1, 8), (1, 9), (1, 10), (1, 11), (1, 12), (1, 13), (1, 14), (1, 15), (2, 4), (3, 1), (4, 16)] δ d ∧ q_V d = q_V δ) ∧ ((n = 0 ∨ n = 2) ∧ True) from ⟨hp.1, ⟨kp_w (by decide) (kp_t kp_r hp.2.1.1), (hp.2.1.2).trans rfl⟩, (by have hq : n = 0 := hp.2.2.1; omega), trivial⟩)) (fun d1 hp2 => ?_)
  obtain ⟨i3, ⟨u4, u5⟩, p6, p7⟩ := hp2
  have u8 := kp_t kp_r u4
  have v9 : q_V d1 = q_V δ := (u5).trans rfl
  have f10 := ti_b x1
  refine ok_bxv (k_X11_needNumber L hN (a0 := a0) (x1 := x2) k_a0 i3) (fun n d hp => (show CI ad h.1 δ0 d ∧ (kp [(1, 3), (1, 4), (1, 5), (1, 6), (1, 7), (1, 8), (1, 9), (1, 10), (1, 11), (1, 12), (1, 13), (1, 14), (1, 15), (2, 4), (3, 1), (4, 16)] δ d ∧ q_V d = q_V δ) ∧ ((n = 0 ∨ n = 2) ∧ True) from ⟨hp.1, ⟨kp_w (by decide) (kp_t u8 hp.2.1.1), (hp.2.1.2).trans v9⟩, (by have hq : n = 2 := hp.2.2.1; omega), trivial⟩)) (fun d11 hp12 => ?_)
  obtain ⟨i13, ⟨u14, u15⟩, p16⟩ := hp12
  have u17 := kp_t u8 u14
  have v18 : q_V d11 = q_V δ := (u15).trans v9
  obtain ⟨b19, o20, k21⟩ := gO_11_8 L k_a0
  refine ok_at o20 ?_
  refine ok_bind (k_X4_forget L hN (a0 := b19) k21 i13) (fun r22 hr23 => ?_)
  obtain ⟨i24, ⟨u25, u26, u27⟩⟩ := hr23
  have u28 := kp_t u17 u25
  have v29 : q_V r22 = q_V δ := (u26).trans v18
  obtain ⟨b30, o31, k32, n33, w34⟩ := gO_11_6 L k_a0
  refine ok_at o31 ?_
  have t35 := ti_tn x1
  refine ok_gd (fun hc36 => ?_) ?_
  · rcases hc36 with hc36 | hc36
    · have c37 : x1.toInt < (0 : Int) := o_lt hc36
      omega
    · omega
  obtain ⟨b38, o39, k40⟩ := gE_11_6 L k_a0 o31 (i := x1.toNatClampNeg) (by omega)
  refine ok_at o39 ?_
  refine ok_bind (k_X2_change L hN (a0 := b38) (x1 := (1 : Int32)) (x2 := x2) k40 i24) (fun r41 hr42 => ?_)
  obtain ⟨i43, ⟨u44, u45⟩⟩ := hr42
  have u46 := kp_t u28 u44
  have v47 : q_V r41.2 = q_V δ := (u45).trans v29
  have f48 := ti_b r41.1
  exact ok_some (show CI ad h.1 δ0 r41.2 ∧ (kp [(1, 3), (1, 4), (1, 5), (1, 6), (1, 7), (1, 8), (1, 9), (1, 10), (1, 11), (1, 12), (1, 13), (1, 14), (1, 15), (2, 4), (3, 1), (4, 16)] δ r41.2 ∧ q_V r41.2 = q_V δ) ∧ True from ⟨i43, ⟨kp_w (by decide) u46, v47⟩, trivial⟩)
set_option maxHeartbeats 4000000 in
theorem k_X11_row {ad : List Nat} {h : hp} (L : Lay TLx ad h) {δ0 : dp} {N : Nat} (hN : 10000000 ≤ N) {a0 : Nat} {x1 : Int32} (k_a0 : q_K h.1 a0 = 11) {δ : dp} (I : CI ad h.1 δ0 δ) : ok (D_X11_row N h.1 a0 x1 δ) (fun r => CI ad h.1 δ0 r.2 ∧ (kp [(0, 4), (0, 6), (0, 7), (1, 3), (1, 4), (1, 5), (1, 6), (1, 7), (1, 8), (1, 9), (1, 10), (1, 11), (1, 12), (1, 13), (1, 14), (1, 15), (3, 1)] δ r.2 ∧ q_V r.2 = q_V δ) ∧ match r.1 with | .inl v => True | .inr n => ((n = 2) ∧ True)) := by
  unfold D_X11_row
  obtain ⟨b1, o2, k3⟩ := gO_11_1 L k_a0
  refine ok_at o2 ?_
  refine ok_bind (k_X5_isSmall L hN (a0 := b1) k3 I) (fun r4 hr5 => ?_)
  obtain ⟨i6, p7, p8⟩ := hr5
  try rw [i6]
  have f9 := bo_t p7
  have f10 := ti_b r4.1
  have f11 := cb_5_0 I k3
  refine ok_ite (fun h12 => ?_) (fun h12 => ?_)
  · have c13 : r4.1.toInt = (0 : Int) := o_eq h12
    unfold J_X11_row_31
    unfold J_X11_row_32
    refine ok_bxv (k_X11_need L hN (a0 := a0) (x1 := (0 : Int32)) k_a0 I) (fun n d hp => (show CI ad h.1 δ0 d ∧ (kp [(0, 4), (0, 6), (0, 7), (1, 3), (1, 4), (1, 5), (1, 6), (1, 7), (1, 8), (1, 9), (1, 10), (1, 11), (1, 12), (1, 13), (1, 14), (1, 15), (3, 1)] δ d ∧ q_V d = q_V δ) ∧ ((n = 2) ∧ True) from ⟨hp.1, ⟨kp_w (by decide) (kp_t kp_r hp.2.1.1), (hp.2.1.2).trans rfl⟩, (by have hq : n = 2 := hp.2.2.1; omega), trivial⟩)) (fun d14 hp15 => ?_)
    obtain ⟨i16, ⟨u17, u18⟩, p19⟩ := hp15
    have u20 := kp_t kp_r u17
    have v21 : q_V d14 = q_V δ := (u18).trans rfl
    exact absurd rfl (show (0 : Int) ≠ 0 from p19)
  · have c22 : r4.1.toInt ≠ (0 : Int) := o_ne h12
    have f23 := ti_b x1
    refine ok_ite (fun h24 => ?_) (fun h24 => ?_)
    · have c25 : x1.toInt < (1 : Int) := o_lt h24
      unfold J_X11_row_31
      unfold J_X11_row_32
      refine ok_bxv (k_X11_need L hN (a0 := a0) (x1 := (0 : Int32)) k_a0 I) (fun n d hp => (show CI ad h.1 δ0 d ∧ (kp [(0, 4), (0, 6), (0, 7), (1, 3), (1, 4), (1, 5), (1, 6), (1, 7), (1, 8), (1, 9), (1, 10), (1, 11), (1, 12), (1, 13), (1, 14), (1, 15), (3, 1)] δ d ∧ q_V d = q_V δ) ∧ ((n = 2) ∧ True) from ⟨hp.1, ⟨kp_w (by decide) (kp_t kp_r hp.2.1.1), (hp.2.1.2).trans rfl⟩, (by have hq : n = 2 := hp.2.2.1; omega), trivial⟩)) (fun d26 hp27 => ?_)
      obtain ⟨i28, ⟨u29, u30⟩, p31⟩ := hp27
      have u32 := kp_t kp_r u29
      have v33 : q_V d26 = q_V δ := (u30).trans rfl
      exact absurd rfl (show (0 : Int) ≠ 0 from p31)
    · have c34 : (1 : Int) ≤ x1.toInt := o_nlt h24
      refine ok_at o2 ?_
      refine ok_bind (k_X5_mostInRows L hN (a0 := b1) k3 I) (fun r35 hr36 => ?_)
      obtain ⟨i37, p38⟩ := hr36
      try rw [i37]
      have f39 := ti_b r35.1
      refine ok_ite (fun h40 => ?_) (fun h40 => ?_)
      · have c41 : r35.1.toInt < x1.toInt := o_lt h40
        unfold J_X11_row_31
        unfold J_X11_row_32
        refine ok_bxv (k_X11_need L hN (a0 := a0) (x1 := (0 : Int32)) k_a0 I) (fun n d hp => (show CI ad h.1 δ0 d ∧ (kp [(0, 4), (0, 6), (0, 7), (1, 3), (1, 4), (1, 5), (1, 6), (1, 7), (1, 8), (1, 9), (1, 10), (1, 11), (1, 12), (1, 13), (1, 14), (1, 15), (3, 1)] δ d ∧ q_V d = q_V δ) ∧ ((n = 2) ∧ True) from ⟨hp.1, ⟨kp_w (by decide) (kp_t kp_r hp.2.1.1), (hp.2.1.2).trans rfl⟩, (by have hq : n = 2 := hp.2.2.1; omega), trivial⟩)) (fun d42 hp43 => ?_)
        obtain ⟨i44, ⟨u45, u46⟩, p47⟩ := hp43
        have u48 := kp_t kp_r u45
        have v49 : q_V d42 = q_V δ := (u46).trans rfl
        exact absurd rfl (show (0 : Int) ≠ 0 from p47)
      · have c50 : x1.toInt ≤ r35.1.toInt := o_nlt h40
        unfold J_X11_row_32
        refine ok_bxv (k_X11_need L hN (a0 := a0) (x1 := (1 : Int32)) k_a0 I) (fun n d hp => (show CI ad h.1 δ0 d ∧ (kp [(0, 4), (0, 6), (0, 7), (1, 3), (1, 4), (1, 5), (1, 6), (1, 7), (1, 8), (1, 9), (1, 10), (1, 11), (1, 12), (1, 13), (1, 14), (1, 15), (3, 1)] δ d ∧ q_V d = q_V δ) ∧ ((n = 2) ∧ True) from ⟨hp.1, ⟨kp_w (by decide) (kp_t kp_r hp.2.1.1), (hp.2.1.2).trans rfl⟩, (by have hq : n = 2 := hp.2.2.1; omega), trivial⟩)) (fun d51 hp52 => ?_)
        obtain ⟨i53, ⟨u54, u55⟩, p56⟩ := hp52
        have u57 := kp_t kp_r u54
        have v58 : q_V d51 = q_V δ := (u55).trans rfl
        replace p56 : (1 : Int) ≠ 0 := p56
        obtain ⟨b59, o60, k61⟩ := gO_11_10 L k_a0
        refine ok_at o60 ?_
        refine ok_bind (k_X0_learn L hN (a0 := b59) (x1 := x1) k61 (show 0 ≤ (x1).toInt by first | with_reducible assumption | omega) (show (x1).toInt ≤ 6 by first | with_reducible assumption | omega) i53) (fun r62 hr63 => ?_)
        obtain ⟨i64, ⟨u65, u66⟩⟩ := hr63
        have u67 := kp_t u57 u65
        have v68 : q_V r62.2 = q_V δ := (u66).trans v58
        have f69 := ti_b r62.1
        exact ok_some (show CI ad h.1 δ0 r62.2 ∧ (kp [(0, 4), (0, 6), (0, 7), (1, 3), (1, 4), (1, 5), (1, 6), (1, 7), (1, 8), (1, 9), (1, 10), (1, 11), (1, 12), (1, 13), (1, 14), (1, 15), (3, 1)] δ r62.2 ∧ q_V r62.2 = q_V δ) ∧ True from ⟨i64, ⟨kp_w (by decide) u67, v68⟩, trivial⟩)
set_option maxHeartbeats 4000000 in
theorem k_X11_rowCall {ad : List Nat} {h : hp} (L : Lay TLx ad h) {δ0 : dp} {N : Nat} (hN : 10000000 ≤ N) {a0 : Nat} {x1 : Int32} {x2 : Int32} (k_a0 : q_K h.1 a0 = 11) {δ : dp} (I : CI ad h.1 δ0 δ) : ok (D_X11_rowCall N h.1 a0 x1 x2 δ) (fun r => CI ad h.1 δ0 r.2 ∧ (kp [(0, 4), (0, 6), (0, 7), (1, 3), (1, 4), (1, 5), (1, 6), (1, 7), (1, 8), (1, 9), (1, 10), (1, 11), (1, 12), (1, 13), (1, 14), (1, 15), (3, 1)] δ r.2 ∧ q_V r.2 = q_V δ) ∧ match r.1 with | .inl v => True | .inr n => ((n = 2) ∧ True)) := by
  unfold D_X11_rowCall
  obtain ⟨b1, o2, k3⟩ := gO_11_1 L k_a0
  refine ok_at o2 ?_
  refine ok_bind (k_X5_isSmall L hN (a0 := b1) k3 I) (fun r4 hr5 => ?_)
  obtain ⟨i6, p7, p8⟩ := hr5
  try rw [i6]
  have f9 := bo_t p7
  have f10 := ti_b r4.1
  have f11 := cb_5_0 I k3
  refine ok_ite (fun h12 => ?_) (fun h12 => ?_)
  · have c13 : r4.1.toInt = (0 : Int) := o_eq h12
    unfold J_X11_rowCall_31
    unfold J_X11_rowCall_32
    refine ok_bxv (k_X11_need L hN (a0 := a0) (x1 := (0 : Int32)) k_a0 I) (fun n d hp => (show CI ad h.1 δ0 d ∧ (kp [(0, 4), (0, 6), (0, 7), (1, 3), (1, 4), (1, 5), (1, 6), (1, 7), (1, 8), (1, 9), (1, 10), (1, 11), (1, 12), (1, 13), (1, 14), (1, 15), (3, 1)] δ d ∧ q_V d = q_V δ) ∧ ((n = 2) ∧ True) from ⟨hp.1, ⟨kp_w (by decide) (kp_t kp_r hp.2.1.1), (hp.2.1.2).trans rfl⟩, (by have hq : n = 2 := hp.2.2.1; omega), trivial⟩)) (fun d14 hp15 => ?_)
    obtain ⟨i16, ⟨u17, u18⟩, p19⟩ := hp15
    have u20 := kp_t kp_r u17
    have v21 : q_V d14 = q_V δ := (u18).trans rfl
    exact absurd rfl (show (0 : Int) ≠ 0 from p19)
  · have c22 : r4.1.toInt ≠ (0 : Int) := o_ne h12
    have f23 := ti_b x1
    refine ok_ite (fun h24 => ?_) (fun h24 => ?_)
    · have c25 : x1.toInt < (1 : Int) := o_lt h24
      unfold J_X11_rowCall_31
      unfold J_X11_rowCall_32
      refine ok_bxv (k_X11_need L hN (a0 := a0) (x1 := (0 : Int32)) k_a0 I) (fun n d hp => (show CI ad h.1 δ0 d ∧ (kp [(0, 4), (0, 6), (0, 7), (1, 3), (1, 4), (1, 5), (1, 6), (1, 7), (1, 8), (1, 9), (1, 10), (1, 11), (1, 12), (1, 13), (1, 14), (1, 15), (3, 1)] δ d ∧ q_V d = q_V δ) ∧ ((n = 2) ∧ True) from ⟨hp.1, ⟨kp_w (by decide) (kp_t kp_r hp.2.1.1), (hp.2.1.2).trans rfl⟩, (by have hq : n = 2 := hp.2.2.1; omega), trivial⟩)) (fun d26 hp27 => ?_)
      obtain ⟨i28, ⟨u29, u30⟩, p31⟩ := hp27
      have u32 := kp_t kp_r u29
      have v33 : q_V d26 = q_V δ := (u30).trans rfl
      exact absurd rfl (show (0 : Int) ≠ 0 from p31)
    · have c34 : (1 : Int) ≤ x1.toInt := o_nlt h24
      refine ok_at o2 ?_
      refine ok_bind (k_X5_mostInRows L hN (a0 := b1) k3 I) (fun r35 hr36 => ?_)
      obtain ⟨i37, p38⟩ := hr36
      try rw [i37]
      have f39 := ti_b r35.1
      refine ok_ite (fun h40 => ?_) (fun h40 => ?_)
      · have c41 : r35.1.toInt < x1.toInt := o_lt h40
        unfold J_X11_rowCall_31
        unfold J_X11_rowCall_32
        refine ok_bxv (k_X11_need L hN (a0 := a0) (x1 := (0 : Int32)) k_a0 I) (fun n d hp => (show CI ad h.1 δ0 d ∧ (kp [(0, 4), (0, 6), (0, 7), (1, 3), (1, 4), (1, 5), (1, 6), (1, 7), (1, 8), (1, 9), (1, 10), (1, 11), (1, 12), (1, 13), (1, 14), (1, 15), (3, 1)] δ d ∧ q_V d = q_V δ) ∧ ((n = 2) ∧ True) from ⟨hp.1, ⟨kp_w (by decide) (kp_t kp_r hp.2.1.1), (hp.2.1.2).trans rfl⟩, (by have hq : n = 2 := hp.2.2.1; omega), trivial⟩)) (fun d42 hp43 => ?_)
        obtain ⟨i44, ⟨u45, u46⟩, p47⟩ := hp43
        have u48 := kp_t kp_r u45
        have v49 : q_V d42 = q_V δ := (u46).trans rfl
        exact absurd rfl (show (0 : Int) ≠ 0 from p47)
      · have c50 : x1.toInt ≤ r35.1.toInt := o_nlt h40
        unfold J_X11_rowCall_32
        refine ok_bxv (k_X11_need L hN (a0 := a0) (x1 := (1 : Int32)) k_a0 I) (fun n d hp => (show CI ad h.1 δ0 d ∧ (kp [(0, 4), (0, 6), (0, 7), (1, 3), (1, 4), (1, 5), (1, 6), (1, 7), (1, 8), (1, 9), (1, 10), (1, 11), (1, 12), (1, 13), (1, 14), (1, 15), (3, 1)] δ d ∧ q_V d = q_V δ) ∧ ((n = 2) ∧ True) from ⟨hp.1, ⟨kp_w (by decide) (kp_t kp_r hp.2.1.1), (hp.2.1.2).trans rfl⟩, (by have hq : n = 2 := hp.2.2.1; omega), trivial⟩)) (fun d51 hp52 => ?_)
        obtain ⟨i53, ⟨u54, u55⟩, p56⟩ := hp52
        have u57 := kp_t kp_r u54
        have v58 : q_V d51 = q_V δ := (u55).trans rfl
        replace p56 : (1 : Int) ≠ 0 := p56
        obtain ⟨b59, o60, k61⟩ := gO_11_10 L k_a0
        refine ok_at o60 ?_
        refine ok_bind (k_X0_learn L hN (a0 := b59) (x1 := x1) k61 (show 0 ≤ (x1).toInt by first | with_reducible assumption | omega) (show (x1).toInt ≤ 6 by first | with_reducible assumption | omega) i53) (fun r62 hr63 => ?_)
        obtain ⟨i64, ⟨u65, u66⟩⟩ := hr63
        have u67 := kp_t u57 u65
        have v68 : q_V r62.2 = q_V δ := (u66).trans v58
        have f69 := ti_b r62.1
        refine ok_at o60 ?_
        refine ok_bind (k_X0_callAt L hN (a0 := b59) (x1 := x1) (x2 := x2) k61 (show (x1).toInt ≤ 6 by first | with_reducible assumption | omega) i64) (fun r70 hr71 => ?_)
        have i72 := hr71
        try rw [i72]
        have f73 := ti_b r70.1
        exact ok_some (show CI ad h.1 δ0 r62.2 ∧ (kp [(0, 4), (0, 6), (0, 7), (1, 3), (1, 4), (1, 5), (1, 6), (1, 7), (1, 8), (1, 9), (1, 10), (1, 11), (1, 12), (1, 13), (1, 14), (1, 15), (3, 1)] δ r62.2 ∧ q_V r62.2 = q_V δ) ∧ True from ⟨i64, ⟨kp_w (by decide) u67, v68⟩, trivial⟩)
set_option maxHeartbeats 4000000 in
theorem k_X11_worst {ad : List Nat} {h : hp} (L : Lay TLx ad h) {δ0 : dp} {N : Nat} (hN : 10000000 ≤ N) {a0 : Nat} {x1 : Int32} {x2 : Int32} {x3 : Int32} (k_a0 : q_K h.1 a0 = 11) {δ : dp} (I : CI ad h.1 δ0 δ) : ok (D_X11_worst N h.1 a0 x1 x2 x3 δ) (fun r => CI ad h.1 δ0 r.2 ∧ (kp [(1, 3), (1, 4), (1, 5), (1, 6), (1, 7), (1, 8), (1, 9), (1, 10), (1, 11), (1, 12), (1, 13), (1, 14), (1, 15), (3, 1)] δ r.2 ∧ q_V r.2 = q_V δ) ∧ match r.1 with | .inl v => True | .inr n => ((n = 2) ∧ True)) := by
  unfold D_X11_worst
  refine ok_bind (k_X11_mayGoThroughAll L hN (a0 := a0) (x1 := x1) (x2 := x2) k_a0 I) (fun r1 hr2 => ?_)
  obtain ⟨i3, p4, p5⟩ := hr2
  try rw [i3]
  have f6 := bo_t p4
  have f7 := ti_b r1.1
  have f8 := ti_b x1
  have f9 := ti_b x2
  refine ok_ite (fun h10 => ?_) (fun h10 => ?_)
  · have c11 : r1.1.toInt = (0 : Int) := o_eq h10
    unfold J_X11_worst_23
    unfold J_X11_worst_24
    refine ok_bxv (k_X11_need L hN (a0 := a0) (x1 := (0 : Int32)) k_a0 I) (fun n d hp => (show CI ad h.1 δ0 d ∧ (kp [(1, 3), (1, 4), (1, 5), (1, 6), (1, 7), (1, 8), (1, 9), (1, 10), (1, 11), (1, 12), (1, 13), (1, 14), (1, 15), (3, 1)] δ d ∧ q_V d = q_V δ) ∧ ((n = 2) ∧ True) from ⟨hp.1, ⟨kp_w (by decide) (kp_t kp_r hp.2.1.1), (hp.2.1.2).trans rfl⟩, (by have hq : n = 2 := hp.2.2.1; omega), trivial⟩)) (fun d12 hp13 => ?_)
    obtain ⟨i14, ⟨u15, u16⟩, p17⟩ := hp13
    have u18 := kp_t kp_r u15
    have v19 : q_V d12 = q_V δ := (u16).trans rfl
    exact absurd rfl (show (0 : Int) ≠ 0 from p17)
  · have c20 : r1.1.toInt ≠ (0 : Int) := o_ne h10
    have f21 := ti_b x3
    refine ok_ite (fun h22 => ?_) (fun h22 => ?_)
    · have c23 : x3.toInt < (0 : Int) := o_lt h22
      unfold J_X11_worst_23
      unfold J_X11_worst_24
      refine ok_bxv (k_X11_need L hN (a0 := a0) (x1 := (0 : Int32)) k_a0 I) (fun n d hp => (show CI ad h.1 δ0 d ∧ (kp [(1, 3), (1, 4), (1, 5), (1, 6), (1, 7), (1, 8), (1, 9), (1, 10), (1, 11), (1, 12), (1, 13), (1, 14), (1, 15), (3, 1)] δ d ∧ q_V d = q_V δ) ∧ ((n = 2) ∧ True) from ⟨hp.1, ⟨kp_w (by decide) (kp_t kp_r hp.2.1.1), (hp.2.1.2).trans rfl⟩, (by have hq : n = 2 := hp.2.2.1; omega), trivial⟩)) (fun d24 hp25 => ?_)
      obtain ⟨i26, ⟨u27, u28⟩, p29⟩ := hp25
      have u30 := kp_t kp_r u27
      have v31 : q_V d24 = q_V δ := (u28).trans rfl
      exact absurd rfl (show (0 : Int) ≠ 0 from p29)
    · have c32 : (0 : Int) ≤ x3.toInt := o_nlt h22
      refine ok_ite (fun h33 => ?_) (fun h33 => ?_)
      · have c34 : (2 : Int) < x3.toInt := o_lt h33
        unfold J_X11_worst_23
        unfold J_X11_worst_24
        refine ok_bxv (k_X11_need L hN (a0 := a0) (x1 := (0 : Int32)) k_a0 I) (fun n d hp => (show CI ad h.1 δ0 d ∧ (kp [(1, 3), (1, 4), (1, 5), (1, 6), (1, 7), (1, 8), (1, 9), (1, 10), (1, 11), (1, 12), (1, 13), (1, 14), (1, 15), (3, 1)] δ d ∧ q_V d = q_V δ) ∧ ((n = 2) ∧ True) from ⟨hp.1, ⟨kp_w (by decide) (kp_t kp_r hp.2.1.1), (hp.2.1.2).trans rfl⟩, (by have hq : n = 2 := hp.2.2.1; omega), trivial⟩)) (fun d35 hp36 => ?_)
        obtain ⟨i37, ⟨u38, u39⟩, p40⟩ := hp36
        have u41 := kp_t kp_r u38
        have v42 : q_V d35 = q_V δ := (u39).trans rfl
        exact absurd rfl (show (0 : Int) ≠ 0 from p40)
      · have c43 : x3.toInt ≤ (2 : Int) := o_nlt h33
        unfold J_X11_worst_24
        refine ok_bxv (k_X11_need L hN (a0 := a0) (x1 := (1 : Int32)) k_a0 I) (fun n d hp => (show CI ad h.1 δ0 d ∧ (kp [(1, 3), (1, 4), (1, 5), (1, 6), (1, 7), (1, 8), (1, 9), (1, 10), (1, 11), (1, 12), (1, 13), (1, 14), (1, 15), (3, 1)] δ d ∧ q_V d = q_V δ) ∧ ((n = 2) ∧ True) from ⟨hp.1, ⟨kp_w (by decide) (kp_t kp_r hp.2.1.1), (hp.2.1.2).trans rfl⟩, (by have hq : n = 2 := hp.2.2.1; omega), trivial⟩)) (fun d44 hp45 => ?_)
        obtain ⟨i46, ⟨u47, u48⟩, p49⟩ := hp45
        have u50 := kp_t kp_r u47
        have v51 : q_V d44 = q_V δ := (u48).trans rfl
        replace p49 : (1 : Int) ≠ 0 := p49
        obtain ⟨b52, o53, k54⟩ := gO_11_9 L k_a0
        refine ok_at o53 ?_
        refine ok_bind (k_X10_learn L hN (a0 := b52) (x1 := x1) (x2 := x2) k54 (show 0 ≤ (x1).toInt by first | with_reducible assumption | omega) (show (x1).toInt < 5 by first | with_reducible assumption | omega) (show 0 ≤ (x2).toInt by first | with_reducible assumption | omega) (show (x2).toInt ≤ 16 by first | with_reducible assumption | omega) i46) (fun r55 hr56 => ?_)
        obtain ⟨i57, ⟨u58, u59⟩⟩ := hr56
        have u60 := kp_t u50 u58
        have v61 : q_V r55 = q_V δ := (u59).trans v51
        refine ok_ite (fun h62 => ?_) (fun h62 => ?_)
        · have c63 : x3.toInt = (0 : Int) := o_eq h62
          refine ok_at o53 ?_
          obtain ⟨b64, o65, k66, n67, w68⟩ := gO_10_4 L k54
          refine ok_at o65 ?_
          have t69 := ti_tn x1
          refine ok_gd (fun hc70 => ?_) ?_
          · rcases hc70 with hc70 | hc70
            · have c71 : x1.toInt < (0 : Int) := o_lt hc70
              omega
            · omega
          obtain ⟨b72, o73, k74, n75, w76⟩ := gE_10_4 L k54 o65 (i := x1.toNatClampNeg) (by omega)
          refine ok_at o73 ?_
          have t77 := ti_tn x2
          refine ok_gd (fun hc78 => ?_) ?_
          · rcases hc78 with hc78 | hc78
            · have c79 : x2.toInt < (0 : Int) := o_lt hc78
              omega
            · omega
          exact ok_some (show CI ad h.1 δ0 r55 ∧ (kp [(1, 3), (1, 4), (1, 5), (1, 6), (1, 7), (1, 8), (1, 9), (1, 10), (1, 11), (1, 12), (1, 13), (1, 14), (1, 15), (3, 1)] δ r55 ∧ q_V r55 = q_V δ) ∧ True from ⟨i57, ⟨kp_w (by decide) u60, v61⟩, trivial⟩)
        · have c80 : x3.toInt ≠ (0 : Int) := o_ne h62
          refine ok_ite (fun h81 => ?_) (fun h81 => ?_)
          · have c82 : x3.toInt = (1 : Int) := o_eq h81
            refine ok_at o53 ?_
            obtain ⟨b83, o84, k85, n86, w87⟩ := gO_10_6 L k54
            refine ok_at o84 ?_
            have t88 := ti_tn x1
            refine ok_gd (fun hc89 => ?_) ?_
            · rcases hc89 with hc89 | hc89
              · have c90 : x1.toInt < (0 : Int) := o_lt hc89
                omega
              · omega
            obtain ⟨b91, o92, k93, n94, w95⟩ := gE_10_6 L k54 o84 (i := x1.toNatClampNeg) (by omega)
            refine ok_at o92 ?_
            have t96 := ti_tn x2
            refine ok_gd (fun hc97 => ?_) ?_
            · rcases hc97 with hc97 | hc97
              · have c98 : x2.toInt < (0 : Int) := o_lt hc97
                omega
              · omega
            refine ok_bind (k_J13_bitCount_95d88 L hN (y0 := (q_J r55 b91 x2.toNatClampNeg))  i57) (fun r99 hr100 => ?_)
            have i101 := hr100
            try rw [i101]
            have f102 := ti_b r99.1
            unfold J_X11_worst_85
            exact ok_some (show CI ad h.1 δ0 r55 ∧ (kp [(1, 3), (1, 4), (1, 5), (1, 6), (1, 7), (1, 8), (1, 9), (1, 10), (1, 11), (1, 12), (1, 13), (1, 14), (1, 15), (3, 1)] δ r55 ∧ q_V r55 = q_V δ) ∧ True from ⟨i57, ⟨kp_w (by decide) u60, v61⟩, trivial⟩)
          · have c103 : x3.toInt ≠ (1 : Int) := o_ne h81
            refine ok_at o53 ?_
            obtain ⟨b104, o105, k106, n107, w108⟩ := gO_10_5 L k54
            refine ok_at o105 ?_
            have t109 := ti_tn x1
            refine ok_gd (fun hc110 => ?_) ?_
            · rcases hc110 with hc110 | hc110
              · have c111 : x1.toInt < (0 : Int) := o_lt hc110
                omega
              · omega
            obtain ⟨b112, o113, k114, n115, w116⟩ := gE_10_5 L k54 o105 (i := x1.toNatClampNeg) (by omega)
            refine ok_at o113 ?_
            have t117 := ti_tn x2
            refine ok_gd (fun hc118 => ?_) ?_
            · rcases hc118 with hc118 | hc118
              · have c119 : x2.toInt < (0 : Int) := o_lt hc118
                omega
              · omega
            unfold J_X11_worst_85
            exact ok_some (show CI ad h.1 δ0 r55 ∧ (kp [(1, 3), (1, 4), (1, 5), (1, 6), (1, 7), (1, 8), (1, 9), (1, 10), (1, 11), (1, 12), (1, 13), (1, 14), (1, 15), (3, 1)] δ r55 ∧ q_V r55 = q_V δ) ∧ True from ⟨i57, ⟨kp_w (by decide) u60, v61⟩, trivial⟩)
set_option maxHeartbeats 4000000 in
theorem k_X11_bad {ad : List Nat} {h : hp} (L : Lay TLx ad h) {δ0 : dp} {N : Nat} (hN : 10000000 ≤ N) {a0 : Nat} {x1 : Int32} {x2 : Int32} {x3 : Int32} (k_a0 : q_K h.1 a0 = 11) {δ : dp} (I : CI ad h.1 δ0 δ) : ok (D_X11_bad N h.1 a0 x1 x2 x3 δ) (fun r => CI ad h.1 δ0 r.2 ∧ (kp [(1, 3), (1, 4), (1, 5), (1, 6), (1, 7), (1, 8), (1, 9), (1, 10), (1, 11), (1, 12), (1, 13), (1, 14), (1, 15), (3, 1)] δ r.2 ∧ q_V r.2 = q_V δ) ∧ match r.1 with | .inl v => True | .inr n => ((n = 2) ∧ True)) := by
  unfold D_X11_bad
  refine ok_bind (k_X11_mayGoThroughAll L hN (a0 := a0) (x1 := x1) (x2 := x2) k_a0 I) (fun r1 hr2 => ?_)
  obtain ⟨i3, p4, p5⟩ := hr2
  try rw [i3]
  have f6 := bo_t p4
  have f7 := ti_b r1.1
  have f8 := ti_b x1
  have f9 := ti_b x2
  refine ok_bxv (k_X11_need L hN (a0 := a0) (x1 := r1.1) k_a0 I) (fun n d hp => (show CI ad h.1 δ0 d ∧ (kp [(1, 3), (1, 4), (1, 5), (1, 6), (1, 7), (1, 8), (1, 9), (1, 10), (1, 11), (1, 12), (1, 13), (1, 14), (1, 15), (3, 1)] δ d ∧ q_V d = q_V δ) ∧ ((n = 2) ∧ True) from ⟨hp.1, ⟨kp_w (by decide) (kp_t kp_r hp.2.1.1), (hp.2.1.2).trans rfl⟩, (by have hq : n = 2 := hp.2.2.1; omega), trivial⟩)) (fun d10 hp11 => ?_)
  obtain ⟨i12, ⟨u13, u14⟩, p15⟩ := hp11
  have u16 := kp_t kp_r u13
  have v17 : q_V d10 = q_V δ := (u14).trans rfl
  obtain ⟨b18, o19, k20⟩ := gO_11_9 L k_a0
  refine ok_at o19 ?_
  refine ok_bind (k_X10_learn L hN (a0 := b18) (x1 := x1) (x2 := x2) k20 (show 0 ≤ (x1).toInt by first | with_reducible assumption | omega) (show (x1).toInt < 5 by first | with_reducible assumption | omega) (show 0 ≤ (x2).toInt by first | with_reducible assumption | omega) (show (x2).toInt ≤ 16 by first | with_reducible assumption | omega) i12) (fun r21 hr22 => ?_)
  obtain ⟨i23, ⟨u24, u25⟩⟩ := hr22
  have u26 := kp_t u16 u24
  have v27 : q_V r21 = q_V δ := (u25).trans v17
  refine ok_at o19 ?_
  refine ok_bind (k_X10_member L hN (a0 := b18) (x1 := x1) (x2 := x2) (x3 := x3) k20 (show 0 ≤ (x1).toInt by first | with_reducible assumption | omega) (show (x1).toInt < 5 by first | with_reducible assumption | omega) (show 0 ≤ (x2).toInt by first | with_reducible assumption | omega) (show (x2).toInt ≤ 16 by first | with_reducible assumption | omega) i23) (fun r28 hr29 => ?_)
  have i30 := hr29
  try rw [i30]
  have f31 := ti_b r28.1
  exact ok_some (show CI ad h.1 δ0 r21 ∧ (kp [(1, 3), (1, 4), (1, 5), (1, 6), (1, 7), (1, 8), (1, 9), (1, 10), (1, 11), (1, 12), (1, 13), (1, 14), (1, 15), (3, 1)] δ r21 ∧ q_V r21 = q_V δ) ∧ True from ⟨i23, ⟨kp_w (by decide) u26, v27⟩, trivial⟩)
set_option maxHeartbeats 4000000 in
theorem k_X11_steals {ad : List Nat} {h : hp} (L : Lay TLx ad h) {δ0 : dp} {N : Nat} (hN : 10000000 ≤ N) {a0 : Nat} {x1 : Int32} {x2 : Int32} {x3 : Int32} {x4 : Int32} (k_a0 : q_K h.1 a0 = 11) {δ : dp} (I : CI ad h.1 δ0 δ) : ok (D_X11_steals N h.1 a0 x1 x2 x3 x4 δ) (fun r => CI ad h.1 δ0 r.2 ∧ (kp [(1, 3), (1, 4), (1, 5), (1, 6), (1, 7), (1, 8), (1, 9), (1, 10), (1, 11), (1, 12), (1, 13), (1, 14), (1, 15), (3, 1), (4, 5), (4, 6), (4, 7), (4, 8), (4, 9), (4, 10), (4, 11), (4, 12), (4, 13), (4, 14), (4, 15), (4, 16), (4, 19)] δ r.2) ∧ match r.1 with | .inl v => True | .inr n => ((n = 0 ∨ n = 1 ∨ n = 2) ∧ True)) := by
  unfold D_X11_steals
  refine ok_bxv (k_X11_needHouse L hN (a0 := a0) (x1 := x2) k_a0 I) (fun n d hp => (show CI ad h.1 δ0 d ∧ (kp [(1, 3), (1, 4), (1, 5), (1, 6), (1, 7), (1, 8), (1, 9), (1, 10), (1, 11), (1, 12), (1, 13), (1, 14), (1, 15), (3, 1), (4, 5), (4, 6), (4, 7), (4, 8), (4, 9), (4, 10), (4, 11), (4, 12), (4, 13), (4, 14), (4, 15), (4, 16), (4, 19)] δ d) ∧ ((n = 0 ∨ n = 1 ∨ n = 2) ∧ True) from ⟨hp.1, kp_w (by decide) (kp_t kp_r hp.2.1.1), (by have hq : n = 0 := hp.2.2.1; omega), trivial⟩)) (fun d1 hp2 => ?_)
  obtain ⟨i3, ⟨u4, u5⟩, p6, p7⟩ := hp2
  have u8 := kp_t kp_r u4
  have f9 := ti_b x2
  refine ok_bxv (k_X11_needThief L hN (a0 := a0) (x1 := x1) k_a0 i3) (fun n d hp => (show CI ad h.1 δ0 d ∧ (kp [(1, 3), (1, 4), (1, 5), (1, 6), (1, 7), (1, 8), (1, 9), (1, 10), (1, 11), (1, 12), (1, 13), (1, 14), (1, 15), (3, 1), (4, 5), (4, 6), (4, 7), (4, 8), (4, 9), (4, 10), (4, 11), (4, 12), (4, 13), (4, 14), (4, 15), (4, 16), (4, 19)] δ d) ∧ ((n = 0 ∨ n = 1 ∨ n = 2) ∧ True) from ⟨hp.1, kp_w (by decide) (kp_t u8 hp.2.1.1), (by have hq : n = 1 := hp.2.2.1; omega), trivial⟩)) (fun d10 hp11 => ?_)
  obtain ⟨i12, ⟨u13, u14⟩, p15, p16⟩ := hp11
  have u17 := kp_t u8 u13
  have f18 := ti_b x1
  have f19 := ti_b x4
  refine ok_ite (fun h20 => ?_) (fun h20 => ?_)
  · have c21 : x4.toInt < (0 : Int) := o_lt h20
    unfold J_X11_steals_27
    unfold J_X11_steals_28
    refine ok_bxv (k_X11_need L hN (a0 := a0) (x1 := (0 : Int32)) k_a0 i12) (fun n d hp => (show CI ad h.1 δ0 d ∧ (kp [(1, 3), (1, 4), (1, 5), (1, 6), (1, 7), (1, 8), (1, 9), (1, 10), (1, 11), (1, 12), (1, 13), (1, 14), (1, 15), (3, 1), (4, 5), (4, 6), (4, 7), (4, 8), (4, 9), (4, 10), (4, 11), (4, 12), (4, 13), (4, 14), (4, 15), (4, 16), (4, 19)] δ d) ∧ ((n = 0 ∨ n = 1 ∨ n = 2) ∧ True) from ⟨hp.1, kp_w (by decide) (kp_t u17 hp.2.1.1), (by have hq : n = 2 := hp.2.2.1; omega), trivial⟩)) (fun d22 hp23 => ?_)
    obtain ⟨i24, ⟨u25, u26⟩, p27⟩ := hp23
    have u28 := kp_t u17 u25
    exact absurd rfl (show (0 : Int) ≠ 0 from p27)
  · have c29 : (0 : Int) ≤ x4.toInt := o_nlt h20
    refine ok_ite (fun h30 => ?_) (fun h30 => ?_)
    · have c31 : (6 : Int) < x4.toInt := o_lt h30
      unfold J_X11_steals_27
      unfold J_X11_steals_28
      refine ok_bxv (k_X11_need L hN (a0 := a0) (x1 := (0 : Int32)) k_a0 i12) (fun n d hp => (show CI ad h.1 δ0 d ∧ (kp [(1, 3), (1, 4), (1, 5), (1, 6), (1, 7), (1, 8), (1, 9), (1, 10), (1, 11), (1, 12), (1, 13), (1, 14), (1, 15), (3, 1), (4, 5), (4, 6), (4, 7), (4, 8), (4, 9), (4, 10), (4, 11), (4, 12), (4, 13), (4, 14), (4, 15), (4, 16), (4, 19)] δ d) ∧ ((n = 0 ∨ n = 1 ∨ n = 2) ∧ True) from ⟨hp.1, kp_w (by decide) (kp_t u17 hp.2.1.1), (by have hq : n = 2 := hp.2.2.1; omega), trivial⟩)) (fun d32 hp33 => ?_)
      obtain ⟨i34, ⟨u35, u36⟩, p37⟩ := hp33
      have u38 := kp_t u17 u35
      exact absurd rfl (show (0 : Int) ≠ 0 from p37)
    · have c39 : x4.toInt ≤ (6 : Int) := o_nlt h30
      unfold J_X11_steals_28
      refine ok_bxv (k_X11_need L hN (a0 := a0) (x1 := (1 : Int32)) k_a0 i12) (fun n d hp => (show CI ad h.1 δ0 d ∧ (kp [(1, 3), (1, 4), (1, 5), (1, 6), (1, 7), (1, 8), (1, 9), (1, 10), (1, 11), (1, 12), (1, 13), (1, 14), (1, 15), (3, 1), (4, 5), (4, 6), (4, 7), (4, 8), (4, 9), (4, 10), (4, 11), (4, 12), (4, 13), (4, 14), (4, 15), (4, 16), (4, 19)] δ d) ∧ ((n = 0 ∨ n = 1 ∨ n = 2) ∧ True) from ⟨hp.1, kp_w (by decide) (kp_t u17 hp.2.1.1), (by have hq : n = 2 := hp.2.2.1; omega), trivial⟩)) (fun d40 hp41 => ?_)
      obtain ⟨i42, ⟨u43, u44⟩, p45⟩ := hp41
      have u46 := kp_t u17 u43
      replace p45 : (1 : Int) ≠ 0 := p45
      obtain ⟨b47, o48, k49⟩ := gO_11_8 L k_a0
      refine ok_at o48 ?_
      obtain ⟨b50, o51, k52, n53, w54⟩ := gO_11_4 L k_a0
      refine ok_at o51 ?_
      have t55 := ti_tn x1
      refine ok_gd (fun hc56 => ?_) ?_
      · rcases hc56 with hc56 | hc56
        · have c57 : x1.toInt < (0 : Int) := o_lt hc56
          omega
        · omega
      obtain ⟨b58, o59, k60⟩ := gE_11_4 L k_a0 o51 (i := x1.toNatClampNeg) (by omega)
      refine ok_at o59 ?_
      obtain ⟨b61, o62, k63, n64, w65⟩ := gO_11_6 L k_a0
      refine ok_at o62 ?_
      have t66 := ti_tn x2
      refine ok_gd (fun hc67 => ?_) ?_
      · rcases hc67 with hc67 | hc67
        · have c68 : x2.toInt < (0 : Int) := o_lt hc67
          omega
        · omega
      obtain ⟨b69, o70, k71⟩ := gE_11_6 L k_a0 o62 (i := x2.toNatClampNeg) (by omega)
      refine ok_at o70 ?_
      obtain ⟨b72, o73, k74⟩ := gO_2_0 L k71
      refine ok_at o73 ?_
      refine ok_bind (k_X4_go L hN (a0 := b47) (a1 := b58) (a2 := b72) (x3 := x3) k49 k60 k74 i42) (fun r75 hr76 => ?_)
      obtain ⟨i77, u78⟩ := hr76
      have u79 := kp_t u46 u78
      refine ok_at o48 ?_
      refine ok_bind (k_X4_tell L hN (a0 := b47) (x1 := x4) k49 i77) (fun r80 hr81 => ?_)
      have i82 := hr81
      try rw [i82]
      have f83 := ti_b r80.1
      exact ok_some (show CI ad h.1 δ0 r75 ∧ (kp [(1, 3), (1, 4), (1, 5), (1, 6), (1, 7), (1, 8), (1, 9), (1, 10), (1, 11), (1, 12), (1, 13), (1, 14), (1, 15), (3, 1), (4, 5), (4, 6), (4, 7), (4, 8), (4, 9), (4, 10), (4, 11), (4, 12), (4, 13), (4, 14), (4, 15), (4, 16), (4, 19)] δ r75) ∧ True from ⟨i77, kp_w (by decide) u79, trivial⟩)
end
section
/-! the helpers (by gen_safe.py) -/
set_option maxHeartbeats 4000000 in
theorem k_L_shape {ad : List Nat} {h : hp} (L : Lay TLx ad h) {δ0 : dp} {N : Nat} (hN : 10000000 ≤ N) {a0 : Nat} {x1 : Int32} {a2 : Nat} (k_a0 : q_K h.1 a0 = 11) (n_o : q_N h.1 a2 = 1) {δ : dp} (I : CI ad h.1 δ0 δ) : ok (D_L_shape N h.1 a0 x1 a2 δ) (fun r => CI ad h.1 δ0 r.2 ∧ (0 ≤ x1.toInt ∧ x1.toInt ≤ (q_I δ 7 1 (Ad ad 1)).toInt ∧ (q_I r.2 7 1 (Ad ad 1)).toInt = 0 ∨ (x1.toInt < 0 ∨ (q_I δ 7 1 (Ad ad 1)).toInt < x1.toInt) ∧ (q_I r.2 7 1 (Ad ad 1)).toInt = (q_I δ 7 1 (Ad ad 1)).toInt)) := by
  unfold D_L_shape
  refine ok_bind (k_X11_shape L hN (x1 := x1) k_a0 I) (fun r H => ?_)
  have K := H.2.1.1
  rcases r with ⟨v | n, d⟩
  · dsimp only
    exact ok_gd (by omega) (ok_some ⟨H.1, Or.inl ⟨H.2.2.2.1, H.2.2.2.2, H.2.2.1⟩⟩)
  · have q : n = 2 := H.2.2.1
    dsimp only
    subst q
    exact ok_eq rfl ⟨H.1, Or.inr ⟨H.2.2.2.2, congrArg Int32.toInt (H.2.2.2.1 _)⟩⟩
set_option maxHeartbeats 4000000 in
theorem k_L_thief {ad : List Nat} {h : hp} (L : Lay TLx ad h) {δ0 : dp} {N : Nat} (hN : 10000000 ≤ N) {a0 : Nat} {x1 : Int32} {a2 : Nat} (k_a0 : q_K h.1 a0 = 11) (n_o : q_N h.1 a2 = 1) {δ : dp} (I : CI ad h.1 δ0 δ) : ok (D_L_thief N h.1 a0 x1 a2 δ) (fun r => CI ad h.1 δ0 r.2 ∧ (0 ≤ x1.toInt ∧ x1.toInt ≤ (q_I δ 7 1 (Ad ad 1)).toInt ∧ (q_I r.2 7 1 (Ad ad 1)).toInt = 0 ∨ (x1.toInt < 0 ∨ (q_I δ 7 1 (Ad ad 1)).toInt < x1.toInt) ∧ (q_I r.2 7 1 (Ad ad 1)).toInt = (q_I δ 7 1 (Ad ad 1)).toInt) ∧ ∀ a, q_I r.2 5 0 a = q_I δ 5 0 a ∧ q_I r.2 5 1 a = q_I δ 5 1 a ∧ q_I r.2 5 2 a = q_I δ 5 2 a ∧ q_I r.2 11 12 a = q_I δ 11 12 a) := by
  unfold D_L_thief
  refine ok_bind (k_X11_thief L hN (x1 := x1) k_a0 I) (fun r H => ?_)
  have K := H.2.1
  rcases r with ⟨v | n, d⟩
  · dsimp only
    exact ok_gd (by omega) (ok_some ⟨H.1, Or.inl ⟨H.2.2.2.1, H.2.2.2.2, H.2.2.1⟩, fun a => ⟨K 5 0 a (by decide), K 5 1 a (by decide), K 5 2 a (by decide), K 11 12 a (by decide)⟩⟩)
  · have q : n = 2 := H.2.2.1
    dsimp only
    subst q
    exact ok_eq rfl ⟨H.1, Or.inr ⟨H.2.2.2.2, congrArg Int32.toInt (H.2.2.2.1 _)⟩, fun a => ⟨K 5 0 a (by decide), K 5 1 a (by decide), K 5 2 a (by decide), K 11 12 a (by decide)⟩⟩
set_option maxHeartbeats 4000000 in
theorem k_L_told {ad : List Nat} {h : hp} (L : Lay TLx ad h) {δ0 : dp} {N : Nat} (hN : 10000000 ≤ N) {a0 : Nat} {x1 : Int32} {a2 : Nat} (k_a0 : q_K h.1 a0 = 11) (n_o : q_N h.1 a2 = 1) {δ : dp} (I : CI ad h.1 δ0 δ) : ok (D_L_told N h.1 a0 x1 a2 δ) (fun r => CI ad h.1 δ0 r.2 ∧ (q_I r.2 7 1 (Ad ad 1)).toInt = (q_I δ 7 1 (Ad ad 1)).toInt ∧ ∀ a, q_I r.2 5 0 a = q_I δ 5 0 a ∧ q_I r.2 5 1 a = q_I δ 5 1 a ∧ q_I r.2 5 2 a = q_I δ 5 2 a ∧ q_I r.2 11 12 a = q_I δ 11 12 a) := by
  unfold D_L_told
  refine ok_bind (k_X11_told L hN (x1 := x1) k_a0 I) (fun r H => ?_)
  have K := H.2.1.1
  rcases r with ⟨v | n, d⟩
  · dsimp only
    exact ok_gd (by omega) (ok_some ⟨H.1, congrArg Int32.toInt (K 7 1 _ (by decide)), fun a => ⟨K 5 0 a (by decide), K 5 1 a (by decide), K 5 2 a (by decide), K 11 12 a (by decide)⟩⟩)
  · have q : n = 2 := H.2.2.1
    dsimp only
    subst q
    exact ok_eq rfl ⟨H.1, congrArg Int32.toInt (K 7 1 _ (by decide)), fun a => ⟨K 5 0 a (by decide), K 5 1 a (by decide), K 5 2 a (by decide), K 11 12 a (by decide)⟩⟩
set_option maxHeartbeats 4000000 in
theorem k_L_put {ad : List Nat} {h : hp} (L : Lay TLx ad h) {δ0 : dp} {N : Nat} (hN : 10000000 ≤ N) {a0 : Nat} {x1 : Int32} {x2 : Int32} {a3 : Nat} (k_a0 : q_K h.1 a0 = 11) (n_o : q_N h.1 a3 = 1) {δ : dp} (I : CI ad h.1 δ0 δ) : ok (D_L_put N h.1 a0 x1 x2 a3 δ) (fun r => CI ad h.1 δ0 r.2 ∧ (q_I r.2 7 1 (Ad ad 1)).toInt = (q_I δ 7 1 (Ad ad 1)).toInt ∧ ∀ a, q_I r.2 5 0 a = q_I δ 5 0 a ∧ q_I r.2 5 1 a = q_I δ 5 1 a ∧ q_I r.2 5 2 a = q_I δ 5 2 a ∧ q_I r.2 11 12 a = q_I δ 11 12 a) := by
  unfold D_L_put
  refine ok_bind (k_X11_put L hN (x1 := x1) (x2 := x2) k_a0 I) (fun r H => ?_)
  have K := H.2.1.1
  rcases r with ⟨v | n, d⟩
  · dsimp only
    exact ok_gd (by omega) (ok_some ⟨H.1, congrArg Int32.toInt (K 7 1 _ (by decide)), fun a => ⟨K 5 0 a (by decide), K 5 1 a (by decide), K 5 2 a (by decide), K 11 12 a (by decide)⟩⟩)
  · have q : n = 0 ∨ n = 2 := H.2.2.1
    dsimp only
    rcases q with rfl | rfl
    · exact ok_eq rfl ⟨H.1, congrArg Int32.toInt (K 7 1 _ (by decide)), fun a => ⟨K 5 0 a (by decide), K 5 1 a (by decide), K 5 2 a (by decide), K 11 12 a (by decide)⟩⟩
    · exact ok_eq rfl ⟨H.1, congrArg Int32.toInt (K 7 1 _ (by decide)), fun a => ⟨K 5 0 a (by decide), K 5 1 a (by decide), K 5 2 a (by decide), K 11 12 a (by decide)⟩⟩
set_option maxHeartbeats 4000000 in
theorem k_L_drop {ad : List Nat} {h : hp} (L : Lay TLx ad h) {δ0 : dp} {N : Nat} (hN : 10000000 ≤ N) {a0 : Nat} {x1 : Int32} {x2 : Int32} {a3 : Nat} (k_a0 : q_K h.1 a0 = 11) (n_o : q_N h.1 a3 = 1) {δ : dp} (I : CI ad h.1 δ0 δ) : ok (D_L_drop N h.1 a0 x1 x2 a3 δ) (fun r => CI ad h.1 δ0 r.2 ∧ (q_I r.2 7 1 (Ad ad 1)).toInt = (q_I δ 7 1 (Ad ad 1)).toInt ∧ ∀ a, q_I r.2 5 0 a = q_I δ 5 0 a ∧ q_I r.2 5 1 a = q_I δ 5 1 a ∧ q_I r.2 5 2 a = q_I δ 5 2 a ∧ q_I r.2 11 12 a = q_I δ 11 12 a) := by
  unfold D_L_drop
  refine ok_bind (k_X11_drop L hN (x1 := x1) (x2 := x2) k_a0 I) (fun r H => ?_)
  have K := H.2.1.1
  rcases r with ⟨v | n, d⟩
  · dsimp only
    exact ok_gd (by omega) (ok_some ⟨H.1, congrArg Int32.toInt (K 7 1 _ (by decide)), fun a => ⟨K 5 0 a (by decide), K 5 1 a (by decide), K 5 2 a (by decide), K 11 12 a (by decide)⟩⟩)
  · have q : n = 0 ∨ n = 2 := H.2.2.1
    dsimp only
    rcases q with rfl | rfl
    · exact ok_eq rfl ⟨H.1, congrArg Int32.toInt (K 7 1 _ (by decide)), fun a => ⟨K 5 0 a (by decide), K 5 1 a (by decide), K 5 2 a (by decide), K 11 12 a (by decide)⟩⟩
    · exact ok_eq rfl ⟨H.1, congrArg Int32.toInt (K 7 1 _ (by decide)), fun a => ⟨K 5 0 a (by decide), K 5 1 a (by decide), K 5 2 a (by decide), K 11 12 a (by decide)⟩⟩
set_option maxHeartbeats 4000000 in
theorem k_L_has {ad : List Nat} {h : hp} (L : Lay TLx ad h) {δ0 : dp} {N : Nat} (hN : 10000000 ≤ N) {a0 : Nat} {x1 : Int32} {x2 : Int32} {a3 : Nat} (k_a0 : q_K h.1 a0 = 11) (n_o : q_N h.1 a3 = 1) {δ : dp} (I : CI ad h.1 δ0 δ) : ok (D_L_has N h.1 a0 x1 x2 a3 δ) (fun r => CI ad h.1 δ0 r.2 ∧ (q_I r.2 7 1 (Ad ad 1)).toInt = (q_I δ 7 1 (Ad ad 1)).toInt ∧ ∀ a, q_I r.2 5 0 a = q_I δ 5 0 a ∧ q_I r.2 5 1 a = q_I δ 5 1 a ∧ q_I r.2 5 2 a = q_I δ 5 2 a ∧ q_I r.2 11 12 a = q_I δ 11 12 a) := by
  unfold D_L_has
  refine ok_bind (k_X11_has L hN (x1 := x1) (x2 := x2) k_a0 I) (fun r H => ?_)
  have K := H.2.1.1
  rcases r with ⟨v | n, d⟩
  · dsimp only
    exact ok_gd (by omega) (ok_some ⟨H.1, congrArg Int32.toInt (K 7 1 _ (by decide)), fun a => ⟨K 5 0 a (by decide), K 5 1 a (by decide), K 5 2 a (by decide), K 11 12 a (by decide)⟩⟩)
  · have q : n = 0 ∨ n = 2 := H.2.2.1
    dsimp only
    rcases q with rfl | rfl
    · exact ok_eq rfl ⟨H.1, congrArg Int32.toInt (K 7 1 _ (by decide)), fun a => ⟨K 5 0 a (by decide), K 5 1 a (by decide), K 5 2 a (by decide), K 11 12 a (by decide)⟩⟩
    · exact ok_eq rfl ⟨H.1, congrArg Int32.toInt (K 7 1 _ (by decide)), fun a => ⟨K 5 0 a (by decide), K 5 1 a (by decide), K 5 2 a (by decide), K 11 12 a (by decide)⟩⟩
set_option maxHeartbeats 4000000 in
theorem k_L_of {ad : List Nat} {h : hp} (L : Lay TLx ad h) {δ0 : dp} {N : Nat} (hN : 10000000 ≤ N) {a0 : Nat} {x1 : Int32} {x2 : Int32} {a3 : Nat} (k_a0 : q_K h.1 a0 = 11) (n_o : q_N h.1 a3 = 1) {δ : dp} (I : CI ad h.1 δ0 δ) : ok (D_L_of N h.1 a0 x1 x2 a3 δ) (fun r => CI ad h.1 δ0 r.2 ∧ (q_I r.2 7 1 (Ad ad 1)).toInt = (q_I δ 7 1 (Ad ad 1)).toInt ∧ ∀ a, q_I r.2 5 0 a = q_I δ 5 0 a ∧ q_I r.2 5 1 a = q_I δ 5 1 a ∧ q_I r.2 5 2 a = q_I δ 5 2 a ∧ q_I r.2 11 12 a = q_I δ 11 12 a) := by
  unfold D_L_of
  refine ok_bind (k_X11_of L hN (x1 := x1) (x2 := x2) k_a0 I) (fun r H => ?_)
  have K := H.2.1.1
  rcases r with ⟨v | n, d⟩
  · dsimp only
    exact ok_gd (by omega) (ok_some ⟨H.1, congrArg Int32.toInt (K 7 1 _ (by decide)), fun a => ⟨K 5 0 a (by decide), K 5 1 a (by decide), K 5 2 a (by decide), K 11 12 a (by decide)⟩⟩)
  · have q : n = 0 ∨ n = 2 := H.2.2.1
    dsimp only
    rcases q with rfl | rfl
    · exact ok_eq rfl ⟨H.1, congrArg Int32.toInt (K 7 1 _ (by decide)), fun a => ⟨K 5 0 a (by decide), K 5 1 a (by decide), K 5 2 a (by decide), K 11 12 a (by decide)⟩⟩
    · exact ok_eq rfl ⟨H.1, congrArg Int32.toInt (K 7 1 _ (by decide)), fun a => ⟨K 5 0 a (by decide), K 5 1 a (by decide), K 5 2 a (by decide), K 11 12 a (by decide)⟩⟩
set_option maxHeartbeats 4000000 in
theorem k_L_next {ad : List Nat} {h : hp} (L : Lay TLx ad h) {δ0 : dp} {N : Nat} (hN : 10000000 ≤ N) {a0 : Nat} {x1 : Int32} {x2 : Int32} {a3 : Nat} (k_a0 : q_K h.1 a0 = 11) (n_o : q_N h.1 a3 = 1) {δ : dp} (I : CI ad h.1 δ0 δ) : ok (D_L_next N h.1 a0 x1 x2 a3 δ) (fun r => CI ad h.1 δ0 r.2 ∧ (q_I r.2 7 1 (Ad ad 1)).toInt = (q_I δ 7 1 (Ad ad 1)).toInt ∧ ∀ a, q_I r.2 5 0 a = q_I δ 5 0 a ∧ q_I r.2 5 1 a = q_I δ 5 1 a ∧ q_I r.2 5 2 a = q_I δ 5 2 a ∧ q_I r.2 11 12 a = q_I δ 11 12 a) := by
  unfold D_L_next
  refine ok_bind (k_X11_next L hN (x1 := x1) (x2 := x2) k_a0 I) (fun r H => ?_)
  have K := H.2.1.1
  rcases r with ⟨v | n, d⟩
  · dsimp only
    exact ok_gd (by omega) (ok_some ⟨H.1, congrArg Int32.toInt (K 7 1 _ (by decide)), fun a => ⟨K 5 0 a (by decide), K 5 1 a (by decide), K 5 2 a (by decide), K 11 12 a (by decide)⟩⟩)
  · have q : n = 0 ∨ n = 2 := H.2.2.1
    dsimp only
    rcases q with rfl | rfl
    · exact ok_eq rfl ⟨H.1, congrArg Int32.toInt (K 7 1 _ (by decide)), fun a => ⟨K 5 0 a (by decide), K 5 1 a (by decide), K 5 2 a (by decide), K 11 12 a (by decide)⟩⟩
    · exact ok_eq rfl ⟨H.1, congrArg Int32.toInt (K 7 1 _ (by decide)), fun a => ⟨K 5 0 a (by decide), K 5 1 a (by decide), K 5 2 a (by decide), K 11 12 a (by decide)⟩⟩
set_option maxHeartbeats 4000000 in
theorem k_L_before {ad : List Nat} {h : hp} (L : Lay TLx ad h) {δ0 : dp} {N : Nat} (hN : 10000000 ≤ N) {a0 : Nat} {x1 : Int32} {x2 : Int32} {a3 : Nat} (k_a0 : q_K h.1 a0 = 11) (n_o : q_N h.1 a3 = 1) {δ : dp} (I : CI ad h.1 δ0 δ) : ok (D_L_before N h.1 a0 x1 x2 a3 δ) (fun r => CI ad h.1 δ0 r.2 ∧ (q_I r.2 7 1 (Ad ad 1)).toInt = (q_I δ 7 1 (Ad ad 1)).toInt ∧ ∀ a, q_I r.2 5 0 a = q_I δ 5 0 a ∧ q_I r.2 5 1 a = q_I δ 5 1 a ∧ q_I r.2 5 2 a = q_I δ 5 2 a ∧ q_I r.2 11 12 a = q_I δ 11 12 a) := by
  unfold D_L_before
  refine ok_bind (k_X11_before L hN (x1 := x1) (x2 := x2) k_a0 I) (fun r H => ?_)
  have K := H.2.1.1
  rcases r with ⟨v | n, d⟩
  · dsimp only
    exact ok_gd (by omega) (ok_some ⟨H.1, congrArg Int32.toInt (K 7 1 _ (by decide)), fun a => ⟨K 5 0 a (by decide), K 5 1 a (by decide), K 5 2 a (by decide), K 11 12 a (by decide)⟩⟩)
  · have q : n = 0 ∨ n = 2 := H.2.2.1
    dsimp only
    rcases q with rfl | rfl
    · exact ok_eq rfl ⟨H.1, congrArg Int32.toInt (K 7 1 _ (by decide)), fun a => ⟨K 5 0 a (by decide), K 5 1 a (by decide), K 5 2 a (by decide), K 11 12 a (by decide)⟩⟩
    · exact ok_eq rfl ⟨H.1, congrArg Int32.toInt (K 7 1 _ (by decide)), fun a => ⟨K 5 0 a (by decide), K 5 1 a (by decide), K 5 2 a (by decide), K 11 12 a (by decide)⟩⟩
set_option maxHeartbeats 4000000 in
theorem k_L_kth {ad : List Nat} {h : hp} (L : Lay TLx ad h) {δ0 : dp} {N : Nat} (hN : 10000000 ≤ N) {a0 : Nat} {x1 : Int32} {x2 : Int32} {a3 : Nat} (k_a0 : q_K h.1 a0 = 11) (n_o : q_N h.1 a3 = 1) {δ : dp} (I : CI ad h.1 δ0 δ) : ok (D_L_kth N h.1 a0 x1 x2 a3 δ) (fun r => CI ad h.1 δ0 r.2 ∧ (q_I r.2 7 1 (Ad ad 1)).toInt = (q_I δ 7 1 (Ad ad 1)).toInt ∧ ∀ a, q_I r.2 5 0 a = q_I δ 5 0 a ∧ q_I r.2 5 1 a = q_I δ 5 1 a ∧ q_I r.2 5 2 a = q_I δ 5 2 a ∧ q_I r.2 11 12 a = q_I δ 11 12 a) := by
  unfold D_L_kth
  refine ok_bind (k_X11_kth L hN (x1 := x1) (x2 := x2) k_a0 I) (fun r H => ?_)
  have K := H.2.1.1
  rcases r with ⟨v | n, d⟩
  · dsimp only
    exact ok_gd (by omega) (ok_some ⟨H.1, congrArg Int32.toInt (K 7 1 _ (by decide)), fun a => ⟨K 5 0 a (by decide), K 5 1 a (by decide), K 5 2 a (by decide), K 11 12 a (by decide)⟩⟩)
  · have q : n = 0 := H.2.2.1
    dsimp only
    subst q
    exact ok_eq rfl ⟨H.1, congrArg Int32.toInt (K 7 1 _ (by decide)), fun a => ⟨K 5 0 a (by decide), K 5 1 a (by decide), K 5 2 a (by decide), K 11 12 a (by decide)⟩⟩
set_option maxHeartbeats 4000000 in
theorem k_L_between {ad : List Nat} {h : hp} (L : Lay TLx ad h) {δ0 : dp} {N : Nat} (hN : 10000000 ≤ N) {a0 : Nat} {x1 : Int32} {x2 : Int32} {x3 : Int32} {a4 : Nat} (k_a0 : q_K h.1 a0 = 11) (n_o : q_N h.1 a4 = 1) {δ : dp} (I : CI ad h.1 δ0 δ) : ok (D_L_between N h.1 a0 x1 x2 x3 a4 δ) (fun r => CI ad h.1 δ0 r.2 ∧ (q_I r.2 7 1 (Ad ad 1)).toInt = (q_I δ 7 1 (Ad ad 1)).toInt ∧ ∀ a, q_I r.2 5 0 a = q_I δ 5 0 a ∧ q_I r.2 5 1 a = q_I δ 5 1 a ∧ q_I r.2 5 2 a = q_I δ 5 2 a ∧ q_I r.2 11 12 a = q_I δ 11 12 a) := by
  unfold D_L_between
  refine ok_bind (k_X11_between L hN (x1 := x1) (x2 := x2) (x3 := x3) k_a0 I) (fun r H => ?_)
  have K := H.2.1.1
  rcases r with ⟨v | n, d⟩
  · dsimp only
    exact ok_gd (by omega) (ok_some ⟨H.1, congrArg Int32.toInt (K 7 1 _ (by decide)), fun a => ⟨K 5 0 a (by decide), K 5 1 a (by decide), K 5 2 a (by decide), K 11 12 a (by decide)⟩⟩)
  · have q : n = 0 ∨ n = 2 := H.2.2.1
    dsimp only
    rcases q with rfl | rfl
    · exact ok_eq rfl ⟨H.1, congrArg Int32.toInt (K 7 1 _ (by decide)), fun a => ⟨K 5 0 a (by decide), K 5 1 a (by decide), K 5 2 a (by decide), K 11 12 a (by decide)⟩⟩
    · exact ok_eq rfl ⟨H.1, congrArg Int32.toInt (K 7 1 _ (by decide)), fun a => ⟨K 5 0 a (by decide), K 5 1 a (by decide), K 5 2 a (by decide), K 11 12 a (by decide)⟩⟩
set_option maxHeartbeats 4000000 in
theorem k_L_touches {ad : List Nat} {h : hp} (L : Lay TLx ad h) {δ0 : dp} {N : Nat} (hN : 10000000 ≤ N) {a0 : Nat} {x1 : Int32} {x2 : Int32} {x3 : Int32} {x4 : Int32} {a5 : Nat} (k_a0 : q_K h.1 a0 = 11) (n_o : q_N h.1 a5 = 1) {δ : dp} (I : CI ad h.1 δ0 δ) : ok (D_L_touches N h.1 a0 x1 x2 x3 x4 a5 δ) (fun r => CI ad h.1 δ0 r.2 ∧ (q_I r.2 7 1 (Ad ad 1)).toInt = (q_I δ 7 1 (Ad ad 1)).toInt ∧ ∀ a, q_I r.2 5 0 a = q_I δ 5 0 a ∧ q_I r.2 5 1 a = q_I δ 5 1 a ∧ q_I r.2 5 2 a = q_I δ 5 2 a ∧ q_I r.2 11 12 a = q_I δ 11 12 a) := by
  unfold D_L_touches
  refine ok_bind (k_X11_touches L hN (x1 := x1) (x2 := x2) (x3 := x3) (x4 := x4) k_a0 I) (fun r H => ?_)
  have K := H.2.1.1
  rcases r with ⟨v | n, d⟩
  · dsimp only
    exact ok_gd (by omega) (ok_some ⟨H.1, congrArg Int32.toInt (K 7 1 _ (by decide)), fun a => ⟨K 5 0 a (by decide), K 5 1 a (by decide), K 5 2 a (by decide), K 11 12 a (by decide)⟩⟩)
  · have q : n = 0 ∨ n = 2 := H.2.2.1
    dsimp only
    rcases q with rfl | rfl
    · exact ok_eq rfl ⟨H.1, congrArg Int32.toInt (K 7 1 _ (by decide)), fun a => ⟨K 5 0 a (by decide), K 5 1 a (by decide), K 5 2 a (by decide), K 11 12 a (by decide)⟩⟩
    · exact ok_eq rfl ⟨H.1, congrArg Int32.toInt (K 7 1 _ (by decide)), fun a => ⟨K 5 0 a (by decide), K 5 1 a (by decide), K 5 2 a (by decide), K 11 12 a (by decide)⟩⟩
set_option maxHeartbeats 4000000 in
theorem k_L_size {ad : List Nat} {h : hp} (L : Lay TLx ad h) {δ0 : dp} {N : Nat} (hN : 10000000 ≤ N) {a0 : Nat} {x1 : Int32} {x2 : Int32} {a3 : Nat} (k_a0 : q_K h.1 a0 = 11) (n_o : q_N h.1 a3 = 1) {δ : dp} (I : CI ad h.1 δ0 δ) : ok (D_L_size N h.1 a0 x1 x2 a3 δ) (fun r => CI ad h.1 δ0 r.2 ∧ (q_I r.2 7 1 (Ad ad 1)).toInt = (q_I δ 7 1 (Ad ad 1)).toInt ∧ ∀ a, q_I r.2 5 0 a = q_I δ 5 0 a ∧ q_I r.2 5 1 a = q_I δ 5 1 a ∧ q_I r.2 5 2 a = q_I δ 5 2 a ∧ q_I r.2 11 12 a = q_I δ 11 12 a) := by
  unfold D_L_size
  refine ok_bind (k_X11_size L hN (x1 := x1) (x2 := x2) k_a0 I) (fun r H => ?_)
  have K := H.2.1.1
  rcases r with ⟨v | n, d⟩
  · dsimp only
    exact ok_gd (by omega) (ok_some ⟨H.1, congrArg Int32.toInt (K 7 1 _ (by decide)), fun a => ⟨K 5 0 a (by decide), K 5 1 a (by decide), K 5 2 a (by decide), K 11 12 a (by decide)⟩⟩)
  · have q : n = 0 ∨ n = 2 := H.2.2.1
    dsimp only
    rcases q with rfl | rfl
    · exact ok_eq rfl ⟨H.1, congrArg Int32.toInt (K 7 1 _ (by decide)), fun a => ⟨K 5 0 a (by decide), K 5 1 a (by decide), K 5 2 a (by decide), K 11 12 a (by decide)⟩⟩
    · exact ok_eq rfl ⟨H.1, congrArg Int32.toInt (K 7 1 _ (by decide)), fun a => ⟨K 5 0 a (by decide), K 5 1 a (by decide), K 5 2 a (by decide), K 11 12 a (by decide)⟩⟩
set_option maxHeartbeats 4000000 in
theorem k_L_bound {ad : List Nat} {h : hp} (L : Lay TLx ad h) {δ0 : dp} {N : Nat} (hN : 10000000 ≤ N) {a0 : Nat} {x1 : Int32} {a2 : Nat} (k_a0 : q_K h.1 a0 = 11) (n_o : q_N h.1 a2 = 1) {δ : dp} (I : CI ad h.1 δ0 δ) : ok (D_L_bound N h.1 a0 x1 a2 δ) (fun r => CI ad h.1 δ0 r.2 ∧ (q_I r.2 7 1 (Ad ad 1)).toInt = (q_I δ 7 1 (Ad ad 1)).toInt ∧ ∀ a, q_I r.2 5 0 a = q_I δ 5 0 a ∧ q_I r.2 5 1 a = q_I δ 5 1 a ∧ q_I r.2 5 2 a = q_I δ 5 2 a ∧ q_I r.2 11 12 a = q_I δ 11 12 a) := by
  unfold D_L_bound
  refine ok_bind (k_X11_bound L hN (x1 := x1) k_a0 I) (fun r H => ?_)
  have K := H.2.1.1
  rcases r with ⟨v | n, d⟩
  · dsimp only
    exact ok_gd (by omega) (ok_some ⟨H.1, congrArg Int32.toInt (K 7 1 _ (by decide)), fun a => ⟨K 5 0 a (by decide), K 5 1 a (by decide), K 5 2 a (by decide), K 11 12 a (by decide)⟩⟩)
  · have q : n = 2 := H.2.2.1
    dsimp only
    subst q
    exact ok_eq rfl ⟨H.1, congrArg Int32.toInt (K 7 1 _ (by decide)), fun a => ⟨K 5 0 a (by decide), K 5 1 a (by decide), K 5 2 a (by decide), K 11 12 a (by decide)⟩⟩
set_option maxHeartbeats 4000000 in
theorem k_L_worst {ad : List Nat} {h : hp} (L : Lay TLx ad h) {δ0 : dp} {N : Nat} (hN : 10000000 ≤ N) {a0 : Nat} {x1 : Int32} {x2 : Int32} {x3 : Int32} {a4 : Nat} (k_a0 : q_K h.1 a0 = 11) (n_o : q_N h.1 a4 = 1) {δ : dp} (I : CI ad h.1 δ0 δ) : ok (D_L_worst N h.1 a0 x1 x2 x3 a4 δ) (fun r => CI ad h.1 δ0 r.2 ∧ (q_I r.2 7 1 (Ad ad 1)).toInt = (q_I δ 7 1 (Ad ad 1)).toInt ∧ ∀ a, q_I r.2 5 0 a = q_I δ 5 0 a ∧ q_I r.2 5 1 a = q_I δ 5 1 a ∧ q_I r.2 5 2 a = q_I δ 5 2 a ∧ q_I r.2 11 12 a = q_I δ 11 12 a) := by
  unfold D_L_worst
  refine ok_bind (k_X11_worst L hN (x1 := x1) (x2 := x2) (x3 := x3) k_a0 I) (fun r H => ?_)
  have K := H.2.1.1
  rcases r with ⟨v | n, d⟩
  · dsimp only
    exact ok_gd (by omega) (ok_some ⟨H.1, congrArg Int32.toInt (K 7 1 _ (by decide)), fun a => ⟨K 5 0 a (by decide), K 5 1 a (by decide), K 5 2 a (by decide), K 11 12 a (by decide)⟩⟩)
  · have q : n = 2 := H.2.2.1
    dsimp only
    subst q
    exact ok_eq rfl ⟨H.1, congrArg Int32.toInt (K 7 1 _ (by decide)), fun a => ⟨K 5 0 a (by decide), K 5 1 a (by decide), K 5 2 a (by decide), K 11 12 a (by decide)⟩⟩
set_option maxHeartbeats 4000000 in
theorem k_L_bad {ad : List Nat} {h : hp} (L : Lay TLx ad h) {δ0 : dp} {N : Nat} (hN : 10000000 ≤ N) {a0 : Nat} {x1 : Int32} {x2 : Int32} {x3 : Int32} {a4 : Nat} (k_a0 : q_K h.1 a0 = 11) (n_o : q_N h.1 a4 = 1) {δ : dp} (I : CI ad h.1 δ0 δ) : ok (D_L_bad N h.1 a0 x1 x2 x3 a4 δ) (fun r => CI ad h.1 δ0 r.2 ∧ (q_I r.2 7 1 (Ad ad 1)).toInt = (q_I δ 7 1 (Ad ad 1)).toInt ∧ ∀ a, q_I r.2 5 0 a = q_I δ 5 0 a ∧ q_I r.2 5 1 a = q_I δ 5 1 a ∧ q_I r.2 5 2 a = q_I δ 5 2 a ∧ q_I r.2 11 12 a = q_I δ 11 12 a) := by
  unfold D_L_bad
  refine ok_bind (k_X11_bad L hN (x1 := x1) (x2 := x2) (x3 := x3) k_a0 I) (fun r H => ?_)
  have K := H.2.1.1
  rcases r with ⟨v | n, d⟩
  · dsimp only
    exact ok_gd (by omega) (ok_some ⟨H.1, congrArg Int32.toInt (K 7 1 _ (by decide)), fun a => ⟨K 5 0 a (by decide), K 5 1 a (by decide), K 5 2 a (by decide), K 11 12 a (by decide)⟩⟩)
  · have q : n = 2 := H.2.2.1
    dsimp only
    subst q
    exact ok_eq rfl ⟨H.1, congrArg Int32.toInt (K 7 1 _ (by decide)), fun a => ⟨K 5 0 a (by decide), K 5 1 a (by decide), K 5 2 a (by decide), K 11 12 a (by decide)⟩⟩
set_option maxHeartbeats 4000000 in
theorem k_L_was {ad : List Nat} {h : hp} (L : Lay TLx ad h) {δ0 : dp} {N : Nat} (hN : 10000000 ≤ N) {a0 : Nat} {x1 : Int32} {x2 : Int32} {x3 : Int32} {a4 : Nat} (k_a0 : q_K h.1 a0 = 11) (n_o : q_N h.1 a4 = 1) {δ : dp} (I : CI ad h.1 δ0 δ) : ok (D_L_was N h.1 a0 x1 x2 x3 a4 δ) (fun r => CI ad h.1 δ0 r.2 ∧ (q_I r.2 7 1 (Ad ad 1)).toInt = (q_I δ 7 1 (Ad ad 1)).toInt ∧ ∀ a, q_I r.2 5 0 a = q_I δ 5 0 a ∧ q_I r.2 5 1 a = q_I δ 5 1 a ∧ q_I r.2 5 2 a = q_I δ 5 2 a ∧ q_I r.2 11 12 a = q_I δ 11 12 a) := by
  unfold D_L_was
  refine ok_bind (k_X11_was L hN (x1 := x1) (x2 := x2) (x3 := x3) k_a0 I) (fun r H => ?_)
  have K := H.2.1.1
  rcases r with ⟨v | n, d⟩
  · dsimp only
    exact ok_gd (by omega) (ok_some ⟨H.1, congrArg Int32.toInt (K 7 1 _ (by decide)), fun a => ⟨K 5 0 a (by decide), K 5 1 a (by decide), K 5 2 a (by decide), K 11 12 a (by decide)⟩⟩)
  · have q : n = 0 ∨ n = 2 := H.2.2.1
    dsimp only
    rcases q with rfl | rfl
    · exact ok_eq rfl ⟨H.1, congrArg Int32.toInt (K 7 1 _ (by decide)), fun a => ⟨K 5 0 a (by decide), K 5 1 a (by decide), K 5 2 a (by decide), K 11 12 a (by decide)⟩⟩
    · exact ok_eq rfl ⟨H.1, congrArg Int32.toInt (K 7 1 _ (by decide)), fun a => ⟨K 5 0 a (by decide), K 5 1 a (by decide), K 5 2 a (by decide), K 11 12 a (by decide)⟩⟩
set_option maxHeartbeats 4000000 in
theorem k_L_asked {ad : List Nat} {h : hp} (L : Lay TLx ad h) {δ0 : dp} {N : Nat} (hN : 10000000 ≤ N) {a0 : Nat} {x1 : Int32} {x2 : Int32} {x3 : Int32} {x4 : Int32} {a5 : Nat} (k_a0 : q_K h.1 a0 = 11) (n_o : q_N h.1 a5 = 1) {δ : dp} (I : CI ad h.1 δ0 δ) : ok (D_L_asked N h.1 a0 x1 x2 x3 x4 a5 δ) (fun r => CI ad h.1 δ0 r.2 ∧ (q_I r.2 7 1 (Ad ad 1)).toInt = (q_I δ 7 1 (Ad ad 1)).toInt ∧ ∀ a, q_I r.2 5 0 a = q_I δ 5 0 a ∧ q_I r.2 5 1 a = q_I δ 5 1 a ∧ q_I r.2 5 2 a = q_I δ 5 2 a ∧ q_I r.2 11 12 a = q_I δ 11 12 a) := by
  unfold D_L_asked
  refine ok_bind (k_X11_asked L hN (x1 := x1) (x2 := x2) (x3 := x3) (x4 := x4) k_a0 I) (fun r H => ?_)
  have K := H.2.1.1
  rcases r with ⟨v | n, d⟩
  · dsimp only
    exact ok_gd (by omega) (ok_some ⟨H.1, congrArg Int32.toInt (K 7 1 _ (by decide)), fun a => ⟨K 5 0 a (by decide), K 5 1 a (by decide), K 5 2 a (by decide), K 11 12 a (by decide)⟩⟩)
  · have q : n = 0 ∨ n = 2 := H.2.2.1
    dsimp only
    rcases q with rfl | rfl
    · exact ok_eq rfl ⟨H.1, congrArg Int32.toInt (K 7 1 _ (by decide)), fun a => ⟨K 5 0 a (by decide), K 5 1 a (by decide), K 5 2 a (by decide), K 11 12 a (by decide)⟩⟩
    · exact ok_eq rfl ⟨H.1, congrArg Int32.toInt (K 7 1 _ (by decide)), fun a => ⟨K 5 0 a (by decide), K 5 1 a (by decide), K 5 2 a (by decide), K 11 12 a (by decide)⟩⟩
set_option maxHeartbeats 4000000 in
theorem k_L_since {ad : List Nat} {h : hp} (L : Lay TLx ad h) {δ0 : dp} {N : Nat} (hN : 10000000 ≤ N) {a0 : Nat} {x1 : Int32} {x2 : Int32} {x3 : Int32} {a4 : Nat} (k_a0 : q_K h.1 a0 = 11) (n_o : q_N h.1 a4 = 1) {δ : dp} (I : CI ad h.1 δ0 δ) : ok (D_L_since N h.1 a0 x1 x2 x3 a4 δ) (fun r => CI ad h.1 δ0 r.2 ∧ (q_I r.2 7 1 (Ad ad 1)).toInt = (q_I δ 7 1 (Ad ad 1)).toInt ∧ ∀ a, q_I r.2 5 0 a = q_I δ 5 0 a ∧ q_I r.2 5 1 a = q_I δ 5 1 a ∧ q_I r.2 5 2 a = q_I δ 5 2 a ∧ q_I r.2 11 12 a = q_I δ 11 12 a) := by
  unfold D_L_since
  refine ok_bind (k_X11_since L hN (x1 := x1) (x2 := x2) (x3 := x3) k_a0 I) (fun r H => ?_)
  have K := H.2.1.1
  rcases r with ⟨v | n, d⟩
  · dsimp only
    exact ok_gd (by omega) (ok_some ⟨H.1, congrArg Int32.toInt (K 7 1 _ (by decide)), fun a => ⟨K 5 0 a (by decide), K 5 1 a (by decide), K 5 2 a (by decide), K 11 12 a (by decide)⟩⟩)
  · have q : n = 0 ∨ n = 2 := H.2.2.1
    dsimp only
    rcases q with rfl | rfl
    · exact ok_eq rfl ⟨H.1, congrArg Int32.toInt (K 7 1 _ (by decide)), fun a => ⟨K 5 0 a (by decide), K 5 1 a (by decide), K 5 2 a (by decide), K 11 12 a (by decide)⟩⟩
    · exact ok_eq rfl ⟨H.1, congrArg Int32.toInt (K 7 1 _ (by decide)), fun a => ⟨K 5 0 a (by decide), K 5 1 a (by decide), K 5 2 a (by decide), K 11 12 a (by decide)⟩⟩
set_option maxHeartbeats 4000000 in
theorem k_L_room {ad : List Nat} {h : hp} (L : Lay TLx ad h) {δ0 : dp} {N : Nat} (hN : 10000000 ≤ N) {a0 : Nat} {x1 : Int32} {x2 : Int32} {a3 : Nat} (k_a0 : q_K h.1 a0 = 11) (n_o : q_N h.1 a3 = 1) {δ : dp} (I : CI ad h.1 δ0 δ) : ok (D_L_room N h.1 a0 x1 x2 a3 δ) (fun r => CI ad h.1 δ0 r.2 ∧ (q_I r.2 7 1 (Ad ad 1)).toInt = (q_I δ 7 1 (Ad ad 1)).toInt ∧ ∀ a, q_I r.2 5 0 a = q_I δ 5 0 a ∧ q_I r.2 5 1 a = q_I δ 5 1 a ∧ q_I r.2 5 2 a = q_I δ 5 2 a ∧ q_I r.2 11 12 a = q_I δ 11 12 a) := by
  unfold D_L_room
  refine ok_bind (k_X11_room L hN (x1 := x1) (x2 := x2) k_a0 I) (fun r H => ?_)
  have K := H.2.1.1
  rcases r with ⟨v | n, d⟩
  · dsimp only
    exact ok_gd (by omega) (ok_some ⟨H.1, congrArg Int32.toInt (K 7 1 _ (by decide)), fun a => ⟨K 5 0 a (by decide), K 5 1 a (by decide), K 5 2 a (by decide), K 11 12 a (by decide)⟩⟩)
  · have q : n = 0 ∨ n = 2 := H.2.2.1
    dsimp only
    rcases q with rfl | rfl
    · exact ok_eq rfl ⟨H.1, congrArg Int32.toInt (K 7 1 _ (by decide)), fun a => ⟨K 5 0 a (by decide), K 5 1 a (by decide), K 5 2 a (by decide), K 11 12 a (by decide)⟩⟩
    · exact ok_eq rfl ⟨H.1, congrArg Int32.toInt (K 7 1 _ (by decide)), fun a => ⟨K 5 0 a (by decide), K 5 1 a (by decide), K 5 2 a (by decide), K 11 12 a (by decide)⟩⟩
set_option maxHeartbeats 4000000 in
theorem k_L_joins {ad : List Nat} {h : hp} (L : Lay TLx ad h) {δ0 : dp} {N : Nat} (hN : 10000000 ≤ N) {a0 : Nat} {x1 : Int32} {x2 : Int32} {x3 : Int32} {a4 : Nat} (k_a0 : q_K h.1 a0 = 11) (n_o : q_N h.1 a4 = 1) {δ : dp} (I : CI ad h.1 δ0 δ) : ok (D_L_joins N h.1 a0 x1 x2 x3 a4 δ) (fun r => CI ad h.1 δ0 r.2 ∧ (q_I r.2 7 1 (Ad ad 1)).toInt = (q_I δ 7 1 (Ad ad 1)).toInt ∧ ∀ a, q_I r.2 5 0 a = q_I δ 5 0 a ∧ q_I r.2 5 1 a = q_I δ 5 1 a ∧ q_I r.2 5 2 a = q_I δ 5 2 a ∧ q_I r.2 11 12 a = q_I δ 11 12 a) := by
  unfold D_L_joins
  refine ok_bind (k_X11_joins L hN (x1 := x1) (x2 := x2) (x3 := x3) k_a0 I) (fun r H => ?_)
  have K := H.2.1.1
  rcases r with ⟨v | n, d⟩
  · dsimp only
    exact ok_gd (by omega) (ok_some ⟨H.1, congrArg Int32.toInt (K 7 1 _ (by decide)), fun a => ⟨K 5 0 a (by decide), K 5 1 a (by decide), K 5 2 a (by decide), K 11 12 a (by decide)⟩⟩)
  · have q : n = 0 ∨ n = 2 := H.2.2.1
    dsimp only
    rcases q with rfl | rfl
    · exact ok_eq rfl ⟨H.1, congrArg Int32.toInt (K 7 1 _ (by decide)), fun a => ⟨K 5 0 a (by decide), K 5 1 a (by decide), K 5 2 a (by decide), K 11 12 a (by decide)⟩⟩
    · exact ok_eq rfl ⟨H.1, congrArg Int32.toInt (K 7 1 _ (by decide)), fun a => ⟨K 5 0 a (by decide), K 5 1 a (by decide), K 5 2 a (by decide), K 11 12 a (by decide)⟩⟩
set_option maxHeartbeats 4000000 in
theorem k_L_runs {ad : List Nat} {h : hp} (L : Lay TLx ad h) {δ0 : dp} {N : Nat} (hN : 10000000 ≤ N) {a0 : Nat} {x1 : Int32} {x2 : Int32} {a3 : Nat} (k_a0 : q_K h.1 a0 = 11) (n_o : q_N h.1 a3 = 1) {δ : dp} (I : CI ad h.1 δ0 δ) : ok (D_L_runs N h.1 a0 x1 x2 a3 δ) (fun r => CI ad h.1 δ0 r.2 ∧ (q_I r.2 7 1 (Ad ad 1)).toInt = (q_I δ 7 1 (Ad ad 1)).toInt ∧ ∀ a, q_I r.2 5 0 a = q_I δ 5 0 a ∧ q_I r.2 5 1 a = q_I δ 5 1 a ∧ q_I r.2 5 2 a = q_I δ 5 2 a ∧ q_I r.2 11 12 a = q_I δ 11 12 a) := by
  unfold D_L_runs
  refine ok_bind (k_X11_runs L hN (x1 := x1) (x2 := x2) k_a0 I) (fun r H => ?_)
  have K := H.2.1.1
  rcases r with ⟨v | n, d⟩
  · dsimp only
    exact ok_gd (by omega) (ok_some ⟨H.1, congrArg Int32.toInt (K 7 1 _ (by decide)), fun a => ⟨K 5 0 a (by decide), K 5 1 a (by decide), K 5 2 a (by decide), K 11 12 a (by decide)⟩⟩)
  · have q : n = 0 := H.2.2.1
    dsimp only
    subst q
    exact ok_eq rfl ⟨H.1, congrArg Int32.toInt (K 7 1 _ (by decide)), fun a => ⟨K 5 0 a (by decide), K 5 1 a (by decide), K 5 2 a (by decide), K 11 12 a (by decide)⟩⟩
set_option maxHeartbeats 4000000 in
theorem k_L_steals {ad : List Nat} {h : hp} (L : Lay TLx ad h) {δ0 : dp} {N : Nat} (hN : 10000000 ≤ N) {a0 : Nat} {x1 : Int32} {x2 : Int32} {x3 : Int32} {x4 : Int32} {a5 : Nat} (k_a0 : q_K h.1 a0 = 11) (n_o : q_N h.1 a5 = 1) {δ : dp} (I : CI ad h.1 δ0 δ) : ok (D_L_steals N h.1 a0 x1 x2 x3 x4 a5 δ) (fun r => CI ad h.1 δ0 r.2 ∧ (q_I r.2 7 1 (Ad ad 1)).toInt = (q_I δ 7 1 (Ad ad 1)).toInt ∧ ∀ a, q_I r.2 5 0 a = q_I δ 5 0 a ∧ q_I r.2 5 1 a = q_I δ 5 1 a ∧ q_I r.2 5 2 a = q_I δ 5 2 a ∧ q_I r.2 11 12 a = q_I δ 11 12 a) := by
  unfold D_L_steals
  refine ok_bind (k_X11_steals L hN (x1 := x1) (x2 := x2) (x3 := x3) (x4 := x4) k_a0 I) (fun r H => ?_)
  have K := H.2.1
  rcases r with ⟨v | n, d⟩
  · dsimp only
    exact ok_gd (by omega) (ok_some ⟨H.1, congrArg Int32.toInt (K 7 1 _ (by decide)), fun a => ⟨K 5 0 a (by decide), K 5 1 a (by decide), K 5 2 a (by decide), K 11 12 a (by decide)⟩⟩)
  · have q : n = 0 ∨ n = 1 ∨ n = 2 := H.2.2.1
    dsimp only
    rcases q with rfl | rfl | rfl
    · exact ok_eq rfl ⟨H.1, congrArg Int32.toInt (K 7 1 _ (by decide)), fun a => ⟨K 5 0 a (by decide), K 5 1 a (by decide), K 5 2 a (by decide), K 11 12 a (by decide)⟩⟩
    · exact ok_eq rfl ⟨H.1, congrArg Int32.toInt (K 7 1 _ (by decide)), fun a => ⟨K 5 0 a (by decide), K 5 1 a (by decide), K 5 2 a (by decide), K 11 12 a (by decide)⟩⟩
    · exact ok_eq rfl ⟨H.1, congrArg Int32.toInt (K 7 1 _ (by decide)), fun a => ⟨K 5 0 a (by decide), K 5 1 a (by decide), K 5 2 a (by decide), K 11 12 a (by decide)⟩⟩
set_option maxHeartbeats 4000000 in
theorem k_L_reached {ad : List Nat} {h : hp} (L : Lay TLx ad h) {δ0 : dp} {N : Nat} (hN : 10000000 ≤ N) {a0 : Nat} {x1 : Int32} {a2 : Nat} (k_a0 : q_K h.1 a0 = 11) (n_o : q_N h.1 a2 = 1) {δ : dp} (I : CI ad h.1 δ0 δ) : ok (D_L_reached N h.1 a0 x1 a2 δ) (fun r => CI ad h.1 δ0 r.2 ∧ (q_I r.2 7 1 (Ad ad 1)).toInt = (q_I δ 7 1 (Ad ad 1)).toInt ∧ ∀ a, q_I r.2 5 0 a = q_I δ 5 0 a ∧ q_I r.2 5 1 a = q_I δ 5 1 a ∧ q_I r.2 5 2 a = q_I δ 5 2 a ∧ q_I r.2 11 12 a = q_I δ 11 12 a) := by
  unfold D_L_reached
  refine ok_bind (k_X11_reached L hN (x1 := x1) k_a0 I) (fun r H => ?_)
  have K := H.2.1.1
  rcases r with ⟨v | n, d⟩
  · dsimp only
    exact ok_gd (by omega) (ok_some ⟨H.1, congrArg Int32.toInt (K 7 1 _ (by decide)), fun a => ⟨K 5 0 a (by decide), K 5 1 a (by decide), K 5 2 a (by decide), K 11 12 a (by decide)⟩⟩)
  · have q : n = 2 := H.2.2.1
    dsimp only
    subst q
    exact ok_eq rfl ⟨H.1, congrArg Int32.toInt (K 7 1 _ (by decide)), fun a => ⟨K 5 0 a (by decide), K 5 1 a (by decide), K 5 2 a (by decide), K 11 12 a (by decide)⟩⟩
set_option maxHeartbeats 4000000 in
theorem k_L_row {ad : List Nat} {h : hp} (L : Lay TLx ad h) {δ0 : dp} {N : Nat} (hN : 10000000 ≤ N) {a0 : Nat} {x1 : Int32} {a2 : Nat} (k_a0 : q_K h.1 a0 = 11) (n_o : q_N h.1 a2 = 1) {δ : dp} (I : CI ad h.1 δ0 δ) : ok (D_L_row N h.1 a0 x1 a2 δ) (fun r => CI ad h.1 δ0 r.2 ∧ (q_I r.2 7 1 (Ad ad 1)).toInt = (q_I δ 7 1 (Ad ad 1)).toInt ∧ ∀ a, q_I r.2 5 0 a = q_I δ 5 0 a ∧ q_I r.2 5 1 a = q_I δ 5 1 a ∧ q_I r.2 5 2 a = q_I δ 5 2 a ∧ q_I r.2 11 12 a = q_I δ 11 12 a) := by
  unfold D_L_row
  refine ok_bind (k_X11_row L hN (x1 := x1) k_a0 I) (fun r H => ?_)
  have K := H.2.1.1
  rcases r with ⟨v | n, d⟩
  · dsimp only
    exact ok_gd (by omega) (ok_some ⟨H.1, congrArg Int32.toInt (K 7 1 _ (by decide)), fun a => ⟨K 5 0 a (by decide), K 5 1 a (by decide), K 5 2 a (by decide), K 11 12 a (by decide)⟩⟩)
  · have q : n = 2 := H.2.2.1
    dsimp only
    subst q
    exact ok_eq rfl ⟨H.1, congrArg Int32.toInt (K 7 1 _ (by decide)), fun a => ⟨K 5 0 a (by decide), K 5 1 a (by decide), K 5 2 a (by decide), K 11 12 a (by decide)⟩⟩
set_option maxHeartbeats 4000000 in
theorem k_L_rowCall {ad : List Nat} {h : hp} (L : Lay TLx ad h) {δ0 : dp} {N : Nat} (hN : 10000000 ≤ N) {a0 : Nat} {x1 : Int32} {x2 : Int32} {a3 : Nat} (k_a0 : q_K h.1 a0 = 11) (n_o : q_N h.1 a3 = 1) {δ : dp} (I : CI ad h.1 δ0 δ) : ok (D_L_rowCall N h.1 a0 x1 x2 a3 δ) (fun r => CI ad h.1 δ0 r.2 ∧ (q_I r.2 7 1 (Ad ad 1)).toInt = (q_I δ 7 1 (Ad ad 1)).toInt ∧ ∀ a, q_I r.2 5 0 a = q_I δ 5 0 a ∧ q_I r.2 5 1 a = q_I δ 5 1 a ∧ q_I r.2 5 2 a = q_I δ 5 2 a ∧ q_I r.2 11 12 a = q_I δ 11 12 a) := by
  unfold D_L_rowCall
  refine ok_bind (k_X11_rowCall L hN (x1 := x1) (x2 := x2) k_a0 I) (fun r H => ?_)
  have K := H.2.1.1
  rcases r with ⟨v | n, d⟩
  · dsimp only
    exact ok_gd (by omega) (ok_some ⟨H.1, congrArg Int32.toInt (K 7 1 _ (by decide)), fun a => ⟨K 5 0 a (by decide), K 5 1 a (by decide), K 5 2 a (by decide), K 11 12 a (by decide)⟩⟩)
  · have q : n = 2 := H.2.2.1
    dsimp only
    subst q
    exact ok_eq rfl ⟨H.1, congrArg Int32.toInt (K 7 1 _ (by decide)), fun a => ⟨K 5 0 a (by decide), K 5 1 a (by decide), K 5 2 a (by decide), K 11 12 a (by decide)⟩⟩
set_option maxHeartbeats 4000000 in
theorem k_L_split {ad : List Nat} {h : hp} (L : Lay TLx ad h) {δ0 : dp} {N : Nat} (hN : 10000000 ≤ N) {a0 : Nat} {x1 : Int32} {x2 : Int32} {x3 : Int32} {a4 : Nat} (k_a0 : q_K h.1 a0 = 11) (n_o : q_N h.1 a4 = 1) {δ : dp} (I : CI ad h.1 δ0 δ) : ok (D_L_split N h.1 a0 x1 x2 x3 a4 δ) (fun r => CI ad h.1 δ0 r.2 ∧ (q_I r.2 7 1 (Ad ad 1)).toInt = (q_I δ 7 1 (Ad ad 1)).toInt ∧ ∀ a, q_I r.2 5 0 a = q_I δ 5 0 a ∧ q_I r.2 5 1 a = q_I δ 5 1 a ∧ q_I r.2 5 2 a = q_I δ 5 2 a ∧ q_I r.2 11 12 a = q_I δ 11 12 a) := by
  unfold D_L_split
  refine ok_bind (k_X11_split L hN (x1 := x1) (x2 := x2) (x3 := x3) k_a0 I) (fun r H => ?_)
  have K := H.2.1.1
  rcases r with ⟨v | n, d⟩
  · dsimp only
    exact ok_gd (by omega) (ok_some ⟨H.1, congrArg Int32.toInt (K 7 1 _ (by decide)), fun a => ⟨K 5 0 a (by decide), K 5 1 a (by decide), K 5 2 a (by decide), K 11 12 a (by decide)⟩⟩)
  · have q : n = 0 ∨ n = 2 := H.2.2.1
    dsimp only
    rcases q with rfl | rfl
    · exact ok_eq rfl ⟨H.1, congrArg Int32.toInt (K 7 1 _ (by decide)), fun a => ⟨K 5 0 a (by decide), K 5 1 a (by decide), K 5 2 a (by decide), K 11 12 a (by decide)⟩⟩
    · exact ok_eq rfl ⟨H.1, congrArg Int32.toInt (K 7 1 _ (by decide)), fun a => ⟨K 5 0 a (by decide), K 5 1 a (by decide), K 5 2 a (by decide), K 11 12 a (by decide)⟩⟩
set_option maxHeartbeats 4000000 in
theorem k_L_gap {ad : List Nat} {h : hp} (L : Lay TLx ad h) {δ0 : dp} {N : Nat} (hN : 10000000 ≤ N) {a0 : Nat} {x1 : Int32} {x2 : Int32} {a3 : Nat} (k_a0 : q_K h.1 a0 = 11) (n_o : q_N h.1 a3 = 1) {δ : dp} (I : CI ad h.1 δ0 δ) : ok (D_L_gap N h.1 a0 x1 x2 a3 δ) (fun r => CI ad h.1 δ0 r.2 ∧ (q_I r.2 7 1 (Ad ad 1)).toInt = (q_I δ 7 1 (Ad ad 1)).toInt ∧ ∀ a, q_I r.2 5 0 a = q_I δ 5 0 a ∧ q_I r.2 5 1 a = q_I δ 5 1 a ∧ q_I r.2 5 2 a = q_I δ 5 2 a ∧ q_I r.2 11 12 a = q_I δ 11 12 a) := by
  unfold D_L_gap
  refine ok_bind (k_X11_gap L hN (x1 := x1) (x2 := x2) k_a0 I) (fun r H => ?_)
  have K := H.2.1.1
  rcases r with ⟨v | n, d⟩
  · dsimp only
    exact ok_gd (by omega) (ok_some ⟨H.1, congrArg Int32.toInt (K 7 1 _ (by decide)), fun a => ⟨K 5 0 a (by decide), K 5 1 a (by decide), K 5 2 a (by decide), K 11 12 a (by decide)⟩⟩)
  · have q : n = 0 ∨ n = 2 := H.2.2.1
    dsimp only
    rcases q with rfl | rfl
    · exact ok_eq rfl ⟨H.1, congrArg Int32.toInt (K 7 1 _ (by decide)), fun a => ⟨K 5 0 a (by decide), K 5 1 a (by decide), K 5 2 a (by decide), K 11 12 a (by decide)⟩⟩
    · exact ok_eq rfl ⟨H.1, congrArg Int32.toInt (K 7 1 _ (by decide)), fun a => ⟨K 5 0 a (by decide), K 5 1 a (by decide), K 5 2 a (by decide), K 11 12 a (by decide)⟩⟩
set_option maxHeartbeats 4000000 in
theorem k_L_seeds {ad : List Nat} {h : hp} (L : Lay TLx ad h) {δ0 : dp} {N : Nat} (hN : 10000000 ≤ N) {a0 : Nat} {x1 : Int32} {x2 : Int32} {x3 : Int32} {x4 : Int32} {x5 : Int32} {a6 : Nat} (k_a0 : q_K h.1 a0 = 11) (n_o : q_N h.1 a6 = 1) {δ : dp} (I : CI ad h.1 δ0 δ) : ok (D_L_seeds N h.1 a0 x1 x2 x3 x4 x5 a6 δ) (fun r => CI ad h.1 δ0 r.2 ∧ (q_I r.2 7 1 (Ad ad 1)).toInt = (q_I δ 7 1 (Ad ad 1)).toInt ∧ ∀ a, q_I r.2 5 0 a = q_I δ 5 0 a ∧ q_I r.2 5 1 a = q_I δ 5 1 a ∧ q_I r.2 5 2 a = q_I δ 5 2 a ∧ q_I r.2 11 12 a = q_I δ 11 12 a) := by
  unfold D_L_seeds
  refine ok_bind (k_X11_seeds L hN (x1 := x1) (x2 := x2) (x3 := x3) (x4 := x4) (x5 := x5) k_a0 I) (fun r H => ?_)
  have K := H.2.1
  rcases r with ⟨v | n, d⟩
  · dsimp only
    exact ok_gd (by omega) (ok_some ⟨H.1, congrArg Int32.toInt (K 7 1 _ (by decide)), fun a => ⟨K 5 0 a (by decide), K 5 1 a (by decide), K 5 2 a (by decide), K 11 12 a (by decide)⟩⟩)
  · have q : n = 0 ∨ n = 1 ∨ n = 2 := H.2.2.1
    dsimp only
    rcases q with rfl | rfl | rfl
    · exact ok_eq rfl ⟨H.1, congrArg Int32.toInt (K 7 1 _ (by decide)), fun a => ⟨K 5 0 a (by decide), K 5 1 a (by decide), K 5 2 a (by decide), K 11 12 a (by decide)⟩⟩
    · exact ok_eq rfl ⟨H.1, congrArg Int32.toInt (K 7 1 _ (by decide)), fun a => ⟨K 5 0 a (by decide), K 5 1 a (by decide), K 5 2 a (by decide), K 11 12 a (by decide)⟩⟩
    · exact ok_eq rfl ⟨H.1, congrArg Int32.toInt (K 7 1 _ (by decide)), fun a => ⟨K 5 0 a (by decide), K 5 1 a (by decide), K 5 2 a (by decide), K 11 12 a (by decide)⟩⟩
end
section
/-! what the reference keeps (by gen_ri.py) -/
/-- a row of the reference that may hold anything -/
def wq (ad : List Nat) (b : Nat) : Prop := ∃ i : Nat, 100 ≤ i ∧ i < 127 ∧ i ∉ [103, 106, 108, 111, 112] ∧ b = Ad ad i
def b12 (k : Nat) : Int × Int := if k = 2 then (0, 500) else if k = 3 then (0, 500) else if k = 4 then (0, 500) else if k = 5 then (-1, 500) else if k = 6 then (0, 4) else if k = 10 then (2, 16) else if k = 11 then (1, 5) else if k = 12 then (0, 1) else if k = 18 then (0, 3) else if k = 24 then (0, 4) else if k = 25 then (0, 60) else if k = 26 then (0, 500) else if k = 27 then (0, 3) else if k = 36 then (0, 14000) else if k = 38 then (0, 16) else if k = 47 then (-1000, 2000) else (-2147483648, 2147483647)
def b_Q (ad : List Nat) (b : Nat) : Int × Int := if b = Ad ad 103 then (-1000, 2000) else if b = Ad ad 106 then (0, 1000) else if b = Ad ad 108 then (-1000, 2000) else if b = Ad ad 111 then (0, 1000) else if b = Ad ad 112 then (0, 60) else (-2147483648, 2147483647)
def RI (ad : List Nat) (g : gp) (δ0 δ : dp) : Prop := (∀ k a, q_K g a = 12 → (b12 k).1 ≤ (q_I δ 12 k a).toInt ∧ (q_I δ 12 k a).toInt ≤ (b12 k).2) ∧ (∀ b i, (b_Q ad b).1 ≤ (q_R δ b i).toInt ∧ (q_R δ b i).toInt ≤ (b_Q ad b).2) ∧ (∀ c k a, c < 12 → q_I δ c k a = q_I δ0 c k a) ∧ (∀ i, i < 99 → q_R δ (Ad ad i) = q_R δ0 (Ad ad i)) ∧ (q_V δ, q_J δ) = (q_V δ0, q_J δ0)
theorem RI.sI {ad : List Nat} {h : hp} (L : Lay TLx ad h) {δ0 δ : dp} (I : RI ad h.1 δ0 δ) {k a : Nat} {v : Int32} (h1 : (b12 k).1 ≤ v.toInt) (h2 : v.toInt ≤ (b12 k).2) : RI ad h.1 δ0 (s_I δ 12 k a v) := by
  refine ⟨fun k' a' hk => ?_, fun b i => I.2.1 b i, fun c k' a' hc => ?_, I.2.2.2.1, I.2.2.2.2⟩
  · rw [qI_sI]
    by_cases e : 12 = 12 ∧ k' = k ∧ a' = a
    · rw [if_pos e, e.2.1]; exact ⟨h1, h2⟩
    · rw [if_neg e]; exact I.1 k' a' hk
  · rw [rI_o (fun z => by omega)]; exact I.2.2.1 c k' a' hc
theorem wq.ne {ad : List Nat} {h : hp} (L : Lay TLx ad h) {b i : Nat} (w : wq ad b) (hi : i < 128) (hs : i < 100 ∨ i ∈ [103, 106, 108, 111, 112]) : Ad ad i ≠ b := by
  obtain ⟨j, h1, h2, h3, rfl⟩ := w
  intro e
  rw [Ad_eq L i j hi (by omega)] at e
  subst e
  rcases hs with hs | hs
  · omega
  · exact h3 hs
theorem wq.d {ad : List Nat} {h : hp} (L : Lay TLx ad h) {b : Nat} (w : wq ad b) : b_Q ad b = (-2147483648, 2147483647) := by
  unfold b_Q
  rw [if_neg (fun e => w.ne L (i := 103) (by decide) (by decide) e.symm)]
  rw [if_neg (fun e => w.ne L (i := 106) (by decide) (by decide) e.symm)]
  rw [if_neg (fun e => w.ne L (i := 108) (by decide) (by decide) e.symm)]
  rw [if_neg (fun e => w.ne L (i := 111) (by decide) (by decide) e.symm)]
  rw [if_neg (fun e => w.ne L (i := 112) (by decide) (by decide) e.symm)]
theorem RI.sR {ad : List Nat} {h : hp} (L : Lay TLx ad h) {δ0 δ : dp} (I : RI ad h.1 δ0 δ) {b i : Nat} {v : Int32} (w : wq ad b) : RI ad h.1 δ0 (s_R δ b i v) := by
  refine ⟨I.1, fun b' j => ?_, I.2.2.1, fun j hj => ?_, I.2.2.2.2⟩
  · rw [qR_sR]
    by_cases e : b' = b ∧ j = i
    · rw [if_pos e, e.1, w.d L]; exact ti_b _
    · rw [if_neg e]; exact I.2.1 b' j
  · rw [rR_o (w.ne L (by omega) (Or.inl (by omega)))]; exact I.2.2.2.1 j hj
/-- which rows may have changed -/
def kr (ad : List Nat) (W : List Nat) (δ δ1 : dp) : Prop := ∀ i, 100 ≤ i → i < 127 → i ∉ W → q_R δ1 (Ad ad i) = q_R δ (Ad ad i)
theorem kr_r {ad : List Nat} {δ : dp} : kr ad [] δ δ := fun _ _ _ _ => rfl
theorem kr_w {ad : List Nat} {W W1 : List Nat} {δ δ1 : dp} (h : ∀ x ∈ W1, x ∈ W) (H : kr ad W1 δ δ1) : kr ad W δ δ1 := fun i a b n => H i a b (fun m => n (h _ m))
theorem kr_s {ad : List Nat} {h : hp} (L : Lay TLx ad h) {W : List Nat} {δ δ1 δ2 : dp} {j i : Nat} {v : Int32} (hj : j < 128) (H : kr ad W δ δ1) (e : δ2 = s_R δ1 (Ad ad j) i v) : kr ad (j :: W) δ δ2 := fun q a b n => by
  rw [e, rR_o (fun z => n (by rw [Ad_eq L q j (by omega) hj] at z; rw [z]; exact List.mem_cons_self))]
  exact H q a b (fun m => n (List.mem_cons_of_mem _ m))
theorem kr_N {ad : List Nat} {W : List Nat} {δ δ1 δ2 : dp} (H : kr ad W δ δ1) (e : q_R δ2 = q_R δ1) : kr ad W δ δ2 := fun q a b n => by rw [e]; exact H q a b n
theorem kr_t {ad : List Nat} {W W1 : List Nat} {δ δ1 δ2 : dp} (H : kr ad W δ δ1) (K : kr ad W1 δ1 δ2) : kr ad (W1 ++ W) δ δ2 := fun q a b n => (K q a b (fun m => n (List.mem_append_left _ m))).trans (H q a b (fun m => n (List.mem_append_right _ m)))
theorem lay_12 {ad : List Nat} {h : hp} (L : Lay TLx ad h) {a : Nat} (ka : q_K h.1 a = 12) : a = Ad ad 99 := by
  obtain ⟨q, hq, rfl⟩ := lay_cel L (by rw [ka]; decide)
  rw [lay_knd L hq] at ka
  have H : ∀ i : Fin 128, knd i.val = 12 → i.val = 99 := by decide +kernel
  obtain rfl : q = 99 := H ⟨q, hq⟩ ka
  rfl
theorem bq_103 {ad : List Nat} {h : hp} (L : Lay TLx ad h) : b_Q ad (Ad ad 103) = (-1000, 2000) := by
  simp [b_Q, Ad_eq L]
theorem rb_103 {ad : List Nat} {h : hp} (L : Lay TLx ad h) {δ0 δ : dp} (I : RI ad h.1 δ0 δ) (i : Nat) : -1000 ≤ (q_R δ (Ad ad 103) i).toInt ∧ (q_R δ (Ad ad 103) i).toInt ≤ 2000 := by
  have := I.2.1 (Ad ad 103) i
  rw [bq_103 L] at this
  exact this
theorem cr_103 {ad : List Nat} {h : hp} (L : Lay TLx ad h) {δ0 δ : dp} (I : RI ad h.1 δ0 δ) {i : Nat} {v : Int32} (h1 : -1000 ≤ v.toInt) (h2 : v.toInt ≤ 2000) : RI ad h.1 δ0 (s_R δ (Ad ad 103) i v) := by
  refine ⟨I.1, fun b' j => ?_, I.2.2.1, fun j hj => ?_, I.2.2.2.2⟩
  · rw [qR_sR]
    by_cases e : b' = Ad ad 103 ∧ j = i
    · rw [if_pos e, e.1, bq_103 L]; exact ⟨h1, h2⟩
    · rw [if_neg e]; exact I.2.1 b' j
  · rw [rR_o (fun e => by rw [Ad_eq L _ _ (by omega) (by omega)] at e; omega)]; exact I.2.2.2.1 j hj
theorem bq_106 {ad : List Nat} {h : hp} (L : Lay TLx ad h) : b_Q ad (Ad ad 106) = (0, 1000) := by
  simp [b_Q, Ad_eq L]
theorem rb_106 {ad : List Nat} {h : hp} (L : Lay TLx ad h) {δ0 δ : dp} (I : RI ad h.1 δ0 δ) (i : Nat) : 0 ≤ (q_R δ (Ad ad 106) i).toInt ∧ (q_R δ (Ad ad 106) i).toInt ≤ 1000 := by
  have := I.2.1 (Ad ad 106) i
  rw [bq_106 L] at this
  exact this
theorem cr_106 {ad : List Nat} {h : hp} (L : Lay TLx ad h) {δ0 δ : dp} (I : RI ad h.1 δ0 δ) {i : Nat} {v : Int32} (h1 : 0 ≤ v.toInt) (h2 : v.toInt ≤ 1000) : RI ad h.1 δ0 (s_R δ (Ad ad 106) i v) := by
  refine ⟨I.1, fun b' j => ?_, I.2.2.1, fun j hj => ?_, I.2.2.2.2⟩
  · rw [qR_sR]
    by_cases e : b' = Ad ad 106 ∧ j = i
    · rw [if_pos e, e.1, bq_106 L]; exact ⟨h1, h2⟩
    · rw [if_neg e]; exact I.2.1 b' j
  · rw [rR_o (fun e => by rw [Ad_eq L _ _ (by omega) (by omega)] at e; omega)]; exact I.2.2.2.1 j hj
theorem bq_108 {ad : List Nat} {h : hp} (L : Lay TLx ad h) : b_Q ad (Ad ad 108) = (-1000, 2000) := by
  simp [b_Q, Ad_eq L]
theorem rb_108 {ad : List Nat} {h : hp} (L : Lay TLx ad h) {δ0 δ : dp} (I : RI ad h.1 δ0 δ) (i : Nat) : -1000 ≤ (q_R δ (Ad ad 108) i).toInt ∧ (q_R δ (Ad ad 108) i).toInt ≤ 2000 := by
  have := I.2.1 (Ad ad 108) i
  rw [bq_108 L] at this
  exact this
theorem cr_108 {ad : List Nat} {h : hp} (L : Lay TLx ad h) {δ0 δ : dp} (I : RI ad h.1 δ0 δ) {i : Nat} {v : Int32} (h1 : -1000 ≤ v.toInt) (h2 : v.toInt ≤ 2000) : RI ad h.1 δ0 (s_R δ (Ad ad 108) i v) := by
  refine ⟨I.1, fun b' j => ?_, I.2.2.1, fun j hj => ?_, I.2.2.2.2⟩
  · rw [qR_sR]
    by_cases e : b' = Ad ad 108 ∧ j = i
    · rw [if_pos e, e.1, bq_108 L]; exact ⟨h1, h2⟩
    · rw [if_neg e]; exact I.2.1 b' j
  · rw [rR_o (fun e => by rw [Ad_eq L _ _ (by omega) (by omega)] at e; omega)]; exact I.2.2.2.1 j hj
theorem bq_111 {ad : List Nat} {h : hp} (L : Lay TLx ad h) : b_Q ad (Ad ad 111) = (0, 1000) := by
  simp [b_Q, Ad_eq L]
theorem rb_111 {ad : List Nat} {h : hp} (L : Lay TLx ad h) {δ0 δ : dp} (I : RI ad h.1 δ0 δ) (i : Nat) : 0 ≤ (q_R δ (Ad ad 111) i).toInt ∧ (q_R δ (Ad ad 111) i).toInt ≤ 1000 := by
  have := I.2.1 (Ad ad 111) i
  rw [bq_111 L] at this
  exact this
theorem cr_111 {ad : List Nat} {h : hp} (L : Lay TLx ad h) {δ0 δ : dp} (I : RI ad h.1 δ0 δ) {i : Nat} {v : Int32} (h1 : 0 ≤ v.toInt) (h2 : v.toInt ≤ 1000) : RI ad h.1 δ0 (s_R δ (Ad ad 111) i v) := by
  refine ⟨I.1, fun b' j => ?_, I.2.2.1, fun j hj => ?_, I.2.2.2.2⟩
  · rw [qR_sR]
    by_cases e : b' = Ad ad 111 ∧ j = i
    · rw [if_pos e, e.1, bq_111 L]; exact ⟨h1, h2⟩
    · rw [if_neg e]; exact I.2.1 b' j
  · rw [rR_o (fun e => by rw [Ad_eq L _ _ (by omega) (by omega)] at e; omega)]; exact I.2.2.2.1 j hj
theorem bq_112 {ad : List Nat} {h : hp} (L : Lay TLx ad h) : b_Q ad (Ad ad 112) = (0, 60) := by
  simp [b_Q, Ad_eq L]
theorem rb_112 {ad : List Nat} {h : hp} (L : Lay TLx ad h) {δ0 δ : dp} (I : RI ad h.1 δ0 δ) (i : Nat) : 0 ≤ (q_R δ (Ad ad 112) i).toInt ∧ (q_R δ (Ad ad 112) i).toInt ≤ 60 := by
  have := I.2.1 (Ad ad 112) i
  rw [bq_112 L] at this
  exact this
theorem cr_112 {ad : List Nat} {h : hp} (L : Lay TLx ad h) {δ0 δ : dp} (I : RI ad h.1 δ0 δ) {i : Nat} {v : Int32} (h1 : 0 ≤ v.toInt) (h2 : v.toInt ≤ 60) : RI ad h.1 δ0 (s_R δ (Ad ad 112) i v) := by
  refine ⟨I.1, fun b' j => ?_, I.2.2.1, fun j hj => ?_, I.2.2.2.2⟩
  · rw [qR_sR]
    by_cases e : b' = Ad ad 112 ∧ j = i
    · rw [if_pos e, e.1, bq_112 L]; exact ⟨h1, h2⟩
    · rw [if_neg e]; exact I.2.1 b' j
  · rw [rR_o (fun e => by rw [Ad_eq L _ _ (by omega) (by omega)] at e; omega)]; exact I.2.2.2.1 j hj
theorem gO_12_1 {ad : List Nat} {h : hp} (L : Lay TLx ad h) {a : Nat} (ka : q_K h.1 a = 12) : ∃ b, q_O h.1 12 1 a = some b ∧ q_K h.1 b = 13 ∧ q_N h.1 b = 3 ∧ wq ad b := by
  obtain rfl := lay_12 L ka
  exact ⟨_, fO_99_1 L, (lay_knd L (by decide)).trans (by decide), fN_100 L, 100, by decide, by decide, by decide, rfl⟩
theorem gS_12_1 {ad : List Nat} {h : hp} (L : Lay TLx ad h) {a b : Nat} (ka : q_K h.1 a = 12) (hb : q_O h.1 12 1 a = some b) : b = Ad ad 100 := by
  obtain rfl := lay_12 L ka
  rw [fO_99_1 L] at hb
  exact (Option.some.inj hb).symm
theorem gO_12_9 {ad : List Nat} {h : hp} (L : Lay TLx ad h) {a : Nat} (ka : q_K h.1 a = 12) : ∃ b, q_O h.1 12 9 a = some b ∧ q_K h.1 b = 13 ∧ q_N h.1 b = 500 ∧ wq ad b := by
  obtain rfl := lay_12 L ka
  exact ⟨_, fO_99_9 L, (lay_knd L (by decide)).trans (by decide), fN_101 L, 101, by decide, by decide, by decide, rfl⟩
theorem gS_12_9 {ad : List Nat} {h : hp} (L : Lay TLx ad h) {a b : Nat} (ka : q_K h.1 a = 12) (hb : q_O h.1 12 9 a = some b) : b = Ad ad 101 := by
  obtain rfl := lay_12 L ka
  rw [fO_99_9 L] at hb
  exact (Option.some.inj hb).symm
theorem gO_12_13 {ad : List Nat} {h : hp} (L : Lay TLx ad h) {a : Nat} (ka : q_K h.1 a = 12) : ∃ b, q_O h.1 12 13 a = some b ∧ q_K h.1 b = 13 ∧ q_N h.1 b = 8000 ∧ wq ad b := by
  obtain rfl := lay_12 L ka
  exact ⟨_, fO_99_13 L, (lay_knd L (by decide)).trans (by decide), fN_102 L, 102, by decide, by decide, by decide, rfl⟩
theorem gS_12_13 {ad : List Nat} {h : hp} (L : Lay TLx ad h) {a b : Nat} (ka : q_K h.1 a = 12) (hb : q_O h.1 12 13 a = some b) : b = Ad ad 102 := by
  obtain rfl := lay_12 L ka
  rw [fO_99_13 L] at hb
  exact (Option.some.inj hb).symm
theorem gO_12_14 {ad : List Nat} {h : hp} (L : Lay TLx ad h) {a : Nat} (ka : q_K h.1 a = 12) : ∃ b, q_O h.1 12 14 a = some b ∧ q_K h.1 b = 13 ∧ q_N h.1 b = 4 := by
  obtain rfl := lay_12 L ka
  exact ⟨_, fO_99_14 L, (lay_knd L (by decide)).trans (by decide), fN_103 L⟩
theorem gS_12_14 {ad : List Nat} {h : hp} (L : Lay TLx ad h) {a b : Nat} (ka : q_K h.1 a = 12) (hb : q_O h.1 12 14 a = some b) : b = Ad ad 103 := by
  obtain rfl := lay_12 L ka
  rw [fO_99_14 L] at hb
  exact (Option.some.inj hb).symm
theorem gO_12_15 {ad : List Nat} {h : hp} (L : Lay TLx ad h) {a : Nat} (ka : q_K h.1 a = 12) : ∃ b, q_O h.1 12 15 a = some b ∧ q_K h.1 b = 13 ∧ q_N h.1 b = 4000 ∧ wq ad b := by
  obtain rfl := lay_12 L ka
  exact ⟨_, fO_99_15 L, (lay_knd L (by decide)).trans (by decide), fN_104 L, 104, by decide, by decide, by decide, rfl⟩
theorem gS_12_15 {ad : List Nat} {h : hp} (L : Lay TLx ad h) {a b : Nat} (ka : q_K h.1 a = 12) (hb : q_O h.1 12 15 a = some b) : b = Ad ad 104 := by
  obtain rfl := lay_12 L ka
  rw [fO_99_15 L] at hb
  exact (Option.some.inj hb).symm
theorem gO_12_16 {ad : List Nat} {h : hp} (L : Lay TLx ad h) {a : Nat} (ka : q_K h.1 a = 12) : ∃ b, q_O h.1 12 16 a = some b ∧ q_K h.1 b = 13 ∧ q_N h.1 b = 4000 ∧ wq ad b := by
  obtain rfl := lay_12 L ka
  exact ⟨_, fO_99_16 L, (lay_knd L (by decide)).trans (by decide), fN_105 L, 105, by decide, by decide, by decide, rfl⟩
theorem gS_12_16 {ad : List Nat} {h : hp} (L : Lay TLx ad h) {a b : Nat} (ka : q_K h.1 a = 12) (hb : q_O h.1 12 16 a = some b) : b = Ad ad 105 := by
  obtain rfl := lay_12 L ka
  rw [fO_99_16 L] at hb
  exact (Option.some.inj hb).symm
theorem gO_12_17 {ad : List Nat} {h : hp} (L : Lay TLx ad h) {a : Nat} (ka : q_K h.1 a = 12) : ∃ b, q_O h.1 12 17 a = some b ∧ q_K h.1 b = 13 ∧ q_N h.1 b = 4 := by
  obtain rfl := lay_12 L ka
  exact ⟨_, fO_99_17 L, (lay_knd L (by decide)).trans (by decide), fN_106 L⟩
theorem gS_12_17 {ad : List Nat} {h : hp} (L : Lay TLx ad h) {a b : Nat} (ka : q_K h.1 a = 12) (hb : q_O h.1 12 17 a = some b) : b = Ad ad 106 := by
  obtain rfl := lay_12 L ka
  rw [fO_99_17 L] at hb
  exact (Option.some.inj hb).symm
theorem gO_12_19 {ad : List Nat} {h : hp} (L : Lay TLx ad h) {a : Nat} (ka : q_K h.1 a = 12) : ∃ b, q_O h.1 12 19 a = some b ∧ q_K h.1 b = 13 ∧ q_N h.1 b = 24000 ∧ wq ad b := by
  obtain rfl := lay_12 L ka
  exact ⟨_, fO_99_19 L, (lay_knd L (by decide)).trans (by decide), fN_107 L, 107, by decide, by decide, by decide, rfl⟩
theorem gS_12_19 {ad : List Nat} {h : hp} (L : Lay TLx ad h) {a b : Nat} (ka : q_K h.1 a = 12) (hb : q_O h.1 12 19 a = some b) : b = Ad ad 107 := by
  obtain rfl := lay_12 L ka
  rw [fO_99_19 L] at hb
  exact (Option.some.inj hb).symm
theorem gO_12_20 {ad : List Nat} {h : hp} (L : Lay TLx ad h) {a : Nat} (ka : q_K h.1 a = 12) : ∃ b, q_O h.1 12 20 a = some b ∧ q_K h.1 b = 13 ∧ q_N h.1 b = 12 := by
  obtain rfl := lay_12 L ka
  exact ⟨_, fO_99_20 L, (lay_knd L (by decide)).trans (by decide), fN_108 L⟩
theorem gS_12_20 {ad : List Nat} {h : hp} (L : Lay TLx ad h) {a b : Nat} (ka : q_K h.1 a = 12) (hb : q_O h.1 12 20 a = some b) : b = Ad ad 108 := by
  obtain rfl := lay_12 L ka
  rw [fO_99_20 L] at hb
  exact (Option.some.inj hb).symm
theorem gO_12_21 {ad : List Nat} {h : hp} (L : Lay TLx ad h) {a : Nat} (ka : q_K h.1 a = 12) : ∃ b, q_O h.1 12 21 a = some b ∧ q_K h.1 b = 13 ∧ q_N h.1 b = 12000 ∧ wq ad b := by
  obtain rfl := lay_12 L ka
  exact ⟨_, fO_99_21 L, (lay_knd L (by decide)).trans (by decide), fN_109 L, 109, by decide, by decide, by decide, rfl⟩
theorem gS_12_21 {ad : List Nat} {h : hp} (L : Lay TLx ad h) {a b : Nat} (ka : q_K h.1 a = 12) (hb : q_O h.1 12 21 a = some b) : b = Ad ad 109 := by
  obtain rfl := lay_12 L ka
  rw [fO_99_21 L] at hb
  exact (Option.some.inj hb).symm
theorem gO_12_22 {ad : List Nat} {h : hp} (L : Lay TLx ad h) {a : Nat} (ka : q_K h.1 a = 12) : ∃ b, q_O h.1 12 22 a = some b ∧ q_K h.1 b = 13 ∧ q_N h.1 b = 12000 ∧ wq ad b := by
  obtain rfl := lay_12 L ka
  exact ⟨_, fO_99_22 L, (lay_knd L (by decide)).trans (by decide), fN_110 L, 110, by decide, by decide, by decide, rfl⟩
theorem gS_12_22 {ad : List Nat} {h : hp} (L : Lay TLx ad h) {a b : Nat} (ka : q_K h.1 a = 12) (hb : q_O h.1 12 22 a = some b) : b = Ad ad 110 := by
  obtain rfl := lay_12 L ka
  rw [fO_99_22 L] at hb
  exact (Option.some.inj hb).symm
theorem gO_12_23 {ad : List Nat} {h : hp} (L : Lay TLx ad h) {a : Nat} (ka : q_K h.1 a = 12) : ∃ b, q_O h.1 12 23 a = some b ∧ q_K h.1 b = 13 ∧ q_N h.1 b = 12 := by
  obtain rfl := lay_12 L ka
  exact ⟨_, fO_99_23 L, (lay_knd L (by decide)).trans (by decide), fN_111 L⟩
theorem gS_12_23 {ad : List Nat} {h : hp} (L : Lay TLx ad h) {a b : Nat} (ka : q_K h.1 a = 12) (hb : q_O h.1 12 23 a = some b) : b = Ad ad 111 := by
  obtain rfl := lay_12 L ka
  rw [fO_99_23 L] at hb
  exact (Option.some.inj hb).symm
theorem gO_12_28 {ad : List Nat} {h : hp} (L : Lay TLx ad h) {a : Nat} (ka : q_K h.1 a = 12) : ∃ b, q_O h.1 12 28 a = some b ∧ q_K h.1 b = 13 ∧ q_N h.1 b = 4 := by
  obtain rfl := lay_12 L ka
  exact ⟨_, fO_99_28 L, (lay_knd L (by decide)).trans (by decide), fN_112 L⟩
theorem gS_12_28 {ad : List Nat} {h : hp} (L : Lay TLx ad h) {a b : Nat} (ka : q_K h.1 a = 12) (hb : q_O h.1 12 28 a = some b) : b = Ad ad 112 := by
  obtain rfl := lay_12 L ka
  rw [fO_99_28 L] at hb
  exact (Option.some.inj hb).symm
theorem gO_12_29 {ad : List Nat} {h : hp} (L : Lay TLx ad h) {a : Nat} (ka : q_K h.1 a = 12) : ∃ b, q_O h.1 12 29 a = some b ∧ q_K h.1 b = 13 ∧ q_N h.1 b = 240 ∧ wq ad b := by
  obtain rfl := lay_12 L ka
  exact ⟨_, fO_99_29 L, (lay_knd L (by decide)).trans (by decide), fN_113 L, 113, by decide, by decide, by decide, rfl⟩
theorem gS_12_29 {ad : List Nat} {h : hp} (L : Lay TLx ad h) {a b : Nat} (ka : q_K h.1 a = 12) (hb : q_O h.1 12 29 a = some b) : b = Ad ad 113 := by
  obtain rfl := lay_12 L ka
  rw [fO_99_29 L] at hb
  exact (Option.some.inj hb).symm
theorem gO_12_30 {ad : List Nat} {h : hp} (L : Lay TLx ad h) {a : Nat} (ka : q_K h.1 a = 12) : ∃ b, q_O h.1 12 30 a = some b ∧ q_K h.1 b = 13 ∧ q_N h.1 b = 240 ∧ wq ad b := by
  obtain rfl := lay_12 L ka
  exact ⟨_, fO_99_30 L, (lay_knd L (by decide)).trans (by decide), fN_114 L, 114, by decide, by decide, by decide, rfl⟩
theorem gS_12_30 {ad : List Nat} {h : hp} (L : Lay TLx ad h) {a b : Nat} (ka : q_K h.1 a = 12) (hb : q_O h.1 12 30 a = some b) : b = Ad ad 114 := by
  obtain rfl := lay_12 L ka
  rw [fO_99_30 L] at hb
  exact (Option.some.inj hb).symm
theorem gO_12_31 {ad : List Nat} {h : hp} (L : Lay TLx ad h) {a : Nat} (ka : q_K h.1 a = 12) : ∃ b, q_O h.1 12 31 a = some b ∧ q_K h.1 b = 13 ∧ q_N h.1 b = 240 ∧ wq ad b := by
  obtain rfl := lay_12 L ka
  exact ⟨_, fO_99_31 L, (lay_knd L (by decide)).trans (by decide), fN_115 L, 115, by decide, by decide, by decide, rfl⟩
theorem gS_12_31 {ad : List Nat} {h : hp} (L : Lay TLx ad h) {a b : Nat} (ka : q_K h.1 a = 12) (hb : q_O h.1 12 31 a = some b) : b = Ad ad 115 := by
  obtain rfl := lay_12 L ka
  rw [fO_99_31 L] at hb
  exact (Option.some.inj hb).symm
theorem gO_12_32 {ad : List Nat} {h : hp} (L : Lay TLx ad h) {a : Nat} (ka : q_K h.1 a = 12) : ∃ b, q_O h.1 12 32 a = some b ∧ q_K h.1 b = 13 ∧ q_N h.1 b = 2000 ∧ wq ad b := by
  obtain rfl := lay_12 L ka
  exact ⟨_, fO_99_32 L, (lay_knd L (by decide)).trans (by decide), fN_116 L, 116, by decide, by decide, by decide, rfl⟩
theorem gS_12_32 {ad : List Nat} {h : hp} (L : Lay TLx ad h) {a b : Nat} (ka : q_K h.1 a = 12) (hb : q_O h.1 12 32 a = some b) : b = Ad ad 116 := by
  obtain rfl := lay_12 L ka
  rw [fO_99_32 L] at hb
  exact (Option.some.inj hb).symm
theorem gO_12_33 {ad : List Nat} {h : hp} (L : Lay TLx ad h) {a : Nat} (ka : q_K h.1 a = 12) : ∃ b, q_O h.1 12 33 a = some b ∧ q_K h.1 b = 13 ∧ q_N h.1 b = 2000 ∧ wq ad b := by
  obtain rfl := lay_12 L ka
  exact ⟨_, fO_99_33 L, (lay_knd L (by decide)).trans (by decide), fN_117 L, 117, by decide, by decide, by decide, rfl⟩
theorem gS_12_33 {ad : List Nat} {h : hp} (L : Lay TLx ad h) {a b : Nat} (ka : q_K h.1 a = 12) (hb : q_O h.1 12 33 a = some b) : b = Ad ad 117 := by
  obtain rfl := lay_12 L ka
  rw [fO_99_33 L] at hb
  exact (Option.some.inj hb).symm
theorem gO_12_34 {ad : List Nat} {h : hp} (L : Lay TLx ad h) {a : Nat} (ka : q_K h.1 a = 12) : ∃ b, q_O h.1 12 34 a = some b ∧ q_K h.1 b = 13 ∧ q_N h.1 b = 500 ∧ wq ad b := by
  obtain rfl := lay_12 L ka
  exact ⟨_, fO_99_34 L, (lay_knd L (by decide)).trans (by decide), fN_118 L, 118, by decide, by decide, by decide, rfl⟩
theorem gS_12_34 {ad : List Nat} {h : hp} (L : Lay TLx ad h) {a b : Nat} (ka : q_K h.1 a = 12) (hb : q_O h.1 12 34 a = some b) : b = Ad ad 118 := by
  obtain rfl := lay_12 L ka
  rw [fO_99_34 L] at hb
  exact (Option.some.inj hb).symm
theorem gO_12_35 {ad : List Nat} {h : hp} (L : Lay TLx ad h) {a : Nat} (ka : q_K h.1 a = 12) : ∃ b, q_O h.1 12 35 a = some b ∧ q_K h.1 b = 13 ∧ q_N h.1 b = 14000 ∧ wq ad b := by
  obtain rfl := lay_12 L ka
  exact ⟨_, fO_99_35 L, (lay_knd L (by decide)).trans (by decide), fN_119 L, 119, by decide, by decide, by decide, rfl⟩
theorem gS_12_35 {ad : List Nat} {h : hp} (L : Lay TLx ad h) {a b : Nat} (ka : q_K h.1 a = 12) (hb : q_O h.1 12 35 a = some b) : b = Ad ad 119 := by
  obtain rfl := lay_12 L ka
  rw [fO_99_35 L] at hb
  exact (Option.some.inj hb).symm
theorem gO_12_41 {ad : List Nat} {h : hp} (L : Lay TLx ad h) {a : Nat} (ka : q_K h.1 a = 12) : ∃ b, q_O h.1 12 41 a = some b ∧ q_K h.1 b = 13 ∧ q_N h.1 b = 16 ∧ wq ad b := by
  obtain rfl := lay_12 L ka
  exact ⟨_, fO_99_41 L, (lay_knd L (by decide)).trans (by decide), fN_120 L, 120, by decide, by decide, by decide, rfl⟩
theorem gS_12_41 {ad : List Nat} {h : hp} (L : Lay TLx ad h) {a b : Nat} (ka : q_K h.1 a = 12) (hb : q_O h.1 12 41 a = some b) : b = Ad ad 120 := by
  obtain rfl := lay_12 L ka
  rw [fO_99_41 L] at hb
  exact (Option.some.inj hb).symm
theorem gO_12_42 {ad : List Nat} {h : hp} (L : Lay TLx ad h) {a : Nat} (ka : q_K h.1 a = 12) : ∃ b, q_O h.1 12 42 a = some b ∧ q_K h.1 b = 13 ∧ q_N h.1 b = 16 ∧ wq ad b := by
  obtain rfl := lay_12 L ka
  exact ⟨_, fO_99_42 L, (lay_knd L (by decide)).trans (by decide), fN_121 L, 121, by decide, by decide, by decide, rfl⟩
theorem gS_12_42 {ad : List Nat} {h : hp} (L : Lay TLx ad h) {a b : Nat} (ka : q_K h.1 a = 12) (hb : q_O h.1 12 42 a = some b) : b = Ad ad 121 := by
  obtain rfl := lay_12 L ka
  rw [fO_99_42 L] at hb
  exact (Option.some.inj hb).symm
theorem gO_12_43 {ad : List Nat} {h : hp} (L : Lay TLx ad h) {a : Nat} (ka : q_K h.1 a = 12) : ∃ b, q_O h.1 12 43 a = some b ∧ q_K h.1 b = 13 ∧ q_N h.1 b = 458752 ∧ wq ad b := by
  obtain rfl := lay_12 L ka
  exact ⟨_, fO_99_43 L, (lay_knd L (by decide)).trans (by decide), fN_122 L, 122, by decide, by decide, by decide, rfl⟩
theorem gS_12_43 {ad : List Nat} {h : hp} (L : Lay TLx ad h) {a b : Nat} (ka : q_K h.1 a = 12) (hb : q_O h.1 12 43 a = some b) : b = Ad ad 122 := by
  obtain rfl := lay_12 L ka
  rw [fO_99_43 L] at hb
  exact (Option.some.inj hb).symm
theorem gO_12_44 {ad : List Nat} {h : hp} (L : Lay TLx ad h) {a : Nat} (ka : q_K h.1 a = 12) : ∃ b, q_O h.1 12 44 a = some b ∧ q_K h.1 b = 13 ∧ q_N h.1 b = 6 ∧ wq ad b := by
  obtain rfl := lay_12 L ka
  exact ⟨_, fO_99_44 L, (lay_knd L (by decide)).trans (by decide), fN_123 L, 123, by decide, by decide, by decide, rfl⟩
theorem gS_12_44 {ad : List Nat} {h : hp} (L : Lay TLx ad h) {a b : Nat} (ka : q_K h.1 a = 12) (hb : q_O h.1 12 44 a = some b) : b = Ad ad 123 := by
  obtain rfl := lay_12 L ka
  rw [fO_99_44 L] at hb
  exact (Option.some.inj hb).symm
theorem gO_12_46 {ad : List Nat} {h : hp} (L : Lay TLx ad h) {a : Nat} (ka : q_K h.1 a = 12) : ∃ b, q_O h.1 12 46 a = some b ∧ q_K h.1 b = 13 ∧ q_N h.1 b = 2000 ∧ wq ad b := by
  obtain rfl := lay_12 L ka
  exact ⟨_, fO_99_46 L, (lay_knd L (by decide)).trans (by decide), fN_124 L, 124, by decide, by decide, by decide, rfl⟩
theorem gS_12_46 {ad : List Nat} {h : hp} (L : Lay TLx ad h) {a b : Nat} (ka : q_K h.1 a = 12) (hb : q_O h.1 12 46 a = some b) : b = Ad ad 124 := by
  obtain rfl := lay_12 L ka
  rw [fO_99_46 L] at hb
  exact (Option.some.inj hb).symm
theorem gO_12_48 {ad : List Nat} {h : hp} (L : Lay TLx ad h) {a : Nat} (ka : q_K h.1 a = 12) : ∃ b, q_O h.1 12 48 a = some b ∧ q_K h.1 b = 13 ∧ q_N h.1 b = 2000 ∧ wq ad b := by
  obtain rfl := lay_12 L ka
  exact ⟨_, fO_99_48 L, (lay_knd L (by decide)).trans (by decide), fN_125 L, 125, by decide, by decide, by decide, rfl⟩
theorem gS_12_48 {ad : List Nat} {h : hp} (L : Lay TLx ad h) {a b : Nat} (ka : q_K h.1 a = 12) (hb : q_O h.1 12 48 a = some b) : b = Ad ad 125 := by
  obtain rfl := lay_12 L ka
  rw [fO_99_48 L] at hb
  exact (Option.some.inj hb).symm
theorem gO_12_57 {ad : List Nat} {h : hp} (L : Lay TLx ad h) {a : Nat} (ka : q_K h.1 a = 12) : ∃ b, q_O h.1 12 57 a = some b ∧ q_K h.1 b = 13 ∧ q_N h.1 b = 4 ∧ wq ad b := by
  obtain rfl := lay_12 L ka
  exact ⟨_, fO_99_57 L, (lay_knd L (by decide)).trans (by decide), fN_126 L, 126, by decide, by decide, by decide, rfl⟩
theorem gS_12_57 {ad : List Nat} {h : hp} (L : Lay TLx ad h) {a b : Nat} (ka : q_K h.1 a = 12) (hb : q_O h.1 12 57 a = some b) : b = Ad ad 126 := by
  obtain rfl := lay_12 L ka
  rw [fO_99_57 L] at hb
  exact (Option.some.inj hb).symm
theorem cs_12_0 {ad : List Nat} {h : hp} (L : Lay TLx ad h) {δ0 δ : dp} (I : RI ad h.1 δ0 δ) {a : Nat} {v : Int32} : RI ad h.1 δ0 (s_I δ 12 0 a v) := I.sI L (by simpa [b12] using (ti_b v).1) (by simpa [b12] using (ti_b v).2)
theorem cs_12_2 {ad : List Nat} {h : hp} (L : Lay TLx ad h) {δ0 δ : dp} (I : RI ad h.1 δ0 δ) {a : Nat} {v : Int32} (_ : q_K h.1 a = 12) (h1 : 0 ≤ v.toInt) (h2 : v.toInt ≤ 500) : RI ad h.1 δ0 (s_I δ 12 2 a v) := I.sI L (by simpa [b12] using h1) (by simpa [b12] using h2)
theorem cb_12_2 {ad : List Nat} {g : gp} {δ0 δ : dp} (I : RI ad g δ0 δ) {a : Nat} (ka : q_K g a = 12) : 0 ≤ (q_I δ 12 2 a).toInt ∧ (q_I δ 12 2 a).toInt ≤ 500 := by
  have := I.1 2 a ka
  simpa [b12] using this
theorem cs_12_3 {ad : List Nat} {h : hp} (L : Lay TLx ad h) {δ0 δ : dp} (I : RI ad h.1 δ0 δ) {a : Nat} {v : Int32} (_ : q_K h.1 a = 12) (h1 : 0 ≤ v.toInt) (h2 : v.toInt ≤ 500) : RI ad h.1 δ0 (s_I δ 12 3 a v) := I.sI L (by simpa [b12] using h1) (by simpa [b12] using h2)
theorem cb_12_3 {ad : List Nat} {g : gp} {δ0 δ : dp} (I : RI ad g δ0 δ) {a : Nat} (ka : q_K g a = 12) : 0 ≤ (q_I δ 12 3 a).toInt ∧ (q_I δ 12 3 a).toInt ≤ 500 := by
  have := I.1 3 a ka
  simpa [b12] using this
theorem cs_12_4 {ad : List Nat} {h : hp} (L : Lay TLx ad h) {δ0 δ : dp} (I : RI ad h.1 δ0 δ) {a : Nat} {v : Int32} (_ : q_K h.1 a = 12) (h1 : 0 ≤ v.toInt) (h2 : v.toInt ≤ 500) : RI ad h.1 δ0 (s_I δ 12 4 a v) := I.sI L (by simpa [b12] using h1) (by simpa [b12] using h2)
theorem cb_12_4 {ad : List Nat} {g : gp} {δ0 δ : dp} (I : RI ad g δ0 δ) {a : Nat} (ka : q_K g a = 12) : 0 ≤ (q_I δ 12 4 a).toInt ∧ (q_I δ 12 4 a).toInt ≤ 500 := by
  have := I.1 4 a ka
  simpa [b12] using this
theorem cs_12_5 {ad : List Nat} {h : hp} (L : Lay TLx ad h) {δ0 δ : dp} (I : RI ad h.1 δ0 δ) {a : Nat} {v : Int32} (_ : q_K h.1 a = 12) (h1 : -1 ≤ v.toInt) (h2 : v.toInt ≤ 500) : RI ad h.1 δ0 (s_I δ 12 5 a v) := I.sI L (by simpa [b12] using h1) (by simpa [b12] using h2)
theorem cb_12_5 {ad : List Nat} {g : gp} {δ0 δ : dp} (I : RI ad g δ0 δ) {a : Nat} (ka : q_K g a = 12) : -1 ≤ (q_I δ 12 5 a).toInt ∧ (q_I δ 12 5 a).toInt ≤ 500 := by
  have := I.1 5 a ka
  simpa [b12] using this
theorem cs_12_6 {ad : List Nat} {h : hp} (L : Lay TLx ad h) {δ0 δ : dp} (I : RI ad h.1 δ0 δ) {a : Nat} {v : Int32} (_ : q_K h.1 a = 12) (h1 : 0 ≤ v.toInt) (h2 : v.toInt ≤ 4) : RI ad h.1 δ0 (s_I δ 12 6 a v) := I.sI L (by simpa [b12] using h1) (by simpa [b12] using h2)
theorem cb_12_6 {ad : List Nat} {g : gp} {δ0 δ : dp} (I : RI ad g δ0 δ) {a : Nat} (ka : q_K g a = 12) : 0 ≤ (q_I δ 12 6 a).toInt ∧ (q_I δ 12 6 a).toInt ≤ 4 := by
  have := I.1 6 a ka
  simpa [b12] using this
theorem cs_12_7 {ad : List Nat} {h : hp} (L : Lay TLx ad h) {δ0 δ : dp} (I : RI ad h.1 δ0 δ) {a : Nat} {v : Int32} : RI ad h.1 δ0 (s_I δ 12 7 a v) := I.sI L (by simpa [b12] using (ti_b v).1) (by simpa [b12] using (ti_b v).2)
theorem cs_12_8 {ad : List Nat} {h : hp} (L : Lay TLx ad h) {δ0 δ : dp} (I : RI ad h.1 δ0 δ) {a : Nat} {v : Int32} : RI ad h.1 δ0 (s_I δ 12 8 a v) := I.sI L (by simpa [b12] using (ti_b v).1) (by simpa [b12] using (ti_b v).2)
theorem cs_12_10 {ad : List Nat} {h : hp} (L : Lay TLx ad h) {δ0 δ : dp} (I : RI ad h.1 δ0 δ) {a : Nat} {v : Int32} (_ : q_K h.1 a = 12) (h1 : 2 ≤ v.toInt) (h2 : v.toInt ≤ 16) : RI ad h.1 δ0 (s_I δ 12 10 a v) := I.sI L (by simpa [b12] using h1) (by simpa [b12] using h2)
theorem cb_12_10 {ad : List Nat} {g : gp} {δ0 δ : dp} (I : RI ad g δ0 δ) {a : Nat} (ka : q_K g a = 12) : 2 ≤ (q_I δ 12 10 a).toInt ∧ (q_I δ 12 10 a).toInt ≤ 16 := by
  have := I.1 10 a ka
  simpa [b12] using this
theorem cs_12_11 {ad : List Nat} {h : hp} (L : Lay TLx ad h) {δ0 δ : dp} (I : RI ad h.1 δ0 δ) {a : Nat} {v : Int32} (_ : q_K h.1 a = 12) (h1 : 1 ≤ v.toInt) (h2 : v.toInt ≤ 5) : RI ad h.1 δ0 (s_I δ 12 11 a v) := I.sI L (by simpa [b12] using h1) (by simpa [b12] using h2)
theorem cb_12_11 {ad : List Nat} {g : gp} {δ0 δ : dp} (I : RI ad g δ0 δ) {a : Nat} (ka : q_K g a = 12) : 1 ≤ (q_I δ 12 11 a).toInt ∧ (q_I δ 12 11 a).toInt ≤ 5 := by
  have := I.1 11 a ka
  simpa [b12] using this
theorem cs_12_12 {ad : List Nat} {h : hp} (L : Lay TLx ad h) {δ0 δ : dp} (I : RI ad h.1 δ0 δ) {a : Nat} {v : Int32} (_ : q_K h.1 a = 12) (h1 : 0 ≤ v.toInt) (h2 : v.toInt ≤ 1) : RI ad h.1 δ0 (s_I δ 12 12 a v) := I.sI L (by simpa [b12] using h1) (by simpa [b12] using h2)
theorem cb_12_12 {ad : List Nat} {g : gp} {δ0 δ : dp} (I : RI ad g δ0 δ) {a : Nat} (ka : q_K g a = 12) : 0 ≤ (q_I δ 12 12 a).toInt ∧ (q_I δ 12 12 a).toInt ≤ 1 := by
  have := I.1 12 a ka
  simpa [b12] using this
theorem cs_12_18 {ad : List Nat} {h : hp} (L : Lay TLx ad h) {δ0 δ : dp} (I : RI ad h.1 δ0 δ) {a : Nat} {v : Int32} (_ : q_K h.1 a = 12) (h1 : 0 ≤ v.toInt) (h2 : v.toInt ≤ 3) : RI ad h.1 δ0 (s_I δ 12 18 a v) := I.sI L (by simpa [b12] using h1) (by simpa [b12] using h2)
theorem cb_12_18 {ad : List Nat} {g : gp} {δ0 δ : dp} (I : RI ad g δ0 δ) {a : Nat} (ka : q_K g a = 12) : 0 ≤ (q_I δ 12 18 a).toInt ∧ (q_I δ 12 18 a).toInt ≤ 3 := by
  have := I.1 18 a ka
  simpa [b12] using this
theorem cs_12_24 {ad : List Nat} {h : hp} (L : Lay TLx ad h) {δ0 δ : dp} (I : RI ad h.1 δ0 δ) {a : Nat} {v : Int32} (_ : q_K h.1 a = 12) (h1 : 0 ≤ v.toInt) (h2 : v.toInt ≤ 4) : RI ad h.1 δ0 (s_I δ 12 24 a v) := I.sI L (by simpa [b12] using h1) (by simpa [b12] using h2)
theorem cb_12_24 {ad : List Nat} {g : gp} {δ0 δ : dp} (I : RI ad g δ0 δ) {a : Nat} (ka : q_K g a = 12) : 0 ≤ (q_I δ 12 24 a).toInt ∧ (q_I δ 12 24 a).toInt ≤ 4 := by
  have := I.1 24 a ka
  simpa [b12] using this
theorem cs_12_25 {ad : List Nat} {h : hp} (L : Lay TLx ad h) {δ0 δ : dp} (I : RI ad h.1 δ0 δ) {a : Nat} {v : Int32} (_ : q_K h.1 a = 12) (h1 : 0 ≤ v.toInt) (h2 : v.toInt ≤ 60) : RI ad h.1 δ0 (s_I δ 12 25 a v) := I.sI L (by simpa [b12] using h1) (by simpa [b12] using h2)
theorem cb_12_25 {ad : List Nat} {g : gp} {δ0 δ : dp} (I : RI ad g δ0 δ) {a : Nat} (ka : q_K g a = 12) : 0 ≤ (q_I δ 12 25 a).toInt ∧ (q_I δ 12 25 a).toInt ≤ 60 := by
  have := I.1 25 a ka
  simpa [b12] using this
theorem cs_12_26 {ad : List Nat} {h : hp} (L : Lay TLx ad h) {δ0 δ : dp} (I : RI ad h.1 δ0 δ) {a : Nat} {v : Int32} (_ : q_K h.1 a = 12) (h1 : 0 ≤ v.toInt) (h2 : v.toInt ≤ 500) : RI ad h.1 δ0 (s_I δ 12 26 a v) := I.sI L (by simpa [b12] using h1) (by simpa [b12] using h2)
theorem cb_12_26 {ad : List Nat} {g : gp} {δ0 δ : dp} (I : RI ad g δ0 δ) {a : Nat} (ka : q_K g a = 12) : 0 ≤ (q_I δ 12 26 a).toInt ∧ (q_I δ 12 26 a).toInt ≤ 500 := by
  have := I.1 26 a ka
  simpa [b12] using this
theorem cs_12_27 {ad : List Nat} {h : hp} (L : Lay TLx ad h) {δ0 δ : dp} (I : RI ad h.1 δ0 δ) {a : Nat} {v : Int32} (_ : q_K h.1 a = 12) (h1 : 0 ≤ v.toInt) (h2 : v.toInt ≤ 3) : RI ad h.1 δ0 (s_I δ 12 27 a v) := I.sI L (by simpa [b12] using h1) (by simpa [b12] using h2)
theorem cb_12_27 {ad : List Nat} {g : gp} {δ0 δ : dp} (I : RI ad g δ0 δ) {a : Nat} (ka : q_K g a = 12) : 0 ≤ (q_I δ 12 27 a).toInt ∧ (q_I δ 12 27 a).toInt ≤ 3 := by
  have := I.1 27 a ka
  simpa [b12] using this
theorem cs_12_36 {ad : List Nat} {h : hp} (L : Lay TLx ad h) {δ0 δ : dp} (I : RI ad h.1 δ0 δ) {a : Nat} {v : Int32} (_ : q_K h.1 a = 12) (h1 : 0 ≤ v.toInt) (h2 : v.toInt ≤ 14000) : RI ad h.1 δ0 (s_I δ 12 36 a v) := I.sI L (by simpa [b12] using h1) (by simpa [b12] using h2)
theorem cb_12_36 {ad : List Nat} {g : gp} {δ0 δ : dp} (I : RI ad g δ0 δ) {a : Nat} (ka : q_K g a = 12) : 0 ≤ (q_I δ 12 36 a).toInt ∧ (q_I δ 12 36 a).toInt ≤ 14000 := by
  have := I.1 36 a ka
  simpa [b12] using this
theorem cs_12_37 {ad : List Nat} {h : hp} (L : Lay TLx ad h) {δ0 δ : dp} (I : RI ad h.1 δ0 δ) {a : Nat} {v : Int32} : RI ad h.1 δ0 (s_I δ 12 37 a v) := I.sI L (by simpa [b12] using (ti_b v).1) (by simpa [b12] using (ti_b v).2)
theorem cs_12_38 {ad : List Nat} {h : hp} (L : Lay TLx ad h) {δ0 δ : dp} (I : RI ad h.1 δ0 δ) {a : Nat} {v : Int32} (_ : q_K h.1 a = 12) (h1 : 0 ≤ v.toInt) (h2 : v.toInt ≤ 16) : RI ad h.1 δ0 (s_I δ 12 38 a v) := I.sI L (by simpa [b12] using h1) (by simpa [b12] using h2)
theorem cb_12_38 {ad : List Nat} {g : gp} {δ0 δ : dp} (I : RI ad g δ0 δ) {a : Nat} (ka : q_K g a = 12) : 0 ≤ (q_I δ 12 38 a).toInt ∧ (q_I δ 12 38 a).toInt ≤ 16 := by
  have := I.1 38 a ka
  simpa [b12] using this
theorem cs_12_39 {ad : List Nat} {h : hp} (L : Lay TLx ad h) {δ0 δ : dp} (I : RI ad h.1 δ0 δ) {a : Nat} {v : Int32} : RI ad h.1 δ0 (s_I δ 12 39 a v) := I.sI L (by simpa [b12] using (ti_b v).1) (by simpa [b12] using (ti_b v).2)
theorem cs_12_40 {ad : List Nat} {h : hp} (L : Lay TLx ad h) {δ0 δ : dp} (I : RI ad h.1 δ0 δ) {a : Nat} {v : Int32} : RI ad h.1 δ0 (s_I δ 12 40 a v) := I.sI L (by simpa [b12] using (ti_b v).1) (by simpa [b12] using (ti_b v).2)
theorem cs_12_45 {ad : List Nat} {h : hp} (L : Lay TLx ad h) {δ0 δ : dp} (I : RI ad h.1 δ0 δ) {a : Nat} {v : Int32} : RI ad h.1 δ0 (s_I δ 12 45 a v) := I.sI L (by simpa [b12] using (ti_b v).1) (by simpa [b12] using (ti_b v).2)
theorem cs_12_47 {ad : List Nat} {h : hp} (L : Lay TLx ad h) {δ0 δ : dp} (I : RI ad h.1 δ0 δ) {a : Nat} {v : Int32} (_ : q_K h.1 a = 12) (h1 : -1000 ≤ v.toInt) (h2 : v.toInt ≤ 2000) : RI ad h.1 δ0 (s_I δ 12 47 a v) := I.sI L (by simpa [b12] using h1) (by simpa [b12] using h2)
theorem cb_12_47 {ad : List Nat} {g : gp} {δ0 δ : dp} (I : RI ad g δ0 δ) {a : Nat} (ka : q_K g a = 12) : -1000 ≤ (q_I δ 12 47 a).toInt ∧ (q_I δ 12 47 a).toInt ≤ 2000 := by
  have := I.1 47 a ka
  simpa [b12] using this
theorem cs_12_49 {ad : List Nat} {h : hp} (L : Lay TLx ad h) {δ0 δ : dp} (I : RI ad h.1 δ0 δ) {a : Nat} {v : Int32} : RI ad h.1 δ0 (s_I δ 12 49 a v) := I.sI L (by simpa [b12] using (ti_b v).1) (by simpa [b12] using (ti_b v).2)
theorem cs_12_50 {ad : List Nat} {h : hp} (L : Lay TLx ad h) {δ0 δ : dp} (I : RI ad h.1 δ0 δ) {a : Nat} {v : Int32} : RI ad h.1 δ0 (s_I δ 12 50 a v) := I.sI L (by simpa [b12] using (ti_b v).1) (by simpa [b12] using (ti_b v).2)
theorem cs_12_51 {ad : List Nat} {h : hp} (L : Lay TLx ad h) {δ0 δ : dp} (I : RI ad h.1 δ0 δ) {a : Nat} {v : Int32} : RI ad h.1 δ0 (s_I δ 12 51 a v) := I.sI L (by simpa [b12] using (ti_b v).1) (by simpa [b12] using (ti_b v).2)
theorem cs_12_52 {ad : List Nat} {h : hp} (L : Lay TLx ad h) {δ0 δ : dp} (I : RI ad h.1 δ0 δ) {a : Nat} {v : Int32} : RI ad h.1 δ0 (s_I δ 12 52 a v) := I.sI L (by simpa [b12] using (ti_b v).1) (by simpa [b12] using (ti_b v).2)
theorem cs_12_53 {ad : List Nat} {h : hp} (L : Lay TLx ad h) {δ0 δ : dp} (I : RI ad h.1 δ0 δ) {a : Nat} {v : Int32} : RI ad h.1 δ0 (s_I δ 12 53 a v) := I.sI L (by simpa [b12] using (ti_b v).1) (by simpa [b12] using (ti_b v).2)
theorem cs_12_54 {ad : List Nat} {h : hp} (L : Lay TLx ad h) {δ0 δ : dp} (I : RI ad h.1 δ0 δ) {a : Nat} {v : Int32} : RI ad h.1 δ0 (s_I δ 12 54 a v) := I.sI L (by simpa [b12] using (ti_b v).1) (by simpa [b12] using (ti_b v).2)
theorem cs_12_55 {ad : List Nat} {h : hp} (L : Lay TLx ad h) {δ0 δ : dp} (I : RI ad h.1 δ0 δ) {a : Nat} {v : Int32} : RI ad h.1 δ0 (s_I δ 12 55 a v) := I.sI L (by simpa [b12] using (ti_b v).1) (by simpa [b12] using (ti_b v).2)
theorem cs_12_56 {ad : List Nat} {h : hp} (L : Lay TLx ad h) {δ0 δ : dp} (I : RI ad h.1 δ0 δ) {a : Nat} {v : Int32} : RI ad h.1 δ0 (s_I δ 12 56 a v) := I.sI L (by simpa [b12] using (ti_b v).1) (by simpa [b12] using (ti_b v).2)
theorem cs_12_58 {ad : List Nat} {h : hp} (L : Lay TLx ad h) {δ0 δ : dp} (I : RI ad h.1 δ0 δ) {a : Nat} {v : Int32} : RI ad h.1 δ0 (s_I δ 12 58 a v) := I.sI L (by simpa [b12] using (ti_b v).1) (by simpa [b12] using (ti_b v).2)
theorem cs_12_59 {ad : List Nat} {h : hp} (L : Lay TLx ad h) {δ0 δ : dp} (I : RI ad h.1 δ0 δ) {a : Nat} {v : Int32} : RI ad h.1 δ0 (s_I δ 12 59 a v) := I.sI L (by simpa [b12] using (ti_b v).1) (by simpa [b12] using (ti_b v).2)
theorem bo_l {v : Int32} (h : bo v) : 0 ≤ v.toInt ∧ v.toInt ≤ 1 := by
  have := bo_t h
  omega
/-- the byte ahead -/
def hc (ad : List Nat) (δ : dp) (a0 : Nat) : Int := (q_R δ (Ad ad 101) (q_I δ 12 4 a0).toNatClampNeg).toInt
end
section
/-! the reference's words -/
def ch (i j : Nat) : Int32 := (((tx_b i j) &&& (255 : Int32)).toUInt32 % 65536).toInt32
def ofg (i : Nat) : Nat → Nat → Int32 → Int32
  | _, 0, x => x
  | j, m + 1, x => ofg i (j + 1) m ((x <<< ((5 : Int32) &&& 31)) ||| (ch i j - (96 : Int32)))
set_option maxRecDepth 20000 in
theorem e_len {N : Nat} {g : gp} {a0 : Nat} {δ : dp} (z0 : a0 < 16) : D_J0_length_8abf5 N g a0 δ = some (Int32.ofNat (tx_n a0), δ) := by
  have H : ∀ i : Fin 16, ((Int32.ofNat (tx_n i.val)) >>> ((0 : Int32) &&& 31)) = Int32.ofNat (tx_n i.val) := by decide +kernel
  have e : D_J0_coder_7d493 N g a0 δ = some (0, δ) := by
    rw [D_J0_coder_7d493, if_neg (by decide), J_J0_coder_7d493_14, if_pos (by rfl)]
  rw [D_J0_length_8abf5, e]
  show some ((Int32.ofNat (tx_n a0)) >>> ((0 : Int32) &&& 31), δ) = _
  rw [H ⟨a0, z0⟩]
set_option maxRecDepth 20000 in
theorem e_chr {N : Nat} {g : gp} {a0 : Nat} {x1 : Int32} {δ : dp} (z0 : a0 < 16) (z1 : 0 ≤ (x1).toInt) (z2 : (x1).toInt < (tx_n a0 : Int)) : D_J0_charAt_5068e N g a0 x1 δ = some (ch a0 x1.toNatClampNeg, δ) := by
  have hb := tx_le z0
  have H : ∀ (i : Fin 16) (j : Fin 6), narrow .char (.int ((((tx_b i.val j.val) &&& (255 : Int32)).toUInt32 % 65536).toInt32)) = .int ((((tx_b i.val j.val) &&& (255 : Int32)).toUInt32 % 65536).toInt32) := by decide +kernel
  have t := ti_tn x1
  have e1 : D_J0_isLatin1_aae02 N g a0 δ = some (1, δ) := by
    rw [D_J0_isLatin1_aae02, if_neg (by decide), if_pos rfl, J_J0_isLatin1_aae02_18, if_pos (by decide)]
  have f0 := n_ti (tx_n a0) (by omega)
  have e2 : D_J0_checkIndex_df160 N g x1 (Int32.ofNat (tx_n a0)) δ = some δ := by
    rw [D_J0_checkIndex_df160, D_J3_checkIndex_8e157, if_neg (fun c => by have := o_lt c; have f1 : (0 : Int32).toInt = 0 := rfl; omega), if_pos (i_lt (by omega))]
    rfl
  have hn := H ⟨a0, z0⟩ ⟨x1.toNatClampNeg, by omega⟩
  dsimp only at hn
  rw [D_J0_charAt_5068e, e1, Option.bind_some, if_neg (by simp), D_J1_charAt_3b067, e2, Option.bind_some]
  rw [if_neg (fun c => by rcases c with c | c <;> first | omega | (have c2 := o_lt c; have f1 : (0 : Int32).toInt = 0 := rfl; omega)), if_pos hn, Option.bind_some, if_pos hn]
  rfl
theorem fl_of {N : Nat} {g : gp} {i : Nat} {δ : dp} (z0 : i < 16) : ∀ (m j n : Nat) (x : Int32), j + m = tx_n i → m < n → L_X12_of_4 N g i n x (Int32.ofNat j) δ = some (ofg i j m x, δ) := by
  have hb := tx_le z0
  intro m
  induction m with
  | zero =>
    intro j n x h1 h2
    obtain ⟨n, rfl⟩ : ∃ k, n = k + 1 := ⟨n - 1, by omega⟩
    rw [L_X12_of_4, e_len z0]
    rw [Option.bind_some, if_pos (by rw [show j = tx_n i by omega]; exact Int32.le_refl _)]
    rfl
  | succ m ih =>
    intro j n x h1 h2
    obtain ⟨n, rfl⟩ : ∃ k, n = k + 1 := ⟨n - 1, by omega⟩
    have f0 := n_ti (tx_n i) (by omega)
    have f1 := n_ti j (by omega)
    have f2 := n_cl j (by omega)
    have c : ¬ (Int32.ofNat (tx_n i) ≤ Int32.ofNat j) := fun c => by
      have := o_le c
      omega
    rw [L_X12_of_4, e_len z0, Option.bind_some, if_neg c, e_chr z0 (by omega) (by omega), Option.bind_some, f2]
    show L_X12_of_4 N g i n ((x <<< ((5 : Int32) &&& 31)) ||| (ch i j - (96 : Int32))) (Int32.ofNat j + 1) δ = _
    rw [show Int32.ofNat j + 1 = Int32.ofNat (j + 1) from n_addl j 1]
    exact ih (j + 1) n _ (by omega) (by omega)
theorem k_X12_of {ad : List Nat} {h : hp} (L : Lay TLx ad h) {δ0 : dp} {N : Nat} (hN : 10000000 ≤ N) {a0 : Nat} {δ : dp} (z0 : a0 < 16) (I : RI ad h.1 δ0 δ) : ok (D_X12_of N h.1 a0 δ) (fun r => r.2 = δ ∧ (r.1).toInt ≠ 0) := by
  have H : ∀ i : Fin 16, (ofg i.val 0 (tx_n i.val) 0).toInt ≠ 0 := by decide +kernel
  have hb := tx_le z0
  unfold D_X12_of
  exact ok_eq (fl_of z0 (tx_n a0) 0 N 0 (by omega) (by omega)) ⟨rfl, H ⟨a0, z0⟩⟩
end
