/-! 71.kX11b (by gen_safe.py) -/
set_option maxHeartbeats 4000000 in
theorem k_X11_told {ad : List Nat} {h : hp} (L : Lay TLx ad h) {δ0 : dp} {N : Nat} (hN : 10000000 ≤ N) {a0 : Nat} {x1 : Int32} (k_a0 : q_K h.1 a0 = 11) {δ : dp} (I : CI ad h.1 δ0 δ) : ok (D_X11_told N h.1 a0 x1 δ) (fun r => CI ad h.1 δ0 r.2 ∧ (kp [] δ r.2 ∧ q_V r.2 = q_V δ) ∧ match r.1 with | .inl v => True | .inr n => ((n = 2) ∧ True)) := by
  unfold D_X11_told
  have f1 := ti_b x1
  refine ok_ite (fun h2 => ?_) (fun h2 => ?_)
  · have c3 : x1.toInt < (0 : Int) := o_lt h2
    unfold J_X11_told_14
    unfold J_X11_told_15
    refine ok_bxv (k_X11_need L hN (a0 := a0) (x1 := (0 : Int32)) k_a0 I) (fun n d hp => (show CI ad h.1 δ0 d ∧ (kp [] δ d ∧ q_V d = q_V δ) ∧ ((n = 2) ∧ True) from ⟨hp.1, ⟨kp_w (by decide) (kp_t kp_r hp.2.1.1), (hp.2.1.2).trans rfl⟩, (by have hq : n = 2 := hp.2.2.1; omega), trivial⟩)) (fun d4 hp5 => ?_)
    obtain ⟨i6, ⟨u7, u8⟩, p9⟩ := hp5
    have u10 := kp_t kp_r u7
    have v11 : q_V d4 = q_V δ := (u8).trans rfl
    exact absurd rfl (show (0 : Int) ≠ 0 from p9)
  · have c12 : (0 : Int) ≤ x1.toInt := o_nlt h2
    refine ok_ite (fun h13 => ?_) (fun h13 => ?_)
    · have c14 : (3 : Int) < x1.toInt := o_lt h13
      unfold J_X11_told_14
      unfold J_X11_told_15
      refine ok_bxv (k_X11_need L hN (a0 := a0) (x1 := (0 : Int32)) k_a0 I) (fun n d hp => (show CI ad h.1 δ0 d ∧ (kp [] δ d ∧ q_V d = q_V δ) ∧ ((n = 2) ∧ True) from ⟨hp.1, ⟨kp_w (by decide) (kp_t kp_r hp.2.1.1), (hp.2.1.2).trans rfl⟩, (by have hq : n = 2 := hp.2.2.1; omega), trivial⟩)) (fun d15 hp16 => ?_)
      obtain ⟨i17, ⟨u18, u19⟩, p20⟩ := hp16
      have u21 := kp_t kp_r u18
      have v22 : q_V d15 = q_V δ := (u19).trans rfl
      exact absurd rfl (show (0 : Int) ≠ 0 from p20)
    · have c23 : x1.toInt ≤ (3 : Int) := o_nlt h13
      unfold J_X11_told_15
      refine ok_bxv (k_X11_need L hN (a0 := a0) (x1 := (1 : Int32)) k_a0 I) (fun n d hp => (show CI ad h.1 δ0 d ∧ (kp [] δ d ∧ q_V d = q_V δ) ∧ ((n = 2) ∧ True) from ⟨hp.1, ⟨kp_w (by decide) (kp_t kp_r hp.2.1.1), (hp.2.1.2).trans rfl⟩, (by have hq : n = 2 := hp.2.2.1; omega), trivial⟩)) (fun d24 hp25 => ?_)
      obtain ⟨i26, ⟨u27, u28⟩, p29⟩ := hp25
      have u30 := kp_t kp_r u27
      have v31 : q_V d24 = q_V δ := (u28).trans rfl
      replace p29 : (1 : Int) ≠ 0 := p29
      refine ok_ite (fun h32 => ?_) (fun h32 => ?_)
      · have c33 : x1.toInt = (0 : Int) := o_eq h32
        obtain ⟨b34, o35, k36⟩ := gO_11_1 L k_a0
        refine ok_at o35 ?_
        exact ok_some (show CI ad h.1 δ0 d24 ∧ (kp [] δ d24 ∧ q_V d24 = q_V δ) ∧ True from ⟨i26, ⟨kp_w (by decide) u30, v31⟩, trivial⟩)
      · have c37 : x1.toInt ≠ (0 : Int) := o_ne h32
        refine ok_ite (fun h38 => ?_) (fun h38 => ?_)
        · have c39 : x1.toInt = (1 : Int) := o_eq h38
          obtain ⟨b40, o41, k42⟩ := gO_11_1 L k_a0
          refine ok_at o41 ?_
          have f43 := cb_5_1 i26 k42
          have f44 : (q_I d24 5 1 b40).toInt = (q_I δ 5 1 b40).toInt := congrArg Int32.toInt (u27 5 1 b40 (by decide))
          have f45 := cb_5_1 I k42
          refine ok_ite (fun h46 => ?_) (fun h46 => ?_)
          · have c47 : (q_I d24 5 1 b40).toInt = (0 : Int) := o_eq h46
            unfold J_X11_told_50
            exact ok_some (show CI ad h.1 δ0 d24 ∧ (kp [] δ d24 ∧ q_V d24 = q_V δ) ∧ True from ⟨i26, ⟨kp_w (by decide) u30, v31⟩, trivial⟩)
          · have c48 : (q_I d24 5 1 b40).toInt ≠ (0 : Int) := o_ne h46
            unfold J_X11_told_50
            exact ok_some (show CI ad h.1 δ0 d24 ∧ (kp [] δ d24 ∧ q_V d24 = q_V δ) ∧ True from ⟨i26, ⟨kp_w (by decide) u30, v31⟩, trivial⟩)
        · have c49 : x1.toInt ≠ (1 : Int) := o_ne h38
          refine ok_ite (fun h50 => ?_) (fun h50 => ?_)
          · have c51 : x1.toInt = (2 : Int) := o_eq h50
            obtain ⟨b52, o53, k54⟩ := gO_11_1 L k_a0
            refine ok_at o53 ?_
            unfold J_X11_told_70
            exact ok_some (show CI ad h.1 δ0 d24 ∧ (kp [] δ d24 ∧ q_V d24 = q_V δ) ∧ True from ⟨i26, ⟨kp_w (by decide) u30, v31⟩, trivial⟩)
          · have c55 : x1.toInt ≠ (2 : Int) := o_ne h50
            unfold J_X11_told_70
            exact ok_some (show CI ad h.1 δ0 d24 ∧ (kp [] δ d24 ∧ q_V d24 = q_V δ) ∧ True from ⟨i26, ⟨kp_w (by decide) u30, v31⟩, trivial⟩)
set_option maxHeartbeats 4000000 in
theorem k_X11_of {ad : List Nat} {h : hp} (L : Lay TLx ad h) {δ0 : dp} {N : Nat} (hN : 10000000 ≤ N) {a0 : Nat} {x1 : Int32} {x2 : Int32} (k_a0 : q_K h.1 a0 = 11) {δ : dp} (I : CI ad h.1 δ0 δ) : ok (D_X11_of N h.1 a0 x1 x2 δ) (fun r => CI ad h.1 δ0 r.2 ∧ (kp [] δ r.2 ∧ q_V r.2 = q_V δ) ∧ match r.1 with | .inl v => True | .inr n => ((n = 0 ∨ n = 2) ∧ True)) := by
  unfold D_X11_of
  refine ok_bxv (k_X11_needHouse L hN (a0 := a0) (x1 := x1) k_a0 I) (fun n d hp => (show CI ad h.1 δ0 d ∧ (kp [] δ d ∧ q_V d = q_V δ) ∧ ((n = 0 ∨ n = 2) ∧ True) from ⟨hp.1, ⟨kp_w (by decide) (kp_t kp_r hp.2.1.1), (hp.2.1.2).trans rfl⟩, (by have hq : n = 0 := hp.2.2.1; omega), trivial⟩)) (fun d1 hp2 => ?_)
  obtain ⟨i3, ⟨u4, u5⟩, p6, p7⟩ := hp2
  have u8 := kp_t kp_r u4
  have v9 : q_V d1 = q_V δ := (u5).trans rfl
  have f10 := ti_b x1
  have f11 := ti_b x2
  refine ok_ite (fun h12 => ?_) (fun h12 => ?_)
  · have c13 : x2.toInt < (0 : Int) := o_lt h12
    unfold J_X11_of_19
    unfold J_X11_of_20
    refine ok_bxv (k_X11_need L hN (a0 := a0) (x1 := (0 : Int32)) k_a0 i3) (fun n d hp => (show CI ad h.1 δ0 d ∧ (kp [] δ d ∧ q_V d = q_V δ) ∧ ((n = 0 ∨ n = 2) ∧ True) from ⟨hp.1, ⟨kp_w (by decide) (kp_t u8 hp.2.1.1), (hp.2.1.2).trans v9⟩, (by have hq : n = 2 := hp.2.2.1; omega), trivial⟩)) (fun d14 hp15 => ?_)
    obtain ⟨i16, ⟨u17, u18⟩, p19⟩ := hp15
    have u20 := kp_t u8 u17
    have v21 : q_V d14 = q_V δ := (u18).trans v9
    exact absurd rfl (show (0 : Int) ≠ 0 from p19)
  · have c22 : (0 : Int) ≤ x2.toInt := o_nlt h12
    refine ok_ite (fun h23 => ?_) (fun h23 => ?_)
    · have c24 : (3 : Int) < x2.toInt := o_lt h23
      unfold J_X11_of_19
      unfold J_X11_of_20
      refine ok_bxv (k_X11_need L hN (a0 := a0) (x1 := (0 : Int32)) k_a0 i3) (fun n d hp => (show CI ad h.1 δ0 d ∧ (kp [] δ d ∧ q_V d = q_V δ) ∧ ((n = 0 ∨ n = 2) ∧ True) from ⟨hp.1, ⟨kp_w (by decide) (kp_t u8 hp.2.1.1), (hp.2.1.2).trans v9⟩, (by have hq : n = 2 := hp.2.2.1; omega), trivial⟩)) (fun d25 hp26 => ?_)
      obtain ⟨i27, ⟨u28, u29⟩, p30⟩ := hp26
      have u31 := kp_t u8 u28
      have v32 : q_V d25 = q_V δ := (u29).trans v9
      exact absurd rfl (show (0 : Int) ≠ 0 from p30)
    · have c33 : x2.toInt ≤ (3 : Int) := o_nlt h23
      unfold J_X11_of_20
      refine ok_bxv (k_X11_need L hN (a0 := a0) (x1 := (1 : Int32)) k_a0 i3) (fun n d hp => (show CI ad h.1 δ0 d ∧ (kp [] δ d ∧ q_V d = q_V δ) ∧ ((n = 0 ∨ n = 2) ∧ True) from ⟨hp.1, ⟨kp_w (by decide) (kp_t u8 hp.2.1.1), (hp.2.1.2).trans v9⟩, (by have hq : n = 2 := hp.2.2.1; omega), trivial⟩)) (fun d34 hp35 => ?_)
      obtain ⟨i36, ⟨u37, u38⟩, p39⟩ := hp35
      have u40 := kp_t u8 u37
      have v41 : q_V d34 = q_V δ := (u38).trans v9
      replace p39 : (1 : Int) ≠ 0 := p39
      refine ok_ite (fun h42 => ?_) (fun h42 => ?_)
      · have c43 : x2.toInt = (3 : Int) := o_eq h42
        obtain ⟨b44, o45, k46, n47, w48⟩ := gO_11_6 L k_a0
        refine ok_at o45 ?_
        have t49 := ti_tn x1
        refine ok_gd (fun hc50 => ?_) ?_
        · rcases hc50 with hc50 | hc50
          · have c51 : x1.toInt < (0 : Int) := o_lt hc50
            omega
          · omega
        obtain ⟨b52, o53, k54⟩ := gE_11_6 L k_a0 o45 (i := x1.toNatClampNeg) (by omega)
        refine ok_at o53 ?_
        unfold J_X11_of_53
        exact ok_some (show CI ad h.1 δ0 d34 ∧ (kp [] δ d34 ∧ q_V d34 = q_V δ) ∧ True from ⟨i36, ⟨kp_w (by decide) u40, v41⟩, trivial⟩)
      · have c55 : x2.toInt ≠ (3 : Int) := o_ne h42
        obtain ⟨b56, o57, k58, n59, w60⟩ := gO_11_6 L k_a0
        refine ok_at o57 ?_
        have t61 := ti_tn x1
        refine ok_gd (fun hc62 => ?_) ?_
        · rcases hc62 with hc62 | hc62
          · have c63 : x1.toInt < (0 : Int) := o_lt hc62
            omega
          · omega
        obtain ⟨b64, o65, k66⟩ := gE_11_6 L k_a0 o57 (i := x1.toNatClampNeg) (by omega)
        refine ok_at o65 ?_
        obtain ⟨b67, o68, k69⟩ := gO_2_0 L k66
        refine ok_at o68 ?_
        refine ok_bind (k_X3_tell L hN (a0 := b67) (x1 := x2) k69 i36) (fun r70 hr71 => ?_)
        have i72 := hr71
        try rw [i72]
        have f73 := ti_b r70.1
        unfold J_X11_of_53
        exact ok_some (show CI ad h.1 δ0 d34 ∧ (kp [] δ d34 ∧ q_V d34 = q_V δ) ∧ True from ⟨i36, ⟨kp_w (by decide) u40, v41⟩, trivial⟩)
set_option maxHeartbeats 4000000 in
theorem k_X11_next {ad : List Nat} {h : hp} (L : Lay TLx ad h) {δ0 : dp} {N : Nat} (hN : 10000000 ≤ N) {a0 : Nat} {x1 : Int32} {x2 : Int32} (k_a0 : q_K h.1 a0 = 11) {δ : dp} (I : CI ad h.1 δ0 δ) : ok (D_X11_next N h.1 a0 x1 x2 δ) (fun r => CI ad h.1 δ0 r.2 ∧ (kp [] δ r.2 ∧ q_V r.2 = q_V δ) ∧ match r.1 with | .inl v => True | .inr n => ((n = 0 ∨ n = 2) ∧ True)) := by
  unfold D_X11_next
  refine ok_bxv (k_X11_needHouse L hN (a0 := a0) (x1 := x1) k_a0 I) (fun n d hp => (show CI ad h.1 δ0 d ∧ (kp [] δ d ∧ q_V d = q_V δ) ∧ ((n = 0 ∨ n = 2) ∧ True) from ⟨hp.1, ⟨kp_w (by decide) (kp_t kp_r hp.2.1.1), (hp.2.1.2).trans rfl⟩, (by have hq : n = 0 := hp.2.2.1; omega), trivial⟩)) (fun d1 hp2 => ?_)
  obtain ⟨i3, ⟨u4, u5⟩, p6, p7⟩ := hp2
  have u8 := kp_t kp_r u4
  have v9 : q_V d1 = q_V δ := (u5).trans rfl
  have f10 := ti_b x1
  refine ok_bind (k_X11_mayAsk L hN (a0 := a0) (x1 := (3 : Int32)) (x2 := x2) k_a0 i3) (fun r11 hr12 => ?_)
  obtain ⟨i13, p14⟩ := hr12
  try rw [i13]
  have f15 := bo_t p14
  have f16 := ti_b r11.1
  refine ok_bxv (k_X11_need L hN (a0 := a0) (x1 := r11.1) k_a0 i3) (fun n d hp => (show CI ad h.1 δ0 d ∧ (kp [] δ d ∧ q_V d = q_V δ) ∧ ((n = 0 ∨ n = 2) ∧ True) from ⟨hp.1, ⟨kp_w (by decide) (kp_t u8 hp.2.1.1), (hp.2.1.2).trans v9⟩, (by have hq : n = 2 := hp.2.2.1; omega), trivial⟩)) (fun d17 hp18 => ?_)
  obtain ⟨i19, ⟨u20, u21⟩, p22⟩ := hp18
  have u23 := kp_t u8 u20
  have v24 : q_V d17 = q_V δ := (u21).trans v9
  obtain ⟨b25, o26, k27, n28, w29⟩ := gO_11_6 L k_a0
  refine ok_at o26 ?_
  have t30 := ti_tn x1
  refine ok_gd (fun hc31 => ?_) ?_
  · rcases hc31 with hc31 | hc31
    · have c32 : x1.toInt < (0 : Int) := o_lt hc31
      omega
    · omega
  obtain ⟨b33, o34, k35⟩ := gE_11_6 L k_a0 o26 (i := x1.toNatClampNeg) (by omega)
  refine ok_at o34 ?_
  obtain ⟨b36, o37, k38⟩ := gO_2_0 L k35
  refine ok_at o37 ?_
  refine ok_bind (k_X3_above L hN (a0 := b36) (x1 := x2) k38 i19) (fun r39 hr40 => ?_)
  have i41 := hr40
  try rw [i41]
  have f42 := ti_b r39.1
  exact ok_some (show CI ad h.1 δ0 d17 ∧ (kp [] δ d17 ∧ q_V d17 = q_V δ) ∧ True from ⟨i19, ⟨kp_w (by decide) u23, v24⟩, trivial⟩)
set_option maxHeartbeats 4000000 in
theorem k_X11_before {ad : List Nat} {h : hp} (L : Lay TLx ad h) {δ0 : dp} {N : Nat} (hN : 10000000 ≤ N) {a0 : Nat} {x1 : Int32} {x2 : Int32} (k_a0 : q_K h.1 a0 = 11) {δ : dp} (I : CI ad h.1 δ0 δ) : ok (D_X11_before N h.1 a0 x1 x2 δ) (fun r => CI ad h.1 δ0 r.2 ∧ (kp [] δ r.2 ∧ q_V r.2 = q_V δ) ∧ match r.1 with | .inl v => True | .inr n => ((n = 0 ∨ n = 2) ∧ True)) := by
  unfold D_X11_before
  refine ok_bxv (k_X11_needHouse L hN (a0 := a0) (x1 := x1) k_a0 I) (fun n d hp => (show CI ad h.1 δ0 d ∧ (kp [] δ d ∧ q_V d = q_V δ) ∧ ((n = 0 ∨ n = 2) ∧ True) from ⟨hp.1, ⟨kp_w (by decide) (kp_t kp_r hp.2.1.1), (hp.2.1.2).trans rfl⟩, (by have hq : n = 0 := hp.2.2.1; omega), trivial⟩)) (fun d1 hp2 => ?_)
  obtain ⟨i3, ⟨u4, u5⟩, p6, p7⟩ := hp2
  have u8 := kp_t kp_r u4
  have v9 : q_V d1 = q_V δ := (u5).trans rfl
  have f10 := ti_b x1
  refine ok_bind (k_X11_mayAsk L hN (a0 := a0) (x1 := (4 : Int32)) (x2 := x2) k_a0 i3) (fun r11 hr12 => ?_)
  obtain ⟨i13, p14⟩ := hr12
  try rw [i13]
  have f15 := bo_t p14
  have f16 := ti_b r11.1
  refine ok_bxv (k_X11_need L hN (a0 := a0) (x1 := r11.1) k_a0 i3) (fun n d hp => (show CI ad h.1 δ0 d ∧ (kp [] δ d ∧ q_V d = q_V δ) ∧ ((n = 0 ∨ n = 2) ∧ True) from ⟨hp.1, ⟨kp_w (by decide) (kp_t u8 hp.2.1.1), (hp.2.1.2).trans v9⟩, (by have hq : n = 2 := hp.2.2.1; omega), trivial⟩)) (fun d17 hp18 => ?_)
  obtain ⟨i19, ⟨u20, u21⟩, p22⟩ := hp18
  have u23 := kp_t u8 u20
  have v24 : q_V d17 = q_V δ := (u21).trans v9
  obtain ⟨b25, o26, k27, n28, w29⟩ := gO_11_6 L k_a0
  refine ok_at o26 ?_
  have t30 := ti_tn x1
  refine ok_gd (fun hc31 => ?_) ?_
  · rcases hc31 with hc31 | hc31
    · have c32 : x1.toInt < (0 : Int) := o_lt hc31
      omega
    · omega
  obtain ⟨b33, o34, k35⟩ := gE_11_6 L k_a0 o26 (i := x1.toNatClampNeg) (by omega)
  refine ok_at o34 ?_
  obtain ⟨b36, o37, k38⟩ := gO_2_0 L k35
  refine ok_at o37 ?_
  refine ok_bind (k_X3_below L hN (a0 := b36) (x1 := x2) k38 i19) (fun r39 hr40 => ?_)
  have i41 := hr40
  try rw [i41]
  have f42 := ti_b r39.1
  exact ok_some (show CI ad h.1 δ0 d17 ∧ (kp [] δ d17 ∧ q_V d17 = q_V δ) ∧ True from ⟨i19, ⟨kp_w (by decide) u23, v24⟩, trivial⟩)
set_option maxHeartbeats 4000000 in
theorem k_X11_kth {ad : List Nat} {h : hp} (L : Lay TLx ad h) {δ0 : dp} {N : Nat} (hN : 10000000 ≤ N) {a0 : Nat} {x1 : Int32} {x2 : Int32} (k_a0 : q_K h.1 a0 = 11) {δ : dp} (I : CI ad h.1 δ0 δ) : ok (D_X11_kth N h.1 a0 x1 x2 δ) (fun r => CI ad h.1 δ0 r.2 ∧ (kp [] δ r.2 ∧ q_V r.2 = q_V δ) ∧ match r.1 with | .inl v => True | .inr n => ((n = 0) ∧ True)) := by
  unfold D_X11_kth
  refine ok_bxv (k_X11_needHouse L hN (a0 := a0) (x1 := x1) k_a0 I) (fun n d hp => (show CI ad h.1 δ0 d ∧ (kp [] δ d ∧ q_V d = q_V δ) ∧ ((n = 0) ∧ True) from ⟨hp.1, ⟨kp_w (by decide) (kp_t kp_r hp.2.1.1), (hp.2.1.2).trans rfl⟩, (by have hq : n = 0 := hp.2.2.1; omega), trivial⟩)) (fun d1 hp2 => ?_)
  obtain ⟨i3, ⟨u4, u5⟩, p6, p7⟩ := hp2
  have u8 := kp_t kp_r u4
  have v9 : q_V d1 = q_V δ := (u5).trans rfl
  have f10 := ti_b x1
  obtain ⟨b11, o12, k13, n14, w15⟩ := gO_11_6 L k_a0
  refine ok_at o12 ?_
  have t16 := ti_tn x1
  refine ok_gd (fun hc17 => ?_) ?_
  · rcases hc17 with hc17 | hc17
    · have c18 : x1.toInt < (0 : Int) := o_lt hc17
      omega
    · omega
  obtain ⟨b19, o20, k21⟩ := gE_11_6 L k_a0 o12 (i := x1.toNatClampNeg) (by omega)
  refine ok_at o20 ?_
  obtain ⟨b22, o23, k24⟩ := gO_2_0 L k21
  refine ok_at o23 ?_
  refine ok_bind (k_X3_at L hN (a0 := b22) (x1 := x2) k24 i3) (fun r25 hr26 => ?_)
  have i27 := hr26
  try rw [i27]
  have f28 := ti_b r25.1
  exact ok_some (show CI ad h.1 δ0 d1 ∧ (kp [] δ d1 ∧ q_V d1 = q_V δ) ∧ True from ⟨i3, ⟨kp_w (by decide) u8, v9⟩, trivial⟩)
set_option maxHeartbeats 4000000 in
theorem k_X11_between {ad : List Nat} {h : hp} (L : Lay TLx ad h) {δ0 : dp} {N : Nat} (hN : 10000000 ≤ N) {a0 : Nat} {x1 : Int32} {x2 : Int32} {x3 : Int32} (k_a0 : q_K h.1 a0 = 11) {δ : dp} (I : CI ad h.1 δ0 δ) : ok (D_X11_between N h.1 a0 x1 x2 x3 δ) (fun r => CI ad h.1 δ0 r.2 ∧ (kp [] δ r.2 ∧ q_V r.2 = q_V δ) ∧ match r.1 with | .inl v => True | .inr n => ((n = 0 ∨ n = 2) ∧ True)) := by
  unfold D_X11_between
  refine ok_bxv (k_X11_needHouse L hN (a0 := a0) (x1 := x1) k_a0 I) (fun n d hp => (show CI ad h.1 δ0 d ∧ (kp [] δ d ∧ q_V d = q_V δ) ∧ ((n = 0 ∨ n = 2) ∧ True) from ⟨hp.1, ⟨kp_w (by decide) (kp_t kp_r hp.2.1.1), (hp.2.1.2).trans rfl⟩, (by have hq : n = 0 := hp.2.2.1; omega), trivial⟩)) (fun d1 hp2 => ?_)
  obtain ⟨i3, ⟨u4, u5⟩, p6, p7⟩ := hp2
  have u8 := kp_t kp_r u4
  have v9 : q_V d1 = q_V δ := (u5).trans rfl
  have f10 := ti_b x1
  refine ok_bind (k_X11_isNumber L hN (a0 := a0) (x1 := x2) k_a0 i3) (fun r11 hr12 => ?_)
  obtain ⟨i13, p14⟩ := hr12
  try rw [i13]
  have f15 := bo_t p14
  have f16 := ti_b r11.1
  refine ok_ite (fun h17 => ?_) (fun h17 => ?_)
  · have c18 : r11.1.toInt = (0 : Int) := o_eq h17
    unfold J_X11_between_26
    unfold J_X11_between_27
    refine ok_bxv (k_X11_need L hN (a0 := a0) (x1 := (0 : Int32)) k_a0 i3) (fun n d hp => (show CI ad h.1 δ0 d ∧ (kp [] δ d ∧ q_V d = q_V δ) ∧ ((n = 0 ∨ n = 2) ∧ True) from ⟨hp.1, ⟨kp_w (by decide) (kp_t u8 hp.2.1.1), (hp.2.1.2).trans v9⟩, (by have hq : n = 2 := hp.2.2.1; omega), trivial⟩)) (fun d19 hp20 => ?_)
    obtain ⟨i21, ⟨u22, u23⟩, p24⟩ := hp20
    have u25 := kp_t u8 u22
    have v26 : q_V d19 = q_V δ := (u23).trans v9
    exact absurd rfl (show (0 : Int) ≠ 0 from p24)
  · have c27 : r11.1.toInt ≠ (0 : Int) := o_ne h17
    refine ok_bind (k_X11_isNumber L hN (a0 := a0) (x1 := x3) k_a0 i3) (fun r28 hr29 => ?_)
    obtain ⟨i30, p31⟩ := hr29
    try rw [i30]
    have f32 := bo_t p31
    have f33 := ti_b r28.1
    refine ok_ite (fun h34 => ?_) (fun h34 => ?_)
    · have c35 : r28.1.toInt = (0 : Int) := o_eq h34
      unfold J_X11_between_26
      unfold J_X11_between_27
      refine ok_bxv (k_X11_need L hN (a0 := a0) (x1 := (0 : Int32)) k_a0 i3) (fun n d hp => (show CI ad h.1 δ0 d ∧ (kp [] δ d ∧ q_V d = q_V δ) ∧ ((n = 0 ∨ n = 2) ∧ True) from ⟨hp.1, ⟨kp_w (by decide) (kp_t u8 hp.2.1.1), (hp.2.1.2).trans v9⟩, (by have hq : n = 2 := hp.2.2.1; omega), trivial⟩)) (fun d36 hp37 => ?_)
      obtain ⟨i38, ⟨u39, u40⟩, p41⟩ := hp37
      have u42 := kp_t u8 u39
      have v43 : q_V d36 = q_V δ := (u40).trans v9
      exact absurd rfl (show (0 : Int) ≠ 0 from p41)
    · have c44 : r28.1.toInt ≠ (0 : Int) := o_ne h34
      unfold J_X11_between_27
      refine ok_bxv (k_X11_need L hN (a0 := a0) (x1 := (1 : Int32)) k_a0 i3) (fun n d hp => (show CI ad h.1 δ0 d ∧ (kp [] δ d ∧ q_V d = q_V δ) ∧ ((n = 0 ∨ n = 2) ∧ True) from ⟨hp.1, ⟨kp_w (by decide) (kp_t u8 hp.2.1.1), (hp.2.1.2).trans v9⟩, (by have hq : n = 2 := hp.2.2.1; omega), trivial⟩)) (fun d45 hp46 => ?_)
      obtain ⟨i47, ⟨u48, u49⟩, p50⟩ := hp46
      have u51 := kp_t u8 u48
      have v52 : q_V d45 = q_V δ := (u49).trans v9
      replace p50 : (1 : Int) ≠ 0 := p50
      obtain ⟨b53, o54, k55, n56, w57⟩ := gO_11_6 L k_a0
      refine ok_at o54 ?_
      have t58 := ti_tn x1
      refine ok_gd (fun hc59 => ?_) ?_
      · rcases hc59 with hc59 | hc59
        · have c60 : x1.toInt < (0 : Int) := o_lt hc59
          omega
        · omega
      obtain ⟨b61, o62, k63⟩ := gE_11_6 L k_a0 o54 (i := x1.toNatClampNeg) (by omega)
      refine ok_at o62 ?_
      obtain ⟨b64, o65, k66⟩ := gO_2_0 L k63
      refine ok_at o65 ?_
      have f67 := ti_b x2
      have f68 := ti_b x3
      refine ok_ite (fun h69 => ?_) (fun h69 => ?_)
      · have c70 : x2.toInt ≤ x3.toInt := o_le h69
        refine ok_bind (k_X3_firstFrom L hN (a0 := b64) (x1 := (x3 + (1 : Int32))) k66 i47) (fun r71 hr72 => ?_)
        obtain ⟨i73, p74, p75⟩ := hr72
        try rw [i73]
        have f76 := ti_b r71.1
        obtain ⟨b77, o78, k79, ⟨n80, n81⟩, w82⟩ := gO_3_0 L k66
        have f83 := cb_3_1 i47 k66 o78
        have f84 : (q_I d45 3 1 b64).toInt = (q_I d1 3 1 b64).toInt := congrArg Int32.toInt (u48 3 1 b64 (by decide))
        have f85 := cb_3_1 i3 k66 o78
        have f86 : (q_I d1 3 1 b64).toInt = (q_I δ 3 1 b64).toInt := congrArg Int32.toInt (u4 3 1 b64 (by decide))
        have f87 := cb_3_1 I k66 o78
        have f88 := ti_b r71.1
        refine ok_bind (k_X3_firstFrom L hN (a0 := b64) (x1 := x2) k66 i47) (fun r89 hr90 => ?_)
        obtain ⟨i91, p92, p93⟩ := hr90
        try rw [i91]
        have f94 := ti_b r89.1
        have f95 := ti_b r89.1
        unfold J_X11_between_65
        exact ok_some (show CI ad h.1 δ0 d45 ∧ (kp [] δ d45 ∧ q_V d45 = q_V δ) ∧ True from ⟨i47, ⟨kp_w (by decide) u51, v52⟩, trivial⟩)
      · have c96 : x3.toInt < x2.toInt := o_nle h69
        unfold J_X11_between_65
        exact ok_some (show CI ad h.1 δ0 d45 ∧ (kp [] δ d45 ∧ q_V d45 = q_V δ) ∧ True from ⟨i47, ⟨kp_w (by decide) u51, v52⟩, trivial⟩)
set_option maxHeartbeats 4000000 in
theorem k_X11_size {ad : List Nat} {h : hp} (L : Lay TLx ad h) {δ0 : dp} {N : Nat} (hN : 10000000 ≤ N) {a0 : Nat} {x1 : Int32} {x2 : Int32} (k_a0 : q_K h.1 a0 = 11) {δ : dp} (I : CI ad h.1 δ0 δ) : ok (D_X11_size N h.1 a0 x1 x2 δ) (fun r => CI ad h.1 δ0 r.2 ∧ (kp [] δ r.2 ∧ q_V r.2 = q_V δ) ∧ match r.1 with | .inl v => True | .inr n => ((n = 0 ∨ n = 2) ∧ True)) := by
  unfold D_X11_size
  refine ok_bxv (k_X11_needHouse L hN (a0 := a0) (x1 := x1) k_a0 I) (fun n d hp => (show CI ad h.1 δ0 d ∧ (kp [] δ d ∧ q_V d = q_V δ) ∧ ((n = 0 ∨ n = 2) ∧ True) from ⟨hp.1, ⟨kp_w (by decide) (kp_t kp_r hp.2.1.1), (hp.2.1.2).trans rfl⟩, (by have hq : n = 0 := hp.2.2.1; omega), trivial⟩)) (fun d1 hp2 => ?_)
  obtain ⟨i3, ⟨u4, u5⟩, p6, p7⟩ := hp2
  have u8 := kp_t kp_r u4
  have v9 : q_V d1 = q_V δ := (u5).trans rfl
  have f10 := ti_b x1
  refine ok_bind (k_X11_isKind L hN (x0 := x2)  i3) (fun r11 hr12 => ?_)
  obtain ⟨i13, p14⟩ := hr12
  try rw [i13]
  have f15 := bo_t p14
  have f16 := ti_b r11.1
  refine ok_bxv (k_X11_need L hN (a0 := a0) (x1 := r11.1) k_a0 i3) (fun n d hp => (show CI ad h.1 δ0 d ∧ (kp [] δ d ∧ q_V d = q_V δ) ∧ ((n = 0 ∨ n = 2) ∧ True) from ⟨hp.1, ⟨kp_w (by decide) (kp_t u8 hp.2.1.1), (hp.2.1.2).trans v9⟩, (by have hq : n = 2 := hp.2.2.1; omega), trivial⟩)) (fun d17 hp18 => ?_)
  obtain ⟨i19, ⟨u20, u21⟩, p22⟩ := hp18
  have u23 := kp_t u8 u20
  have v24 : q_V d17 = q_V δ := (u21).trans v9
  have f25 := ti_b x2
  refine ok_ite (fun h26 => ?_) (fun h26 => ?_)
  · have c27 : x2.toInt = (0 : Int) := o_eq h26
    obtain ⟨b28, o29, k30, n31, w32⟩ := gO_11_6 L k_a0
    refine ok_at o29 ?_
    have t33 := ti_tn x1
    refine ok_gd (fun hc34 => ?_) ?_
    · rcases hc34 with hc34 | hc34
      · have c35 : x1.toInt < (0 : Int) := o_lt hc34
        omega
      · omega
    obtain ⟨b36, o37, k38⟩ := gE_11_6 L k_a0 o29 (i := x1.toNatClampNeg) (by omega)
    refine ok_at o37 ?_
    obtain ⟨b39, o40, k41⟩ := gO_2_1 L k38
    refine ok_at o40 ?_
    refine ok_bind (k_X1_allCells L hN (a0 := b39) k41 i19) (fun r42 hr43 => ?_)
    have i44 := hr43
    try rw [i44]
    have f45 := ti_b r42.1
    exact ok_some (show CI ad h.1 δ0 d17 ∧ (kp [] δ d17 ∧ q_V d17 = q_V δ) ∧ True from ⟨i19, ⟨kp_w (by decide) u23, v24⟩, trivial⟩)
  · have c46 : x2.toInt ≠ (0 : Int) := o_ne h26
    refine ok_ite (fun h47 => ?_) (fun h47 => ?_)
    · have c48 : x2.toInt = (1 : Int) := o_eq h47
      obtain ⟨b49, o50, k51⟩ := gO_11_1 L k_a0
      refine ok_at o50 ?_
      refine ok_bind (k_X5_greatest L hN (a0 := b49) k51 i19) (fun r52 hr53 => ?_)
      obtain ⟨i54, p55, p56, p57, p58⟩ := hr53
      try rw [i54]
      have f59 := ti_b r52.1
      have f60 := cb_5_0 i19 k51
      have f61 : (q_I d17 5 0 b49).toInt = (q_I d1 5 0 b49).toInt := congrArg Int32.toInt (u20 5 0 b49 (by decide))
      have f62 := cb_5_0 i3 k51
      have f63 : (q_I d1 5 0 b49).toInt = (q_I δ 5 0 b49).toInt := congrArg Int32.toInt (u4 5 0 b49 (by decide))
      have f64 := cb_5_0 I k51
      have f65 := ti_b r52.1
      refine ok_bind (k_X3_wordOf L hN (x0 := r52.1)  i19) (fun r66 hr67 => ?_)
      have i68 := hr67
      try rw [i68]
      have f69 := ti_b r66.1
      unfold J_X11_size_62
      exact ok_some (show CI ad h.1 δ0 d17 ∧ (kp [] δ d17 ∧ q_V d17 = q_V δ) ∧ True from ⟨i19, ⟨kp_w (by decide) u23, v24⟩, trivial⟩)
    · have c70 : x2.toInt ≠ (1 : Int) := o_ne h47
      obtain ⟨b71, o72, k73, n74, w75⟩ := gO_11_6 L k_a0
      refine ok_at o72 ?_
      have t76 := ti_tn x1
      refine ok_gd (fun hc77 => ?_) ?_
      · rcases hc77 with hc77 | hc77
        · have c78 : x1.toInt < (0 : Int) := o_lt hc77
          omega
        · omega
      obtain ⟨b79, o80, k81⟩ := gE_11_6 L k_a0 o72 (i := x1.toNatClampNeg) (by omega)
      refine ok_at o80 ?_
      obtain ⟨b82, o83, k84⟩ := gO_2_0 L k81
      refine ok_at o83 ?_
      unfold J_X11_size_62
      exact ok_some (show CI ad h.1 δ0 d17 ∧ (kp [] δ d17 ∧ q_V d17 = q_V δ) ∧ True from ⟨i19, ⟨kp_w (by decide) u23, v24⟩, trivial⟩)
set_option maxHeartbeats 4000000 in
theorem k_X11_bound {ad : List Nat} {h : hp} (L : Lay TLx ad h) {δ0 : dp} {N : Nat} (hN : 10000000 ≤ N) {a0 : Nat} {x1 : Int32} (k_a0 : q_K h.1 a0 = 11) {δ : dp} (I : CI ad h.1 δ0 δ) : ok (D_X11_bound N h.1 a0 x1 δ) (fun r => CI ad h.1 δ0 r.2 ∧ (kp [] δ r.2 ∧ q_V r.2 = q_V δ) ∧ match r.1 with | .inl v => True | .inr n => ((n = 2) ∧ True)) := by
  unfold D_X11_bound
  refine ok_bind (k_X11_isCall L hN (x0 := x1)  I) (fun r1 hr2 => ?_)
  obtain ⟨i3, p4, p5⟩ := hr2
  try rw [i3]
  have f6 := bo_t p4
  have f7 := ti_b r1.1
  have f8 := ti_b x1
  have f9 := ti_b r1.1
  refine ok_bxv (k_X11_need L hN (a0 := a0) (x1 := r1.1) k_a0 I) (fun n d hp => (show CI ad h.1 δ0 d ∧ (kp [] δ d ∧ q_V d = q_V δ) ∧ ((n = 2) ∧ True) from ⟨hp.1, ⟨kp_w (by decide) (kp_t kp_r hp.2.1.1), (hp.2.1.2).trans rfl⟩, (by have hq : n = 2 := hp.2.2.1; omega), trivial⟩)) (fun d10 hp11 => ?_)
  obtain ⟨i12, ⟨u13, u14⟩, p15⟩ := hp11
  have u16 := kp_t kp_r u13
  have v17 : q_V d10 = q_V δ := (u14).trans rfl
  obtain ⟨b18, o19, k20⟩ := gO_11_1 L k_a0
  refine ok_at o19 ?_
  refine ok_bind (k_X5_boundOf L hN (a0 := b18) (x1 := x1) k20 i12) (fun r21 hr22 => ?_)
  have i23 := hr22
  try rw [i23]
  have f24 := ti_b r21.1
  exact ok_some (show CI ad h.1 δ0 d10 ∧ (kp [] δ d10 ∧ q_V d10 = q_V δ) ∧ True from ⟨i12, ⟨kp_w (by decide) u16, v17⟩, trivial⟩)
set_option maxHeartbeats 4000000 in
theorem k_X11_was {ad : List Nat} {h : hp} (L : Lay TLx ad h) {δ0 : dp} {N : Nat} (hN : 10000000 ≤ N) {a0 : Nat} {x1 : Int32} {x2 : Int32} {x3 : Int32} (k_a0 : q_K h.1 a0 = 11) {δ : dp} (I : CI ad h.1 δ0 δ) : ok (D_X11_was N h.1 a0 x1 x2 x3 δ) (fun r => CI ad h.1 δ0 r.2 ∧ (kp [(3, 1)] δ r.2 ∧ q_V r.2 = q_V δ) ∧ match r.1 with | .inl v => True | .inr n => ((n = 0 ∨ n = 2) ∧ True)) := by
  unfold D_X11_was
  refine ok_bxv (k_X11_needHouse L hN (a0 := a0) (x1 := x1) k_a0 I) (fun n d hp => (show CI ad h.1 δ0 d ∧ (kp [(3, 1)] δ d ∧ q_V d = q_V δ) ∧ ((n = 0 ∨ n = 2) ∧ True) from ⟨hp.1, ⟨kp_w (by decide) (kp_t kp_r hp.2.1.1), (hp.2.1.2).trans rfl⟩, (by have hq : n = 0 := hp.2.2.1; omega), trivial⟩)) (fun d1 hp2 => ?_)
  obtain ⟨i3, ⟨u4, u5⟩, p6, p7⟩ := hp2
  have u8 := kp_t kp_r u4
  have v9 : q_V d1 = q_V δ := (u5).trans rfl
  have f10 := ti_b x1
  have f11 := ti_b x2
  refine ok_ite (fun h12 => ?_) (fun h12 => ?_)
  · have c13 : x2.toInt < (0 : Int) := o_lt h12
    unfold J_X11_was_36
    unfold J_X11_was_37
    refine ok_bxv (k_X11_need L hN (a0 := a0) (x1 := (0 : Int32)) k_a0 i3) (fun n d hp => (show CI ad h.1 δ0 d ∧ (kp [(3, 1)] δ d ∧ q_V d = q_V δ) ∧ ((n = 0 ∨ n = 2) ∧ True) from ⟨hp.1, ⟨kp_w (by decide) (kp_t u8 hp.2.1.1), (hp.2.1.2).trans v9⟩, (by have hq : n = 2 := hp.2.2.1; omega), trivial⟩)) (fun d14 hp15 => ?_)
    obtain ⟨i16, ⟨u17, u18⟩, p19⟩ := hp15
    have u20 := kp_t u8 u17
    have v21 : q_V d14 = q_V δ := (u18).trans v9
    exact absurd rfl (show (0 : Int) ≠ 0 from p19)
  · have c22 : (0 : Int) ≤ x2.toInt := o_nlt h12
    obtain ⟨b23, o24, k25, n26, w27⟩ := gO_11_6 L k_a0
    refine ok_at o24 ?_
    have t28 := ti_tn x1
    refine ok_gd (fun hc29 => ?_) ?_
    · rcases hc29 with hc29 | hc29
      · have c30 : x1.toInt < (0 : Int) := o_lt hc29
        omega
      · omega
    obtain ⟨b31, o32, k33⟩ := gE_11_6 L k_a0 o24 (i := x1.toNatClampNeg) (by omega)
    refine ok_at o32 ?_
    have f34 := cb_2_4 i3 k33
    have f35 : (q_I d1 2 4 b31).toInt = (q_I δ 2 4 b31).toInt := congrArg Int32.toInt (u4 2 4 b31 (by decide))
    have f36 := cb_2_4 I k33
    refine ok_ite (fun h37 => ?_) (fun h37 => ?_)
    · have c38 : (q_I d1 2 4 b31).toInt < x2.toInt := o_lt h37
      unfold J_X11_was_36
      unfold J_X11_was_37
      refine ok_bxv (k_X11_need L hN (a0 := a0) (x1 := (0 : Int32)) k_a0 i3) (fun n d hp => (show CI ad h.1 δ0 d ∧ (kp [(3, 1)] δ d ∧ q_V d = q_V δ) ∧ ((n = 0 ∨ n = 2) ∧ True) from ⟨hp.1, ⟨kp_w (by decide) (kp_t u8 hp.2.1.1), (hp.2.1.2).trans v9⟩, (by have hq : n = 2 := hp.2.2.1; omega), trivial⟩)) (fun d39 hp40 => ?_)
      obtain ⟨i41, ⟨u42, u43⟩, p44⟩ := hp40
      have u45 := kp_t u8 u42
      have v46 : q_V d39 = q_V δ := (u43).trans v9
      exact absurd rfl (show (0 : Int) ≠ 0 from p44)
    · have c47 : x2.toInt ≤ (q_I d1 2 4 b31).toInt := o_nlt h37
      have f48 := ti_b x3
      refine ok_ite (fun h49 => ?_) (fun h49 => ?_)
      · have c50 : x3.toInt < (0 : Int) := o_lt h49
        unfold J_X11_was_36
        unfold J_X11_was_37
        refine ok_bxv (k_X11_need L hN (a0 := a0) (x1 := (0 : Int32)) k_a0 i3) (fun n d hp => (show CI ad h.1 δ0 d ∧ (kp [(3, 1)] δ d ∧ q_V d = q_V δ) ∧ ((n = 0 ∨ n = 2) ∧ True) from ⟨hp.1, ⟨kp_w (by decide) (kp_t u8 hp.2.1.1), (hp.2.1.2).trans v9⟩, (by have hq : n = 2 := hp.2.2.1; omega), trivial⟩)) (fun d51 hp52 => ?_)
        obtain ⟨i53, ⟨u54, u55⟩, p56⟩ := hp52
        have u57 := kp_t u8 u54
        have v58 : q_V d51 = q_V δ := (u55).trans v9
        exact absurd rfl (show (0 : Int) ≠ 0 from p56)
      · have c59 : (0 : Int) ≤ x3.toInt := o_nlt h49
        refine ok_ite (fun h60 => ?_) (fun h60 => ?_)
        · have c61 : (2 : Int) < x3.toInt := o_lt h60
          unfold J_X11_was_36
          unfold J_X11_was_37
          refine ok_bxv (k_X11_need L hN (a0 := a0) (x1 := (0 : Int32)) k_a0 i3) (fun n d hp => (show CI ad h.1 δ0 d ∧ (kp [(3, 1)] δ d ∧ q_V d = q_V δ) ∧ ((n = 0 ∨ n = 2) ∧ True) from ⟨hp.1, ⟨kp_w (by decide) (kp_t u8 hp.2.1.1), (hp.2.1.2).trans v9⟩, (by have hq : n = 2 := hp.2.2.1; omega), trivial⟩)) (fun d62 hp63 => ?_)
          obtain ⟨i64, ⟨u65, u66⟩, p67⟩ := hp63
          have u68 := kp_t u8 u65
          have v69 : q_V d62 = q_V δ := (u66).trans v9
          exact absurd rfl (show (0 : Int) ≠ 0 from p67)
        · have c70 : x3.toInt ≤ (2 : Int) := o_nlt h60
          unfold J_X11_was_37
          refine ok_bxv (k_X11_need L hN (a0 := a0) (x1 := (1 : Int32)) k_a0 i3) (fun n d hp => (show CI ad h.1 δ0 d ∧ (kp [(3, 1)] δ d ∧ q_V d = q_V δ) ∧ ((n = 0 ∨ n = 2) ∧ True) from ⟨hp.1, ⟨kp_w (by decide) (kp_t u8 hp.2.1.1), (hp.2.1.2).trans v9⟩, (by have hq : n = 2 := hp.2.2.1; omega), trivial⟩)) (fun d71 hp72 => ?_)
          obtain ⟨i73, ⟨u74, u75⟩, p76⟩ := hp72
          have u77 := kp_t u8 u74
          have v78 : q_V d71 = q_V δ := (u75).trans v9
          replace p76 : (1 : Int) ≠ 0 := p76
          refine ok_at o24 ?_
          refine ok_gd (fun hc79 => ?_) ?_
          · rcases hc79 with hc79 | hc79
            · have c80 : x1.toInt < (0 : Int) := o_lt hc79
              omega
            · omega
          obtain ⟨b81, o82, k83⟩ := gE_11_6 L k_a0 o24 (i := x1.toNatClampNeg) (by omega)
          refine ok_at o82 ?_
          obtain ⟨b84, o85, k86⟩ := gO_11_7 L k_a0
          refine ok_at o85 ?_
          refine ok_bind (k_X2_fillPast L hN (a0 := b81) (a1 := b84) (x2 := x2) k83 k86 (show 0 ≤ (x2).toInt by first | assumption | omega) (show (x2).toInt ≤ 1000 by first | assumption | omega) i73) (fun r87 hr88 => ?_)
          obtain ⟨i89, ⟨u90, u91⟩⟩ := hr88
          have u92 := kp_t u77 u90
          have v93 : q_V r87 = q_V δ := (u91).trans v78
          refine ok_at o85 ?_
          refine ok_bind (k_X3_tell L hN (a0 := b84) (x1 := x3) k86 i89) (fun r94 hr95 => ?_)
          have i96 := hr95
          try rw [i96]
          have f97 := ti_b r94.1
          exact ok_some (show CI ad h.1 δ0 r87 ∧ (kp [(3, 1)] δ r87 ∧ q_V r87 = q_V δ) ∧ True from ⟨i89, ⟨kp_w (by decide) u92, v93⟩, trivial⟩)
set_option maxHeartbeats 4000000 in
theorem k_X11_asked {ad : List Nat} {h : hp} (L : Lay TLx ad h) {δ0 : dp} {N : Nat} (hN : 10000000 ≤ N) {a0 : Nat} {x1 : Int32} {x2 : Int32} {x3 : Int32} {x4 : Int32} (k_a0 : q_K h.1 a0 = 11) {δ : dp} (I : CI ad h.1 δ0 δ) : ok (D_X11_asked N h.1 a0 x1 x2 x3 x4 δ) (fun r => CI ad h.1 δ0 r.2 ∧ (kp [(3, 1)] δ r.2 ∧ q_V r.2 = q_V δ) ∧ match r.1 with | .inl v => True | .inr n => ((n = 0 ∨ n = 2) ∧ True)) := by
  unfold D_X11_asked
  refine ok_bxv (k_X11_needHouse L hN (a0 := a0) (x1 := x1) k_a0 I) (fun n d hp => (show CI ad h.1 δ0 d ∧ (kp [(3, 1)] δ d ∧ q_V d = q_V δ) ∧ ((n = 0 ∨ n = 2) ∧ True) from ⟨hp.1, ⟨kp_w (by decide) (kp_t kp_r hp.2.1.1), (hp.2.1.2).trans rfl⟩, (by have hq : n = 0 := hp.2.2.1; omega), trivial⟩)) (fun d1 hp2 => ?_)
  obtain ⟨i3, ⟨u4, u5⟩, p6, p7⟩ := hp2
  have u8 := kp_t kp_r u4
  have v9 : q_V d1 = q_V δ := (u5).trans rfl
  have f10 := ti_b x1
  have f11 := ti_b x2
  refine ok_ite (fun h12 => ?_) (fun h12 => ?_)
  · have c13 : x2.toInt < (0 : Int) := o_lt h12
    unfold J_X11_asked_49
    unfold J_X11_asked_50
    refine ok_bxv (k_X11_need L hN (a0 := a0) (x1 := (0 : Int32)) k_a0 i3) (fun n d hp => (show CI ad h.1 δ0 d ∧ (kp [(3, 1)] δ d ∧ q_V d = q_V δ) ∧ ((n = 0 ∨ n = 2) ∧ True) from ⟨hp.1, ⟨kp_w (by decide) (kp_t u8 hp.2.1.1), (hp.2.1.2).trans v9⟩, (by have hq : n = 2 := hp.2.2.1; omega), trivial⟩)) (fun d14 hp15 => ?_)
    obtain ⟨i16, ⟨u17, u18⟩, p19⟩ := hp15
    have u20 := kp_t u8 u17
    have v21 : q_V d14 = q_V δ := (u18).trans v9
    exact absurd rfl (show (0 : Int) ≠ 0 from p19)
  · have c22 : (0 : Int) ≤ x2.toInt := o_nlt h12
    obtain ⟨b23, o24, k25, n26, w27⟩ := gO_11_6 L k_a0
    refine ok_at o24 ?_
    have t28 := ti_tn x1
    refine ok_gd (fun hc29 => ?_) ?_
    · rcases hc29 with hc29 | hc29
      · have c30 : x1.toInt < (0 : Int) := o_lt hc29
        omega
      · omega
    obtain ⟨b31, o32, k33⟩ := gE_11_6 L k_a0 o24 (i := x1.toNatClampNeg) (by omega)
    refine ok_at o32 ?_
    have f34 := cb_2_4 i3 k33
    have f35 : (q_I d1 2 4 b31).toInt = (q_I δ 2 4 b31).toInt := congrArg Int32.toInt (u4 2 4 b31 (by decide))
    have f36 := cb_2_4 I k33
    refine ok_ite (fun h37 => ?_) (fun h37 => ?_)
    · have c38 : (q_I d1 2 4 b31).toInt < x2.toInt := o_lt h37
      unfold J_X11_asked_49
      unfold J_X11_asked_50
      refine ok_bxv (k_X11_need L hN (a0 := a0) (x1 := (0 : Int32)) k_a0 i3) (fun n d hp => (show CI ad h.1 δ0 d ∧ (kp [(3, 1)] δ d ∧ q_V d = q_V δ) ∧ ((n = 0 ∨ n = 2) ∧ True) from ⟨hp.1, ⟨kp_w (by decide) (kp_t u8 hp.2.1.1), (hp.2.1.2).trans v9⟩, (by have hq : n = 2 := hp.2.2.1; omega), trivial⟩)) (fun d39 hp40 => ?_)
      obtain ⟨i41, ⟨u42, u43⟩, p44⟩ := hp40
      have u45 := kp_t u8 u42
      have v46 : q_V d39 = q_V δ := (u43).trans v9
      exact absurd rfl (show (0 : Int) ≠ 0 from p44)
    · have c47 : x2.toInt ≤ (q_I d1 2 4 b31).toInt := o_nlt h37
      refine ok_bind (k_X11_isCall L hN (x0 := x3)  i3) (fun r48 hr49 => ?_)
      obtain ⟨i50, p51, p52⟩ := hr49
      try rw [i50]
      have f53 := bo_t p51
      have f54 := ti_b r48.1
      have f55 := ti_b x3
      have f56 := ti_b r48.1
      refine ok_ite (fun h57 => ?_) (fun h57 => ?_)
      · have c58 : r48.1.toInt = (0 : Int) := o_eq h57
        unfold J_X11_asked_49
        unfold J_X11_asked_50
        refine ok_bxv (k_X11_need L hN (a0 := a0) (x1 := (0 : Int32)) k_a0 i3) (fun n d hp => (show CI ad h.1 δ0 d ∧ (kp [(3, 1)] δ d ∧ q_V d = q_V δ) ∧ ((n = 0 ∨ n = 2) ∧ True) from ⟨hp.1, ⟨kp_w (by decide) (kp_t u8 hp.2.1.1), (hp.2.1.2).trans v9⟩, (by have hq : n = 2 := hp.2.2.1; omega), trivial⟩)) (fun d59 hp60 => ?_)
        obtain ⟨i61, ⟨u62, u63⟩, p64⟩ := hp60
        have u65 := kp_t u8 u62
        have v66 : q_V d59 = q_V δ := (u63).trans v9
        exact absurd rfl (show (0 : Int) ≠ 0 from p64)
      · have c67 : r48.1.toInt ≠ (0 : Int) := o_ne h57
        refine ok_ite (fun h68 => ?_) (fun h68 => ?_)
        · have c69 : x3.toInt < (2 : Int) := o_lt h68
          unfold J_X11_asked_49
          unfold J_X11_asked_50
          refine ok_bxv (k_X11_need L hN (a0 := a0) (x1 := (0 : Int32)) k_a0 i3) (fun n d hp => (show CI ad h.1 δ0 d ∧ (kp [(3, 1)] δ d ∧ q_V d = q_V δ) ∧ ((n = 0 ∨ n = 2) ∧ True) from ⟨hp.1, ⟨kp_w (by decide) (kp_t u8 hp.2.1.1), (hp.2.1.2).trans v9⟩, (by have hq : n = 2 := hp.2.2.1; omega), trivial⟩)) (fun d70 hp71 => ?_)
          obtain ⟨i72, ⟨u73, u74⟩, p75⟩ := hp71
          have u76 := kp_t u8 u73
          have v77 : q_V d70 = q_V δ := (u74).trans v9
          exact absurd rfl (show (0 : Int) ≠ 0 from p75)
        · have c78 : (2 : Int) ≤ x3.toInt := o_nlt h68
          refine ok_bind (k_X11_mayAsk L hN (a0 := a0) (x1 := x3) (x2 := x4) k_a0 i3) (fun r79 hr80 => ?_)
          obtain ⟨i81, p82⟩ := hr80
          try rw [i81]
          have f83 := bo_t p82
          have f84 := ti_b r79.1
          refine ok_ite (fun h85 => ?_) (fun h85 => ?_)
          · have c86 : r79.1.toInt = (0 : Int) := o_eq h85
            unfold J_X11_asked_49
            unfold J_X11_asked_50
            refine ok_bxv (k_X11_need L hN (a0 := a0) (x1 := (0 : Int32)) k_a0 i3) (fun n d hp => (show CI ad h.1 δ0 d ∧ (kp [(3, 1)] δ d ∧ q_V d = q_V δ) ∧ ((n = 0 ∨ n = 2) ∧ True) from ⟨hp.1, ⟨kp_w (by decide) (kp_t u8 hp.2.1.1), (hp.2.1.2).trans v9⟩, (by have hq : n = 2 := hp.2.2.1; omega), trivial⟩)) (fun d87 hp88 => ?_)
            obtain ⟨i89, ⟨u90, u91⟩, p92⟩ := hp88
            have u93 := kp_t u8 u90
            have v94 : q_V d87 = q_V δ := (u91).trans v9
            exact absurd rfl (show (0 : Int) ≠ 0 from p92)
          · have c95 : r79.1.toInt ≠ (0 : Int) := o_ne h85
            unfold J_X11_asked_50
            refine ok_bxv (k_X11_need L hN (a0 := a0) (x1 := (1 : Int32)) k_a0 i3) (fun n d hp => (show CI ad h.1 δ0 d ∧ (kp [(3, 1)] δ d ∧ q_V d = q_V δ) ∧ ((n = 0 ∨ n = 2) ∧ True) from ⟨hp.1, ⟨kp_w (by decide) (kp_t u8 hp.2.1.1), (hp.2.1.2).trans v9⟩, (by have hq : n = 2 := hp.2.2.1; omega), trivial⟩)) (fun d96 hp97 => ?_)
            obtain ⟨i98, ⟨u99, u100⟩, p101⟩ := hp97
            have u102 := kp_t u8 u99
            have v103 : q_V d96 = q_V δ := (u100).trans v9
            replace p101 : (1 : Int) ≠ 0 := p101
            refine ok_at o24 ?_
            refine ok_gd (fun hc104 => ?_) ?_
            · rcases hc104 with hc104 | hc104
              · have c105 : x1.toInt < (0 : Int) := o_lt hc104
                omega
              · omega
            obtain ⟨b106, o107, k108⟩ := gE_11_6 L k_a0 o24 (i := x1.toNatClampNeg) (by omega)
            refine ok_at o107 ?_
            obtain ⟨b109, o110, k111⟩ := gO_11_7 L k_a0
            refine ok_at o110 ?_
            refine ok_bind (k_X2_fillPast L hN (a0 := b106) (a1 := b109) (x2 := x2) k108 k111 (show 0 ≤ (x2).toInt by first | assumption | omega) (show (x2).toInt ≤ 1000 by first | assumption | omega) i98) (fun r112 hr113 => ?_)
            obtain ⟨i114, ⟨u115, u116⟩⟩ := hr113
            have u117 := kp_t u102 u115
            have v118 : q_V r112 = q_V δ := (u116).trans v103
            refine ok_at o110 ?_
            refine ok_bind (k_X3_answer L hN (a0 := b109) (x1 := x3) (x2 := x4) k111 i114) (fun r119 hr120 => ?_)
            obtain ⟨i121, ⟨u122, u123⟩⟩ := hr120
            have u124 := kp_t u117 u122
            have v125 : q_V r119.2 = q_V δ := (u123).trans v118
            have f126 := ti_b r119.1
            exact ok_some (show CI ad h.1 δ0 r119.2 ∧ (kp [(3, 1)] δ r119.2 ∧ q_V r119.2 = q_V δ) ∧ True from ⟨i121, ⟨kp_w (by decide) u124, v125⟩, trivial⟩)
set_option maxHeartbeats 4000000 in
theorem k_X11_since {ad : List Nat} {h : hp} (L : Lay TLx ad h) {δ0 : dp} {N : Nat} (hN : 10000000 ≤ N) {a0 : Nat} {x1 : Int32} {x2 : Int32} {x3 : Int32} (k_a0 : q_K h.1 a0 = 11) {δ : dp} (I : CI ad h.1 δ0 δ) : ok (D_X11_since N h.1 a0 x1 x2 x3 δ) (fun r => CI ad h.1 δ0 r.2 ∧ (kp [] δ r.2 ∧ q_V r.2 = q_V δ) ∧ match r.1 with | .inl v => True | .inr n => ((n = 0 ∨ n = 2) ∧ True)) := by
  unfold D_X11_since
  refine ok_bxv (k_X11_needHouse L hN (a0 := a0) (x1 := x1) k_a0 I) (fun n d hp => (show CI ad h.1 δ0 d ∧ (kp [] δ d ∧ q_V d = q_V δ) ∧ ((n = 0 ∨ n = 2) ∧ True) from ⟨hp.1, ⟨kp_w (by decide) (kp_t kp_r hp.2.1.1), (hp.2.1.2).trans rfl⟩, (by have hq : n = 0 := hp.2.2.1; omega), trivial⟩)) (fun d1 hp2 => ?_)
  obtain ⟨i3, ⟨u4, u5⟩, p6, p7⟩ := hp2
  have u8 := kp_t kp_r u4
  have v9 : q_V d1 = q_V δ := (u5).trans rfl
  have f10 := ti_b x1
  refine ok_bind (k_X11_isNumber L hN (a0 := a0) (x1 := x2) k_a0 i3) (fun r11 hr12 => ?_)
  obtain ⟨i13, p14⟩ := hr12
  try rw [i13]
  have f15 := bo_t p14
  have f16 := ti_b r11.1
  refine ok_ite (fun h17 => ?_) (fun h17 => ?_)
  · have c18 : r11.1.toInt = (0 : Int) := o_eq h17
    unfold J_X11_since_27
    unfold J_X11_since_28
    refine ok_bxv (k_X11_need L hN (a0 := a0) (x1 := (0 : Int32)) k_a0 i3) (fun n d hp => (show CI ad h.1 δ0 d ∧ (kp [] δ d ∧ q_V d = q_V δ) ∧ ((n = 0 ∨ n = 2) ∧ True) from ⟨hp.1, ⟨kp_w (by decide) (kp_t u8 hp.2.1.1), (hp.2.1.2).trans v9⟩, (by have hq : n = 2 := hp.2.2.1; omega), trivial⟩)) (fun d19 hp20 => ?_)
    obtain ⟨i21, ⟨u22, u23⟩, p24⟩ := hp20
    have u25 := kp_t u8 u22
    have v26 : q_V d19 = q_V δ := (u23).trans v9
    exact absurd rfl (show (0 : Int) ≠ 0 from p24)
  · have c27 : r11.1.toInt ≠ (0 : Int) := o_ne h17
    have f28 := ti_b x3
    refine ok_ite (fun h29 => ?_) (fun h29 => ?_)
    · have c30 : x3.toInt = (0 : Int) := o_eq h29
      unfold J_X11_since_23
      unfold J_X11_since_28
      refine ok_bxv (k_X11_need L hN (a0 := a0) (x1 := (1 : Int32)) k_a0 i3) (fun n d hp => (show CI ad h.1 δ0 d ∧ (kp [] δ d ∧ q_V d = q_V δ) ∧ ((n = 0 ∨ n = 2) ∧ True) from ⟨hp.1, ⟨kp_w (by decide) (kp_t u8 hp.2.1.1), (hp.2.1.2).trans v9⟩, (by have hq : n = 2 := hp.2.2.1; omega), trivial⟩)) (fun d31 hp32 => ?_)
      obtain ⟨i33, ⟨u34, u35⟩, p36⟩ := hp32
      have u37 := kp_t u8 u34
      have v38 : q_V d31 = q_V δ := (u35).trans v9
      replace p36 : (1 : Int) ≠ 0 := p36
      obtain ⟨b39, o40, k41, n42, w43⟩ := gO_11_6 L k_a0
      refine ok_at o40 ?_
      have t44 := ti_tn x1
      refine ok_gd (fun hc45 => ?_) ?_
      · rcases hc45 with hc45 | hc45
        · have c46 : x1.toInt < (0 : Int) := o_lt hc45
          omega
        · omega
      obtain ⟨b47, o48, k49⟩ := gE_11_6 L k_a0 o40 (i := x1.toNatClampNeg) (by omega)
      refine ok_at o48 ?_
      refine ok_ite (fun h50 => ?_) (fun h50 => ?_)
      · have c51 : x3.toInt = (0 : Int) := o_eq h50
        unfold J_X11_since_46
        refine ok_bind (k_X2_lastChange L hN (a0 := b47) (x1 := (0 : Int32)) (x2 := x2) k49 i33) (fun r52 hr53 => ?_)
        have i54 := hr53
        try rw [i54]
        have f55 := ti_b r52.1
        exact ok_some (show CI ad h.1 δ0 d31 ∧ (kp [] δ d31 ∧ q_V d31 = q_V δ) ∧ True from ⟨i33, ⟨kp_w (by decide) u37, v38⟩, trivial⟩)
      · have c56 : x3.toInt ≠ (0 : Int) := o_ne h50
        unfold J_X11_since_46
        refine ok_bind (k_X2_lastChange L hN (a0 := b47) (x1 := (1 : Int32)) (x2 := x2) k49 i33) (fun r57 hr58 => ?_)
        have i59 := hr58
        try rw [i59]
        have f60 := ti_b r57.1
        exact ok_some (show CI ad h.1 δ0 d31 ∧ (kp [] δ d31 ∧ q_V d31 = q_V δ) ∧ True from ⟨i33, ⟨kp_w (by decide) u37, v38⟩, trivial⟩)
    · have c61 : x3.toInt ≠ (0 : Int) := o_ne h29
      refine ok_ite (fun h62 => ?_) (fun h62 => ?_)
      · have c63 : x3.toInt = (1 : Int) := o_eq h62
        unfold J_X11_since_23
        unfold J_X11_since_28
        refine ok_bxv (k_X11_need L hN (a0 := a0) (x1 := (1 : Int32)) k_a0 i3) (fun n d hp => (show CI ad h.1 δ0 d ∧ (kp [] δ d ∧ q_V d = q_V δ) ∧ ((n = 0 ∨ n = 2) ∧ True) from ⟨hp.1, ⟨kp_w (by decide) (kp_t u8 hp.2.1.1), (hp.2.1.2).trans v9⟩, (by have hq : n = 2 := hp.2.2.1; omega), trivial⟩)) (fun d64 hp65 => ?_)
        obtain ⟨i66, ⟨u67, u68⟩, p69⟩ := hp65
        have u70 := kp_t u8 u67
        have v71 : q_V d64 = q_V δ := (u68).trans v9
        replace p69 : (1 : Int) ≠ 0 := p69
        obtain ⟨b72, o73, k74, n75, w76⟩ := gO_11_6 L k_a0
        refine ok_at o73 ?_
        have t77 := ti_tn x1
        refine ok_gd (fun hc78 => ?_) ?_
        · rcases hc78 with hc78 | hc78
          · have c79 : x1.toInt < (0 : Int) := o_lt hc78
            omega
          · omega
        obtain ⟨b80, o81, k82⟩ := gE_11_6 L k_a0 o73 (i := x1.toNatClampNeg) (by omega)
        refine ok_at o81 ?_
        refine ok_ite (fun h83 => ?_) (fun h83 => ?_)
        · have c84 : x3.toInt = (0 : Int) := o_eq h83
          unfold J_X11_since_46
          refine ok_bind (k_X2_lastChange L hN (a0 := b80) (x1 := (0 : Int32)) (x2 := x2) k82 i66) (fun r85 hr86 => ?_)
          have i87 := hr86
          try rw [i87]
          have f88 := ti_b r85.1
          exact ok_some (show CI ad h.1 δ0 d64 ∧ (kp [] δ d64 ∧ q_V d64 = q_V δ) ∧ True from ⟨i66, ⟨kp_w (by decide) u70, v71⟩, trivial⟩)
        · have c89 : x3.toInt ≠ (0 : Int) := o_ne h83
          unfold J_X11_since_46
          refine ok_bind (k_X2_lastChange L hN (a0 := b80) (x1 := (1 : Int32)) (x2 := x2) k82 i66) (fun r90 hr91 => ?_)
          have i92 := hr91
          try rw [i92]
          have f93 := ti_b r90.1
          exact ok_some (show CI ad h.1 δ0 d64 ∧ (kp [] δ d64 ∧ q_V d64 = q_V δ) ∧ True from ⟨i66, ⟨kp_w (by decide) u70, v71⟩, trivial⟩)
      · have c94 : x3.toInt ≠ (1 : Int) := o_ne h62
        unfold J_X11_since_27
        unfold J_X11_since_28
        refine ok_bxv (k_X11_need L hN (a0 := a0) (x1 := (0 : Int32)) k_a0 i3) (fun n d hp => (show CI ad h.1 δ0 d ∧ (kp [] δ d ∧ q_V d = q_V δ) ∧ ((n = 0 ∨ n = 2) ∧ True) from ⟨hp.1, ⟨kp_w (by decide) (kp_t u8 hp.2.1.1), (hp.2.1.2).trans v9⟩, (by have hq : n = 2 := hp.2.2.1; omega), trivial⟩)) (fun d95 hp96 => ?_)
        obtain ⟨i97, ⟨u98, u99⟩, p100⟩ := hp96
        have u101 := kp_t u8 u98
        have v102 : q_V d95 = q_V δ := (u99).trans v9
        exact absurd rfl (show (0 : Int) ≠ 0 from p100)
set_option maxHeartbeats 4000000 in
theorem k_X11_room {ad : List Nat} {h : hp} (L : Lay TLx ad h) {δ0 : dp} {N : Nat} (hN : 10000000 ≤ N) {a0 : Nat} {x1 : Int32} {x2 : Int32} (k_a0 : q_K h.1 a0 = 11) {δ : dp} (I : CI ad h.1 δ0 δ) : ok (D_X11_room N h.1 a0 x1 x2 δ) (fun r => CI ad h.1 δ0 r.2 ∧ (kp [] δ r.2 ∧ q_V r.2 = q_V δ) ∧ match r.1 with | .inl v => True | .inr n => ((n = 0 ∨ n = 2) ∧ True)) := by
  unfold D_X11_room
  refine ok_bxv (k_X11_needHouse L hN (a0 := a0) (x1 := x1) k_a0 I) (fun n d hp => (show CI ad h.1 δ0 d ∧ (kp [] δ d ∧ q_V d = q_V δ) ∧ ((n = 0 ∨ n = 2) ∧ True) from ⟨hp.1, ⟨kp_w (by decide) (kp_t kp_r hp.2.1.1), (hp.2.1.2).trans rfl⟩, (by have hq : n = 0 := hp.2.2.1; omega), trivial⟩)) (fun d1 hp2 => ?_)
  obtain ⟨i3, ⟨u4, u5⟩, p6, p7⟩ := hp2
  have u8 := kp_t kp_r u4
  have v9 : q_V d1 = q_V δ := (u5).trans rfl
  have f10 := ti_b x1
  have f11 := ti_b x2
  refine ok_ite (fun h12 => ?_) (fun h12 => ?_)
  · have c13 : x2.toInt = (0 : Int) := o_eq h12
    unfold J_X11_room_15
    unfold J_X11_room_20
    refine ok_bxv (k_X11_need L hN (a0 := a0) (x1 := (1 : Int32)) k_a0 i3) (fun n d hp => (show CI ad h.1 δ0 d ∧ (kp [] δ d ∧ q_V d = q_V δ) ∧ ((n = 0 ∨ n = 2) ∧ True) from ⟨hp.1, ⟨kp_w (by decide) (kp_t u8 hp.2.1.1), (hp.2.1.2).trans v9⟩, (by have hq : n = 2 := hp.2.2.1; omega), trivial⟩)) (fun d14 hp15 => ?_)
    obtain ⟨i16, ⟨u17, u18⟩, p19⟩ := hp15
    have u20 := kp_t u8 u17
    have v21 : q_V d14 = q_V δ := (u18).trans v9
    replace p19 : (1 : Int) ≠ 0 := p19
    refine ok_ite (fun h22 => ?_) (fun h22 => ?_)
    · have c23 : x2.toInt = (0 : Int) := o_eq h22
      obtain ⟨b24, o25, k26, n27, w28⟩ := gO_11_6 L k_a0
      refine ok_at o25 ?_
      have t29 := ti_tn x1
      refine ok_gd (fun hc30 => ?_) ?_
      · rcases hc30 with hc30 | hc30
        · have c31 : x1.toInt < (0 : Int) := o_lt hc30
          omega
        · omega
      obtain ⟨b32, o33, k34⟩ := gE_11_6 L k_a0 o25 (i := x1.toNatClampNeg) (by omega)
      refine ok_at o33 ?_
      refine ok_bind (k_X2_copying L hN (a0 := b32) k34 i16) (fun r35 hr36 => ?_)
      have i37 := hr36
      try rw [i37]
      have f38 := ti_b r35.1
      unfold J_X11_room_48
      exact ok_some (show CI ad h.1 δ0 d14 ∧ (kp [] δ d14 ∧ q_V d14 = q_V δ) ∧ True from ⟨i16, ⟨kp_w (by decide) u20, v21⟩, trivial⟩)
    · have c39 : x2.toInt ≠ (0 : Int) := o_ne h22
      obtain ⟨b40, o41, k42, n43, w44⟩ := gO_11_6 L k_a0
      refine ok_at o41 ?_
      have t45 := ti_tn x1
      refine ok_gd (fun hc46 => ?_) ?_
      · rcases hc46 with hc46 | hc46
        · have c47 : x1.toInt < (0 : Int) := o_lt hc46
          omega
        · omega
      obtain ⟨b48, o49, k50⟩ := gE_11_6 L k_a0 o41 (i := x1.toNatClampNeg) (by omega)
      refine ok_at o49 ?_
      unfold J_X11_room_48
      exact ok_some (show CI ad h.1 δ0 d14 ∧ (kp [] δ d14 ∧ q_V d14 = q_V δ) ∧ True from ⟨i16, ⟨kp_w (by decide) u20, v21⟩, trivial⟩)
  · have c51 : x2.toInt ≠ (0 : Int) := o_ne h12
    refine ok_ite (fun h52 => ?_) (fun h52 => ?_)
    · have c53 : x2.toInt = (1 : Int) := o_eq h52
      unfold J_X11_room_15
      unfold J_X11_room_20
      refine ok_bxv (k_X11_need L hN (a0 := a0) (x1 := (1 : Int32)) k_a0 i3) (fun n d hp => (show CI ad h.1 δ0 d ∧ (kp [] δ d ∧ q_V d = q_V δ) ∧ ((n = 0 ∨ n = 2) ∧ True) from ⟨hp.1, ⟨kp_w (by decide) (kp_t u8 hp.2.1.1), (hp.2.1.2).trans v9⟩, (by have hq : n = 2 := hp.2.2.1; omega), trivial⟩)) (fun d54 hp55 => ?_)
      obtain ⟨i56, ⟨u57, u58⟩, p59⟩ := hp55
      have u60 := kp_t u8 u57
      have v61 : q_V d54 = q_V δ := (u58).trans v9
      replace p59 : (1 : Int) ≠ 0 := p59
      refine ok_ite (fun h62 => ?_) (fun h62 => ?_)
      · have c63 : x2.toInt = (0 : Int) := o_eq h62
        obtain ⟨b64, o65, k66, n67, w68⟩ := gO_11_6 L k_a0
        refine ok_at o65 ?_
        have t69 := ti_tn x1
        refine ok_gd (fun hc70 => ?_) ?_
        · rcases hc70 with hc70 | hc70
          · have c71 : x1.toInt < (0 : Int) := o_lt hc70
            omega
          · omega
        obtain ⟨b72, o73, k74⟩ := gE_11_6 L k_a0 o65 (i := x1.toNatClampNeg) (by omega)
        refine ok_at o73 ?_
        refine ok_bind (k_X2_copying L hN (a0 := b72) k74 i56) (fun r75 hr76 => ?_)
        have i77 := hr76
        try rw [i77]
        have f78 := ti_b r75.1
        unfold J_X11_room_48
        exact ok_some (show CI ad h.1 δ0 d54 ∧ (kp [] δ d54 ∧ q_V d54 = q_V δ) ∧ True from ⟨i56, ⟨kp_w (by decide) u60, v61⟩, trivial⟩)
      · have c79 : x2.toInt ≠ (0 : Int) := o_ne h62
        obtain ⟨b80, o81, k82, n83, w84⟩ := gO_11_6 L k_a0
        refine ok_at o81 ?_
        have t85 := ti_tn x1
        refine ok_gd (fun hc86 => ?_) ?_
        · rcases hc86 with hc86 | hc86
          · have c87 : x1.toInt < (0 : Int) := o_lt hc86
            omega
          · omega
        obtain ⟨b88, o89, k90⟩ := gE_11_6 L k_a0 o81 (i := x1.toNatClampNeg) (by omega)
        refine ok_at o89 ?_
        unfold J_X11_room_48
        exact ok_some (show CI ad h.1 δ0 d54 ∧ (kp [] δ d54 ∧ q_V d54 = q_V δ) ∧ True from ⟨i56, ⟨kp_w (by decide) u60, v61⟩, trivial⟩)
    · have c91 : x2.toInt ≠ (1 : Int) := o_ne h52
      unfold J_X11_room_20
      refine ok_bxv (k_X11_need L hN (a0 := a0) (x1 := (0 : Int32)) k_a0 i3) (fun n d hp => (show CI ad h.1 δ0 d ∧ (kp [] δ d ∧ q_V d = q_V δ) ∧ ((n = 0 ∨ n = 2) ∧ True) from ⟨hp.1, ⟨kp_w (by decide) (kp_t u8 hp.2.1.1), (hp.2.1.2).trans v9⟩, (by have hq : n = 2 := hp.2.2.1; omega), trivial⟩)) (fun d92 hp93 => ?_)
      obtain ⟨i94, ⟨u95, u96⟩, p97⟩ := hp93
      have u98 := kp_t u8 u95
      have v99 : q_V d92 = q_V δ := (u96).trans v9
      exact absurd rfl (show (0 : Int) ≠ 0 from p97)
set_option maxHeartbeats 4000000 in
theorem k_X11_runs {ad : List Nat} {h : hp} (L : Lay TLx ad h) {δ0 : dp} {N : Nat} (hN : 10000000 ≤ N) {a0 : Nat} {x1 : Int32} {x2 : Int32} (k_a0 : q_K h.1 a0 = 11) {δ : dp} (I : CI ad h.1 δ0 δ) : ok (D_X11_runs N h.1 a0 x1 x2 δ) (fun r => CI ad h.1 δ0 r.2 ∧ (kp [] δ r.2 ∧ q_V r.2 = q_V δ) ∧ match r.1 with | .inl v => True | .inr n => ((n = 0) ∧ True)) := by
  unfold D_X11_runs
  refine ok_bxv (k_X11_needHouse L hN (a0 := a0) (x1 := x1) k_a0 I) (fun n d hp => (show CI ad h.1 δ0 d ∧ (kp [] δ d ∧ q_V d = q_V δ) ∧ ((n = 0) ∧ True) from ⟨hp.1, ⟨kp_w (by decide) (kp_t kp_r hp.2.1.1), (hp.2.1.2).trans rfl⟩, (by have hq : n = 0 := hp.2.2.1; omega), trivial⟩)) (fun d1 hp2 => ?_)
  obtain ⟨i3, ⟨u4, u5⟩, p6, p7⟩ := hp2
  have u8 := kp_t kp_r u4
  have v9 : q_V d1 = q_V δ := (u5).trans rfl
  have f10 := ti_b x1
  refine ok_bxv (k_X11_needHouse L hN (a0 := a0) (x1 := x2) k_a0 i3) (fun n d hp => (show CI ad h.1 δ0 d ∧ (kp [] δ d ∧ q_V d = q_V δ) ∧ ((n = 0) ∧ True) from ⟨hp.1, ⟨kp_w (by decide) (kp_t u8 hp.2.1.1), (hp.2.1.2).trans v9⟩, (by have hq : n = 0 := hp.2.2.1; omega), trivial⟩)) (fun d11 hp12 => ?_)
  obtain ⟨i13, ⟨u14, u15⟩, p16, p17⟩ := hp12
  have u18 := kp_t u8 u14
  have v19 : q_V d11 = q_V δ := (u15).trans v9
  have f20 := ti_b x2
  obtain ⟨b21, o22, k23, n24, w25⟩ := gO_11_6 L k_a0
  refine ok_at o22 ?_
  have t26 := ti_tn x1
  refine ok_gd (fun hc27 => ?_) ?_
  · rcases hc27 with hc27 | hc27
    · have c28 : x1.toInt < (0 : Int) := o_lt hc27
      omega
    · omega
  obtain ⟨b29, o30, k31⟩ := gE_11_6 L k_a0 o22 (i := x1.toNatClampNeg) (by omega)
  refine ok_at o30 ?_
  obtain ⟨b32, o33, k34⟩ := gO_2_0 L k31
  refine ok_at o33 ?_
  refine ok_at o22 ?_
  have t35 := ti_tn x2
  refine ok_gd (fun hc36 => ?_) ?_
  · rcases hc36 with hc36 | hc36
    · have c37 : x2.toInt < (0 : Int) := o_lt hc36
      omega
    · omega
  obtain ⟨b38, o39, k40⟩ := gE_11_6 L k_a0 o22 (i := x2.toNatClampNeg) (by omega)
  refine ok_at o39 ?_
  obtain ⟨b41, o42, k43⟩ := gO_2_0 L k40
  refine ok_at o42 ?_
  refine ok_bind (k_X3_runsWith L hN (a0 := b32) (a1 := b41) k34 k43 i13) (fun r44 hr45 => ?_)
  have i46 := hr45
  try rw [i46]
  have f47 := ti_b r44.1
  exact ok_some (show CI ad h.1 δ0 d11 ∧ (kp [] δ d11 ∧ q_V d11 = q_V δ) ∧ True from ⟨i13, ⟨kp_w (by decide) u18, v19⟩, trivial⟩)
set_option maxHeartbeats 4000000 in
theorem k_X11_gap {ad : List Nat} {h : hp} (L : Lay TLx ad h) {δ0 : dp} {N : Nat} (hN : 10000000 ≤ N) {a0 : Nat} {x1 : Int32} {x2 : Int32} (k_a0 : q_K h.1 a0 = 11) {δ : dp} (I : CI ad h.1 δ0 δ) : ok (D_X11_gap N h.1 a0 x1 x2 δ) (fun r => CI ad h.1 δ0 r.2 ∧ (kp [] δ r.2 ∧ q_V r.2 = q_V δ) ∧ match r.1 with | .inl v => True | .inr n => ((n = 0 ∨ n = 2) ∧ True)) := by
  unfold D_X11_gap
  refine ok_bxv (k_X11_needHouse L hN (a0 := a0) (x1 := x1) k_a0 I) (fun n d hp => (show CI ad h.1 δ0 d ∧ (kp [] δ d ∧ q_V d = q_V δ) ∧ ((n = 0 ∨ n = 2) ∧ True) from ⟨hp.1, ⟨kp_w (by decide) (kp_t kp_r hp.2.1.1), (hp.2.1.2).trans rfl⟩, (by have hq : n = 0 := hp.2.2.1; omega), trivial⟩)) (fun d1 hp2 => ?_)
  obtain ⟨i3, ⟨u4, u5⟩, p6, p7⟩ := hp2
  have u8 := kp_t kp_r u4
  have v9 : q_V d1 = q_V δ := (u5).trans rfl
  have f10 := ti_b x1
  have f11 := ti_b x2
  refine ok_ite (fun h12 => ?_) (fun h12 => ?_)
  · have c13 : x2.toInt = (0 : Int) := o_eq h12
    unfold J_X11_gap_15
    unfold J_X11_gap_20
    refine ok_bxv (k_X11_need L hN (a0 := a0) (x1 := (1 : Int32)) k_a0 i3) (fun n d hp => (show CI ad h.1 δ0 d ∧ (kp [] δ d ∧ q_V d = q_V δ) ∧ ((n = 0 ∨ n = 2) ∧ True) from ⟨hp.1, ⟨kp_w (by decide) (kp_t u8 hp.2.1.1), (hp.2.1.2).trans v9⟩, (by have hq : n = 2 := hp.2.2.1; omega), trivial⟩)) (fun d14 hp15 => ?_)
    obtain ⟨i16, ⟨u17, u18⟩, p19⟩ := hp15
    have u20 := kp_t u8 u17
    have v21 : q_V d14 = q_V δ := (u18).trans v9
    replace p19 : (1 : Int) ≠ 0 := p19
    obtain ⟨b22, o23, k24, n25, w26⟩ := gO_11_6 L k_a0
    refine ok_at o23 ?_
    have t27 := ti_tn x1
    refine ok_gd (fun hc28 => ?_) ?_
    · rcases hc28 with hc28 | hc28
      · have c29 : x1.toInt < (0 : Int) := o_lt hc28
        omega
      · omega
    obtain ⟨b30, o31, k32⟩ := gE_11_6 L k_a0 o23 (i := x1.toNatClampNeg) (by omega)
    refine ok_at o31 ?_
    obtain ⟨b33, o34, k35⟩ := gO_2_0 L k32
    refine ok_at o34 ?_
    refine ok_bind (k_X3_widestGap L hN (a0 := b33) k35 i16) (fun r36 hr37 => ?_)
    have i38 := hr37
    try rw [i38]
    have f39 := ti_b r36.1
    refine ok_ite (fun h40 => ?_) (fun h40 => ?_)
    · have c41 : r36.1.toInt = (-1 : Int) := o_eq h40
      exact ok_some (show CI ad h.1 δ0 d14 ∧ (kp [] δ d14 ∧ q_V d14 = q_V δ) ∧ True from ⟨i16, ⟨kp_w (by decide) u20, v21⟩, trivial⟩)
    · have c42 : r36.1.toInt ≠ (-1 : Int) := o_ne h40
      refine ok_ite (fun h43 => ?_) (fun h43 => ?_)
      · have c44 : x2.toInt = (0 : Int) := o_eq h43
        refine ok_bind (k_X3_at L hN (a0 := b33) (x1 := (r36.1 + (1 : Int32))) k35 i16) (fun r45 hr46 => ?_)
        have i47 := hr46
        try rw [i47]
        have f48 := ti_b r45.1
        refine ok_bind (k_X3_at L hN (a0 := b33) (x1 := r36.1) k35 i16) (fun r49 hr50 => ?_)
        have i51 := hr50
        try rw [i51]
        have f52 := ti_b r49.1
        unfold J_X11_gap_75
        exact ok_some (show CI ad h.1 δ0 d14 ∧ (kp [] δ d14 ∧ q_V d14 = q_V δ) ∧ True from ⟨i16, ⟨kp_w (by decide) u20, v21⟩, trivial⟩)
      · have c53 : x2.toInt ≠ (0 : Int) := o_ne h43
        refine ok_bind (k_X3_at L hN (a0 := b33) (x1 := r36.1) k35 i16) (fun r54 hr55 => ?_)
        have i56 := hr55
        try rw [i56]
        have f57 := ti_b r54.1
        unfold J_X11_gap_75
        exact ok_some (show CI ad h.1 δ0 d14 ∧ (kp [] δ d14 ∧ q_V d14 = q_V δ) ∧ True from ⟨i16, ⟨kp_w (by decide) u20, v21⟩, trivial⟩)
  · have c58 : x2.toInt ≠ (0 : Int) := o_ne h12
    refine ok_ite (fun h59 => ?_) (fun h59 => ?_)
    · have c60 : x2.toInt = (1 : Int) := o_eq h59
      unfold J_X11_gap_15
      unfold J_X11_gap_20
      refine ok_bxv (k_X11_need L hN (a0 := a0) (x1 := (1 : Int32)) k_a0 i3) (fun n d hp => (show CI ad h.1 δ0 d ∧ (kp [] δ d ∧ q_V d = q_V δ) ∧ ((n = 0 ∨ n = 2) ∧ True) from ⟨hp.1, ⟨kp_w (by decide) (kp_t u8 hp.2.1.1), (hp.2.1.2).trans v9⟩, (by have hq : n = 2 := hp.2.2.1; omega), trivial⟩)) (fun d61 hp62 => ?_)
      obtain ⟨i63, ⟨u64, u65⟩, p66⟩ := hp62
      have u67 := kp_t u8 u64
      have v68 : q_V d61 = q_V δ := (u65).trans v9
      replace p66 : (1 : Int) ≠ 0 := p66
      obtain ⟨b69, o70, k71, n72, w73⟩ := gO_11_6 L k_a0
      refine ok_at o70 ?_
      have t74 := ti_tn x1
      refine ok_gd (fun hc75 => ?_) ?_
      · rcases hc75 with hc75 | hc75
        · have c76 : x1.toInt < (0 : Int) := o_lt hc75
          omega
        · omega
      obtain ⟨b77, o78, k79⟩ := gE_11_6 L k_a0 o70 (i := x1.toNatClampNeg) (by omega)
      refine ok_at o78 ?_
      obtain ⟨b80, o81, k82⟩ := gO_2_0 L k79
      refine ok_at o81 ?_
      refine ok_bind (k_X3_widestGap L hN (a0 := b80) k82 i63) (fun r83 hr84 => ?_)
      have i85 := hr84
      try rw [i85]
      have f86 := ti_b r83.1
      refine ok_ite (fun h87 => ?_) (fun h87 => ?_)
      · have c88 : r83.1.toInt = (-1 : Int) := o_eq h87
        exact ok_some (show CI ad h.1 δ0 d61 ∧ (kp [] δ d61 ∧ q_V d61 = q_V δ) ∧ True from ⟨i63, ⟨kp_w (by decide) u67, v68⟩, trivial⟩)
      · have c89 : r83.1.toInt ≠ (-1 : Int) := o_ne h87
        refine ok_ite (fun h90 => ?_) (fun h90 => ?_)
        · have c91 : x2.toInt = (0 : Int) := o_eq h90
          refine ok_bind (k_X3_at L hN (a0 := b80) (x1 := (r83.1 + (1 : Int32))) k82 i63) (fun r92 hr93 => ?_)
          have i94 := hr93
          try rw [i94]
          have f95 := ti_b r92.1
          refine ok_bind (k_X3_at L hN (a0 := b80) (x1 := r83.1) k82 i63) (fun r96 hr97 => ?_)
          have i98 := hr97
          try rw [i98]
          have f99 := ti_b r96.1
          unfold J_X11_gap_75
          exact ok_some (show CI ad h.1 δ0 d61 ∧ (kp [] δ d61 ∧ q_V d61 = q_V δ) ∧ True from ⟨i63, ⟨kp_w (by decide) u67, v68⟩, trivial⟩)
        · have c100 : x2.toInt ≠ (0 : Int) := o_ne h90
          refine ok_bind (k_X3_at L hN (a0 := b80) (x1 := r83.1) k82 i63) (fun r101 hr102 => ?_)
          have i103 := hr102
          try rw [i103]
          have f104 := ti_b r101.1
          unfold J_X11_gap_75
          exact ok_some (show CI ad h.1 δ0 d61 ∧ (kp [] δ d61 ∧ q_V d61 = q_V δ) ∧ True from ⟨i63, ⟨kp_w (by decide) u67, v68⟩, trivial⟩)
    · have c105 : x2.toInt ≠ (1 : Int) := o_ne h59
      unfold J_X11_gap_20
      refine ok_bxv (k_X11_need L hN (a0 := a0) (x1 := (0 : Int32)) k_a0 i3) (fun n d hp => (show CI ad h.1 δ0 d ∧ (kp [] δ d ∧ q_V d = q_V δ) ∧ ((n = 0 ∨ n = 2) ∧ True) from ⟨hp.1, ⟨kp_w (by decide) (kp_t u8 hp.2.1.1), (hp.2.1.2).trans v9⟩, (by have hq : n = 2 := hp.2.2.1; omega), trivial⟩)) (fun d106 hp107 => ?_)
      obtain ⟨i108, ⟨u109, u110⟩, p111⟩ := hp107
      have u112 := kp_t u8 u109
      have v113 : q_V d106 = q_V δ := (u110).trans v9
      exact absurd rfl (show (0 : Int) ≠ 0 from p111)
set_option maxHeartbeats 4000000 in
theorem k_X11_has {ad : List Nat} {h : hp} (L : Lay TLx ad h) {δ0 : dp} {N : Nat} (hN : 10000000 ≤ N) {a0 : Nat} {x1 : Int32} {x2 : Int32} (k_a0 : q_K h.1 a0 = 11) {δ : dp} (I : CI ad h.1 δ0 δ) : ok (D_X11_has N h.1 a0 x1 x2 δ) (fun r => CI ad h.1 δ0 r.2 ∧ (kp [] δ r.2 ∧ q_V r.2 = q_V δ) ∧ match r.1 with | .inl v => True | .inr n => ((n = 0 ∨ n = 2) ∧ True)) := by
  unfold D_X11_has
  refine ok_bxv (k_X11_needHouse L hN (a0 := a0) (x1 := x1) k_a0 I) (fun n d hp => (show CI ad h.1 δ0 d ∧ (kp [] δ d ∧ q_V d = q_V δ) ∧ ((n = 0 ∨ n = 2) ∧ True) from ⟨hp.1, ⟨kp_w (by decide) (kp_t kp_r hp.2.1.1), (hp.2.1.2).trans rfl⟩, (by have hq : n = 0 := hp.2.2.1; omega), trivial⟩)) (fun d1 hp2 => ?_)
  obtain ⟨i3, ⟨u4, u5⟩, p6, p7⟩ := hp2
  have u8 := kp_t kp_r u4
  have v9 : q_V d1 = q_V δ := (u5).trans rfl
  have f10 := ti_b x1
  refine ok_bxv (k_X11_needNumber L hN (a0 := a0) (x1 := x2) k_a0 i3) (fun n d hp => (show CI ad h.1 δ0 d ∧ (kp [] δ d ∧ q_V d = q_V δ) ∧ ((n = 0 ∨ n = 2) ∧ True) from ⟨hp.1, ⟨kp_w (by decide) (kp_t u8 hp.2.1.1), (hp.2.1.2).trans v9⟩, (by have hq : n = 2 := hp.2.2.1; omega), trivial⟩)) (fun d11 hp12 => ?_)
  obtain ⟨i13, ⟨u14, u15⟩, p16⟩ := hp12
  have u17 := kp_t u8 u14
  have v18 : q_V d11 = q_V δ := (u15).trans v9
  obtain ⟨b19, o20, k21, n22, w23⟩ := gO_11_6 L k_a0
  refine ok_at o20 ?_
  have t24 := ti_tn x1
  refine ok_gd (fun hc25 => ?_) ?_
  · rcases hc25 with hc25 | hc25
    · have c26 : x1.toInt < (0 : Int) := o_lt hc25
      omega
    · omega
  obtain ⟨b27, o28, k29⟩ := gE_11_6 L k_a0 o20 (i := x1.toNatClampNeg) (by omega)
  refine ok_at o28 ?_
  obtain ⟨b30, o31, k32⟩ := gO_2_0 L k29
  refine ok_at o31 ?_
  refine ok_bind (k_X3_holds L hN (a0 := b30) (x1 := x2) k32 i13) (fun r33 hr34 => ?_)
  obtain ⟨i35, p36⟩ := hr34
  try rw [i35]
  have f37 := bo_t p36
  have f38 := ti_b r33.1
  refine ok_gp (show bo r33.1 by first | assumption | exact bo_0 | exact bo_1) ?_
  exact ok_some (show CI ad h.1 δ0 d11 ∧ (kp [] δ d11 ∧ q_V d11 = q_V δ) ∧ True from ⟨i13, ⟨kp_w (by decide) u17, v18⟩, trivial⟩)
set_option maxHeartbeats 4000000 in
theorem k_X11_touches {ad : List Nat} {h : hp} (L : Lay TLx ad h) {δ0 : dp} {N : Nat} (hN : 10000000 ≤ N) {a0 : Nat} {x1 : Int32} {x2 : Int32} {x3 : Int32} {x4 : Int32} (k_a0 : q_K h.1 a0 = 11) {δ : dp} (I : CI ad h.1 δ0 δ) : ok (D_X11_touches N h.1 a0 x1 x2 x3 x4 δ) (fun r => CI ad h.1 δ0 r.2 ∧ (kp [(1, 3), (1, 4), (1, 5), (1, 6), (1, 7), (1, 8), (1, 9), (1, 10), (1, 11), (1, 12), (1, 13), (1, 14), (1, 15)] δ r.2 ∧ q_V r.2 = q_V δ) ∧ match r.1 with | .inl v => True | .inr n => ((n = 0 ∨ n = 2) ∧ True)) := by
  unfold D_X11_touches
  refine ok_bxv (k_X11_needHouse L hN (a0 := a0) (x1 := x1) k_a0 I) (fun n d hp => (show CI ad h.1 δ0 d ∧ (kp [(1, 3), (1, 4), (1, 5), (1, 6), (1, 7), (1, 8), (1, 9), (1, 10), (1, 11), (1, 12), (1, 13), (1, 14), (1, 15)] δ d ∧ q_V d = q_V δ) ∧ ((n = 0 ∨ n = 2) ∧ True) from ⟨hp.1, ⟨kp_w (by decide) (kp_t kp_r hp.2.1.1), (hp.2.1.2).trans rfl⟩, (by have hq : n = 0 := hp.2.2.1; omega), trivial⟩)) (fun d1 hp2 => ?_)
  obtain ⟨i3, ⟨u4, u5⟩, p6, p7⟩ := hp2
  have u8 := kp_t kp_r u4
  have v9 : q_V d1 = q_V δ := (u5).trans rfl
  have f10 := ti_b x1
  refine ok_bind (k_X11_isCall L hN (x0 := x2)  i3) (fun r11 hr12 => ?_)
  obtain ⟨i13, p14, p15⟩ := hr12
  try rw [i13]
  have f16 := bo_t p14
  have f17 := ti_b r11.1
  have f18 := ti_b x2
  have f19 := ti_b r11.1
  refine ok_ite (fun h20 => ?_) (fun h20 => ?_)
  · have c21 : r11.1.toInt = (0 : Int) := o_eq h20
    unfold J_X11_touches_34
    unfold J_X11_touches_35
    refine ok_bxv (k_X11_need L hN (a0 := a0) (x1 := (0 : Int32)) k_a0 i3) (fun n d hp => (show CI ad h.1 δ0 d ∧ (kp [(1, 3), (1, 4), (1, 5), (1, 6), (1, 7), (1, 8), (1, 9), (1, 10), (1, 11), (1, 12), (1, 13), (1, 14), (1, 15)] δ d ∧ q_V d = q_V δ) ∧ ((n = 0 ∨ n = 2) ∧ True) from ⟨hp.1, ⟨kp_w (by decide) (kp_t u8 hp.2.1.1), (hp.2.1.2).trans v9⟩, (by have hq : n = 2 := hp.2.2.1; omega), trivial⟩)) (fun d22 hp23 => ?_)
    obtain ⟨i24, ⟨u25, u26⟩, p27⟩ := hp23
    have u28 := kp_t u8 u25
    have v29 : q_V d22 = q_V δ := (u26).trans v9
    exact absurd rfl (show (0 : Int) ≠ 0 from p27)
  · have c30 : r11.1.toInt ≠ (0 : Int) := o_ne h20
    refine ok_bind (k_X11_mayAsk L hN (a0 := a0) (x1 := x2) (x2 := x3) k_a0 i3) (fun r31 hr32 => ?_)
    obtain ⟨i33, p34⟩ := hr32
    try rw [i33]
    have f35 := bo_t p34
    have f36 := ti_b r31.1
    refine ok_ite (fun h37 => ?_) (fun h37 => ?_)
    · have c38 : r31.1.toInt = (0 : Int) := o_eq h37
      unfold J_X11_touches_34
      unfold J_X11_touches_35
      refine ok_bxv (k_X11_need L hN (a0 := a0) (x1 := (0 : Int32)) k_a0 i3) (fun n d hp => (show CI ad h.1 δ0 d ∧ (kp [(1, 3), (1, 4), (1, 5), (1, 6), (1, 7), (1, 8), (1, 9), (1, 10), (1, 11), (1, 12), (1, 13), (1, 14), (1, 15)] δ d ∧ q_V d = q_V δ) ∧ ((n = 0 ∨ n = 2) ∧ True) from ⟨hp.1, ⟨kp_w (by decide) (kp_t u8 hp.2.1.1), (hp.2.1.2).trans v9⟩, (by have hq : n = 2 := hp.2.2.1; omega), trivial⟩)) (fun d39 hp40 => ?_)
      obtain ⟨i41, ⟨u42, u43⟩, p44⟩ := hp40
      have u45 := kp_t u8 u42
      have v46 : q_V d39 = q_V δ := (u43).trans v9
      exact absurd rfl (show (0 : Int) ≠ 0 from p44)
    · have c47 : r31.1.toInt ≠ (0 : Int) := o_ne h37
      refine ok_bind (k_X11_isKind L hN (x0 := x4)  i3) (fun r48 hr49 => ?_)
      obtain ⟨i50, p51⟩ := hr49
      try rw [i50]
      have f52 := bo_t p51
      have f53 := ti_b r48.1
      refine ok_ite (fun h54 => ?_) (fun h54 => ?_)
      · have c55 : r48.1.toInt = (0 : Int) := o_eq h54
        unfold J_X11_touches_34
        unfold J_X11_touches_35
        refine ok_bxv (k_X11_need L hN (a0 := a0) (x1 := (0 : Int32)) k_a0 i3) (fun n d hp => (show CI ad h.1 δ0 d ∧ (kp [(1, 3), (1, 4), (1, 5), (1, 6), (1, 7), (1, 8), (1, 9), (1, 10), (1, 11), (1, 12), (1, 13), (1, 14), (1, 15)] δ d ∧ q_V d = q_V δ) ∧ ((n = 0 ∨ n = 2) ∧ True) from ⟨hp.1, ⟨kp_w (by decide) (kp_t u8 hp.2.1.1), (hp.2.1.2).trans v9⟩, (by have hq : n = 2 := hp.2.2.1; omega), trivial⟩)) (fun d56 hp57 => ?_)
        obtain ⟨i58, ⟨u59, u60⟩, p61⟩ := hp57
        have u62 := kp_t u8 u59
        have v63 : q_V d56 = q_V δ := (u60).trans v9
        exact absurd rfl (show (0 : Int) ≠ 0 from p61)
      · have c64 : r48.1.toInt ≠ (0 : Int) := o_ne h54
        unfold J_X11_touches_35
        refine ok_bxv (k_X11_need L hN (a0 := a0) (x1 := (1 : Int32)) k_a0 i3) (fun n d hp => (show CI ad h.1 δ0 d ∧ (kp [(1, 3), (1, 4), (1, 5), (1, 6), (1, 7), (1, 8), (1, 9), (1, 10), (1, 11), (1, 12), (1, 13), (1, 14), (1, 15)] δ d ∧ q_V d = q_V δ) ∧ ((n = 0 ∨ n = 2) ∧ True) from ⟨hp.1, ⟨kp_w (by decide) (kp_t u8 hp.2.1.1), (hp.2.1.2).trans v9⟩, (by have hq : n = 2 := hp.2.2.1; omega), trivial⟩)) (fun d65 hp66 => ?_)
        obtain ⟨i67, ⟨u68, u69⟩, p70⟩ := hp66
        have u71 := kp_t u8 u68
        have v72 : q_V d65 = q_V δ := (u69).trans v9
        replace p70 : (1 : Int) ≠ 0 := p70
        have f73 := ti_b x4
        refine ok_ite (fun h74 => ?_) (fun h74 => ?_)
        · have c75 : x4.toInt = (0 : Int) := o_eq h74
          obtain ⟨b76, o77, k78, n79, w80⟩ := gO_11_6 L k_a0
          refine ok_at o77 ?_
          have t81 := ti_tn x1
          refine ok_gd (fun hc82 => ?_) ?_
          · rcases hc82 with hc82 | hc82
            · have c83 : x1.toInt < (0 : Int) := o_lt hc82
              omega
            · omega
          obtain ⟨b84, o85, k86⟩ := gE_11_6 L k_a0 o77 (i := x1.toNatClampNeg) (by omega)
          refine ok_at o85 ?_
          obtain ⟨b87, o88, k89⟩ := gO_2_1 L k86
          refine ok_at o88 ?_
          obtain ⟨b92, o93, k94⟩ := gO_1_1 L k89
          refine ok_bind (k_X1_touchesOf L hN (a0 := b87) (x1 := x2) (x2 := x3) k89 o93 k94 i67) (fun r90 hr91 => ?_)
          obtain ⟨i95, ⟨u96, u97, u98⟩⟩ := hr91
          have u99 := kp_t u71 u96
          have v100 : q_V r90.2 = q_V δ := (u97).trans v72
          have f101 := ti_b r90.1
          exact ok_some (show CI ad h.1 δ0 r90.2 ∧ (kp [(1, 3), (1, 4), (1, 5), (1, 6), (1, 7), (1, 8), (1, 9), (1, 10), (1, 11), (1, 12), (1, 13), (1, 14), (1, 15)] δ r90.2 ∧ q_V r90.2 = q_V δ) ∧ True from ⟨i95, ⟨kp_w (by decide) u99, v100⟩, trivial⟩)
        · have c102 : x4.toInt ≠ (0 : Int) := o_ne h74
          obtain ⟨b103, o104, k105, n106, w107⟩ := gO_11_6 L k_a0
          refine ok_at o104 ?_
          have t108 := ti_tn x1
          refine ok_gd (fun hc109 => ?_) ?_
          · rcases hc109 with hc109 | hc109
            · have c110 : x1.toInt < (0 : Int) := o_lt hc109
              omega
            · omega
          obtain ⟨b111, o112, k113⟩ := gE_11_6 L k_a0 o104 (i := x1.toNatClampNeg) (by omega)
          refine ok_at o112 ?_
          obtain ⟨b114, o115, k116⟩ := gO_2_0 L k113
          refine ok_at o115 ?_
          refine ok_ite (fun h117 => ?_) (fun h117 => ?_)
          · have c118 : x4.toInt = (1 : Int) := o_eq h117
            obtain ⟨b119, o120, k121⟩ := gO_11_1 L k_a0
            refine ok_at o120 ?_
            refine ok_bind (k_X3_touchesInWords L hN (a0 := b114) (x1 := x2) (x2 := x3) (x3 := (q_I d65 5 0 b119)) k116 i67) (fun r122 hr123 => ?_)
            have i124 := hr123
            try rw [i124]
            have f125 := ti_b r122.1
            unfold J_X11_touches_99
            exact ok_some (show CI ad h.1 δ0 d65 ∧ (kp [(1, 3), (1, 4), (1, 5), (1, 6), (1, 7), (1, 8), (1, 9), (1, 10), (1, 11), (1, 12), (1, 13), (1, 14), (1, 15)] δ d65 ∧ q_V d65 = q_V δ) ∧ True from ⟨i67, ⟨kp_w (by decide) u71, v72⟩, trivial⟩)
          · have c126 : x4.toInt ≠ (1 : Int) := o_ne h117
            refine ok_bind (k_X3_touchesInRow L hN (a0 := b114) (x1 := x2) (x2 := x3) k116 i67) (fun r127 hr128 => ?_)
            have i129 := hr128
            try rw [i129]
            have f130 := ti_b r127.1
            unfold J_X11_touches_99
            exact ok_some (show CI ad h.1 δ0 d65 ∧ (kp [(1, 3), (1, 4), (1, 5), (1, 6), (1, 7), (1, 8), (1, 9), (1, 10), (1, 11), (1, 12), (1, 13), (1, 14), (1, 15)] δ d65 ∧ q_V d65 = q_V δ) ∧ True from ⟨i67, ⟨kp_w (by decide) u71, v72⟩, trivial⟩)
set_option maxHeartbeats 4000000 in
theorem k_X11_joins {ad : List Nat} {h : hp} (L : Lay TLx ad h) {δ0 : dp} {N : Nat} (hN : 10000000 ≤ N) {a0 : Nat} {x1 : Int32} {x2 : Int32} {x3 : Int32} (k_a0 : q_K h.1 a0 = 11) {δ : dp} (I : CI ad h.1 δ0 δ) : ok (D_X11_joins N h.1 a0 x1 x2 x3 δ) (fun r => CI ad h.1 δ0 r.2 ∧ (kp [(1, 3), (1, 4), (1, 5), (1, 6), (1, 7), (1, 8), (1, 9), (1, 10), (1, 11), (1, 12), (1, 13), (1, 14), (1, 15), (2, 4), (3, 1), (4, 16)] δ r.2 ∧ q_V r.2 = q_V δ) ∧ match r.1 with | .inl v => True | .inr n => ((n = 0 ∨ n = 2) ∧ True)) := by
  unfold D_X11_joins
  refine ok_bxv (k_X11_needHouse L hN (a0 := a0) (x1 := x1) k_a0 I) (fun n d hp => (show CI ad h.1 δ0 d ∧ (kp [(1, 3), (1, 4), (1, 5), (1, 6), (1, 7), (1, 8), (1, 9), (1, 10), (1, 11), (1, 12), (1, 13), (1, 14), (1, 15), (2, 4), (3, 1), (4, 16)] δ d ∧ q_V d = q_V δ) ∧ ((n = 0 ∨ n = 2) ∧ True) from ⟨hp.1, ⟨kp_w (by decide) (kp_t kp_r hp.2.1.1), (hp.2.1.2).trans rfl⟩, (by have hq : n = 0 := hp.2.2.1; omega), trivial⟩)) (fun d1 hp2 => ?_)
  obtain ⟨i3, ⟨u4, u5⟩, p6, p7⟩ := hp2
  have u8 := kp_t kp_r u4
  have v9 : q_V d1 = q_V δ := (u5).trans rfl
  have f10 := ti_b x1
  refine ok_bxv (k_X11_needHouse L hN (a0 := a0) (x1 := x2) k_a0 i3) (fun n d hp => (show CI ad h.1 δ0 d ∧ (kp [(1, 3), (1, 4), (1, 5), (1, 6), (1, 7), (1, 8), (1, 9), (1, 10), (1, 11), (1, 12), (1, 13), (1, 14), (1, 15), (2, 4), (3, 1), (4, 16)] δ d ∧ q_V d = q_V δ) ∧ ((n = 0 ∨ n = 2) ∧ True) from ⟨hp.1, ⟨kp_w (by decide) (kp_t u8 hp.2.1.1), (hp.2.1.2).trans v9⟩, (by have hq : n = 0 := hp.2.2.1; omega), trivial⟩)) (fun d11 hp12 => ?_)
  obtain ⟨i13, ⟨u14, u15⟩, p16, p17⟩ := hp12
  have u18 := kp_t u8 u14
  have v19 : q_V d11 = q_V δ := (u15).trans v9
  have f20 := ti_b x2
  refine ok_ite (fun h21 => ?_) (fun h21 => ?_)
  · have c22 : x1.toInt = x2.toInt := o_eq h21
    unfold J_X11_joins_29
    unfold J_X11_joins_30
    refine ok_bxv (k_X11_need L hN (a0 := a0) (x1 := (0 : Int32)) k_a0 i13) (fun n d hp => (show CI ad h.1 δ0 d ∧ (kp [(1, 3), (1, 4), (1, 5), (1, 6), (1, 7), (1, 8), (1, 9), (1, 10), (1, 11), (1, 12), (1, 13), (1, 14), (1, 15), (2, 4), (3, 1), (4, 16)] δ d ∧ q_V d = q_V δ) ∧ ((n = 0 ∨ n = 2) ∧ True) from ⟨hp.1, ⟨kp_w (by decide) (kp_t u18 hp.2.1.1), (hp.2.1.2).trans v19⟩, (by have hq : n = 2 := hp.2.2.1; omega), trivial⟩)) (fun d23 hp24 => ?_)
    obtain ⟨i25, ⟨u26, u27⟩, p28⟩ := hp24
    have u29 := kp_t u18 u26
    have v30 : q_V d23 = q_V δ := (u27).trans v19
    exact absurd rfl (show (0 : Int) ≠ 0 from p28)
  · have c31 : x1.toInt ≠ x2.toInt := o_ne h21
    have f32 := ti_b x3
    refine ok_ite (fun h33 => ?_) (fun h33 => ?_)
    · have c34 : x3.toInt < (0 : Int) := o_lt h33
      unfold J_X11_joins_29
      unfold J_X11_joins_30
      refine ok_bxv (k_X11_need L hN (a0 := a0) (x1 := (0 : Int32)) k_a0 i13) (fun n d hp => (show CI ad h.1 δ0 d ∧ (kp [(1, 3), (1, 4), (1, 5), (1, 6), (1, 7), (1, 8), (1, 9), (1, 10), (1, 11), (1, 12), (1, 13), (1, 14), (1, 15), (2, 4), (3, 1), (4, 16)] δ d ∧ q_V d = q_V δ) ∧ ((n = 0 ∨ n = 2) ∧ True) from ⟨hp.1, ⟨kp_w (by decide) (kp_t u18 hp.2.1.1), (hp.2.1.2).trans v19⟩, (by have hq : n = 2 := hp.2.2.1; omega), trivial⟩)) (fun d35 hp36 => ?_)
      obtain ⟨i37, ⟨u38, u39⟩, p40⟩ := hp36
      have u41 := kp_t u18 u38
      have v42 : q_V d35 = q_V δ := (u39).trans v19
      exact absurd rfl (show (0 : Int) ≠ 0 from p40)
    · have c43 : (0 : Int) ≤ x3.toInt := o_nlt h33
      refine ok_ite (fun h44 => ?_) (fun h44 => ?_)
      · have c45 : (2 : Int) < x3.toInt := o_lt h44
        unfold J_X11_joins_29
        unfold J_X11_joins_30
        refine ok_bxv (k_X11_need L hN (a0 := a0) (x1 := (0 : Int32)) k_a0 i13) (fun n d hp => (show CI ad h.1 δ0 d ∧ (kp [(1, 3), (1, 4), (1, 5), (1, 6), (1, 7), (1, 8), (1, 9), (1, 10), (1, 11), (1, 12), (1, 13), (1, 14), (1, 15), (2, 4), (3, 1), (4, 16)] δ d ∧ q_V d = q_V δ) ∧ ((n = 0 ∨ n = 2) ∧ True) from ⟨hp.1, ⟨kp_w (by decide) (kp_t u18 hp.2.1.1), (hp.2.1.2).trans v19⟩, (by have hq : n = 2 := hp.2.2.1; omega), trivial⟩)) (fun d46 hp47 => ?_)
        obtain ⟨i48, ⟨u49, u50⟩, p51⟩ := hp47
        have u52 := kp_t u18 u49
        have v53 : q_V d46 = q_V δ := (u50).trans v19
        exact absurd rfl (show (0 : Int) ≠ 0 from p51)
      · have c54 : x3.toInt ≤ (2 : Int) := o_nlt h44
        unfold J_X11_joins_30
        refine ok_bxv (k_X11_need L hN (a0 := a0) (x1 := (1 : Int32)) k_a0 i13) (fun n d hp => (show CI ad h.1 δ0 d ∧ (kp [(1, 3), (1, 4), (1, 5), (1, 6), (1, 7), (1, 8), (1, 9), (1, 10), (1, 11), (1, 12), (1, 13), (1, 14), (1, 15), (2, 4), (3, 1), (4, 16)] δ d ∧ q_V d = q_V δ) ∧ ((n = 0 ∨ n = 2) ∧ True) from ⟨hp.1, ⟨kp_w (by decide) (kp_t u18 hp.2.1.1), (hp.2.1.2).trans v19⟩, (by have hq : n = 2 := hp.2.2.1; omega), trivial⟩)) (fun d55 hp56 => ?_)
        obtain ⟨i57, ⟨u58, u59⟩, p60⟩ := hp56
        have u61 := kp_t u18 u58
        have v62 : q_V d55 = q_V δ := (u59).trans v19
        replace p60 : (1 : Int) ≠ 0 := p60
        obtain ⟨b63, o64, k65, n66, w67⟩ := gO_11_6 L k_a0
        refine ok_at o64 ?_
        have t68 := ti_tn x1
        refine ok_gd (fun hc69 => ?_) ?_
        · rcases hc69 with hc69 | hc69
          · have c70 : x1.toInt < (0 : Int) := o_lt hc69
            omega
          · omega
        obtain ⟨b71, o72, k73⟩ := gE_11_6 L k_a0 o64 (i := x1.toNatClampNeg) (by omega)
        refine ok_at o72 ?_
        refine ok_at o64 ?_
        have t74 := ti_tn x2
        refine ok_gd (fun hc75 => ?_) ?_
        · rcases hc75 with hc75 | hc75
          · have c76 : x2.toInt < (0 : Int) := o_lt hc75
            omega
          · omega
        obtain ⟨b77, o78, k79⟩ := gE_11_6 L k_a0 o64 (i := x2.toNatClampNeg) (by omega)
        refine ok_at o78 ?_
        obtain ⟨b80, o81, k82⟩ := gO_2_0 L k79
        refine ok_at o81 ?_
        obtain ⟨b83, o84, k85⟩ := gO_2_0 L k73
        refine ok_at o84 ?_
        refine ok_bind (k_X3_commonFrom L hN (a0 := b83) (x1 := (0 : Int32)) (a2 := b80) k85 k82 (show 0 ≤ (0 : Int) by first | assumption | omega) (show (0 : Int) ≤ 2000 by first | assumption | omega) i57) (fun r86 hr87 => ?_)
        have i88 := hr87
        try rw [i88]
        have f89 := ti_b r86.1
        refine ok_ite (fun h90 => ?_) (fun h90 => ?_)
        · have c91 : x3.toInt = (0 : Int) := o_eq h90
          unfold J_X11_joins_81
          refine ok_ite (fun h92 => ?_) (fun h92 => ?_)
          · have c93 : x3.toInt = (1 : Int) := o_eq h92
            refine ok_at o84 ?_
            unfold J_X11_joins_113
            refine ok_bind (k_X2_refusal L hN (a0 := b71) (x1 := ((q_I d55 3 1 b80) - r86.1)) (x2 := ((q_I d55 3 1 b83) - r86.1)) k73 i57) (fun r94 hr95 => ?_)
            have i96 := hr95
            try rw [i96]
            have f97 := ti_b r94.1
            refine ok_ite (fun h98 => ?_) (fun h98 => ?_)
            · have c99 : (0 : Int) ≤ r94.1.toInt := o_le h98
              obtain ⟨b100, o101, k102⟩ := gO_11_8 L k_a0
              refine ok_at o101 ?_
              refine ok_bind (k_X4_forget L hN (a0 := b100) k102 i57) (fun r103 hr104 => ?_)
              obtain ⟨i105, ⟨u106, u107, u108⟩⟩ := hr104
              have u109 := kp_t u61 u106
              have v110 : q_V r103 = q_V δ := (u107).trans v62
              refine ok_ite (fun h111 => ?_) (fun h111 => ?_)
              · have c112 : x3.toInt = (1 : Int) := o_eq h111
                refine ok_bind (k_X2_dropAllBut L hN (a0 := b71) (a1 := b80) k73 k82 i105) (fun r113 hr114 => ?_)
                obtain ⟨i115, ⟨u116, u117⟩⟩ := hr114
                have u118 := kp_t u109 u116
                have v119 : q_V r113.2 = q_V δ := (u117).trans v110
                have f120 := ti_b r113.1
                exact ok_some (show CI ad h.1 δ0 r113.2 ∧ (kp [(1, 3), (1, 4), (1, 5), (1, 6), (1, 7), (1, 8), (1, 9), (1, 10), (1, 11), (1, 12), (1, 13), (1, 14), (1, 15), (2, 4), (3, 1), (4, 16)] δ r113.2 ∧ q_V r113.2 = q_V δ) ∧ True from ⟨i115, ⟨kp_w (by decide) u118, v119⟩, trivial⟩)
              · have c121 : x3.toInt ≠ (1 : Int) := o_ne h111
                refine ok_ite (fun h122 => ?_) (fun h122 => ?_)
                · have c123 : x3.toInt = (0 : Int) := o_eq h122
                  unfold J_X11_joins_165
                  refine ok_bind (k_X2_makeAll L hN (a0 := b71) (x1 := (0 : Int32)) (a2 := b80) k73 k82 i105) (fun r124 hr125 => ?_)
                  obtain ⟨i126, ⟨u127, u128⟩⟩ := hr125
                  have u129 := kp_t u109 u127
                  have v130 : q_V r124.2 = q_V δ := (u128).trans v110
                  have f131 := ti_b r124.1
                  exact ok_some (show CI ad h.1 δ0 r124.2 ∧ (kp [(1, 3), (1, 4), (1, 5), (1, 6), (1, 7), (1, 8), (1, 9), (1, 10), (1, 11), (1, 12), (1, 13), (1, 14), (1, 15), (2, 4), (3, 1), (4, 16)] δ r124.2 ∧ q_V r124.2 = q_V δ) ∧ True from ⟨i126, ⟨kp_w (by decide) u129, v130⟩, trivial⟩)
                · have c132 : x3.toInt ≠ (0 : Int) := o_ne h122
                  unfold J_X11_joins_165
                  refine ok_bind (k_X2_makeAll L hN (a0 := b71) (x1 := (1 : Int32)) (a2 := b80) k73 k82 i105) (fun r133 hr134 => ?_)
                  obtain ⟨i135, ⟨u136, u137⟩⟩ := hr134
                  have u138 := kp_t u109 u136
                  have v139 : q_V r133.2 = q_V δ := (u137).trans v110
                  have f140 := ti_b r133.1
                  exact ok_some (show CI ad h.1 δ0 r133.2 ∧ (kp [(1, 3), (1, 4), (1, 5), (1, 6), (1, 7), (1, 8), (1, 9), (1, 10), (1, 11), (1, 12), (1, 13), (1, 14), (1, 15), (2, 4), (3, 1), (4, 16)] δ r133.2 ∧ q_V r133.2 = q_V δ) ∧ True from ⟨i135, ⟨kp_w (by decide) u138, v139⟩, trivial⟩)
            · have c141 : r94.1.toInt < (0 : Int) := o_nle h98
              exact ok_some (show CI ad h.1 δ0 d55 ∧ (kp [(1, 3), (1, 4), (1, 5), (1, 6), (1, 7), (1, 8), (1, 9), (1, 10), (1, 11), (1, 12), (1, 13), (1, 14), (1, 15), (2, 4), (3, 1), (4, 16)] δ d55 ∧ q_V d55 = q_V δ) ∧ True from ⟨i57, ⟨kp_w (by decide) u61, v62⟩, trivial⟩)
          · have c142 : x3.toInt ≠ (1 : Int) := o_ne h92
            refine ok_ite (fun h143 => ?_) (fun h143 => ?_)
            · have c144 : x3.toInt = (2 : Int) := o_eq h143
              unfold J_X11_joins_113
              refine ok_bind (k_X2_refusal L hN (a0 := b71) (x1 := ((q_I d55 3 1 b80) - r86.1)) (x2 := r86.1) k73 i57) (fun r145 hr146 => ?_)
              have i147 := hr146
              try rw [i147]
              have f148 := ti_b r145.1
              refine ok_ite (fun h149 => ?_) (fun h149 => ?_)
              · have c150 : (0 : Int) ≤ r145.1.toInt := o_le h149
                obtain ⟨b151, o152, k153⟩ := gO_11_8 L k_a0
                refine ok_at o152 ?_
                refine ok_bind (k_X4_forget L hN (a0 := b151) k153 i57) (fun r154 hr155 => ?_)
                obtain ⟨i156, ⟨u157, u158, u159⟩⟩ := hr155
                have u160 := kp_t u61 u157
                have v161 : q_V r154 = q_V δ := (u158).trans v62
                refine ok_ite (fun h162 => ?_) (fun h162 => ?_)
                · have c163 : x3.toInt = (1 : Int) := o_eq h162
                  refine ok_bind (k_X2_dropAllBut L hN (a0 := b71) (a1 := b80) k73 k82 i156) (fun r164 hr165 => ?_)
                  obtain ⟨i166, ⟨u167, u168⟩⟩ := hr165
                  have u169 := kp_t u160 u167
                  have v170 : q_V r164.2 = q_V δ := (u168).trans v161
                  have f171 := ti_b r164.1
                  exact ok_some (show CI ad h.1 δ0 r164.2 ∧ (kp [(1, 3), (1, 4), (1, 5), (1, 6), (1, 7), (1, 8), (1, 9), (1, 10), (1, 11), (1, 12), (1, 13), (1, 14), (1, 15), (2, 4), (3, 1), (4, 16)] δ r164.2 ∧ q_V r164.2 = q_V δ) ∧ True from ⟨i166, ⟨kp_w (by decide) u169, v170⟩, trivial⟩)
                · have c172 : x3.toInt ≠ (1 : Int) := o_ne h162
                  refine ok_ite (fun h173 => ?_) (fun h173 => ?_)
                  · have c174 : x3.toInt = (0 : Int) := o_eq h173
                    unfold J_X11_joins_165
                    refine ok_bind (k_X2_makeAll L hN (a0 := b71) (x1 := (0 : Int32)) (a2 := b80) k73 k82 i156) (fun r175 hr176 => ?_)
                    obtain ⟨i177, ⟨u178, u179⟩⟩ := hr176
                    have u180 := kp_t u160 u178
                    have v181 : q_V r175.2 = q_V δ := (u179).trans v161
                    have f182 := ti_b r175.1
                    exact ok_some (show CI ad h.1 δ0 r175.2 ∧ (kp [(1, 3), (1, 4), (1, 5), (1, 6), (1, 7), (1, 8), (1, 9), (1, 10), (1, 11), (1, 12), (1, 13), (1, 14), (1, 15), (2, 4), (3, 1), (4, 16)] δ r175.2 ∧ q_V r175.2 = q_V δ) ∧ True from ⟨i177, ⟨kp_w (by decide) u180, v181⟩, trivial⟩)
                  · have c183 : x3.toInt ≠ (0 : Int) := o_ne h173
                    unfold J_X11_joins_165
                    refine ok_bind (k_X2_makeAll L hN (a0 := b71) (x1 := (1 : Int32)) (a2 := b80) k73 k82 i156) (fun r184 hr185 => ?_)
                    obtain ⟨i186, ⟨u187, u188⟩⟩ := hr185
                    have u189 := kp_t u160 u187
                    have v190 : q_V r184.2 = q_V δ := (u188).trans v161
                    have f191 := ti_b r184.1
                    exact ok_some (show CI ad h.1 δ0 r184.2 ∧ (kp [(1, 3), (1, 4), (1, 5), (1, 6), (1, 7), (1, 8), (1, 9), (1, 10), (1, 11), (1, 12), (1, 13), (1, 14), (1, 15), (2, 4), (3, 1), (4, 16)] δ r184.2 ∧ q_V r184.2 = q_V δ) ∧ True from ⟨i186, ⟨kp_w (by decide) u189, v190⟩, trivial⟩)
              · have c192 : r145.1.toInt < (0 : Int) := o_nle h149
                exact ok_some (show CI ad h.1 δ0 d55 ∧ (kp [(1, 3), (1, 4), (1, 5), (1, 6), (1, 7), (1, 8), (1, 9), (1, 10), (1, 11), (1, 12), (1, 13), (1, 14), (1, 15), (2, 4), (3, 1), (4, 16)] δ d55 ∧ q_V d55 = q_V δ) ∧ True from ⟨i57, ⟨kp_w (by decide) u61, v62⟩, trivial⟩)
            · have c193 : x3.toInt ≠ (2 : Int) := o_ne h143
              unfold J_X11_joins_113
              refine ok_bind (k_X2_refusal L hN (a0 := b71) (x1 := ((q_I d55 3 1 b80) - r86.1)) (x2 := (0 : Int32)) k73 i57) (fun r194 hr195 => ?_)
              have i196 := hr195
              try rw [i196]
              have f197 := ti_b r194.1
              refine ok_ite (fun h198 => ?_) (fun h198 => ?_)
              · have c199 : (0 : Int) ≤ r194.1.toInt := o_le h198
                obtain ⟨b200, o201, k202⟩ := gO_11_8 L k_a0
                refine ok_at o201 ?_
                refine ok_bind (k_X4_forget L hN (a0 := b200) k202 i57) (fun r203 hr204 => ?_)
                obtain ⟨i205, ⟨u206, u207, u208⟩⟩ := hr204
                have u209 := kp_t u61 u206
                have v210 : q_V r203 = q_V δ := (u207).trans v62
                refine ok_ite (fun h211 => ?_) (fun h211 => ?_)
                · have c212 : x3.toInt = (1 : Int) := o_eq h211
                  refine ok_bind (k_X2_dropAllBut L hN (a0 := b71) (a1 := b80) k73 k82 i205) (fun r213 hr214 => ?_)
                  obtain ⟨i215, ⟨u216, u217⟩⟩ := hr214
                  have u218 := kp_t u209 u216
                  have v219 : q_V r213.2 = q_V δ := (u217).trans v210
                  have f220 := ti_b r213.1
                  exact ok_some (show CI ad h.1 δ0 r213.2 ∧ (kp [(1, 3), (1, 4), (1, 5), (1, 6), (1, 7), (1, 8), (1, 9), (1, 10), (1, 11), (1, 12), (1, 13), (1, 14), (1, 15), (2, 4), (3, 1), (4, 16)] δ r213.2 ∧ q_V r213.2 = q_V δ) ∧ True from ⟨i215, ⟨kp_w (by decide) u218, v219⟩, trivial⟩)
                · have c221 : x3.toInt ≠ (1 : Int) := o_ne h211
                  refine ok_ite (fun h222 => ?_) (fun h222 => ?_)
                  · have c223 : x3.toInt = (0 : Int) := o_eq h222
                    unfold J_X11_joins_165
                    refine ok_bind (k_X2_makeAll L hN (a0 := b71) (x1 := (0 : Int32)) (a2 := b80) k73 k82 i205) (fun r224 hr225 => ?_)
                    obtain ⟨i226, ⟨u227, u228⟩⟩ := hr225
                    have u229 := kp_t u209 u227
                    have v230 : q_V r224.2 = q_V δ := (u228).trans v210
                    have f231 := ti_b r224.1
                    exact ok_some (show CI ad h.1 δ0 r224.2 ∧ (kp [(1, 3), (1, 4), (1, 5), (1, 6), (1, 7), (1, 8), (1, 9), (1, 10), (1, 11), (1, 12), (1, 13), (1, 14), (1, 15), (2, 4), (3, 1), (4, 16)] δ r224.2 ∧ q_V r224.2 = q_V δ) ∧ True from ⟨i226, ⟨kp_w (by decide) u229, v230⟩, trivial⟩)
                  · have c232 : x3.toInt ≠ (0 : Int) := o_ne h222
                    unfold J_X11_joins_165
                    refine ok_bind (k_X2_makeAll L hN (a0 := b71) (x1 := (1 : Int32)) (a2 := b80) k73 k82 i205) (fun r233 hr234 => ?_)
                    obtain ⟨i235, ⟨u236, u237⟩⟩ := hr234
                    have u238 := kp_t u209 u236
                    have v239 : q_V r233.2 = q_V δ := (u237).trans v210
                    have f240 := ti_b r233.1
                    exact ok_some (show CI ad h.1 δ0 r233.2 ∧ (kp [(1, 3), (1, 4), (1, 5), (1, 6), (1, 7), (1, 8), (1, 9), (1, 10), (1, 11), (1, 12), (1, 13), (1, 14), (1, 15), (2, 4), (3, 1), (4, 16)] δ r233.2 ∧ q_V r233.2 = q_V δ) ∧ True from ⟨i235, ⟨kp_w (by decide) u238, v239⟩, trivial⟩)
              · have c241 : r194.1.toInt < (0 : Int) := o_nle h198
                exact ok_some (show CI ad h.1 δ0 d55 ∧ (kp [(1, 3), (1, 4), (1, 5), (1, 6), (1, 7), (1, 8), (1, 9), (1, 10), (1, 11), (1, 12), (1, 13), (1, 14), (1, 15), (2, 4), (3, 1), (4, 16)] δ d55 ∧ q_V d55 = q_V δ) ∧ True from ⟨i57, ⟨kp_w (by decide) u61, v62⟩, trivial⟩)
        · have c242 : x3.toInt ≠ (0 : Int) := o_ne h90
          unfold J_X11_joins_81
          refine ok_ite (fun h243 => ?_) (fun h243 => ?_)
          · have c244 : x3.toInt = (1 : Int) := o_eq h243
            refine ok_at o84 ?_
            unfold J_X11_joins_113
            refine ok_bind (k_X2_refusal L hN (a0 := b71) (x1 := (0 : Int32)) (x2 := ((q_I d55 3 1 b83) - r86.1)) k73 i57) (fun r245 hr246 => ?_)
            have i247 := hr246
            try rw [i247]
            have f248 := ti_b r245.1
            refine ok_ite (fun h249 => ?_) (fun h249 => ?_)
            · have c250 : (0 : Int) ≤ r245.1.toInt := o_le h249
              obtain ⟨b251, o252, k253⟩ := gO_11_8 L k_a0
              refine ok_at o252 ?_
              refine ok_bind (k_X4_forget L hN (a0 := b251) k253 i57) (fun r254 hr255 => ?_)
              obtain ⟨i256, ⟨u257, u258, u259⟩⟩ := hr255
              have u260 := kp_t u61 u257
              have v261 : q_V r254 = q_V δ := (u258).trans v62
              refine ok_ite (fun h262 => ?_) (fun h262 => ?_)
              · have c263 : x3.toInt = (1 : Int) := o_eq h262
                refine ok_bind (k_X2_dropAllBut L hN (a0 := b71) (a1 := b80) k73 k82 i256) (fun r264 hr265 => ?_)
                obtain ⟨i266, ⟨u267, u268⟩⟩ := hr265
                have u269 := kp_t u260 u267
                have v270 : q_V r264.2 = q_V δ := (u268).trans v261
                have f271 := ti_b r264.1
                exact ok_some (show CI ad h.1 δ0 r264.2 ∧ (kp [(1, 3), (1, 4), (1, 5), (1, 6), (1, 7), (1, 8), (1, 9), (1, 10), (1, 11), (1, 12), (1, 13), (1, 14), (1, 15), (2, 4), (3, 1), (4, 16)] δ r264.2 ∧ q_V r264.2 = q_V δ) ∧ True from ⟨i266, ⟨kp_w (by decide) u269, v270⟩, trivial⟩)
              · have c272 : x3.toInt ≠ (1 : Int) := o_ne h262
                refine ok_ite (fun h273 => ?_) (fun h273 => ?_)
                · have c274 : x3.toInt = (0 : Int) := o_eq h273
                  unfold J_X11_joins_165
                  refine ok_bind (k_X2_makeAll L hN (a0 := b71) (x1 := (0 : Int32)) (a2 := b80) k73 k82 i256) (fun r275 hr276 => ?_)
                  obtain ⟨i277, ⟨u278, u279⟩⟩ := hr276
                  have u280 := kp_t u260 u278
                  have v281 : q_V r275.2 = q_V δ := (u279).trans v261
                  have f282 := ti_b r275.1
                  exact ok_some (show CI ad h.1 δ0 r275.2 ∧ (kp [(1, 3), (1, 4), (1, 5), (1, 6), (1, 7), (1, 8), (1, 9), (1, 10), (1, 11), (1, 12), (1, 13), (1, 14), (1, 15), (2, 4), (3, 1), (4, 16)] δ r275.2 ∧ q_V r275.2 = q_V δ) ∧ True from ⟨i277, ⟨kp_w (by decide) u280, v281⟩, trivial⟩)
                · have c283 : x3.toInt ≠ (0 : Int) := o_ne h273
                  unfold J_X11_joins_165
                  refine ok_bind (k_X2_makeAll L hN (a0 := b71) (x1 := (1 : Int32)) (a2 := b80) k73 k82 i256) (fun r284 hr285 => ?_)
                  obtain ⟨i286, ⟨u287, u288⟩⟩ := hr285
                  have u289 := kp_t u260 u287
                  have v290 : q_V r284.2 = q_V δ := (u288).trans v261
                  have f291 := ti_b r284.1
                  exact ok_some (show CI ad h.1 δ0 r284.2 ∧ (kp [(1, 3), (1, 4), (1, 5), (1, 6), (1, 7), (1, 8), (1, 9), (1, 10), (1, 11), (1, 12), (1, 13), (1, 14), (1, 15), (2, 4), (3, 1), (4, 16)] δ r284.2 ∧ q_V r284.2 = q_V δ) ∧ True from ⟨i286, ⟨kp_w (by decide) u289, v290⟩, trivial⟩)
            · have c292 : r245.1.toInt < (0 : Int) := o_nle h249
              exact ok_some (show CI ad h.1 δ0 d55 ∧ (kp [(1, 3), (1, 4), (1, 5), (1, 6), (1, 7), (1, 8), (1, 9), (1, 10), (1, 11), (1, 12), (1, 13), (1, 14), (1, 15), (2, 4), (3, 1), (4, 16)] δ d55 ∧ q_V d55 = q_V δ) ∧ True from ⟨i57, ⟨kp_w (by decide) u61, v62⟩, trivial⟩)
          · have c293 : x3.toInt ≠ (1 : Int) := o_ne h243
            refine ok_ite (fun h294 => ?_) (fun h294 => ?_)
            · have c295 : x3.toInt = (2 : Int) := o_eq h294
              unfold J_X11_joins_113
              refine ok_bind (k_X2_refusal L hN (a0 := b71) (x1 := (0 : Int32)) (x2 := r86.1) k73 i57) (fun r296 hr297 => ?_)
              have i298 := hr297
              try rw [i298]
              have f299 := ti_b r296.1
              refine ok_ite (fun h300 => ?_) (fun h300 => ?_)
              · have c301 : (0 : Int) ≤ r296.1.toInt := o_le h300
                obtain ⟨b302, o303, k304⟩ := gO_11_8 L k_a0
                refine ok_at o303 ?_
                refine ok_bind (k_X4_forget L hN (a0 := b302) k304 i57) (fun r305 hr306 => ?_)
                obtain ⟨i307, ⟨u308, u309, u310⟩⟩ := hr306
                have u311 := kp_t u61 u308
                have v312 : q_V r305 = q_V δ := (u309).trans v62
                refine ok_ite (fun h313 => ?_) (fun h313 => ?_)
                · have c314 : x3.toInt = (1 : Int) := o_eq h313
                  refine ok_bind (k_X2_dropAllBut L hN (a0 := b71) (a1 := b80) k73 k82 i307) (fun r315 hr316 => ?_)
                  obtain ⟨i317, ⟨u318, u319⟩⟩ := hr316
                  have u320 := kp_t u311 u318
                  have v321 : q_V r315.2 = q_V δ := (u319).trans v312
                  have f322 := ti_b r315.1
                  exact ok_some (show CI ad h.1 δ0 r315.2 ∧ (kp [(1, 3), (1, 4), (1, 5), (1, 6), (1, 7), (1, 8), (1, 9), (1, 10), (1, 11), (1, 12), (1, 13), (1, 14), (1, 15), (2, 4), (3, 1), (4, 16)] δ r315.2 ∧ q_V r315.2 = q_V δ) ∧ True from ⟨i317, ⟨kp_w (by decide) u320, v321⟩, trivial⟩)
                · have c323 : x3.toInt ≠ (1 : Int) := o_ne h313
                  refine ok_ite (fun h324 => ?_) (fun h324 => ?_)
                  · have c325 : x3.toInt = (0 : Int) := o_eq h324
                    unfold J_X11_joins_165
                    refine ok_bind (k_X2_makeAll L hN (a0 := b71) (x1 := (0 : Int32)) (a2 := b80) k73 k82 i307) (fun r326 hr327 => ?_)
                    obtain ⟨i328, ⟨u329, u330⟩⟩ := hr327
                    have u331 := kp_t u311 u329
                    have v332 : q_V r326.2 = q_V δ := (u330).trans v312
                    have f333 := ti_b r326.1
                    exact ok_some (show CI ad h.1 δ0 r326.2 ∧ (kp [(1, 3), (1, 4), (1, 5), (1, 6), (1, 7), (1, 8), (1, 9), (1, 10), (1, 11), (1, 12), (1, 13), (1, 14), (1, 15), (2, 4), (3, 1), (4, 16)] δ r326.2 ∧ q_V r326.2 = q_V δ) ∧ True from ⟨i328, ⟨kp_w (by decide) u331, v332⟩, trivial⟩)
                  · have c334 : x3.toInt ≠ (0 : Int) := o_ne h324
                    unfold J_X11_joins_165
                    refine ok_bind (k_X2_makeAll L hN (a0 := b71) (x1 := (1 : Int32)) (a2 := b80) k73 k82 i307) (fun r335 hr336 => ?_)
                    obtain ⟨i337, ⟨u338, u339⟩⟩ := hr336
                    have u340 := kp_t u311 u338
                    have v341 : q_V r335.2 = q_V δ := (u339).trans v312
                    have f342 := ti_b r335.1
                    exact ok_some (show CI ad h.1 δ0 r335.2 ∧ (kp [(1, 3), (1, 4), (1, 5), (1, 6), (1, 7), (1, 8), (1, 9), (1, 10), (1, 11), (1, 12), (1, 13), (1, 14), (1, 15), (2, 4), (3, 1), (4, 16)] δ r335.2 ∧ q_V r335.2 = q_V δ) ∧ True from ⟨i337, ⟨kp_w (by decide) u340, v341⟩, trivial⟩)
              · have c343 : r296.1.toInt < (0 : Int) := o_nle h300
                exact ok_some (show CI ad h.1 δ0 d55 ∧ (kp [(1, 3), (1, 4), (1, 5), (1, 6), (1, 7), (1, 8), (1, 9), (1, 10), (1, 11), (1, 12), (1, 13), (1, 14), (1, 15), (2, 4), (3, 1), (4, 16)] δ d55 ∧ q_V d55 = q_V δ) ∧ True from ⟨i57, ⟨kp_w (by decide) u61, v62⟩, trivial⟩)
            · have c344 : x3.toInt ≠ (2 : Int) := o_ne h294
              unfold J_X11_joins_113
              refine ok_bind (k_X2_refusal L hN (a0 := b71) (x1 := (0 : Int32)) (x2 := (0 : Int32)) k73 i57) (fun r345 hr346 => ?_)
              have i347 := hr346
              try rw [i347]
              have f348 := ti_b r345.1
              refine ok_ite (fun h349 => ?_) (fun h349 => ?_)
              · have c350 : (0 : Int) ≤ r345.1.toInt := o_le h349
                obtain ⟨b351, o352, k353⟩ := gO_11_8 L k_a0
                refine ok_at o352 ?_
                refine ok_bind (k_X4_forget L hN (a0 := b351) k353 i57) (fun r354 hr355 => ?_)
                obtain ⟨i356, ⟨u357, u358, u359⟩⟩ := hr355
                have u360 := kp_t u61 u357
                have v361 : q_V r354 = q_V δ := (u358).trans v62
                refine ok_ite (fun h362 => ?_) (fun h362 => ?_)
                · have c363 : x3.toInt = (1 : Int) := o_eq h362
                  refine ok_bind (k_X2_dropAllBut L hN (a0 := b71) (a1 := b80) k73 k82 i356) (fun r364 hr365 => ?_)
                  obtain ⟨i366, ⟨u367, u368⟩⟩ := hr365
                  have u369 := kp_t u360 u367
                  have v370 : q_V r364.2 = q_V δ := (u368).trans v361
                  have f371 := ti_b r364.1
                  exact ok_some (show CI ad h.1 δ0 r364.2 ∧ (kp [(1, 3), (1, 4), (1, 5), (1, 6), (1, 7), (1, 8), (1, 9), (1, 10), (1, 11), (1, 12), (1, 13), (1, 14), (1, 15), (2, 4), (3, 1), (4, 16)] δ r364.2 ∧ q_V r364.2 = q_V δ) ∧ True from ⟨i366, ⟨kp_w (by decide) u369, v370⟩, trivial⟩)
                · have c372 : x3.toInt ≠ (1 : Int) := o_ne h362
                  refine ok_ite (fun h373 => ?_) (fun h373 => ?_)
                  · have c374 : x3.toInt = (0 : Int) := o_eq h373
                    unfold J_X11_joins_165
                    refine ok_bind (k_X2_makeAll L hN (a0 := b71) (x1 := (0 : Int32)) (a2 := b80) k73 k82 i356) (fun r375 hr376 => ?_)
                    obtain ⟨i377, ⟨u378, u379⟩⟩ := hr376
                    have u380 := kp_t u360 u378
                    have v381 : q_V r375.2 = q_V δ := (u379).trans v361
                    have f382 := ti_b r375.1
                    exact ok_some (show CI ad h.1 δ0 r375.2 ∧ (kp [(1, 3), (1, 4), (1, 5), (1, 6), (1, 7), (1, 8), (1, 9), (1, 10), (1, 11), (1, 12), (1, 13), (1, 14), (1, 15), (2, 4), (3, 1), (4, 16)] δ r375.2 ∧ q_V r375.2 = q_V δ) ∧ True from ⟨i377, ⟨kp_w (by decide) u380, v381⟩, trivial⟩)
                  · have c383 : x3.toInt ≠ (0 : Int) := o_ne h373
                    unfold J_X11_joins_165
                    refine ok_bind (k_X2_makeAll L hN (a0 := b71) (x1 := (1 : Int32)) (a2 := b80) k73 k82 i356) (fun r384 hr385 => ?_)
                    obtain ⟨i386, ⟨u387, u388⟩⟩ := hr385
                    have u389 := kp_t u360 u387
                    have v390 : q_V r384.2 = q_V δ := (u388).trans v361
                    have f391 := ti_b r384.1
                    exact ok_some (show CI ad h.1 δ0 r384.2 ∧ (kp [(1, 3), (1, 4), (1, 5), (1, 6), (1, 7), (1, 8), (1, 9), (1, 10), (1, 11), (1, 12), (1, 13), (1, 14), (1, 15), (2, 4), (3, 1), (4, 16)] δ r384.2 ∧ q_V r384.2 = q_V δ) ∧ True from ⟨i386, ⟨kp_w (by decide) u389, v390⟩, trivial⟩)
              · have c392 : r345.1.toInt < (0 : Int) := o_nle h349
                exact ok_some (show CI ad h.1 δ0 d55 ∧ (kp [(1, 3), (1, 4), (1, 5), (1, 6), (1, 7), (1, 8), (1, 9), (1, 10), (1, 11), (1, 12), (1, 13), (1, 14), (1, 15), (2, 4), (3, 1), (4, 16)] δ d55 ∧ q_V d55 = q_V δ) ∧ True from ⟨i57, ⟨kp_w (by decide) u61, v62⟩, trivial⟩)
set_option maxHeartbeats 4000000 in
theorem k_X11_put {ad : List Nat} {h : hp} (L : Lay TLx ad h) {δ0 : dp} {N : Nat} (hN : 10000000 ≤ N) {a0 : Nat} {x1 : Int32} {x2 : Int32} (k_a0 : q_K h.1 a0 = 11) {δ : dp} (I : CI ad h.1 δ0 δ) : ok (D_X11_put N h.1 a0 x1 x2 δ) (fun r => CI ad h.1 δ0 r.2 ∧ (kp [(1, 3), (1, 4), (1, 5), (1, 6), (1, 7), (1, 8), (1, 9), (1, 10), (1, 11), (1, 12), (1, 13), (1, 14), (1, 15), (2, 4), (3, 1), (4, 16)] δ r.2 ∧ q_V r.2 = q_V δ) ∧ match r.1 with | .inl v => True | .inr n => ((n = 0 ∨ n = 2) ∧ True)) := by
  unfold D_X11_put
  refine ok_bxv (k_X11_needHouse L hN (a0 := a0) (x1 := x1) k_a0 I) (fun n d hp => (show CI ad h.1 δ0 d ∧ (kp [(1, 3), (1, 4), (1, 5), (1, 6), (1, 7), (1, 8), (1, 9), (1, 10), (1, 11), (1, 12), (1, 13), (1, 14), (1, 15), (2, 4), (3, 1), (4, 16)] δ d ∧ q_V d = q_V δ) ∧ ((n = 0 ∨ n = 2) ∧ True) from ⟨hp.1, ⟨kp_w (by decide) (kp_t kp_r hp.2.1.1), (hp.2.1.2).trans rfl⟩, (by have hq : n = 0 := hp.2.2.1; omega), trivial⟩)) (fun d1 hp2 => ?_)
  obtain ⟨i3, ⟨u4, u5⟩, p6, p7⟩ := hp2
  have u8 := kp_t kp_r u4
  have v9 : q_V d1 = q_V δ := (u5).trans rfl
  have f10 := ti_b x1
  refine ok_bxv (k_X11_needNumber L hN (a0 := a0) (x1 := x2) k_a0 i3) (fun n d hp => (show CI ad h.1 δ0 d ∧ (kp [(1, 3), (1, 4), (1, 5), (1, 6), (1, 7), (1, 8), (1, 9), (1, 10), (1, 11), (1, 12), (1, 13), (1, 14), (1, 15), (2, 4), (3, 1), (4, 16)] δ d ∧ q_V d = q_V δ) ∧ ((n = 0 ∨ n = 2) ∧ True) from ⟨hp.1, ⟨kp_w (by decide) (kp_t u8 hp.2.1.1), (hp.2.1.2).trans v9⟩, (by have hq : n = 2 := hp.2.2.1; omega), trivial⟩)) (fun d11 hp12 => ?_)
  obtain ⟨i13, ⟨u14, u15⟩, p16⟩ := hp12
  have u17 := kp_t u8 u14
  have v18 : q_V d11 = q_V δ := (u15).trans v9
  obtain ⟨b19, o20, k21⟩ := gO_11_8 L k_a0
  refine ok_at o20 ?_
  refine ok_bind (k_X4_forget L hN (a0 := b19) k21 i13) (fun r22 hr23 => ?_)
  obtain ⟨i24, ⟨u25, u26, u27⟩⟩ := hr23
  have u28 := kp_t u17 u25
  have v29 : q_V r22 = q_V δ := (u26).trans v18
  obtain ⟨b30, o31, k32, n33, w34⟩ := gO_11_6 L k_a0
  refine ok_at o31 ?_
  have t35 := ti_tn x1
  refine ok_gd (fun hc36 => ?_) ?_
  · rcases hc36 with hc36 | hc36
    · have c37 : x1.toInt < (0 : Int) := o_lt hc36
      omega
    · omega
  obtain ⟨b38, o39, k40⟩ := gE_11_6 L k_a0 o31 (i := x1.toNatClampNeg) (by omega)
  refine ok_at o39 ?_
  refine ok_bind (k_X2_change L hN (a0 := b38) (x1 := (0 : Int32)) (x2 := x2) k40 i24) (fun r41 hr42 => ?_)
  obtain ⟨i43, ⟨u44, u45⟩⟩ := hr42
  have u46 := kp_t u28 u44
  have v47 : q_V r41.2 = q_V δ := (u45).trans v29
  have f48 := ti_b r41.1
  exact ok_some (show CI ad h.1 δ0 r41.2 ∧ (kp [(1, 3), (1, 4), (1, 5), (1, 6), (1, 7), (1, 8), (1, 9), (1, 10), (1, 11), (1, 12), (1, 13), (1, 14), (1, 15), (2, 4), (3, 1), (4, 16)] δ r41.2 ∧ q_V r41.2 = q_V δ) ∧ True from ⟨i43, ⟨kp_w (by decide) u46, v47⟩, trivial⟩)
set_option maxHeartbeats 4000000 in
theorem k_X11_drop {ad : List Nat} {h : hp} (L : Lay TLx ad h) {δ0 : dp} {N : Nat} (hN : 10000000 ≤ N) {a0 : Nat} {x1 : Int32} {x2 : Int32} (k_a0 : q_K h.1 a0 = 11) {δ : dp} (I : CI ad h.1 δ0 δ) : ok (D_X11_drop N h.1 a0 x1 x2 δ) (fun r => CI ad h.1 δ0 r.2 ∧ (kp [(1, 3), (1, 4), (1, 5), (1, 6), (1, 7), (1, 8), (1, 9), (1, 10), (1, 11), (1, 12), (1, 13), (1, 14), (1, 15), (2, 4), (3, 1), (4, 16)] δ r.2 ∧ q_V r.2 = q_V δ) ∧ match r.1 with | .inl v => True | .inr n => ((n = 0 ∨ n = 2) ∧ True)) := by
  unfold D_X11_drop
  refine ok_bxv (k_X11_needHouse L hN (a0 := a0) (x1 := x1) k_a0 I) (fun n d hp => (show CI ad h.1 δ0 d ∧ (kp [(1, 3), (1, 4), (1, 5), (1, 6), (1, 7), (1, 8), (1, 9), (1, 10), (1, 11), (1, 12), (1, 13), (1, 14), (1, 15), (2, 4), (3, 1), (4, 16)] δ d ∧ q_V d = q_V δ) ∧ ((n = 0 ∨ n = 2) ∧ True) from ⟨hp.1, ⟨kp_w (by decide) (kp_t kp_r hp.2.1.1), (hp.2.1.2).trans rfl⟩, (by have hq : n = 0 := hp.2.2.1; omega), trivial⟩)) (fun d1 hp2 => ?_)
  obtain ⟨i3, ⟨u4, u5⟩, p6, p7⟩ := hp2
  have u8 := kp_t kp_r u4
  have v9 : q_V d1 = q_V δ := (u5).trans rfl
  have f10 := ti_b x1
  refine ok_bxv (k_X11_needNumber L hN (a0 := a0) (x1 := x2) k_a0 i3) (fun n d hp => (show CI ad h.1 δ0 d ∧ (kp [(1, 3), (1, 4), (1, 5), (1, 6), (1, 7), (1, 8), (1, 9), (1, 10), (1, 11), (1, 12), (1, 13), (1, 14), (1, 15), (2, 4), (3, 1), (4, 16)] δ d ∧ q_V d = q_V δ) ∧ ((n = 0 ∨ n = 2) ∧ True) from ⟨hp.1, ⟨kp_w (by decide) (kp_t u8 hp.2.1.1), (hp.2.1.2).trans v9⟩, (by have hq : n = 2 := hp.2.2.1; omega), trivial⟩)) (fun d11 hp12 => ?_)
  obtain ⟨i13, ⟨u14, u15⟩, p16⟩ := hp12
  have u17 := kp_t u8 u14
  have v18 : q_V d11 = q_V δ := (u15).trans v9
  obtain ⟨b19, o20, k21⟩ := gO_11_8 L k_a0
  refine ok_at o20 ?_
  refine ok_bind (k_X4_forget L hN (a0 := b19) k21 i13) (fun r22 hr23 => ?_)
  obtain ⟨i24, ⟨u25, u26, u27⟩⟩ := hr23
  have u28 := kp_t u17 u25
  have v29 : q_V r22 = q_V δ := (u26).trans v18
  obtain ⟨b30, o31, k32, n33, w34⟩ := gO_11_6 L k_a0
  refine ok_at o31 ?_
  have t35 := ti_tn x1
  refine ok_gd (fun hc36 => ?_) ?_
  · rcases hc36 with hc36 | hc36
    · have c37 : x1.toInt < (0 : Int) := o_lt hc36
      omega
    · omega
  obtain ⟨b38, o39, k40⟩ := gE_11_6 L k_a0 o31 (i := x1.toNatClampNeg) (by omega)
  refine ok_at o39 ?_
  refine ok_bind (k_X2_change L hN (a0 := b38) (x1 := (1 : Int32)) (x2 := x2) k40 i24) (fun r41 hr42 => ?_)
  obtain ⟨i43, ⟨u44, u45⟩⟩ := hr42
  have u46 := kp_t u28 u44
  have v47 : q_V r41.2 = q_V δ := (u45).trans v29
  have f48 := ti_b r41.1
  exact ok_some (show CI ad h.1 δ0 r41.2 ∧ (kp [(1, 3), (1, 4), (1, 5), (1, 6), (1, 7), (1, 8), (1, 9), (1, 10), (1, 11), (1, 12), (1, 13), (1, 14), (1, 15), (2, 4), (3, 1), (4, 16)] δ r41.2 ∧ q_V r41.2 = q_V δ) ∧ True from ⟨i43, ⟨kp_w (by decide) u46, v47⟩, trivial⟩)
set_option maxHeartbeats 4000000 in
theorem k_X11_row {ad : List Nat} {h : hp} (L : Lay TLx ad h) {δ0 : dp} {N : Nat} (hN : 10000000 ≤ N) {a0 : Nat} {x1 : Int32} (k_a0 : q_K h.1 a0 = 11) {δ : dp} (I : CI ad h.1 δ0 δ) : ok (D_X11_row N h.1 a0 x1 δ) (fun r => CI ad h.1 δ0 r.2 ∧ (kp [(0, 4), (0, 6), (0, 7), (1, 3), (1, 4), (1, 5), (1, 6), (1, 7), (1, 8), (1, 9), (1, 10), (1, 11), (1, 12), (1, 13), (1, 14), (1, 15), (3, 1)] δ r.2 ∧ q_V r.2 = q_V δ) ∧ match r.1 with | .inl v => True | .inr n => ((n = 2) ∧ True)) := by
  unfold D_X11_row
  obtain ⟨b1, o2, k3⟩ := gO_11_1 L k_a0
  refine ok_at o2 ?_
  refine ok_bind (k_X5_isSmall L hN (a0 := b1) k3 I) (fun r4 hr5 => ?_)
  obtain ⟨i6, p7, p8⟩ := hr5
  try rw [i6]
  have f9 := bo_t p7
  have f10 := ti_b r4.1
  have f11 := cb_5_0 I k3
  have f12 := ti_b r4.1
  refine ok_ite (fun h13 => ?_) (fun h13 => ?_)
  · have c14 : r4.1.toInt = (0 : Int) := o_eq h13
    unfold J_X11_row_31
    unfold J_X11_row_32
    refine ok_bxv (k_X11_need L hN (a0 := a0) (x1 := (0 : Int32)) k_a0 I) (fun n d hp => (show CI ad h.1 δ0 d ∧ (kp [(0, 4), (0, 6), (0, 7), (1, 3), (1, 4), (1, 5), (1, 6), (1, 7), (1, 8), (1, 9), (1, 10), (1, 11), (1, 12), (1, 13), (1, 14), (1, 15), (3, 1)] δ d ∧ q_V d = q_V δ) ∧ ((n = 2) ∧ True) from ⟨hp.1, ⟨kp_w (by decide) (kp_t kp_r hp.2.1.1), (hp.2.1.2).trans rfl⟩, (by have hq : n = 2 := hp.2.2.1; omega), trivial⟩)) (fun d15 hp16 => ?_)
    obtain ⟨i17, ⟨u18, u19⟩, p20⟩ := hp16
    have u21 := kp_t kp_r u18
    have v22 : q_V d15 = q_V δ := (u19).trans rfl
    exact absurd rfl (show (0 : Int) ≠ 0 from p20)
  · have c23 : r4.1.toInt ≠ (0 : Int) := o_ne h13
    have f24 := ti_b x1
    refine ok_ite (fun h25 => ?_) (fun h25 => ?_)
    · have c26 : x1.toInt < (1 : Int) := o_lt h25
      unfold J_X11_row_31
      unfold J_X11_row_32
      refine ok_bxv (k_X11_need L hN (a0 := a0) (x1 := (0 : Int32)) k_a0 I) (fun n d hp => (show CI ad h.1 δ0 d ∧ (kp [(0, 4), (0, 6), (0, 7), (1, 3), (1, 4), (1, 5), (1, 6), (1, 7), (1, 8), (1, 9), (1, 10), (1, 11), (1, 12), (1, 13), (1, 14), (1, 15), (3, 1)] δ d ∧ q_V d = q_V δ) ∧ ((n = 2) ∧ True) from ⟨hp.1, ⟨kp_w (by decide) (kp_t kp_r hp.2.1.1), (hp.2.1.2).trans rfl⟩, (by have hq : n = 2 := hp.2.2.1; omega), trivial⟩)) (fun d27 hp28 => ?_)
      obtain ⟨i29, ⟨u30, u31⟩, p32⟩ := hp28
      have u33 := kp_t kp_r u30
      have v34 : q_V d27 = q_V δ := (u31).trans rfl
      exact absurd rfl (show (0 : Int) ≠ 0 from p32)
    · have c35 : (1 : Int) ≤ x1.toInt := o_nlt h25
      refine ok_at o2 ?_
      refine ok_bind (k_X5_mostInRows L hN (a0 := b1) k3 I) (fun r36 hr37 => ?_)
      obtain ⟨i38, p39⟩ := hr37
      try rw [i38]
      have f40 := ti_b r36.1
      have f41 := ti_b r36.1
      refine ok_ite (fun h42 => ?_) (fun h42 => ?_)
      · have c43 : r36.1.toInt < x1.toInt := o_lt h42
        unfold J_X11_row_31
        unfold J_X11_row_32
        refine ok_bxv (k_X11_need L hN (a0 := a0) (x1 := (0 : Int32)) k_a0 I) (fun n d hp => (show CI ad h.1 δ0 d ∧ (kp [(0, 4), (0, 6), (0, 7), (1, 3), (1, 4), (1, 5), (1, 6), (1, 7), (1, 8), (1, 9), (1, 10), (1, 11), (1, 12), (1, 13), (1, 14), (1, 15), (3, 1)] δ d ∧ q_V d = q_V δ) ∧ ((n = 2) ∧ True) from ⟨hp.1, ⟨kp_w (by decide) (kp_t kp_r hp.2.1.1), (hp.2.1.2).trans rfl⟩, (by have hq : n = 2 := hp.2.2.1; omega), trivial⟩)) (fun d44 hp45 => ?_)
        obtain ⟨i46, ⟨u47, u48⟩, p49⟩ := hp45
        have u50 := kp_t kp_r u47
        have v51 : q_V d44 = q_V δ := (u48).trans rfl
        exact absurd rfl (show (0 : Int) ≠ 0 from p49)
      · have c52 : x1.toInt ≤ r36.1.toInt := o_nlt h42
        unfold J_X11_row_32
        refine ok_bxv (k_X11_need L hN (a0 := a0) (x1 := (1 : Int32)) k_a0 I) (fun n d hp => (show CI ad h.1 δ0 d ∧ (kp [(0, 4), (0, 6), (0, 7), (1, 3), (1, 4), (1, 5), (1, 6), (1, 7), (1, 8), (1, 9), (1, 10), (1, 11), (1, 12), (1, 13), (1, 14), (1, 15), (3, 1)] δ d ∧ q_V d = q_V δ) ∧ ((n = 2) ∧ True) from ⟨hp.1, ⟨kp_w (by decide) (kp_t kp_r hp.2.1.1), (hp.2.1.2).trans rfl⟩, (by have hq : n = 2 := hp.2.2.1; omega), trivial⟩)) (fun d53 hp54 => ?_)
        obtain ⟨i55, ⟨u56, u57⟩, p58⟩ := hp54
        have u59 := kp_t kp_r u56
        have v60 : q_V d53 = q_V δ := (u57).trans rfl
        replace p58 : (1 : Int) ≠ 0 := p58
        obtain ⟨b61, o62, k63⟩ := gO_11_10 L k_a0
        refine ok_at o62 ?_
        refine ok_bind (k_X0_learn L hN (a0 := b61) (x1 := x1) k63 (show 0 ≤ (x1).toInt by first | assumption | omega) (show (x1).toInt ≤ 6 by first | assumption | omega) i55) (fun r64 hr65 => ?_)
        obtain ⟨i66, ⟨u67, u68⟩⟩ := hr65
        have u69 := kp_t u59 u67
        have v70 : q_V r64.2 = q_V δ := (u68).trans v60
        have f71 := ti_b r64.1
        exact ok_some (show CI ad h.1 δ0 r64.2 ∧ (kp [(0, 4), (0, 6), (0, 7), (1, 3), (1, 4), (1, 5), (1, 6), (1, 7), (1, 8), (1, 9), (1, 10), (1, 11), (1, 12), (1, 13), (1, 14), (1, 15), (3, 1)] δ r64.2 ∧ q_V r64.2 = q_V δ) ∧ True from ⟨i66, ⟨kp_w (by decide) u69, v70⟩, trivial⟩)
set_option maxHeartbeats 4000000 in
theorem k_X11_rowCall {ad : List Nat} {h : hp} (L : Lay TLx ad h) {δ0 : dp} {N : Nat} (hN : 10000000 ≤ N) {a0 : Nat} {x1 : Int32} {x2 : Int32} (k_a0 : q_K h.1 a0 = 11) {δ : dp} (I : CI ad h.1 δ0 δ) : ok (D_X11_rowCall N h.1 a0 x1 x2 δ) (fun r => CI ad h.1 δ0 r.2 ∧ (kp [(0, 4), (0, 6), (0, 7), (1, 3), (1, 4), (1, 5), (1, 6), (1, 7), (1, 8), (1, 9), (1, 10), (1, 11), (1, 12), (1, 13), (1, 14), (1, 15), (3, 1)] δ r.2 ∧ q_V r.2 = q_V δ) ∧ match r.1 with | .inl v => True | .inr n => ((n = 2) ∧ True)) := by
  unfold D_X11_rowCall
  obtain ⟨b1, o2, k3⟩ := gO_11_1 L k_a0
  refine ok_at o2 ?_
  refine ok_bind (k_X5_isSmall L hN (a0 := b1) k3 I) (fun r4 hr5 => ?_)
  obtain ⟨i6, p7, p8⟩ := hr5
  try rw [i6]
  have f9 := bo_t p7
  have f10 := ti_b r4.1
  have f11 := cb_5_0 I k3
  have f12 := ti_b r4.1
  refine ok_ite (fun h13 => ?_) (fun h13 => ?_)
  · have c14 : r4.1.toInt = (0 : Int) := o_eq h13
    unfold J_X11_rowCall_31
    unfold J_X11_rowCall_32
    refine ok_bxv (k_X11_need L hN (a0 := a0) (x1 := (0 : Int32)) k_a0 I) (fun n d hp => (show CI ad h.1 δ0 d ∧ (kp [(0, 4), (0, 6), (0, 7), (1, 3), (1, 4), (1, 5), (1, 6), (1, 7), (1, 8), (1, 9), (1, 10), (1, 11), (1, 12), (1, 13), (1, 14), (1, 15), (3, 1)] δ d ∧ q_V d = q_V δ) ∧ ((n = 2) ∧ True) from ⟨hp.1, ⟨kp_w (by decide) (kp_t kp_r hp.2.1.1), (hp.2.1.2).trans rfl⟩, (by have hq : n = 2 := hp.2.2.1; omega), trivial⟩)) (fun d15 hp16 => ?_)
    obtain ⟨i17, ⟨u18, u19⟩, p20⟩ := hp16
    have u21 := kp_t kp_r u18
    have v22 : q_V d15 = q_V δ := (u19).trans rfl
    exact absurd rfl (show (0 : Int) ≠ 0 from p20)
  · have c23 : r4.1.toInt ≠ (0 : Int) := o_ne h13
    have f24 := ti_b x1
    refine ok_ite (fun h25 => ?_) (fun h25 => ?_)
    · have c26 : x1.toInt < (1 : Int) := o_lt h25
      unfold J_X11_rowCall_31
      unfold J_X11_rowCall_32
      refine ok_bxv (k_X11_need L hN (a0 := a0) (x1 := (0 : Int32)) k_a0 I) (fun n d hp => (show CI ad h.1 δ0 d ∧ (kp [(0, 4), (0, 6), (0, 7), (1, 3), (1, 4), (1, 5), (1, 6), (1, 7), (1, 8), (1, 9), (1, 10), (1, 11), (1, 12), (1, 13), (1, 14), (1, 15), (3, 1)] δ d ∧ q_V d = q_V δ) ∧ ((n = 2) ∧ True) from ⟨hp.1, ⟨kp_w (by decide) (kp_t kp_r hp.2.1.1), (hp.2.1.2).trans rfl⟩, (by have hq : n = 2 := hp.2.2.1; omega), trivial⟩)) (fun d27 hp28 => ?_)
      obtain ⟨i29, ⟨u30, u31⟩, p32⟩ := hp28
      have u33 := kp_t kp_r u30
      have v34 : q_V d27 = q_V δ := (u31).trans rfl
      exact absurd rfl (show (0 : Int) ≠ 0 from p32)
    · have c35 : (1 : Int) ≤ x1.toInt := o_nlt h25
      refine ok_at o2 ?_
      refine ok_bind (k_X5_mostInRows L hN (a0 := b1) k3 I) (fun r36 hr37 => ?_)
      obtain ⟨i38, p39⟩ := hr37
      try rw [i38]
      have f40 := ti_b r36.1
      have f41 := ti_b r36.1
      refine ok_ite (fun h42 => ?_) (fun h42 => ?_)
      · have c43 : r36.1.toInt < x1.toInt := o_lt h42
        unfold J_X11_rowCall_31
        unfold J_X11_rowCall_32
        refine ok_bxv (k_X11_need L hN (a0 := a0) (x1 := (0 : Int32)) k_a0 I) (fun n d hp => (show CI ad h.1 δ0 d ∧ (kp [(0, 4), (0, 6), (0, 7), (1, 3), (1, 4), (1, 5), (1, 6), (1, 7), (1, 8), (1, 9), (1, 10), (1, 11), (1, 12), (1, 13), (1, 14), (1, 15), (3, 1)] δ d ∧ q_V d = q_V δ) ∧ ((n = 2) ∧ True) from ⟨hp.1, ⟨kp_w (by decide) (kp_t kp_r hp.2.1.1), (hp.2.1.2).trans rfl⟩, (by have hq : n = 2 := hp.2.2.1; omega), trivial⟩)) (fun d44 hp45 => ?_)
        obtain ⟨i46, ⟨u47, u48⟩, p49⟩ := hp45
        have u50 := kp_t kp_r u47
        have v51 : q_V d44 = q_V δ := (u48).trans rfl
        exact absurd rfl (show (0 : Int) ≠ 0 from p49)
      · have c52 : x1.toInt ≤ r36.1.toInt := o_nlt h42
        unfold J_X11_rowCall_32
        refine ok_bxv (k_X11_need L hN (a0 := a0) (x1 := (1 : Int32)) k_a0 I) (fun n d hp => (show CI ad h.1 δ0 d ∧ (kp [(0, 4), (0, 6), (0, 7), (1, 3), (1, 4), (1, 5), (1, 6), (1, 7), (1, 8), (1, 9), (1, 10), (1, 11), (1, 12), (1, 13), (1, 14), (1, 15), (3, 1)] δ d ∧ q_V d = q_V δ) ∧ ((n = 2) ∧ True) from ⟨hp.1, ⟨kp_w (by decide) (kp_t kp_r hp.2.1.1), (hp.2.1.2).trans rfl⟩, (by have hq : n = 2 := hp.2.2.1; omega), trivial⟩)) (fun d53 hp54 => ?_)
        obtain ⟨i55, ⟨u56, u57⟩, p58⟩ := hp54
        have u59 := kp_t kp_r u56
        have v60 : q_V d53 = q_V δ := (u57).trans rfl
        replace p58 : (1 : Int) ≠ 0 := p58
        obtain ⟨b61, o62, k63⟩ := gO_11_10 L k_a0
        refine ok_at o62 ?_
        refine ok_bind (k_X0_learn L hN (a0 := b61) (x1 := x1) k63 (show 0 ≤ (x1).toInt by first | assumption | omega) (show (x1).toInt ≤ 6 by first | assumption | omega) i55) (fun r64 hr65 => ?_)
        obtain ⟨i66, ⟨u67, u68⟩⟩ := hr65
        have u69 := kp_t u59 u67
        have v70 : q_V r64.2 = q_V δ := (u68).trans v60
        have f71 := ti_b r64.1
        refine ok_at o62 ?_
        refine ok_bind (k_X0_callAt L hN (a0 := b61) (x1 := x1) (x2 := x2) k63 (show (x1).toInt ≤ 6 by first | assumption | omega) i66) (fun r72 hr73 => ?_)
        have i74 := hr73
        try rw [i74]
        have f75 := ti_b r72.1
        exact ok_some (show CI ad h.1 δ0 r64.2 ∧ (kp [(0, 4), (0, 6), (0, 7), (1, 3), (1, 4), (1, 5), (1, 6), (1, 7), (1, 8), (1, 9), (1, 10), (1, 11), (1, 12), (1, 13), (1, 14), (1, 15), (3, 1)] δ r64.2 ∧ q_V r64.2 = q_V δ) ∧ True from ⟨i66, ⟨kp_w (by decide) u69, v70⟩, trivial⟩)
set_option maxHeartbeats 4000000 in
theorem k_X11_worst {ad : List Nat} {h : hp} (L : Lay TLx ad h) {δ0 : dp} {N : Nat} (hN : 10000000 ≤ N) {a0 : Nat} {x1 : Int32} {x2 : Int32} {x3 : Int32} (k_a0 : q_K h.1 a0 = 11) {δ : dp} (I : CI ad h.1 δ0 δ) : ok (D_X11_worst N h.1 a0 x1 x2 x3 δ) (fun r => CI ad h.1 δ0 r.2 ∧ (kp [(1, 3), (1, 4), (1, 5), (1, 6), (1, 7), (1, 8), (1, 9), (1, 10), (1, 11), (1, 12), (1, 13), (1, 14), (1, 15), (3, 1)] δ r.2 ∧ q_V r.2 = q_V δ) ∧ match r.1 with | .inl v => True | .inr n => ((n = 2) ∧ True)) := by
  unfold D_X11_worst
  refine ok_bind (k_X11_mayGoThroughAll L hN (a0 := a0) (x1 := x1) (x2 := x2) k_a0 I) (fun r1 hr2 => ?_)
  obtain ⟨i3, p4, p5⟩ := hr2
  try rw [i3]
  have f6 := bo_t p4
  have f7 := ti_b r1.1
  have f8 := ti_b x1
  have f9 := ti_b x2
  have f10 := ti_b r1.1
  refine ok_ite (fun h11 => ?_) (fun h11 => ?_)
  · have c12 : r1.1.toInt = (0 : Int) := o_eq h11
    unfold J_X11_worst_23
    unfold J_X11_worst_24
    refine ok_bxv (k_X11_need L hN (a0 := a0) (x1 := (0 : Int32)) k_a0 I) (fun n d hp => (show CI ad h.1 δ0 d ∧ (kp [(1, 3), (1, 4), (1, 5), (1, 6), (1, 7), (1, 8), (1, 9), (1, 10), (1, 11), (1, 12), (1, 13), (1, 14), (1, 15), (3, 1)] δ d ∧ q_V d = q_V δ) ∧ ((n = 2) ∧ True) from ⟨hp.1, ⟨kp_w (by decide) (kp_t kp_r hp.2.1.1), (hp.2.1.2).trans rfl⟩, (by have hq : n = 2 := hp.2.2.1; omega), trivial⟩)) (fun d13 hp14 => ?_)
    obtain ⟨i15, ⟨u16, u17⟩, p18⟩ := hp14
    have u19 := kp_t kp_r u16
    have v20 : q_V d13 = q_V δ := (u17).trans rfl
    exact absurd rfl (show (0 : Int) ≠ 0 from p18)
  · have c21 : r1.1.toInt ≠ (0 : Int) := o_ne h11
    have f22 := ti_b x3
    refine ok_ite (fun h23 => ?_) (fun h23 => ?_)
    · have c24 : x3.toInt < (0 : Int) := o_lt h23
      unfold J_X11_worst_23
      unfold J_X11_worst_24
      refine ok_bxv (k_X11_need L hN (a0 := a0) (x1 := (0 : Int32)) k_a0 I) (fun n d hp => (show CI ad h.1 δ0 d ∧ (kp [(1, 3), (1, 4), (1, 5), (1, 6), (1, 7), (1, 8), (1, 9), (1, 10), (1, 11), (1, 12), (1, 13), (1, 14), (1, 15), (3, 1)] δ d ∧ q_V d = q_V δ) ∧ ((n = 2) ∧ True) from ⟨hp.1, ⟨kp_w (by decide) (kp_t kp_r hp.2.1.1), (hp.2.1.2).trans rfl⟩, (by have hq : n = 2 := hp.2.2.1; omega), trivial⟩)) (fun d25 hp26 => ?_)
      obtain ⟨i27, ⟨u28, u29⟩, p30⟩ := hp26
      have u31 := kp_t kp_r u28
      have v32 : q_V d25 = q_V δ := (u29).trans rfl
      exact absurd rfl (show (0 : Int) ≠ 0 from p30)
    · have c33 : (0 : Int) ≤ x3.toInt := o_nlt h23
      refine ok_ite (fun h34 => ?_) (fun h34 => ?_)
      · have c35 : (2 : Int) < x3.toInt := o_lt h34
        unfold J_X11_worst_23
        unfold J_X11_worst_24
        refine ok_bxv (k_X11_need L hN (a0 := a0) (x1 := (0 : Int32)) k_a0 I) (fun n d hp => (show CI ad h.1 δ0 d ∧ (kp [(1, 3), (1, 4), (1, 5), (1, 6), (1, 7), (1, 8), (1, 9), (1, 10), (1, 11), (1, 12), (1, 13), (1, 14), (1, 15), (3, 1)] δ d ∧ q_V d = q_V δ) ∧ ((n = 2) ∧ True) from ⟨hp.1, ⟨kp_w (by decide) (kp_t kp_r hp.2.1.1), (hp.2.1.2).trans rfl⟩, (by have hq : n = 2 := hp.2.2.1; omega), trivial⟩)) (fun d36 hp37 => ?_)
        obtain ⟨i38, ⟨u39, u40⟩, p41⟩ := hp37
        have u42 := kp_t kp_r u39
        have v43 : q_V d36 = q_V δ := (u40).trans rfl
        exact absurd rfl (show (0 : Int) ≠ 0 from p41)
      · have c44 : x3.toInt ≤ (2 : Int) := o_nlt h34
        unfold J_X11_worst_24
        refine ok_bxv (k_X11_need L hN (a0 := a0) (x1 := (1 : Int32)) k_a0 I) (fun n d hp => (show CI ad h.1 δ0 d ∧ (kp [(1, 3), (1, 4), (1, 5), (1, 6), (1, 7), (1, 8), (1, 9), (1, 10), (1, 11), (1, 12), (1, 13), (1, 14), (1, 15), (3, 1)] δ d ∧ q_V d = q_V δ) ∧ ((n = 2) ∧ True) from ⟨hp.1, ⟨kp_w (by decide) (kp_t kp_r hp.2.1.1), (hp.2.1.2).trans rfl⟩, (by have hq : n = 2 := hp.2.2.1; omega), trivial⟩)) (fun d45 hp46 => ?_)
        obtain ⟨i47, ⟨u48, u49⟩, p50⟩ := hp46
        have u51 := kp_t kp_r u48
        have v52 : q_V d45 = q_V δ := (u49).trans rfl
        replace p50 : (1 : Int) ≠ 0 := p50
        obtain ⟨b53, o54, k55⟩ := gO_11_9 L k_a0
        refine ok_at o54 ?_
        refine ok_bind (k_X10_learn L hN (a0 := b53) (x1 := x1) (x2 := x2) k55 (show 0 ≤ (x1).toInt by first | assumption | omega) (show (x1).toInt < 5 by first | assumption | omega) (show 0 ≤ (x2).toInt by first | assumption | omega) (show (x2).toInt ≤ 16 by first | assumption | omega) i47) (fun r56 hr57 => ?_)
        obtain ⟨i58, ⟨u59, u60⟩⟩ := hr57
        have u61 := kp_t u51 u59
        have v62 : q_V r56 = q_V δ := (u60).trans v52
        refine ok_ite (fun h63 => ?_) (fun h63 => ?_)
        · have c64 : x3.toInt = (0 : Int) := o_eq h63
          refine ok_at o54 ?_
          obtain ⟨b65, o66, k67, n68, w69⟩ := gO_10_4 L k55
          refine ok_at o66 ?_
          have t70 := ti_tn x1
          refine ok_gd (fun hc71 => ?_) ?_
          · rcases hc71 with hc71 | hc71
            · have c72 : x1.toInt < (0 : Int) := o_lt hc71
              omega
            · omega
          obtain ⟨b73, o74, k75, n76, w77⟩ := gE_10_4 L k55 o66 (i := x1.toNatClampNeg) (by omega)
          refine ok_at o74 ?_
          have t78 := ti_tn x2
          refine ok_gd (fun hc79 => ?_) ?_
          · rcases hc79 with hc79 | hc79
            · have c80 : x2.toInt < (0 : Int) := o_lt hc79
              omega
            · omega
          exact ok_some (show CI ad h.1 δ0 r56 ∧ (kp [(1, 3), (1, 4), (1, 5), (1, 6), (1, 7), (1, 8), (1, 9), (1, 10), (1, 11), (1, 12), (1, 13), (1, 14), (1, 15), (3, 1)] δ r56 ∧ q_V r56 = q_V δ) ∧ True from ⟨i58, ⟨kp_w (by decide) u61, v62⟩, trivial⟩)
        · have c81 : x3.toInt ≠ (0 : Int) := o_ne h63
          refine ok_ite (fun h82 => ?_) (fun h82 => ?_)
          · have c83 : x3.toInt = (1 : Int) := o_eq h82
            refine ok_at o54 ?_
            obtain ⟨b84, o85, k86, n87, w88⟩ := gO_10_6 L k55
            refine ok_at o85 ?_
            have t89 := ti_tn x1
            refine ok_gd (fun hc90 => ?_) ?_
            · rcases hc90 with hc90 | hc90
              · have c91 : x1.toInt < (0 : Int) := o_lt hc90
                omega
              · omega
            obtain ⟨b92, o93, k94, n95, w96⟩ := gE_10_6 L k55 o85 (i := x1.toNatClampNeg) (by omega)
            refine ok_at o93 ?_
            have t97 := ti_tn x2
            refine ok_gd (fun hc98 => ?_) ?_
            · rcases hc98 with hc98 | hc98
              · have c99 : x2.toInt < (0 : Int) := o_lt hc98
                omega
              · omega
            refine ok_bind (k_J13_bitCount_95d88 L hN (y0 := (q_J r56 b92 x2.toNatClampNeg))  i58) (fun r100 hr101 => ?_)
            have i102 := hr101
            try rw [i102]
            have f103 := ti_b r100.1
            unfold J_X11_worst_85
            exact ok_some (show CI ad h.1 δ0 r56 ∧ (kp [(1, 3), (1, 4), (1, 5), (1, 6), (1, 7), (1, 8), (1, 9), (1, 10), (1, 11), (1, 12), (1, 13), (1, 14), (1, 15), (3, 1)] δ r56 ∧ q_V r56 = q_V δ) ∧ True from ⟨i58, ⟨kp_w (by decide) u61, v62⟩, trivial⟩)
          · have c104 : x3.toInt ≠ (1 : Int) := o_ne h82
            refine ok_at o54 ?_
            obtain ⟨b105, o106, k107, n108, w109⟩ := gO_10_5 L k55
            refine ok_at o106 ?_
            have t110 := ti_tn x1
            refine ok_gd (fun hc111 => ?_) ?_
            · rcases hc111 with hc111 | hc111
              · have c112 : x1.toInt < (0 : Int) := o_lt hc111
                omega
              · omega
            obtain ⟨b113, o114, k115, n116, w117⟩ := gE_10_5 L k55 o106 (i := x1.toNatClampNeg) (by omega)
            refine ok_at o114 ?_
            have t118 := ti_tn x2
            refine ok_gd (fun hc119 => ?_) ?_
            · rcases hc119 with hc119 | hc119
              · have c120 : x2.toInt < (0 : Int) := o_lt hc119
                omega
              · omega
            unfold J_X11_worst_85
            exact ok_some (show CI ad h.1 δ0 r56 ∧ (kp [(1, 3), (1, 4), (1, 5), (1, 6), (1, 7), (1, 8), (1, 9), (1, 10), (1, 11), (1, 12), (1, 13), (1, 14), (1, 15), (3, 1)] δ r56 ∧ q_V r56 = q_V δ) ∧ True from ⟨i58, ⟨kp_w (by decide) u61, v62⟩, trivial⟩)
set_option maxHeartbeats 4000000 in
theorem k_X11_bad {ad : List Nat} {h : hp} (L : Lay TLx ad h) {δ0 : dp} {N : Nat} (hN : 10000000 ≤ N) {a0 : Nat} {x1 : Int32} {x2 : Int32} {x3 : Int32} (k_a0 : q_K h.1 a0 = 11) {δ : dp} (I : CI ad h.1 δ0 δ) : ok (D_X11_bad N h.1 a0 x1 x2 x3 δ) (fun r => CI ad h.1 δ0 r.2 ∧ (kp [(1, 3), (1, 4), (1, 5), (1, 6), (1, 7), (1, 8), (1, 9), (1, 10), (1, 11), (1, 12), (1, 13), (1, 14), (1, 15), (3, 1)] δ r.2 ∧ q_V r.2 = q_V δ) ∧ match r.1 with | .inl v => True | .inr n => ((n = 2) ∧ True)) := by
  unfold D_X11_bad
  refine ok_bind (k_X11_mayGoThroughAll L hN (a0 := a0) (x1 := x1) (x2 := x2) k_a0 I) (fun r1 hr2 => ?_)
  obtain ⟨i3, p4, p5⟩ := hr2
  try rw [i3]
  have f6 := bo_t p4
  have f7 := ti_b r1.1
  have f8 := ti_b x1
  have f9 := ti_b x2
  have f10 := ti_b r1.1
  refine ok_bxv (k_X11_need L hN (a0 := a0) (x1 := r1.1) k_a0 I) (fun n d hp => (show CI ad h.1 δ0 d ∧ (kp [(1, 3), (1, 4), (1, 5), (1, 6), (1, 7), (1, 8), (1, 9), (1, 10), (1, 11), (1, 12), (1, 13), (1, 14), (1, 15), (3, 1)] δ d ∧ q_V d = q_V δ) ∧ ((n = 2) ∧ True) from ⟨hp.1, ⟨kp_w (by decide) (kp_t kp_r hp.2.1.1), (hp.2.1.2).trans rfl⟩, (by have hq : n = 2 := hp.2.2.1; omega), trivial⟩)) (fun d11 hp12 => ?_)
  obtain ⟨i13, ⟨u14, u15⟩, p16⟩ := hp12
  have u17 := kp_t kp_r u14
  have v18 : q_V d11 = q_V δ := (u15).trans rfl
  obtain ⟨b19, o20, k21⟩ := gO_11_9 L k_a0
  refine ok_at o20 ?_
  refine ok_bind (k_X10_learn L hN (a0 := b19) (x1 := x1) (x2 := x2) k21 (show 0 ≤ (x1).toInt by first | assumption | omega) (show (x1).toInt < 5 by first | assumption | omega) (show 0 ≤ (x2).toInt by first | assumption | omega) (show (x2).toInt ≤ 16 by first | assumption | omega) i13) (fun r22 hr23 => ?_)
  obtain ⟨i24, ⟨u25, u26⟩⟩ := hr23
  have u27 := kp_t u17 u25
  have v28 : q_V r22 = q_V δ := (u26).trans v18
  refine ok_at o20 ?_
  refine ok_bind (k_X10_member L hN (a0 := b19) (x1 := x1) (x2 := x2) (x3 := x3) k21 (show 0 ≤ (x1).toInt by first | assumption | omega) (show (x1).toInt < 5 by first | assumption | omega) (show 0 ≤ (x2).toInt by first | assumption | omega) (show (x2).toInt ≤ 16 by first | assumption | omega) i24) (fun r29 hr30 => ?_)
  have i31 := hr30
  try rw [i31]
  have f32 := ti_b r29.1
  exact ok_some (show CI ad h.1 δ0 r22 ∧ (kp [(1, 3), (1, 4), (1, 5), (1, 6), (1, 7), (1, 8), (1, 9), (1, 10), (1, 11), (1, 12), (1, 13), (1, 14), (1, 15), (3, 1)] δ r22 ∧ q_V r22 = q_V δ) ∧ True from ⟨i24, ⟨kp_w (by decide) u27, v28⟩, trivial⟩)
set_option maxHeartbeats 4000000 in
theorem k_X11_steals {ad : List Nat} {h : hp} (L : Lay TLx ad h) {δ0 : dp} {N : Nat} (hN : 10000000 ≤ N) {a0 : Nat} {x1 : Int32} {x2 : Int32} {x3 : Int32} {x4 : Int32} (k_a0 : q_K h.1 a0 = 11) {δ : dp} (I : CI ad h.1 δ0 δ) : ok (D_X11_steals N h.1 a0 x1 x2 x3 x4 δ) (fun r => CI ad h.1 δ0 r.2 ∧ (kp [(1, 3), (1, 4), (1, 5), (1, 6), (1, 7), (1, 8), (1, 9), (1, 10), (1, 11), (1, 12), (1, 13), (1, 14), (1, 15), (3, 1), (4, 5), (4, 6), (4, 7), (4, 8), (4, 9), (4, 10), (4, 11), (4, 12), (4, 13), (4, 14), (4, 15), (4, 16), (4, 19)] δ r.2) ∧ match r.1 with | .inl v => True | .inr n => ((n = 0 ∨ n = 1 ∨ n = 2) ∧ True)) := by
  unfold D_X11_steals
  refine ok_bxv (k_X11_needHouse L hN (a0 := a0) (x1 := x2) k_a0 I) (fun n d hp => (show CI ad h.1 δ0 d ∧ (kp [(1, 3), (1, 4), (1, 5), (1, 6), (1, 7), (1, 8), (1, 9), (1, 10), (1, 11), (1, 12), (1, 13), (1, 14), (1, 15), (3, 1), (4, 5), (4, 6), (4, 7), (4, 8), (4, 9), (4, 10), (4, 11), (4, 12), (4, 13), (4, 14), (4, 15), (4, 16), (4, 19)] δ d) ∧ ((n = 0 ∨ n = 1 ∨ n = 2) ∧ True) from ⟨hp.1, kp_w (by decide) (kp_t kp_r hp.2.1.1), (by have hq : n = 0 := hp.2.2.1; omega), trivial⟩)) (fun d1 hp2 => ?_)
  obtain ⟨i3, ⟨u4, u5⟩, p6, p7⟩ := hp2
  have u8 := kp_t kp_r u4
  have f9 := ti_b x2
  refine ok_bxv (k_X11_needThief L hN (a0 := a0) (x1 := x1) k_a0 i3) (fun n d hp => (show CI ad h.1 δ0 d ∧ (kp [(1, 3), (1, 4), (1, 5), (1, 6), (1, 7), (1, 8), (1, 9), (1, 10), (1, 11), (1, 12), (1, 13), (1, 14), (1, 15), (3, 1), (4, 5), (4, 6), (4, 7), (4, 8), (4, 9), (4, 10), (4, 11), (4, 12), (4, 13), (4, 14), (4, 15), (4, 16), (4, 19)] δ d) ∧ ((n = 0 ∨ n = 1 ∨ n = 2) ∧ True) from ⟨hp.1, kp_w (by decide) (kp_t u8 hp.2.1.1), (by have hq : n = 1 := hp.2.2.1; omega), trivial⟩)) (fun d10 hp11 => ?_)
  obtain ⟨i12, ⟨u13, u14⟩, p15, p16⟩ := hp11
  have u17 := kp_t u8 u13
  have f18 := ti_b x1
  have f19 := ti_b x4
  refine ok_ite (fun h20 => ?_) (fun h20 => ?_)
  · have c21 : x4.toInt < (0 : Int) := o_lt h20
    unfold J_X11_steals_27
    unfold J_X11_steals_28
    refine ok_bxv (k_X11_need L hN (a0 := a0) (x1 := (0 : Int32)) k_a0 i12) (fun n d hp => (show CI ad h.1 δ0 d ∧ (kp [(1, 3), (1, 4), (1, 5), (1, 6), (1, 7), (1, 8), (1, 9), (1, 10), (1, 11), (1, 12), (1, 13), (1, 14), (1, 15), (3, 1), (4, 5), (4, 6), (4, 7), (4, 8), (4, 9), (4, 10), (4, 11), (4, 12), (4, 13), (4, 14), (4, 15), (4, 16), (4, 19)] δ d) ∧ ((n = 0 ∨ n = 1 ∨ n = 2) ∧ True) from ⟨hp.1, kp_w (by decide) (kp_t u17 hp.2.1.1), (by have hq : n = 2 := hp.2.2.1; omega), trivial⟩)) (fun d22 hp23 => ?_)
    obtain ⟨i24, ⟨u25, u26⟩, p27⟩ := hp23
    have u28 := kp_t u17 u25
    exact absurd rfl (show (0 : Int) ≠ 0 from p27)
  · have c29 : (0 : Int) ≤ x4.toInt := o_nlt h20
    refine ok_ite (fun h30 => ?_) (fun h30 => ?_)
    · have c31 : (6 : Int) < x4.toInt := o_lt h30
      unfold J_X11_steals_27
      unfold J_X11_steals_28
      refine ok_bxv (k_X11_need L hN (a0 := a0) (x1 := (0 : Int32)) k_a0 i12) (fun n d hp => (show CI ad h.1 δ0 d ∧ (kp [(1, 3), (1, 4), (1, 5), (1, 6), (1, 7), (1, 8), (1, 9), (1, 10), (1, 11), (1, 12), (1, 13), (1, 14), (1, 15), (3, 1), (4, 5), (4, 6), (4, 7), (4, 8), (4, 9), (4, 10), (4, 11), (4, 12), (4, 13), (4, 14), (4, 15), (4, 16), (4, 19)] δ d) ∧ ((n = 0 ∨ n = 1 ∨ n = 2) ∧ True) from ⟨hp.1, kp_w (by decide) (kp_t u17 hp.2.1.1), (by have hq : n = 2 := hp.2.2.1; omega), trivial⟩)) (fun d32 hp33 => ?_)
      obtain ⟨i34, ⟨u35, u36⟩, p37⟩ := hp33
      have u38 := kp_t u17 u35
      exact absurd rfl (show (0 : Int) ≠ 0 from p37)
    · have c39 : x4.toInt ≤ (6 : Int) := o_nlt h30
      unfold J_X11_steals_28
      refine ok_bxv (k_X11_need L hN (a0 := a0) (x1 := (1 : Int32)) k_a0 i12) (fun n d hp => (show CI ad h.1 δ0 d ∧ (kp [(1, 3), (1, 4), (1, 5), (1, 6), (1, 7), (1, 8), (1, 9), (1, 10), (1, 11), (1, 12), (1, 13), (1, 14), (1, 15), (3, 1), (4, 5), (4, 6), (4, 7), (4, 8), (4, 9), (4, 10), (4, 11), (4, 12), (4, 13), (4, 14), (4, 15), (4, 16), (4, 19)] δ d) ∧ ((n = 0 ∨ n = 1 ∨ n = 2) ∧ True) from ⟨hp.1, kp_w (by decide) (kp_t u17 hp.2.1.1), (by have hq : n = 2 := hp.2.2.1; omega), trivial⟩)) (fun d40 hp41 => ?_)
      obtain ⟨i42, ⟨u43, u44⟩, p45⟩ := hp41
      have u46 := kp_t u17 u43
      replace p45 : (1 : Int) ≠ 0 := p45
      obtain ⟨b47, o48, k49⟩ := gO_11_8 L k_a0
      refine ok_at o48 ?_
      obtain ⟨b50, o51, k52, n53, w54⟩ := gO_11_4 L k_a0
      refine ok_at o51 ?_
      have t55 := ti_tn x1
      refine ok_gd (fun hc56 => ?_) ?_
      · rcases hc56 with hc56 | hc56
        · have c57 : x1.toInt < (0 : Int) := o_lt hc56
          omega
        · omega
      obtain ⟨b58, o59, k60⟩ := gE_11_4 L k_a0 o51 (i := x1.toNatClampNeg) (by omega)
      refine ok_at o59 ?_
      obtain ⟨b61, o62, k63, n64, w65⟩ := gO_11_6 L k_a0
      refine ok_at o62 ?_
      have t66 := ti_tn x2
      refine ok_gd (fun hc67 => ?_) ?_
      · rcases hc67 with hc67 | hc67
        · have c68 : x2.toInt < (0 : Int) := o_lt hc67
          omega
        · omega
      obtain ⟨b69, o70, k71⟩ := gE_11_6 L k_a0 o62 (i := x2.toNatClampNeg) (by omega)
      refine ok_at o70 ?_
      obtain ⟨b72, o73, k74⟩ := gO_2_0 L k71
      refine ok_at o73 ?_
      refine ok_bind (k_X4_go L hN (a0 := b47) (a1 := b58) (a2 := b72) (x3 := x3) k49 k60 k74 i42) (fun r75 hr76 => ?_)
      obtain ⟨i77, u78⟩ := hr76
      have u79 := kp_t u46 u78
      refine ok_at o48 ?_
      refine ok_bind (k_X4_tell L hN (a0 := b47) (x1 := x4) k49 i77) (fun r80 hr81 => ?_)
      have i82 := hr81
      try rw [i82]
      have f83 := ti_b r80.1
      exact ok_some (show CI ad h.1 δ0 r75 ∧ (kp [(1, 3), (1, 4), (1, 5), (1, 6), (1, 7), (1, 8), (1, 9), (1, 10), (1, 11), (1, 12), (1, 13), (1, 14), (1, 15), (3, 1), (4, 5), (4, 6), (4, 7), (4, 8), (4, 9), (4, 10), (4, 11), (4, 12), (4, 13), (4, 14), (4, 15), (4, 16), (4, 19)] δ r75) ∧ True from ⟨i77, kp_w (by decide) u79, trivial⟩)
