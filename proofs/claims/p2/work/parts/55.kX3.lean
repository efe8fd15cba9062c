/-! 55.kX3 (by gen_safe.py) -/
set_option maxHeartbeats 4000000 in
theorem kl_X3_firstFrom_7 {ad : List Nat} {h : hp} (L : Lay TLx ad h) {δ0 : dp} {N : Nat} (hN : 10000000 ≤ N) {a0 : Nat} {x1 : Int32} (k_a0 : q_K h.1 a0 = 3) : ∀ (n : Nat) (x2v : Int32) (x3v : Int32) (δ : dp), CI ad h.1 δ0 δ → 0 ≤ (x2v).toInt → (x2v).toInt ≤ (x3v).toInt → (x3v).toInt ≤ (q_I δ 3 1 a0).toInt → (x3v).toInt - (x2v).toInt < (n : Int) → ok (L_X3_firstFrom_7 N h.1 a0 x1 n x2v x3v δ) (fun r => r.2 = δ ∧ 0 ≤ (r.1).toInt ∧ (r.1).toInt ≤ (q_I δ 3 1 a0).toInt) := by
  intro n
  induction n with
  | zero =>
    intro x2v x3v δ I j0 j1 j2 hm
    obtain ⟨b1, o2, k3, ⟨n4, n5⟩, w6⟩ := gO_3_0 L k_a0
    have f7 := cb_3_1 I k_a0 o2
    have f8 := ti_b x2v
    have f9 := ti_b x3v
    exfalso; omega
  | succ n ih =>
    intro x2v x3v δ I j0 j1 j2 hm
    unfold L_X3_firstFrom_7
    obtain ⟨b1, o2, k3, ⟨n4, n5⟩, w6⟩ := gO_3_0 L k_a0
    have f7 := cb_3_1 I k_a0 o2
    have f8 := ti_b x2v
    have f9 := ti_b x3v
    refine ok_ite (fun h10 => ?_) (fun h10 => ?_)
    · have c11 := o_le h10
      exact ok_some (show δ = δ ∧ 0 ≤ (x2v).toInt ∧ (x2v).toInt ≤ (q_I δ 3 1 a0).toInt from ⟨rfl, by first | omega | assumption, by first | omega | assumption⟩)
    · have c12 := o_nle h10
      obtain ⟨q15, f16, f17, f18⟩ := ti_add x2v x3v
      have f19 := ti_div (c := 2) (n := 2) rfl (by decide) (x2v + x3v)
      have f20 := ti_b ((x2v + x3v) / (2 : Int32))
      refine ok_biv (fun vx13 e14 => ?_)
      have f21 := congrArg Int32.toInt e14
      refine ok_at o2 ?_
      have f22 : (0 : Int32).toInt = 0 := rfl
      have t23 := ti_tn vx13
      refine ok_gd (fun hc24 => ?_) ?_
      · rcases hc24 with hc24 | hc24
        · have c25 := o_lt hc24
          omega
        · omega
      refine ok_ite (fun h26 => ?_) (fun h26 => ?_)
      · unfold J_X3_firstFrom_41
        refine ok_mono (ih x2v vx13 δ I (show 0 ≤ (x2v).toInt by first | omega | assumption) (show (x2v).toInt ≤ (vx13).toInt by first | omega | assumption) (show (vx13).toInt ≤ (q_I δ 3 1 a0).toInt by first | omega | assumption) (show (vx13).toInt - (x2v).toInt < _ by omega)) (fun r27 hr28 => ?_)
        obtain ⟨i29, p30, p31⟩ := hr28
        try simp only [i29]
        have f32 := ti_b r27.1
        exact ⟨by assumption, by first | omega | assumption, by first | omega | assumption⟩
      · have f35 : (1 : Int32).toInt = 1 := rfl
        obtain ⟨q36, f37, f38, f39⟩ := ti_add vx13 (1 : Int32)
        refine ok_biv (fun vx33 e34 => ?_)
        have f40 := congrArg Int32.toInt e34
        unfold J_X3_firstFrom_41
        refine ok_mono (ih vx33 x3v δ I (show 0 ≤ (vx33).toInt by first | omega | assumption) (show (vx33).toInt ≤ (x3v).toInt by first | omega | assumption) (show (x3v).toInt ≤ (q_I δ 3 1 a0).toInt by first | omega | assumption) (show (x3v).toInt - (vx33).toInt < _ by omega)) (fun r41 hr42 => ?_)
        obtain ⟨i43, p44, p45⟩ := hr42
        try simp only [i43]
        have f46 := ti_b r41.1
        exact ⟨by assumption, by first | omega | assumption, by first | omega | assumption⟩
set_option maxHeartbeats 4000000 in
theorem k_X3_firstFrom {ad : List Nat} {h : hp} (L : Lay TLx ad h) {δ0 : dp} {N : Nat} (hN : 10000000 ≤ N) {a0 : Nat} {x1 : Int32} (k_a0 : q_K h.1 a0 = 3) {δ : dp} (I : CI ad h.1 δ0 δ) : ok (D_X3_firstFrom N h.1 a0 x1 δ) (fun r => r.2 = δ ∧ 0 ≤ (r.1).toInt ∧ (r.1).toInt ≤ (q_I δ 3 1 a0).toInt) := by
  unfold D_X3_firstFrom
  obtain ⟨b3, o4, k5, ⟨n6, n7⟩, w8⟩ := gO_3_0 L k_a0
  have f9 := cb_3_1 I k_a0 o4
  refine ok_biv (fun vx1 e2 => ?_)
  have f10 := congrArg Int32.toInt e2
  have f11 : (0 : Int32).toInt = 0 := rfl
  refine ok_mono (kl_X3_firstFrom_7 L hN k_a0 _ (0 : Int32) vx1 δ I (show 0 ≤ ((0 : Int32)).toInt by first | omega | assumption) (show ((0 : Int32)).toInt ≤ (vx1).toInt by first | omega | assumption) (show (vx1).toInt ≤ (q_I δ 3 1 a0).toInt by first | omega | assumption) (show (vx1).toInt - ((0 : Int32)).toInt < _ by omega)) (fun r12 hr13 => ?_)
  obtain ⟨i14, p15, p16⟩ := hr13
  try simp only [i14]
  have f17 := ti_b r12.1
  exact ⟨by assumption, by first | omega | assumption, by first | omega | assumption⟩
set_option maxHeartbeats 4000000 in
theorem k_X3_at {ad : List Nat} {h : hp} (L : Lay TLx ad h) {δ0 : dp} {N : Nat} (hN : 10000000 ≤ N) {a0 : Nat} {x1 : Int32} (k_a0 : q_K h.1 a0 = 3) {δ : dp} (I : CI ad h.1 δ0 δ) : ok (D_X3_at N h.1 a0 x1 δ) (fun r => r.2 = δ) := by
  unfold D_X3_at
  have f1 := ti_b x1
  have f2 : (0 : Int32).toInt = 0 := rfl
  refine ok_ite (fun h3 => ?_) (fun h3 => ?_)
  · have c4 := o_lt h3
    unfold J_X3_at_12
    unfold J_X3_at_22
    exact ok_some (show δ = δ from rfl)
  · have c5 := o_nlt h3
    obtain ⟨b6, o7, k8, ⟨n9, n10⟩, w11⟩ := gO_3_0 L k_a0
    have f12 := cb_3_1 I k_a0 o7
    refine ok_ite (fun h13 => ?_) (fun h13 => ?_)
    · have c14 := o_lt h13
      refine ok_at o7 ?_
      have t15 := ti_tn x1
      refine ok_gd (fun hc16 => ?_) ?_
      · rcases hc16 with hc16 | hc16
        · have c17 := o_lt hc16
          omega
        · omega
      unfold J_X3_at_22
      exact ok_some (show δ = δ from rfl)
    · have c18 := o_nlt h13
      unfold J_X3_at_12
      unfold J_X3_at_22
      exact ok_some (show δ = δ from rfl)
set_option maxHeartbeats 4000000 in
theorem k_X3_holds {ad : List Nat} {h : hp} (L : Lay TLx ad h) {δ0 : dp} {N : Nat} (hN : 10000000 ≤ N) {a0 : Nat} {x1 : Int32} (k_a0 : q_K h.1 a0 = 3) {δ : dp} (I : CI ad h.1 δ0 δ) : ok (D_X3_holds N h.1 a0 x1 δ) (fun r => r.2 = δ ∧ bo (r.1)) := by
  unfold D_X3_holds
  refine ok_bind (k_X3_firstFrom L hN (a0 := a0) (x1 := x1) k_a0 I) (fun r1 hr2 => ?_)
  obtain ⟨i3, p4, p5⟩ := hr2
  try simp only [i3]
  have f6 := ti_b r1.1
  obtain ⟨b7, o8, k9, ⟨n10, n11⟩, w12⟩ := gO_3_0 L k_a0
  have f13 := cb_3_1 I k_a0 o8
  refine ok_ite (fun h14 => ?_) (fun h14 => ?_)
  · have c15 := o_le h14
    unfold J_X3_holds_28
    unfold J_X3_holds_29
    refine ok_gp (by decide) ?_
    have f16 : (0 : Int32).toInt = 0 := rfl
    exact ok_some (show δ = δ ∧ bo ((0 : Int32)) from ⟨rfl, bo_0⟩)
  · have c17 := o_nle h14
    refine ok_at o8 ?_
    have f18 : (0 : Int32).toInt = 0 := rfl
    have t19 := ti_tn r1.1
    refine ok_gd (fun hc20 => ?_) ?_
    · rcases hc20 with hc20 | hc20
      · have c21 := o_lt hc20
        omega
      · omega
    refine ok_ite (fun h22 => ?_) (fun h22 => ?_)
    · unfold J_X3_holds_29
      refine ok_gp (by decide) ?_
      have f23 : (1 : Int32).toInt = 1 := rfl
      exact ok_some (show δ = δ ∧ bo ((1 : Int32)) from ⟨rfl, bo_1⟩)
    · unfold J_X3_holds_28
      unfold J_X3_holds_29
      refine ok_gp (by decide) ?_
      have f24 : (0 : Int32).toInt = 0 := rfl
      exact ok_some (show δ = δ ∧ bo ((0 : Int32)) from ⟨rfl, bo_0⟩)
set_option maxHeartbeats 4000000 in
theorem k_X3_above {ad : List Nat} {h : hp} (L : Lay TLx ad h) {δ0 : dp} {N : Nat} (hN : 10000000 ≤ N) {a0 : Nat} {x1 : Int32} (k_a0 : q_K h.1 a0 = 3) {δ : dp} (I : CI ad h.1 δ0 δ) : ok (D_X3_above N h.1 a0 x1 δ) (fun r => r.2 = δ) := by
  unfold D_X3_above
  refine ok_bind (k_X3_firstFrom L hN (a0 := a0) (x1 := (x1 + (1 : Int32))) k_a0 I) (fun r1 hr2 => ?_)
  obtain ⟨i3, p4, p5⟩ := hr2
  try simp only [i3]
  have f6 := ti_b r1.1
  refine ok_bind (k_X3_at L hN (a0 := a0) (x1 := r1.1) k_a0 I) (fun r7 hr8 => ?_)
  have i9 := hr8
  try simp only [i9]
  have f10 := ti_b r7.1
  exact ok_some (show δ = δ from rfl)
set_option maxHeartbeats 4000000 in
theorem k_X3_below {ad : List Nat} {h : hp} (L : Lay TLx ad h) {δ0 : dp} {N : Nat} (hN : 10000000 ≤ N) {a0 : Nat} {x1 : Int32} (k_a0 : q_K h.1 a0 = 3) {δ : dp} (I : CI ad h.1 δ0 δ) : ok (D_X3_below N h.1 a0 x1 δ) (fun r => r.2 = δ) := by
  unfold D_X3_below
  refine ok_bind (k_X3_firstFrom L hN (a0 := a0) (x1 := x1) k_a0 I) (fun r1 hr2 => ?_)
  obtain ⟨i3, p4, p5⟩ := hr2
  try simp only [i3]
  have f6 := ti_b r1.1
  refine ok_bind (k_X3_at L hN (a0 := a0) (x1 := (r1.1 - (1 : Int32))) k_a0 I) (fun r7 hr8 => ?_)
  have i9 := hr8
  try simp only [i9]
  have f10 := ti_b r7.1
  exact ok_some (show δ = δ from rfl)
set_option maxHeartbeats 4000000 in
theorem k_X3_tell {ad : List Nat} {h : hp} (L : Lay TLx ad h) {δ0 : dp} {N : Nat} (hN : 10000000 ≤ N) {a0 : Nat} {x1 : Int32} (k_a0 : q_K h.1 a0 = 3) {δ : dp} (I : CI ad h.1 δ0 δ) : ok (D_X3_tell N h.1 a0 x1 δ) (fun r => r.2 = δ) := by
  unfold D_X3_tell
  have f1 := ti_b x1
  have f2 : (0 : Int32).toInt = 0 := rfl
  refine ok_ite (fun h3 => ?_) (fun h3 => ?_)
  · have c4 := o_eq h3
    unfold J_X3_tell_34
    exact ok_some (show δ = δ from rfl)
  · have c5 := o_ne h3
    have f6 : (1 : Int32).toInt = 1 := rfl
    refine ok_ite (fun h7 => ?_) (fun h7 => ?_)
    · have c8 := o_eq h7
      refine ok_bind (k_X3_at L hN (a0 := a0) (x1 := (0 : Int32)) k_a0 I) (fun r9 hr10 => ?_)
      have i11 := hr10
      try simp only [i11]
      have f12 := ti_b r9.1
      unfold J_X3_tell_34
      exact ok_some (show δ = δ from rfl)
    · have c13 := o_ne h7
      refine ok_bind (k_X3_at L hN (a0 := a0) (x1 := ((q_I δ 3 1 a0) - (1 : Int32))) k_a0 I) (fun r14 hr15 => ?_)
      have i16 := hr15
      try simp only [i16]
      have f17 := ti_b r14.1
      unfold J_X3_tell_34
      exact ok_some (show δ = δ from rfl)
set_option maxHeartbeats 4000000 in
theorem k_X3_clear {ad : List Nat} {h : hp} (L : Lay TLx ad h) {δ0 : dp} {N : Nat} (hN : 10000000 ≤ N) {a0 : Nat} (k_a0 : q_K h.1 a0 = 3) {δ : dp} (I : CI ad h.1 δ0 δ) : ok (D_X3_clear N h.1 a0 δ) (fun r => CI ad h.1 δ0 r ∧ (kp [(3, 1)] δ r ∧ q_V r = q_V δ)) := by
  unfold D_X3_clear
  have f4 : (0 : Int32).toInt = 0 := rfl
  obtain ⟨b5, o6, k7, ⟨n8, n9⟩, w10⟩ := gO_3_0 L k_a0
  refine ok_bdv (fun d1 e2 => ?_)
  have i3 : CI ad h.1 δ0 d1 := by rw [e2]; exact cs_3_1 L I o6 (by omega) (by omega)
  have u11 := kp_I kp_r e2
  have v12 : q_V d1 = q_V δ := (show q_V d1 = q_V δ by rw [e2]; rfl).trans rfl
  exact ok_some (show CI ad h.1 δ0 d1 ∧ (kp [(3, 1)] δ d1 ∧ q_V d1 = q_V δ) from ⟨i3, ⟨kp_w (by decide) u11, v12⟩⟩)
set_option maxHeartbeats 4000000 in
theorem k_X3_add {ad : List Nat} {h : hp} (L : Lay TLx ad h) {δ0 : dp} {N : Nat} (hN : 10000000 ≤ N) {a0 : Nat} {x1 : Int32} (k_a0 : q_K h.1 a0 = 3) {δ : dp} (I : CI ad h.1 δ0 δ) : ok (D_X3_add N h.1 a0 x1 δ) (fun r => CI ad h.1 δ0 r.2 ∧ (kp [(3, 1)] δ r.2 ∧ q_V r.2 = q_V δ) ∧ bo (r.1)) := by
  unfold D_X3_add
  refine ok_bind (k_X3_firstFrom L hN (a0 := a0) (x1 := x1) k_a0 I) (fun r1 hr2 => ?_)
  obtain ⟨i3, p4, p5⟩ := hr2
  try simp only [i3]
  have f6 := ti_b r1.1
  obtain ⟨b7, o8, k9, ⟨n10, n11⟩, w12⟩ := gO_3_0 L k_a0
  have f13 := cb_3_1 I k_a0 o8
  refine ok_ite (fun h14 => ?_) (fun h14 => ?_)
  · have c15 := o_le h14
    unfold J_X3_add_24
    refine ok_at o8 ?_
    have f16 := n_ti (q_N h.1 b7) (by omega)
    refine ok_ite (fun h17 => ?_) (fun h17 => ?_)
    · have c18 := o_lt h17
      refine ok_at o8 ?_
      refine ok_at o8 ?_
      have f19 : (0 : Int32).toInt = 0 := rfl
      have f20 : (1 : Int32).toInt = 1 := rfl
      obtain ⟨q21, f22, f23, f24⟩ := ti_add r1.1 (1 : Int32)
      obtain ⟨q25, f26, f27, f28⟩ := ti_sub (q_I δ 3 1 a0) r1.1
      have t29 := ti_tn r1.1
      have t30 := ti_tn ((q_I δ 3 1 a0) - r1.1)
      have t31 := ti_tn (r1.1 + (1 : Int32))
      refine ok_gd (fun hc32 => ?_) ?_
      · rcases hc32 with hc32 | hc32 | hc32 | hc32 | hc32
        · have c33 := o_lt hc32
          omega
        · have c34 := o_lt hc32
          omega
        · have c35 := o_lt hc32
          omega
        · omega
        · omega
      refine ok_bdv (fun d36 e37 => ?_)
      have i38 : CI ad h.1 δ0 d36 := by rw [e37]; exact CI.sC L I w12
      have u39 := kp_N kp_r (show q_I d36 = q_I δ by rw [e37]; rfl)
      have v40 : q_V d36 = q_V δ := (show q_V d36 = q_V δ by rw [e37]; rfl).trans rfl
      refine ok_at o8 ?_
      refine ok_gd (fun hc41 => ?_) ?_
      · rcases hc41 with hc41 | hc41
        · have c42 := o_lt hc41
          omega
        · omega
      refine ok_bdv (fun d43 e44 => ?_)
      have i45 : CI ad h.1 δ0 d43 := by rw [e44]; exact CI.sR L i38 w12
      have u46 := kp_N u39 (show q_I d43 = q_I d36 by rw [e44]; rfl)
      have v47 : q_V d43 = q_V δ := (show q_V d43 = q_V d36 by rw [e44]; rfl).trans v40
      have f51 := cb_3_1 i45 k_a0 o8
      have f52 : (q_I d43 3 1 a0).toInt = (q_I d36 3 1 a0).toInt := congrArg Int32.toInt (by rw [e44]; rfl)
      have f53 := cb_3_1 i38 k_a0 o8
      have f54 : (q_I d36 3 1 a0).toInt = (q_I δ 3 1 a0).toInt := congrArg Int32.toInt (by rw [e37]; rfl)
      obtain ⟨q55, f56, f57, f58⟩ := ti_add (q_I d43 3 1 a0) (1 : Int32)
      refine ok_bdv (fun d48 e49 => ?_)
      have i50 : CI ad h.1 δ0 d48 := by rw [e49]; exact cs_3_1 L i45 o8 (by omega) (by omega)
      have u59 := kp_I u46 e49
      have v60 : q_V d48 = q_V δ := (show q_V d48 = q_V d43 by rw [e49]; rfl).trans v47
      refine ok_gp (by decide) ?_
      have f61 : (1 : Int32).toInt = 1 := rfl
      exact ok_some (show CI ad h.1 δ0 d48 ∧ (kp [(3, 1)] δ d48 ∧ q_V d48 = q_V δ) ∧ bo ((1 : Int32)) from ⟨i50, ⟨kp_w (by decide) u59, v60⟩, bo_1⟩)
    · have c62 := o_nlt h17
      unfold J_X3_add_36
      refine ok_gp (by decide) ?_
      have f63 : (0 : Int32).toInt = 0 := rfl
      exact ok_some (show CI ad h.1 δ0 δ ∧ (kp [(3, 1)] δ δ ∧ q_V δ = q_V δ) ∧ bo ((0 : Int32)) from ⟨I, ⟨kp_w (by decide) kp_r, rfl⟩, bo_0⟩)
  · have c64 := o_nle h14
    refine ok_at o8 ?_
    have f65 : (0 : Int32).toInt = 0 := rfl
    have t66 := ti_tn r1.1
    refine ok_gd (fun hc67 => ?_) ?_
    · rcases hc67 with hc67 | hc67
      · have c68 := o_lt hc67
        omega
      · omega
    refine ok_ite (fun h69 => ?_) (fun h69 => ?_)
    · unfold J_X3_add_36
      refine ok_gp (by decide) ?_
      exact ok_some (show CI ad h.1 δ0 δ ∧ (kp [(3, 1)] δ δ ∧ q_V δ = q_V δ) ∧ bo ((0 : Int32)) from ⟨I, ⟨kp_w (by decide) kp_r, rfl⟩, bo_0⟩)
    · unfold J_X3_add_24
      refine ok_at o8 ?_
      have f70 := n_ti (q_N h.1 b7) (by omega)
      refine ok_ite (fun h71 => ?_) (fun h71 => ?_)
      · have c72 := o_lt h71
        refine ok_at o8 ?_
        refine ok_at o8 ?_
        have f73 : (1 : Int32).toInt = 1 := rfl
        obtain ⟨q74, f75, f76, f77⟩ := ti_add r1.1 (1 : Int32)
        obtain ⟨q78, f79, f80, f81⟩ := ti_sub (q_I δ 3 1 a0) r1.1
        have t82 := ti_tn ((q_I δ 3 1 a0) - r1.1)
        have t83 := ti_tn (r1.1 + (1 : Int32))
        refine ok_gd (fun hc84 => ?_) ?_
        · rcases hc84 with hc84 | hc84 | hc84 | hc84 | hc84
          · have c85 := o_lt hc84
            omega
          · have c86 := o_lt hc84
            omega
          · have c87 := o_lt hc84
            omega
          · omega
          · omega
        refine ok_bdv (fun d88 e89 => ?_)
        have i90 : CI ad h.1 δ0 d88 := by rw [e89]; exact CI.sC L I w12
        have u91 := kp_N kp_r (show q_I d88 = q_I δ by rw [e89]; rfl)
        have v92 : q_V d88 = q_V δ := (show q_V d88 = q_V δ by rw [e89]; rfl).trans rfl
        refine ok_at o8 ?_
        refine ok_gd (fun hc93 => ?_) ?_
        · rcases hc93 with hc93 | hc93
          · have c94 := o_lt hc93
            omega
          · omega
        refine ok_bdv (fun d95 e96 => ?_)
        have i97 : CI ad h.1 δ0 d95 := by rw [e96]; exact CI.sR L i90 w12
        have u98 := kp_N u91 (show q_I d95 = q_I d88 by rw [e96]; rfl)
        have v99 : q_V d95 = q_V δ := (show q_V d95 = q_V d88 by rw [e96]; rfl).trans v92
        have f103 := cb_3_1 i97 k_a0 o8
        have f104 : (q_I d95 3 1 a0).toInt = (q_I d88 3 1 a0).toInt := congrArg Int32.toInt (by rw [e96]; rfl)
        have f105 := cb_3_1 i90 k_a0 o8
        have f106 : (q_I d88 3 1 a0).toInt = (q_I δ 3 1 a0).toInt := congrArg Int32.toInt (by rw [e89]; rfl)
        obtain ⟨q107, f108, f109, f110⟩ := ti_add (q_I d95 3 1 a0) (1 : Int32)
        refine ok_bdv (fun d100 e101 => ?_)
        have i102 : CI ad h.1 δ0 d100 := by rw [e101]; exact cs_3_1 L i97 o8 (by omega) (by omega)
        have u111 := kp_I u98 e101
        have v112 : q_V d100 = q_V δ := (show q_V d100 = q_V d95 by rw [e101]; rfl).trans v99
        refine ok_gp (by decide) ?_
        have f113 : (1 : Int32).toInt = 1 := rfl
        exact ok_some (show CI ad h.1 δ0 d100 ∧ (kp [(3, 1)] δ d100 ∧ q_V d100 = q_V δ) ∧ bo ((1 : Int32)) from ⟨i102, ⟨kp_w (by decide) u111, v112⟩, bo_1⟩)
      · have c114 := o_nlt h71
        unfold J_X3_add_36
        refine ok_gp (by decide) ?_
        exact ok_some (show CI ad h.1 δ0 δ ∧ (kp [(3, 1)] δ δ ∧ q_V δ = q_V δ) ∧ bo ((0 : Int32)) from ⟨I, ⟨kp_w (by decide) kp_r, rfl⟩, bo_0⟩)
set_option maxHeartbeats 4000000 in
theorem k_X3_remove {ad : List Nat} {h : hp} (L : Lay TLx ad h) {δ0 : dp} {N : Nat} (hN : 10000000 ≤ N) {a0 : Nat} {x1 : Int32} (k_a0 : q_K h.1 a0 = 3) {δ : dp} (I : CI ad h.1 δ0 δ) : ok (D_X3_remove N h.1 a0 x1 δ) (fun r => CI ad h.1 δ0 r.2 ∧ (kp [(3, 1)] δ r.2 ∧ q_V r.2 = q_V δ) ∧ bo (r.1)) := by
  unfold D_X3_remove
  refine ok_bind (k_X3_firstFrom L hN (a0 := a0) (x1 := x1) k_a0 I) (fun r1 hr2 => ?_)
  obtain ⟨i3, p4, p5⟩ := hr2
  try simp only [i3]
  have f6 := ti_b r1.1
  obtain ⟨b7, o8, k9, ⟨n10, n11⟩, w12⟩ := gO_3_0 L k_a0
  have f13 := cb_3_1 I k_a0 o8
  refine ok_ite (fun h14 => ?_) (fun h14 => ?_)
  · have c15 := o_le h14
    unfold J_X3_remove_24
    refine ok_gp (by decide) ?_
    have f16 : (0 : Int32).toInt = 0 := rfl
    exact ok_some (show CI ad h.1 δ0 δ ∧ (kp [(3, 1)] δ δ ∧ q_V δ = q_V δ) ∧ bo ((0 : Int32)) from ⟨I, ⟨kp_w (by decide) kp_r, rfl⟩, bo_0⟩)
  · have c17 := o_nle h14
    refine ok_at o8 ?_
    have f18 : (0 : Int32).toInt = 0 := rfl
    have t19 := ti_tn r1.1
    refine ok_gd (fun hc20 => ?_) ?_
    · rcases hc20 with hc20 | hc20
      · have c21 := o_lt hc20
        omega
      · omega
    refine ok_ite (fun h22 => ?_) (fun h22 => ?_)
    · have f26 : (1 : Int32).toInt = 1 := rfl
      obtain ⟨q27, f28, f29, f30⟩ := ti_sub (q_I δ 3 1 a0) (1 : Int32)
      refine ok_bdv (fun d23 e24 => ?_)
      have i25 : CI ad h.1 δ0 d23 := by rw [e24]; exact cs_3_1 L I o8 (by omega) (by omega)
      have u31 := kp_I kp_r e24
      have v32 : q_V d23 = q_V δ := (show q_V d23 = q_V δ by rw [e24]; rfl).trans rfl
      refine ok_at o8 ?_
      refine ok_at o8 ?_
      obtain ⟨q33, f34, f35, f36⟩ := ti_add r1.1 (1 : Int32)
      have f37 := cb_3_1 i25 k_a0 o8
      have f38 : (q_I d23 3 1 a0).toInt = (((q_I δ 3 1 a0) - (1 : Int32)) : Int32).toInt := congrArg Int32.toInt (by rw [e24]; exact rI_s)
      obtain ⟨q39, f40, f41, f42⟩ := ti_sub (q_I d23 3 1 a0) r1.1
      have t43 := ti_tn (r1.1 + (1 : Int32))
      have t44 := ti_tn ((q_I d23 3 1 a0) - r1.1)
      refine ok_gd (fun hc45 => ?_) ?_
      · rcases hc45 with hc45 | hc45 | hc45 | hc45 | hc45
        · have c46 := o_lt hc45
          omega
        · have c47 := o_lt hc45
          omega
        · have c48 := o_lt hc45
          omega
        · omega
        · omega
      refine ok_bdv (fun d49 e50 => ?_)
      have i51 : CI ad h.1 δ0 d49 := by rw [e50]; exact CI.sC L i25 w12
      have u52 := kp_N u31 (show q_I d49 = q_I d23 by rw [e50]; rfl)
      have v53 : q_V d49 = q_V δ := (show q_V d49 = q_V d23 by rw [e50]; rfl).trans v32
      refine ok_gp (by decide) ?_
      have f54 : (1 : Int32).toInt = 1 := rfl
      exact ok_some (show CI ad h.1 δ0 d49 ∧ (kp [(3, 1)] δ d49 ∧ q_V d49 = q_V δ) ∧ bo ((1 : Int32)) from ⟨i51, ⟨kp_w (by decide) u52, v53⟩, bo_1⟩)
    · unfold J_X3_remove_24
      refine ok_gp (by decide) ?_
      exact ok_some (show CI ad h.1 δ0 δ ∧ (kp [(3, 1)] δ δ ∧ q_V δ = q_V δ) ∧ bo ((0 : Int32)) from ⟨I, ⟨kp_w (by decide) kp_r, rfl⟩, bo_0⟩)
set_option maxHeartbeats 4000000 in
theorem k_X3_answer {ad : List Nat} {h : hp} (L : Lay TLx ad h) {δ0 : dp} {N : Nat} (hN : 10000000 ≤ N) {a0 : Nat} {x1 : Int32} {x2 : Int32} (k_a0 : q_K h.1 a0 = 3) {δ : dp} (I : CI ad h.1 δ0 δ) : ok (D_X3_answer N h.1 a0 x1 x2 δ) (fun r => CI ad h.1 δ0 r.2 ∧ (kp [(3, 1)] δ r.2 ∧ q_V r.2 = q_V δ)) := by
  unfold D_X3_answer
  have f1 := ti_b x1
  have f2 : (3 : Int32).toInt = 3 := rfl
  refine ok_ite (fun h3 => ?_) (fun h3 => ?_)
  · have c4 := o_eq h3
    refine ok_bind (k_X3_above L hN (a0 := a0) (x1 := x2) k_a0 I) (fun r5 hr6 => ?_)
    have i7 := hr6
    try simp only [i7]
    have f8 := ti_b r5.1
    exact ok_some (show CI ad h.1 δ0 δ ∧ (kp [(3, 1)] δ δ ∧ q_V δ = q_V δ) from ⟨I, ⟨kp_w (by decide) kp_r, rfl⟩⟩)
  · have c9 := o_ne h3
    have f10 : (4 : Int32).toInt = 4 := rfl
    refine ok_ite (fun h11 => ?_) (fun h11 => ?_)
    · have c12 := o_eq h11
      refine ok_bind (k_X3_below L hN (a0 := a0) (x1 := x2) k_a0 I) (fun r13 hr14 => ?_)
      have i15 := hr14
      try simp only [i15]
      have f16 := ti_b r13.1
      exact ok_some (show CI ad h.1 δ0 δ ∧ (kp [(3, 1)] δ δ ∧ q_V δ = q_V δ) from ⟨I, ⟨kp_w (by decide) kp_r, rfl⟩⟩)
    · have c17 := o_ne h11
      have f18 : (0 : Int32).toInt = 0 := rfl
      refine ok_ite (fun h19 => ?_) (fun h19 => ?_)
      · have c20 := o_eq h19
        refine ok_bind (k_X3_add L hN (a0 := a0) (x1 := x2) k_a0 I) (fun r21 hr22 => ?_)
        obtain ⟨i23, ⟨u25, v26⟩, p24⟩ := hr22
        have u27 := kp_t kp_r u25
        have v28 := v26.trans rfl
        have f29 := bo_t p24
        have f30 := ti_b r21.1
        unfold J_X3_answer_52
        refine ok_ite (fun h31 => ?_) (fun h31 => ?_)
        · have c32 := o_eq h31
          unfold J_X3_answer_62
          exact ok_some (show CI ad h.1 δ0 r21.2 ∧ (kp [(3, 1)] δ r21.2 ∧ q_V r21.2 = q_V δ) from ⟨i23, ⟨kp_w (by decide) u27, v28⟩⟩)
        · have c33 := o_ne h31
          unfold J_X3_answer_62
          exact ok_some (show CI ad h.1 δ0 r21.2 ∧ (kp [(3, 1)] δ r21.2 ∧ q_V r21.2 = q_V δ) from ⟨i23, ⟨kp_w (by decide) u27, v28⟩⟩)
      · have c34 := o_ne h19
        have f35 : (1 : Int32).toInt = 1 := rfl
        refine ok_ite (fun h36 => ?_) (fun h36 => ?_)
        · have c37 := o_eq h36
          refine ok_bind (k_X3_remove L hN (a0 := a0) (x1 := x2) k_a0 I) (fun r38 hr39 => ?_)
          obtain ⟨i40, ⟨u42, v43⟩, p41⟩ := hr39
          have u44 := kp_t kp_r u42
          have v45 := v43.trans rfl
          have f46 := bo_t p41
          have f47 := ti_b r38.1
          unfold J_X3_answer_52
          refine ok_ite (fun h48 => ?_) (fun h48 => ?_)
          · have c49 := o_eq h48
            unfold J_X3_answer_62
            exact ok_some (show CI ad h.1 δ0 r38.2 ∧ (kp [(3, 1)] δ r38.2 ∧ q_V r38.2 = q_V δ) from ⟨i40, ⟨kp_w (by decide) u44, v45⟩⟩)
          · have c50 := o_ne h48
            unfold J_X3_answer_62
            exact ok_some (show CI ad h.1 δ0 r38.2 ∧ (kp [(3, 1)] δ r38.2 ∧ q_V r38.2 = q_V δ) from ⟨i40, ⟨kp_w (by decide) u44, v45⟩⟩)
        · have c51 := o_ne h36
          refine ok_bind (k_X3_holds L hN (a0 := a0) (x1 := x2) k_a0 I) (fun r52 hr53 => ?_)
          obtain ⟨i54, p55⟩ := hr53
          try simp only [i54]
          have f56 := bo_t p55
          have f57 := ti_b r52.1
          unfold J_X3_answer_52
          refine ok_ite (fun h58 => ?_) (fun h58 => ?_)
          · have c59 := o_eq h58
            unfold J_X3_answer_62
            exact ok_some (show CI ad h.1 δ0 δ ∧ (kp [(3, 1)] δ δ ∧ q_V δ = q_V δ) from ⟨I, ⟨kp_w (by decide) kp_r, rfl⟩⟩)
          · have c60 := o_ne h58
            unfold J_X3_answer_62
            exact ok_some (show CI ad h.1 δ0 δ ∧ (kp [(3, 1)] δ δ ∧ q_V δ = q_V δ) from ⟨I, ⟨kp_w (by decide) kp_r, rfl⟩⟩)
set_option maxHeartbeats 4000000 in
theorem k_X3_wordOf {ad : List Nat} {h : hp} (L : Lay TLx ad h) {δ0 : dp} {N : Nat} (hN : 10000000 ≤ N) {x0 : Int32} {δ : dp} (I : CI ad h.1 δ0 δ) : ok (D_X3_wordOf N h.1 x0 δ) (fun r => r.2 = δ) := by
  unfold D_X3_wordOf
  exact ok_some (show δ = δ from rfl)
set_option maxHeartbeats 4000000 in
theorem k_X3_touchesInWords {ad : List Nat} {h : hp} (L : Lay TLx ad h) {δ0 : dp} {N : Nat} (hN : 10000000 ≤ N) {a0 : Nat} {x1 : Int32} {x2 : Int32} {x3 : Int32} (k_a0 : q_K h.1 a0 = 3) {δ : dp} (I : CI ad h.1 δ0 δ) : ok (D_X3_touchesInWords N h.1 a0 x1 x2 x3 δ) (fun r => r.2 = δ) := by
  unfold D_X3_touchesInWords
  have f3 := ti_b x3
  have f4 := sh_b x3
  have f5 := ti_b ((1 : Int32) <<< (x3 &&& 31))
  have f6 : (1 : Int32).toInt = 1 := rfl
  obtain ⟨q7, f8, f9, f10⟩ := ti_sub ((1 : Int32) <<< (x3 &&& 31)) (1 : Int32)
  refine ok_biv (fun vx1 e2 => ?_)
  have f11 := congrArg Int32.toInt e2
  have f12 := ti_b x1
  have f13 : (3 : Int32).toInt = 3 := rfl
  refine ok_ite (fun h14 => ?_) (fun h14 => ?_)
  · have c15 := o_eq h14
    refine ok_bind (k_X3_above L hN (a0 := a0) (x1 := x2) k_a0 I) (fun r16 hr17 => ?_)
    have i18 := hr17
    try simp only [i18]
    have f19 := ti_b r16.1
    have f20 := ti_b x2
    refine ok_ite (fun h21 => ?_) (fun h21 => ?_)
    · have c22 := o_lt h21
      have f23 : (-1 : Int32).toInt = -1 := rfl
      refine ok_ite (fun h24 => ?_) (fun h24 => ?_)
      · have c25 := o_eq h24
        unfold J_X3_touchesInWords_42
        refine ok_bind (k_X3_wordOf L hN (x0 := vx1)  I) (fun r26 hr27 => ?_)
        have i28 := hr27
        try simp only [i28]
        have f29 := ti_b r26.1
        refine ok_bind (k_X3_wordOf L hN (x0 := (x2 + (1 : Int32)))  I) (fun r30 hr31 => ?_)
        have i32 := hr31
        try simp only [i32]
        have f33 := ti_b r30.1
        unfold J_X3_touchesInWords_54
        exact ok_some (show δ = δ from rfl)
      · have c34 := o_ne h24
        unfold J_X3_touchesInWords_42
        refine ok_bind (k_X3_wordOf L hN (x0 := r16.1)  I) (fun r35 hr36 => ?_)
        have i37 := hr36
        try simp only [i37]
        have f38 := ti_b r35.1
        refine ok_bind (k_X3_wordOf L hN (x0 := (x2 + (1 : Int32)))  I) (fun r39 hr40 => ?_)
        have i41 := hr40
        try simp only [i41]
        have f42 := ti_b r39.1
        unfold J_X3_touchesInWords_54
        exact ok_some (show δ = δ from rfl)
    · have c43 := o_nlt h21
      unfold J_X3_touchesInWords_54
      exact ok_some (show δ = δ from rfl)
  · have c44 := o_ne h14
    have f45 : (4 : Int32).toInt = 4 := rfl
    refine ok_ite (fun h46 => ?_) (fun h46 => ?_)
    · have c47 := o_eq h46
      refine ok_bind (k_X3_below L hN (a0 := a0) (x1 := x2) k_a0 I) (fun r48 hr49 => ?_)
      have i50 := hr49
      try simp only [i50]
      have f51 := ti_b r48.1
      have f52 : (0 : Int32).toInt = 0 := rfl
      have f53 := ti_b x2
      refine ok_ite (fun h54 => ?_) (fun h54 => ?_)
      · have c55 := o_lt h54
        refine ok_bind (k_X3_wordOf L hN (x0 := (x2 - (1 : Int32)))  I) (fun r56 hr57 => ?_)
        have i58 := hr57
        try simp only [i58]
        have f59 := ti_b r56.1
        have f60 : (-1 : Int32).toInt = -1 := rfl
        refine ok_ite (fun h61 => ?_) (fun h61 => ?_)
        · have c62 := o_eq h61
          unfold J_X3_touchesInWords_93
          refine ok_bind (k_X3_wordOf L hN (x0 := (0 : Int32))  I) (fun r63 hr64 => ?_)
          have i65 := hr64
          try simp only [i65]
          have f66 := ti_b r63.1
          unfold J_X3_touchesInWords_99
          exact ok_some (show δ = δ from rfl)
        · have c67 := o_ne h61
          unfold J_X3_touchesInWords_93
          refine ok_bind (k_X3_wordOf L hN (x0 := r48.1)  I) (fun r68 hr69 => ?_)
          have i70 := hr69
          try simp only [i70]
          have f71 := ti_b r68.1
          unfold J_X3_touchesInWords_99
          exact ok_some (show δ = δ from rfl)
      · have c72 := o_nlt h54
        unfold J_X3_touchesInWords_99
        exact ok_some (show δ = δ from rfl)
    · have c73 := o_ne h46
      exact ok_some (show δ = δ from rfl)
set_option maxHeartbeats 4000000 in
theorem kl_X3_touchesInRow_25 {ad : List Nat} {h : hp} (L : Lay TLx ad h) {δ0 : dp} {N : Nat} (hN : 10000000 ≤ N) {a0 : Nat} {x1 : Int32} {x2 : Int32} (k_a0 : q_K h.1 a0 = 3) : ∀ (n : Nat) (x3v : Int32) (x4v : Int32) (x5v : Int32) (x6v : Int32) (δ : dp), CI ad h.1 δ0 δ → 0 ≤ (x5v).toInt → (x5v).toInt ≤ (x6v).toInt → (x6v).toInt ≤ (q_I δ 3 1 a0).toInt → (x6v).toInt - (x5v).toInt < (n : Int) → ok (L_X3_touchesInRow_25 N h.1 a0 x1 x2 n x3v x4v x5v x6v δ) (fun r => r.2 = δ) := by
  intro n
  induction n with
  | zero =>
    intro x3v x4v x5v x6v δ I j0 j1 j2 hm
    obtain ⟨b1, o2, k3, ⟨n4, n5⟩, w6⟩ := gO_3_0 L k_a0
    have f7 := cb_3_1 I k_a0 o2
    have f8 := ti_b x5v
    have f9 := ti_b x6v
    exfalso; omega
  | succ n ih =>
    intro x3v x4v x5v x6v δ I j0 j1 j2 hm
    unfold L_X3_touchesInRow_25
    obtain ⟨b1, o2, k3, ⟨n4, n5⟩, w6⟩ := gO_3_0 L k_a0
    have f7 := cb_3_1 I k_a0 o2
    have f8 := ti_b x5v
    have f9 := ti_b x6v
    refine ok_ite (fun h10 => ?_) (fun h10 => ?_)
    · have c11 := o_le h10
      refine ok_ite (fun h12 => ?_) (fun h12 => ?_)
      · have c13 := o_le h12
        unfold J_X3_touchesInRow_95
        unfold J_X3_touchesInRow_96
        have f14 := ti_b x1
        have f15 : (4 : Int32).toInt = 4 := rfl
        refine ok_ite (fun h16 => ?_) (fun h16 => ?_)
        · have c17 := o_eq h16
          have f18 : (0 : Int32).toInt = 0 := rfl
          refine ok_ite (fun h19 => ?_) (fun h19 => ?_)
          · have c20 := o_le h19
            unfold J_X3_touchesInRow_123
            refine ok_ite (fun h21 => ?_) (fun h21 => ?_)
            · have c22 := o_eq h21
              have f23 : (0 : Int32).toInt = 0 := rfl
              refine ok_ite (fun h24 => ?_) (fun h24 => ?_)
              · have c25 := o_eq h24
                have f28 := ti_b x4v
                obtain ⟨q29, f30, f31, f32⟩ := ti_sub (q_I δ 3 1 a0) x5v
                have f33 : (1 : Int32).toInt = 1 := rfl
                obtain ⟨q34, f35, f36, f37⟩ := ti_add ((q_I δ 3 1 a0) - x5v) (1 : Int32)
                obtain ⟨q38, f39, f40, f41⟩ := ti_add x4v (((q_I δ 3 1 a0) - x5v) + (1 : Int32))
                refine ok_biv (fun vx26 e27 => ?_)
                have f42 := congrArg Int32.toInt e27
                unfold J_X3_touchesInRow_146
                refine ok_ite (fun h43 => ?_) (fun h43 => ?_)
                · have c44 := o_eq h43
                  refine ok_ite (fun h45 => ?_) (fun h45 => ?_)
                  · have c46 := o_eq h45
                    unfold J_X3_touchesInRow_170
                    exact ok_some (show δ = δ from rfl)
                  · have c47 := o_ne h45
                    obtain ⟨q50, f51, f52, f53⟩ := ti_sub ((q_I δ 3 1 a0) - x5v) (1 : Int32)
                    obtain ⟨q54, f55, f56, f57⟩ := ti_add vx26 (((q_I δ 3 1 a0) - x5v) - (1 : Int32))
                    refine ok_biv (fun vx48 e49 => ?_)
                    have f58 := congrArg Int32.toInt e49
                    unfold J_X3_touchesInRow_170
                    exact ok_some (show δ = δ from rfl)
                · have c59 := o_ne h43
                  unfold J_X3_touchesInRow_170
                  exact ok_some (show δ = δ from rfl)
              · have c60 := o_ne h24
                unfold J_X3_touchesInRow_146
                have f61 : (1 : Int32).toInt = 1 := rfl
                refine ok_ite (fun h62 => ?_) (fun h62 => ?_)
                · have c63 := o_eq h62
                  refine ok_ite (fun h64 => ?_) (fun h64 => ?_)
                  · have c65 := o_eq h64
                    unfold J_X3_touchesInRow_170
                    exact ok_some (show δ = δ from rfl)
                  · have c66 := o_ne h64
                    have f69 := ti_b x4v
                    obtain ⟨q70, f71, f72, f73⟩ := ti_sub (q_I δ 3 1 a0) x5v
                    obtain ⟨q74, f75, f76, f77⟩ := ti_sub ((q_I δ 3 1 a0) - x5v) (1 : Int32)
                    obtain ⟨q78, f79, f80, f81⟩ := ti_add x4v (((q_I δ 3 1 a0) - x5v) - (1 : Int32))
                    refine ok_biv (fun vx67 e68 => ?_)
                    have f82 := congrArg Int32.toInt e68
                    unfold J_X3_touchesInRow_170
                    exact ok_some (show δ = δ from rfl)
                · have c83 := o_ne h62
                  unfold J_X3_touchesInRow_170
                  exact ok_some (show δ = δ from rfl)
            · have c84 := o_ne h21
              unfold J_X3_touchesInRow_146
              have f85 : (1 : Int32).toInt = 1 := rfl
              refine ok_ite (fun h86 => ?_) (fun h86 => ?_)
              · have c87 := o_eq h86
                have f88 : (0 : Int32).toInt = 0 := rfl
                refine ok_ite (fun h89 => ?_) (fun h89 => ?_)
                · have c90 := o_eq h89
                  unfold J_X3_touchesInRow_170
                  exact ok_some (show δ = δ from rfl)
                · have c91 := o_ne h89
                  have f94 := ti_b x4v
                  obtain ⟨q95, f96, f97, f98⟩ := ti_sub (q_I δ 3 1 a0) x5v
                  obtain ⟨q99, f100, f101, f102⟩ := ti_sub ((q_I δ 3 1 a0) - x5v) (1 : Int32)
                  obtain ⟨q103, f104, f105, f106⟩ := ti_add x4v (((q_I δ 3 1 a0) - x5v) - (1 : Int32))
                  refine ok_biv (fun vx92 e93 => ?_)
                  have f107 := congrArg Int32.toInt e93
                  unfold J_X3_touchesInRow_170
                  exact ok_some (show δ = δ from rfl)
              · have c108 := o_ne h86
                unfold J_X3_touchesInRow_170
                exact ok_some (show δ = δ from rfl)
          · have c109 := o_nle h19
            unfold J_X3_touchesInRow_120
            have f112 := ti_b x4v
            have f113 : (1 : Int32).toInt = 1 := rfl
            obtain ⟨q114, f115, f116, f117⟩ := ti_add x4v (1 : Int32)
            refine ok_biv (fun vx110 e111 => ?_)
            have f118 := congrArg Int32.toInt e111
            unfold J_X3_touchesInRow_123
            refine ok_ite (fun h119 => ?_) (fun h119 => ?_)
            · have c120 := o_eq h119
              have f121 : (0 : Int32).toInt = 0 := rfl
              refine ok_ite (fun h122 => ?_) (fun h122 => ?_)
              · have c123 := o_eq h122
                obtain ⟨q126, f127, f128, f129⟩ := ti_sub (q_I δ 3 1 a0) x5v
                have f130 : (1 : Int32).toInt = 1 := rfl
                obtain ⟨q131, f132, f133, f134⟩ := ti_add ((q_I δ 3 1 a0) - x5v) (1 : Int32)
                obtain ⟨q135, f136, f137, f138⟩ := ti_add vx110 (((q_I δ 3 1 a0) - x5v) + (1 : Int32))
                refine ok_biv (fun vx124 e125 => ?_)
                have f139 := congrArg Int32.toInt e125
                unfold J_X3_touchesInRow_146
                refine ok_ite (fun h140 => ?_) (fun h140 => ?_)
                · have c141 := o_eq h140
                  refine ok_ite (fun h142 => ?_) (fun h142 => ?_)
                  · have c143 := o_eq h142
                    unfold J_X3_touchesInRow_170
                    exact ok_some (show δ = δ from rfl)
                  · have c144 := o_ne h142
                    obtain ⟨q147, f148, f149, f150⟩ := ti_sub ((q_I δ 3 1 a0) - x5v) (1 : Int32)
                    obtain ⟨q151, f152, f153, f154⟩ := ti_add vx124 (((q_I δ 3 1 a0) - x5v) - (1 : Int32))
                    refine ok_biv (fun vx145 e146 => ?_)
                    have f155 := congrArg Int32.toInt e146
                    unfold J_X3_touchesInRow_170
                    exact ok_some (show δ = δ from rfl)
                · have c156 := o_ne h140
                  unfold J_X3_touchesInRow_170
                  exact ok_some (show δ = δ from rfl)
              · have c157 := o_ne h122
                unfold J_X3_touchesInRow_146
                have f158 : (1 : Int32).toInt = 1 := rfl
                refine ok_ite (fun h159 => ?_) (fun h159 => ?_)
                · have c160 := o_eq h159
                  refine ok_ite (fun h161 => ?_) (fun h161 => ?_)
                  · have c162 := o_eq h161
                    unfold J_X3_touchesInRow_170
                    exact ok_some (show δ = δ from rfl)
                  · have c163 := o_ne h161
                    obtain ⟨q166, f167, f168, f169⟩ := ti_sub (q_I δ 3 1 a0) x5v
                    obtain ⟨q170, f171, f172, f173⟩ := ti_sub ((q_I δ 3 1 a0) - x5v) (1 : Int32)
                    obtain ⟨q174, f175, f176, f177⟩ := ti_add vx110 (((q_I δ 3 1 a0) - x5v) - (1 : Int32))
                    refine ok_biv (fun vx164 e165 => ?_)
                    have f178 := congrArg Int32.toInt e165
                    unfold J_X3_touchesInRow_170
                    exact ok_some (show δ = δ from rfl)
                · have c179 := o_ne h159
                  unfold J_X3_touchesInRow_170
                  exact ok_some (show δ = δ from rfl)
            · have c180 := o_ne h119
              unfold J_X3_touchesInRow_146
              have f181 : (1 : Int32).toInt = 1 := rfl
              refine ok_ite (fun h182 => ?_) (fun h182 => ?_)
              · have c183 := o_eq h182
                have f184 : (0 : Int32).toInt = 0 := rfl
                refine ok_ite (fun h185 => ?_) (fun h185 => ?_)
                · have c186 := o_eq h185
                  unfold J_X3_touchesInRow_170
                  exact ok_some (show δ = δ from rfl)
                · have c187 := o_ne h185
                  obtain ⟨q190, f191, f192, f193⟩ := ti_sub (q_I δ 3 1 a0) x5v
                  obtain ⟨q194, f195, f196, f197⟩ := ti_sub ((q_I δ 3 1 a0) - x5v) (1 : Int32)
                  obtain ⟨q198, f199, f200, f201⟩ := ti_add vx110 (((q_I δ 3 1 a0) - x5v) - (1 : Int32))
                  refine ok_biv (fun vx188 e189 => ?_)
                  have f202 := congrArg Int32.toInt e189
                  unfold J_X3_touchesInRow_170
                  exact ok_some (show δ = δ from rfl)
              · have c203 := o_ne h182
                unfold J_X3_touchesInRow_170
                exact ok_some (show δ = δ from rfl)
        · have c204 := o_ne h16
          refine ok_ite (fun h205 => ?_) (fun h205 => ?_)
          · have c206 := o_le h205
            unfold J_X3_touchesInRow_123
            have f207 : (0 : Int32).toInt = 0 := rfl
            refine ok_ite (fun h208 => ?_) (fun h208 => ?_)
            · have c209 := o_eq h208
              have f210 : (0 : Int32).toInt = 0 := rfl
              refine ok_ite (fun h211 => ?_) (fun h211 => ?_)
              · have c212 := o_eq h211
                have f215 := ti_b x4v
                obtain ⟨q216, f217, f218, f219⟩ := ti_sub (q_I δ 3 1 a0) x5v
                have f220 : (1 : Int32).toInt = 1 := rfl
                obtain ⟨q221, f222, f223, f224⟩ := ti_add ((q_I δ 3 1 a0) - x5v) (1 : Int32)
                obtain ⟨q225, f226, f227, f228⟩ := ti_add x4v (((q_I δ 3 1 a0) - x5v) + (1 : Int32))
                refine ok_biv (fun vx213 e214 => ?_)
                have f229 := congrArg Int32.toInt e214
                unfold J_X3_touchesInRow_146
                refine ok_ite (fun h230 => ?_) (fun h230 => ?_)
                · have c231 := o_eq h230
                  refine ok_ite (fun h232 => ?_) (fun h232 => ?_)
                  · have c233 := o_eq h232
                    unfold J_X3_touchesInRow_170
                    exact ok_some (show δ = δ from rfl)
                  · have c234 := o_ne h232
                    obtain ⟨q237, f238, f239, f240⟩ := ti_sub ((q_I δ 3 1 a0) - x5v) (1 : Int32)
                    obtain ⟨q241, f242, f243, f244⟩ := ti_add vx213 (((q_I δ 3 1 a0) - x5v) - (1 : Int32))
                    refine ok_biv (fun vx235 e236 => ?_)
                    have f245 := congrArg Int32.toInt e236
                    unfold J_X3_touchesInRow_170
                    exact ok_some (show δ = δ from rfl)
                · have c246 := o_ne h230
                  unfold J_X3_touchesInRow_170
                  exact ok_some (show δ = δ from rfl)
              · have c247 := o_ne h211
                unfold J_X3_touchesInRow_146
                have f248 : (1 : Int32).toInt = 1 := rfl
                refine ok_ite (fun h249 => ?_) (fun h249 => ?_)
                · have c250 := o_eq h249
                  refine ok_ite (fun h251 => ?_) (fun h251 => ?_)
                  · have c252 := o_eq h251
                    unfold J_X3_touchesInRow_170
                    exact ok_some (show δ = δ from rfl)
                  · have c253 := o_ne h251
                    have f256 := ti_b x4v
                    obtain ⟨q257, f258, f259, f260⟩ := ti_sub (q_I δ 3 1 a0) x5v
                    obtain ⟨q261, f262, f263, f264⟩ := ti_sub ((q_I δ 3 1 a0) - x5v) (1 : Int32)
                    obtain ⟨q265, f266, f267, f268⟩ := ti_add x4v (((q_I δ 3 1 a0) - x5v) - (1 : Int32))
                    refine ok_biv (fun vx254 e255 => ?_)
                    have f269 := congrArg Int32.toInt e255
                    unfold J_X3_touchesInRow_170
                    exact ok_some (show δ = δ from rfl)
                · have c270 := o_ne h249
                  unfold J_X3_touchesInRow_170
                  exact ok_some (show δ = δ from rfl)
            · have c271 := o_ne h208
              unfold J_X3_touchesInRow_146
              have f272 : (1 : Int32).toInt = 1 := rfl
              refine ok_ite (fun h273 => ?_) (fun h273 => ?_)
              · have c274 := o_eq h273
                have f275 : (0 : Int32).toInt = 0 := rfl
                refine ok_ite (fun h276 => ?_) (fun h276 => ?_)
                · have c277 := o_eq h276
                  unfold J_X3_touchesInRow_170
                  exact ok_some (show δ = δ from rfl)
                · have c278 := o_ne h276
                  have f281 := ti_b x4v
                  obtain ⟨q282, f283, f284, f285⟩ := ti_sub (q_I δ 3 1 a0) x5v
                  obtain ⟨q286, f287, f288, f289⟩ := ti_sub ((q_I δ 3 1 a0) - x5v) (1 : Int32)
                  obtain ⟨q290, f291, f292, f293⟩ := ti_add x4v (((q_I δ 3 1 a0) - x5v) - (1 : Int32))
                  refine ok_biv (fun vx279 e280 => ?_)
                  have f294 := congrArg Int32.toInt e280
                  unfold J_X3_touchesInRow_170
                  exact ok_some (show δ = δ from rfl)
              · have c295 := o_ne h273
                unfold J_X3_touchesInRow_170
                exact ok_some (show δ = δ from rfl)
          · have c296 := o_nle h205
            unfold J_X3_touchesInRow_120
            have f299 := ti_b x4v
            have f300 : (1 : Int32).toInt = 1 := rfl
            obtain ⟨q301, f302, f303, f304⟩ := ti_add x4v (1 : Int32)
            refine ok_biv (fun vx297 e298 => ?_)
            have f305 := congrArg Int32.toInt e298
            unfold J_X3_touchesInRow_123
            have f306 : (0 : Int32).toInt = 0 := rfl
            refine ok_ite (fun h307 => ?_) (fun h307 => ?_)
            · have c308 := o_eq h307
              have f309 : (0 : Int32).toInt = 0 := rfl
              refine ok_ite (fun h310 => ?_) (fun h310 => ?_)
              · have c311 := o_eq h310
                obtain ⟨q314, f315, f316, f317⟩ := ti_sub (q_I δ 3 1 a0) x5v
                have f318 : (1 : Int32).toInt = 1 := rfl
                obtain ⟨q319, f320, f321, f322⟩ := ti_add ((q_I δ 3 1 a0) - x5v) (1 : Int32)
                obtain ⟨q323, f324, f325, f326⟩ := ti_add vx297 (((q_I δ 3 1 a0) - x5v) + (1 : Int32))
                refine ok_biv (fun vx312 e313 => ?_)
                have f327 := congrArg Int32.toInt e313
                unfold J_X3_touchesInRow_146
                refine ok_ite (fun h328 => ?_) (fun h328 => ?_)
                · have c329 := o_eq h328
                  refine ok_ite (fun h330 => ?_) (fun h330 => ?_)
                  · have c331 := o_eq h330
                    unfold J_X3_touchesInRow_170
                    exact ok_some (show δ = δ from rfl)
                  · have c332 := o_ne h330
                    obtain ⟨q335, f336, f337, f338⟩ := ti_sub ((q_I δ 3 1 a0) - x5v) (1 : Int32)
                    obtain ⟨q339, f340, f341, f342⟩ := ti_add vx312 (((q_I δ 3 1 a0) - x5v) - (1 : Int32))
                    refine ok_biv (fun vx333 e334 => ?_)
                    have f343 := congrArg Int32.toInt e334
                    unfold J_X3_touchesInRow_170
                    exact ok_some (show δ = δ from rfl)
                · have c344 := o_ne h328
                  unfold J_X3_touchesInRow_170
                  exact ok_some (show δ = δ from rfl)
              · have c345 := o_ne h310
                unfold J_X3_touchesInRow_146
                have f346 : (1 : Int32).toInt = 1 := rfl
                refine ok_ite (fun h347 => ?_) (fun h347 => ?_)
                · have c348 := o_eq h347
                  refine ok_ite (fun h349 => ?_) (fun h349 => ?_)
                  · have c350 := o_eq h349
                    unfold J_X3_touchesInRow_170
                    exact ok_some (show δ = δ from rfl)
                  · have c351 := o_ne h349
                    obtain ⟨q354, f355, f356, f357⟩ := ti_sub (q_I δ 3 1 a0) x5v
                    obtain ⟨q358, f359, f360, f361⟩ := ti_sub ((q_I δ 3 1 a0) - x5v) (1 : Int32)
                    obtain ⟨q362, f363, f364, f365⟩ := ti_add vx297 (((q_I δ 3 1 a0) - x5v) - (1 : Int32))
                    refine ok_biv (fun vx352 e353 => ?_)
                    have f366 := congrArg Int32.toInt e353
                    unfold J_X3_touchesInRow_170
                    exact ok_some (show δ = δ from rfl)
                · have c367 := o_ne h347
                  unfold J_X3_touchesInRow_170
                  exact ok_some (show δ = δ from rfl)
            · have c368 := o_ne h307
              unfold J_X3_touchesInRow_146
              have f369 : (1 : Int32).toInt = 1 := rfl
              refine ok_ite (fun h370 => ?_) (fun h370 => ?_)
              · have c371 := o_eq h370
                have f372 : (0 : Int32).toInt = 0 := rfl
                refine ok_ite (fun h373 => ?_) (fun h373 => ?_)
                · have c374 := o_eq h373
                  unfold J_X3_touchesInRow_170
                  exact ok_some (show δ = δ from rfl)
                · have c375 := o_ne h373
                  obtain ⟨q378, f379, f380, f381⟩ := ti_sub (q_I δ 3 1 a0) x5v
                  obtain ⟨q382, f383, f384, f385⟩ := ti_sub ((q_I δ 3 1 a0) - x5v) (1 : Int32)
                  obtain ⟨q386, f387, f388, f389⟩ := ti_add vx297 (((q_I δ 3 1 a0) - x5v) - (1 : Int32))
                  refine ok_biv (fun vx376 e377 => ?_)
                  have f390 := congrArg Int32.toInt e377
                  unfold J_X3_touchesInRow_170
                  exact ok_some (show δ = δ from rfl)
              · have c391 := o_ne h370
                unfold J_X3_touchesInRow_170
                exact ok_some (show δ = δ from rfl)
      · have c392 := o_nle h12
        refine ok_at o2 ?_
        have f393 : (0 : Int32).toInt = 0 := rfl
        have t394 := ti_tn x5v
        refine ok_gd (fun hc395 => ?_) ?_
        · rcases hc395 with hc395 | hc395
          · have c396 := o_lt hc395
            omega
          · omega
        refine ok_ite (fun h397 => ?_) (fun h397 => ?_)
        · unfold J_X3_touchesInRow_96
          have f398 := ti_b x1
          have f399 : (4 : Int32).toInt = 4 := rfl
          refine ok_ite (fun h400 => ?_) (fun h400 => ?_)
          · have c401 := o_eq h400
            refine ok_ite (fun h402 => ?_) (fun h402 => ?_)
            · have c403 := o_le h402
              unfold J_X3_touchesInRow_123
              refine ok_ite (fun h404 => ?_) (fun h404 => ?_)
              · have c405 := o_eq h404
                have f406 : (1 : Int32).toInt = 1 := rfl
                refine ok_ite (fun h407 => ?_) (fun h407 => ?_)
                · have c408 := o_eq h407
                  have f411 := ti_b x4v
                  obtain ⟨q412, f413, f414, f415⟩ := ti_sub (q_I δ 3 1 a0) x5v
                  obtain ⟨q416, f417, f418, f419⟩ := ti_add ((q_I δ 3 1 a0) - x5v) (1 : Int32)
                  obtain ⟨q420, f421, f422, f423⟩ := ti_add x4v (((q_I δ 3 1 a0) - x5v) + (1 : Int32))
                  refine ok_biv (fun vx409 e410 => ?_)
                  have f424 := congrArg Int32.toInt e410
                  unfold J_X3_touchesInRow_146
                  refine ok_ite (fun h425 => ?_) (fun h425 => ?_)
                  · have c426 := o_eq h425
                    refine ok_ite (fun h427 => ?_) (fun h427 => ?_)
                    · have c428 := o_eq h427
                      unfold J_X3_touchesInRow_170
                      exact ok_some (show δ = δ from rfl)
                    · have c429 := o_ne h427
                      obtain ⟨q432, f433, f434, f435⟩ := ti_sub ((q_I δ 3 1 a0) - x5v) (1 : Int32)
                      obtain ⟨q436, f437, f438, f439⟩ := ti_add vx409 (((q_I δ 3 1 a0) - x5v) - (1 : Int32))
                      refine ok_biv (fun vx430 e431 => ?_)
                      have f440 := congrArg Int32.toInt e431
                      unfold J_X3_touchesInRow_170
                      exact ok_some (show δ = δ from rfl)
                  · have c441 := o_ne h425
                    unfold J_X3_touchesInRow_170
                    exact ok_some (show δ = δ from rfl)
                · have c442 := o_ne h407
                  unfold J_X3_touchesInRow_146
                  refine ok_ite (fun h443 => ?_) (fun h443 => ?_)
                  · have c444 := o_eq h443
                    refine ok_ite (fun h445 => ?_) (fun h445 => ?_)
                    · have c446 := o_eq h445
                      unfold J_X3_touchesInRow_170
                      exact ok_some (show δ = δ from rfl)
                    · have c447 := o_ne h445
                      have f450 := ti_b x4v
                      obtain ⟨q451, f452, f453, f454⟩ := ti_sub (q_I δ 3 1 a0) x5v
                      obtain ⟨q455, f456, f457, f458⟩ := ti_sub ((q_I δ 3 1 a0) - x5v) (1 : Int32)
                      obtain ⟨q459, f460, f461, f462⟩ := ti_add x4v (((q_I δ 3 1 a0) - x5v) - (1 : Int32))
                      refine ok_biv (fun vx448 e449 => ?_)
                      have f463 := congrArg Int32.toInt e449
                      unfold J_X3_touchesInRow_170
                      exact ok_some (show δ = δ from rfl)
                  · have c464 := o_ne h443
                    unfold J_X3_touchesInRow_170
                    exact ok_some (show δ = δ from rfl)
              · have c465 := o_ne h404
                unfold J_X3_touchesInRow_146
                have f466 : (1 : Int32).toInt = 1 := rfl
                refine ok_ite (fun h467 => ?_) (fun h467 => ?_)
                · have c468 := o_eq h467
                  refine ok_ite (fun h469 => ?_) (fun h469 => ?_)
                  · have c470 := o_eq h469
                    unfold J_X3_touchesInRow_170
                    exact ok_some (show δ = δ from rfl)
                  · have c471 := o_ne h469
                    have f474 := ti_b x4v
                    obtain ⟨q475, f476, f477, f478⟩ := ti_sub (q_I δ 3 1 a0) x5v
                    obtain ⟨q479, f480, f481, f482⟩ := ti_sub ((q_I δ 3 1 a0) - x5v) (1 : Int32)
                    obtain ⟨q483, f484, f485, f486⟩ := ti_add x4v (((q_I δ 3 1 a0) - x5v) - (1 : Int32))
                    refine ok_biv (fun vx472 e473 => ?_)
                    have f487 := congrArg Int32.toInt e473
                    unfold J_X3_touchesInRow_170
                    exact ok_some (show δ = δ from rfl)
                · have c488 := o_ne h467
                  unfold J_X3_touchesInRow_170
                  exact ok_some (show δ = δ from rfl)
            · have c489 := o_nle h402
              unfold J_X3_touchesInRow_120
              have f492 := ti_b x4v
              have f493 : (1 : Int32).toInt = 1 := rfl
              obtain ⟨q494, f495, f496, f497⟩ := ti_add x4v (1 : Int32)
              refine ok_biv (fun vx490 e491 => ?_)
              have f498 := congrArg Int32.toInt e491
              unfold J_X3_touchesInRow_123
              refine ok_ite (fun h499 => ?_) (fun h499 => ?_)
              · have c500 := o_eq h499
                have f501 : (1 : Int32).toInt = 1 := rfl
                refine ok_ite (fun h502 => ?_) (fun h502 => ?_)
                · have c503 := o_eq h502
                  obtain ⟨q506, f507, f508, f509⟩ := ti_sub (q_I δ 3 1 a0) x5v
                  obtain ⟨q510, f511, f512, f513⟩ := ti_add ((q_I δ 3 1 a0) - x5v) (1 : Int32)
                  obtain ⟨q514, f515, f516, f517⟩ := ti_add vx490 (((q_I δ 3 1 a0) - x5v) + (1 : Int32))
                  refine ok_biv (fun vx504 e505 => ?_)
                  have f518 := congrArg Int32.toInt e505
                  unfold J_X3_touchesInRow_146
                  refine ok_ite (fun h519 => ?_) (fun h519 => ?_)
                  · have c520 := o_eq h519
                    refine ok_ite (fun h521 => ?_) (fun h521 => ?_)
                    · have c522 := o_eq h521
                      unfold J_X3_touchesInRow_170
                      exact ok_some (show δ = δ from rfl)
                    · have c523 := o_ne h521
                      obtain ⟨q526, f527, f528, f529⟩ := ti_sub ((q_I δ 3 1 a0) - x5v) (1 : Int32)
                      obtain ⟨q530, f531, f532, f533⟩ := ti_add vx504 (((q_I δ 3 1 a0) - x5v) - (1 : Int32))
                      refine ok_biv (fun vx524 e525 => ?_)
                      have f534 := congrArg Int32.toInt e525
                      unfold J_X3_touchesInRow_170
                      exact ok_some (show δ = δ from rfl)
                  · have c535 := o_ne h519
                    unfold J_X3_touchesInRow_170
                    exact ok_some (show δ = δ from rfl)
                · have c536 := o_ne h502
                  unfold J_X3_touchesInRow_146
                  refine ok_ite (fun h537 => ?_) (fun h537 => ?_)
                  · have c538 := o_eq h537
                    refine ok_ite (fun h539 => ?_) (fun h539 => ?_)
                    · have c540 := o_eq h539
                      unfold J_X3_touchesInRow_170
                      exact ok_some (show δ = δ from rfl)
                    · have c541 := o_ne h539
                      obtain ⟨q544, f545, f546, f547⟩ := ti_sub (q_I δ 3 1 a0) x5v
                      obtain ⟨q548, f549, f550, f551⟩ := ti_sub ((q_I δ 3 1 a0) - x5v) (1 : Int32)
                      obtain ⟨q552, f553, f554, f555⟩ := ti_add vx490 (((q_I δ 3 1 a0) - x5v) - (1 : Int32))
                      refine ok_biv (fun vx542 e543 => ?_)
                      have f556 := congrArg Int32.toInt e543
                      unfold J_X3_touchesInRow_170
                      exact ok_some (show δ = δ from rfl)
                  · have c557 := o_ne h537
                    unfold J_X3_touchesInRow_170
                    exact ok_some (show δ = δ from rfl)
              · have c558 := o_ne h499
                unfold J_X3_touchesInRow_146
                have f559 : (1 : Int32).toInt = 1 := rfl
                refine ok_ite (fun h560 => ?_) (fun h560 => ?_)
                · have c561 := o_eq h560
                  refine ok_ite (fun h562 => ?_) (fun h562 => ?_)
                  · have c563 := o_eq h562
                    unfold J_X3_touchesInRow_170
                    exact ok_some (show δ = δ from rfl)
                  · have c564 := o_ne h562
                    obtain ⟨q567, f568, f569, f570⟩ := ti_sub (q_I δ 3 1 a0) x5v
                    obtain ⟨q571, f572, f573, f574⟩ := ti_sub ((q_I δ 3 1 a0) - x5v) (1 : Int32)
                    obtain ⟨q575, f576, f577, f578⟩ := ti_add vx490 (((q_I δ 3 1 a0) - x5v) - (1 : Int32))
                    refine ok_biv (fun vx565 e566 => ?_)
                    have f579 := congrArg Int32.toInt e566
                    unfold J_X3_touchesInRow_170
                    exact ok_some (show δ = δ from rfl)
                · have c580 := o_ne h560
                  unfold J_X3_touchesInRow_170
                  exact ok_some (show δ = δ from rfl)
          · have c581 := o_ne h400
            refine ok_ite (fun h582 => ?_) (fun h582 => ?_)
            · have c583 := o_le h582
              unfold J_X3_touchesInRow_123
              refine ok_ite (fun h584 => ?_) (fun h584 => ?_)
              · have c585 := o_eq h584
                have f586 : (1 : Int32).toInt = 1 := rfl
                refine ok_ite (fun h587 => ?_) (fun h587 => ?_)
                · have c588 := o_eq h587
                  have f591 := ti_b x4v
                  obtain ⟨q592, f593, f594, f595⟩ := ti_sub (q_I δ 3 1 a0) x5v
                  obtain ⟨q596, f597, f598, f599⟩ := ti_add ((q_I δ 3 1 a0) - x5v) (1 : Int32)
                  obtain ⟨q600, f601, f602, f603⟩ := ti_add x4v (((q_I δ 3 1 a0) - x5v) + (1 : Int32))
                  refine ok_biv (fun vx589 e590 => ?_)
                  have f604 := congrArg Int32.toInt e590
                  unfold J_X3_touchesInRow_146
                  refine ok_ite (fun h605 => ?_) (fun h605 => ?_)
                  · have c606 := o_eq h605
                    refine ok_ite (fun h607 => ?_) (fun h607 => ?_)
                    · have c608 := o_eq h607
                      unfold J_X3_touchesInRow_170
                      exact ok_some (show δ = δ from rfl)
                    · have c609 := o_ne h607
                      obtain ⟨q612, f613, f614, f615⟩ := ti_sub ((q_I δ 3 1 a0) - x5v) (1 : Int32)
                      obtain ⟨q616, f617, f618, f619⟩ := ti_add vx589 (((q_I δ 3 1 a0) - x5v) - (1 : Int32))
                      refine ok_biv (fun vx610 e611 => ?_)
                      have f620 := congrArg Int32.toInt e611
                      unfold J_X3_touchesInRow_170
                      exact ok_some (show δ = δ from rfl)
                  · have c621 := o_ne h605
                    unfold J_X3_touchesInRow_170
                    exact ok_some (show δ = δ from rfl)
                · have c622 := o_ne h587
                  unfold J_X3_touchesInRow_146
                  refine ok_ite (fun h623 => ?_) (fun h623 => ?_)
                  · have c624 := o_eq h623
                    refine ok_ite (fun h625 => ?_) (fun h625 => ?_)
                    · have c626 := o_eq h625
                      unfold J_X3_touchesInRow_170
                      exact ok_some (show δ = δ from rfl)
                    · have c627 := o_ne h625
                      have f630 := ti_b x4v
                      obtain ⟨q631, f632, f633, f634⟩ := ti_sub (q_I δ 3 1 a0) x5v
                      obtain ⟨q635, f636, f637, f638⟩ := ti_sub ((q_I δ 3 1 a0) - x5v) (1 : Int32)
                      obtain ⟨q639, f640, f641, f642⟩ := ti_add x4v (((q_I δ 3 1 a0) - x5v) - (1 : Int32))
                      refine ok_biv (fun vx628 e629 => ?_)
                      have f643 := congrArg Int32.toInt e629
                      unfold J_X3_touchesInRow_170
                      exact ok_some (show δ = δ from rfl)
                  · have c644 := o_ne h623
                    unfold J_X3_touchesInRow_170
                    exact ok_some (show δ = δ from rfl)
              · have c645 := o_ne h584
                unfold J_X3_touchesInRow_146
                have f646 : (1 : Int32).toInt = 1 := rfl
                refine ok_ite (fun h647 => ?_) (fun h647 => ?_)
                · have c648 := o_eq h647
                  refine ok_ite (fun h649 => ?_) (fun h649 => ?_)
                  · have c650 := o_eq h649
                    unfold J_X3_touchesInRow_170
                    exact ok_some (show δ = δ from rfl)
                  · have c651 := o_ne h649
                    have f654 := ti_b x4v
                    obtain ⟨q655, f656, f657, f658⟩ := ti_sub (q_I δ 3 1 a0) x5v
                    obtain ⟨q659, f660, f661, f662⟩ := ti_sub ((q_I δ 3 1 a0) - x5v) (1 : Int32)
                    obtain ⟨q663, f664, f665, f666⟩ := ti_add x4v (((q_I δ 3 1 a0) - x5v) - (1 : Int32))
                    refine ok_biv (fun vx652 e653 => ?_)
                    have f667 := congrArg Int32.toInt e653
                    unfold J_X3_touchesInRow_170
                    exact ok_some (show δ = δ from rfl)
                · have c668 := o_ne h647
                  unfold J_X3_touchesInRow_170
                  exact ok_some (show δ = δ from rfl)
            · have c669 := o_nle h582
              unfold J_X3_touchesInRow_120
              have f672 := ti_b x4v
              have f673 : (1 : Int32).toInt = 1 := rfl
              obtain ⟨q674, f675, f676, f677⟩ := ti_add x4v (1 : Int32)
              refine ok_biv (fun vx670 e671 => ?_)
              have f678 := congrArg Int32.toInt e671
              unfold J_X3_touchesInRow_123
              refine ok_ite (fun h679 => ?_) (fun h679 => ?_)
              · have c680 := o_eq h679
                have f681 : (1 : Int32).toInt = 1 := rfl
                refine ok_ite (fun h682 => ?_) (fun h682 => ?_)
                · have c683 := o_eq h682
                  obtain ⟨q686, f687, f688, f689⟩ := ti_sub (q_I δ 3 1 a0) x5v
                  obtain ⟨q690, f691, f692, f693⟩ := ti_add ((q_I δ 3 1 a0) - x5v) (1 : Int32)
                  obtain ⟨q694, f695, f696, f697⟩ := ti_add vx670 (((q_I δ 3 1 a0) - x5v) + (1 : Int32))
                  refine ok_biv (fun vx684 e685 => ?_)
                  have f698 := congrArg Int32.toInt e685
                  unfold J_X3_touchesInRow_146
                  refine ok_ite (fun h699 => ?_) (fun h699 => ?_)
                  · have c700 := o_eq h699
                    refine ok_ite (fun h701 => ?_) (fun h701 => ?_)
                    · have c702 := o_eq h701
                      unfold J_X3_touchesInRow_170
                      exact ok_some (show δ = δ from rfl)
                    · have c703 := o_ne h701
                      obtain ⟨q706, f707, f708, f709⟩ := ti_sub ((q_I δ 3 1 a0) - x5v) (1 : Int32)
                      obtain ⟨q710, f711, f712, f713⟩ := ti_add vx684 (((q_I δ 3 1 a0) - x5v) - (1 : Int32))
                      refine ok_biv (fun vx704 e705 => ?_)
                      have f714 := congrArg Int32.toInt e705
                      unfold J_X3_touchesInRow_170
                      exact ok_some (show δ = δ from rfl)
                  · have c715 := o_ne h699
                    unfold J_X3_touchesInRow_170
                    exact ok_some (show δ = δ from rfl)
                · have c716 := o_ne h682
                  unfold J_X3_touchesInRow_146
                  refine ok_ite (fun h717 => ?_) (fun h717 => ?_)
                  · have c718 := o_eq h717
                    refine ok_ite (fun h719 => ?_) (fun h719 => ?_)
                    · have c720 := o_eq h719
                      unfold J_X3_touchesInRow_170
                      exact ok_some (show δ = δ from rfl)
                    · have c721 := o_ne h719
                      obtain ⟨q724, f725, f726, f727⟩ := ti_sub (q_I δ 3 1 a0) x5v
                      obtain ⟨q728, f729, f730, f731⟩ := ti_sub ((q_I δ 3 1 a0) - x5v) (1 : Int32)
                      obtain ⟨q732, f733, f734, f735⟩ := ti_add vx670 (((q_I δ 3 1 a0) - x5v) - (1 : Int32))
                      refine ok_biv (fun vx722 e723 => ?_)
                      have f736 := congrArg Int32.toInt e723
                      unfold J_X3_touchesInRow_170
                      exact ok_some (show δ = δ from rfl)
                  · have c737 := o_ne h717
                    unfold J_X3_touchesInRow_170
                    exact ok_some (show δ = δ from rfl)
              · have c738 := o_ne h679
                unfold J_X3_touchesInRow_146
                have f739 : (1 : Int32).toInt = 1 := rfl
                refine ok_ite (fun h740 => ?_) (fun h740 => ?_)
                · have c741 := o_eq h740
                  refine ok_ite (fun h742 => ?_) (fun h742 => ?_)
                  · have c743 := o_eq h742
                    unfold J_X3_touchesInRow_170
                    exact ok_some (show δ = δ from rfl)
                  · have c744 := o_ne h742
                    obtain ⟨q747, f748, f749, f750⟩ := ti_sub (q_I δ 3 1 a0) x5v
                    obtain ⟨q751, f752, f753, f754⟩ := ti_sub ((q_I δ 3 1 a0) - x5v) (1 : Int32)
                    obtain ⟨q755, f756, f757, f758⟩ := ti_add vx670 (((q_I δ 3 1 a0) - x5v) - (1 : Int32))
                    refine ok_biv (fun vx745 e746 => ?_)
                    have f759 := congrArg Int32.toInt e746
                    unfold J_X3_touchesInRow_170
                    exact ok_some (show δ = δ from rfl)
                · have c760 := o_ne h740
                  unfold J_X3_touchesInRow_170
                  exact ok_some (show δ = δ from rfl)
        · unfold J_X3_touchesInRow_95
          unfold J_X3_touchesInRow_96
          have f761 := ti_b x1
          have f762 : (4 : Int32).toInt = 4 := rfl
          refine ok_ite (fun h763 => ?_) (fun h763 => ?_)
          · have c764 := o_eq h763
            refine ok_ite (fun h765 => ?_) (fun h765 => ?_)
            · have c766 := o_le h765
              unfold J_X3_touchesInRow_123
              refine ok_ite (fun h767 => ?_) (fun h767 => ?_)
              · have c768 := o_eq h767
                have f769 : (0 : Int32).toInt = 0 := rfl
                refine ok_ite (fun h770 => ?_) (fun h770 => ?_)
                · have c771 := o_eq h770
                  have f774 := ti_b x4v
                  obtain ⟨q775, f776, f777, f778⟩ := ti_sub (q_I δ 3 1 a0) x5v
                  have f779 : (1 : Int32).toInt = 1 := rfl
                  obtain ⟨q780, f781, f782, f783⟩ := ti_add ((q_I δ 3 1 a0) - x5v) (1 : Int32)
                  obtain ⟨q784, f785, f786, f787⟩ := ti_add x4v (((q_I δ 3 1 a0) - x5v) + (1 : Int32))
                  refine ok_biv (fun vx772 e773 => ?_)
                  have f788 := congrArg Int32.toInt e773
                  unfold J_X3_touchesInRow_146
                  refine ok_ite (fun h789 => ?_) (fun h789 => ?_)
                  · have c790 := o_eq h789
                    refine ok_ite (fun h791 => ?_) (fun h791 => ?_)
                    · have c792 := o_eq h791
                      unfold J_X3_touchesInRow_170
                      exact ok_some (show δ = δ from rfl)
                    · have c793 := o_ne h791
                      obtain ⟨q796, f797, f798, f799⟩ := ti_sub ((q_I δ 3 1 a0) - x5v) (1 : Int32)
                      obtain ⟨q800, f801, f802, f803⟩ := ti_add vx772 (((q_I δ 3 1 a0) - x5v) - (1 : Int32))
                      refine ok_biv (fun vx794 e795 => ?_)
                      have f804 := congrArg Int32.toInt e795
                      unfold J_X3_touchesInRow_170
                      exact ok_some (show δ = δ from rfl)
                  · have c805 := o_ne h789
                    unfold J_X3_touchesInRow_170
                    exact ok_some (show δ = δ from rfl)
                · have c806 := o_ne h770
                  unfold J_X3_touchesInRow_146
                  have f807 : (1 : Int32).toInt = 1 := rfl
                  refine ok_ite (fun h808 => ?_) (fun h808 => ?_)
                  · have c809 := o_eq h808
                    refine ok_ite (fun h810 => ?_) (fun h810 => ?_)
                    · have c811 := o_eq h810
                      unfold J_X3_touchesInRow_170
                      exact ok_some (show δ = δ from rfl)
                    · have c812 := o_ne h810
                      have f815 := ti_b x4v
                      obtain ⟨q816, f817, f818, f819⟩ := ti_sub (q_I δ 3 1 a0) x5v
                      obtain ⟨q820, f821, f822, f823⟩ := ti_sub ((q_I δ 3 1 a0) - x5v) (1 : Int32)
                      obtain ⟨q824, f825, f826, f827⟩ := ti_add x4v (((q_I δ 3 1 a0) - x5v) - (1 : Int32))
                      refine ok_biv (fun vx813 e814 => ?_)
                      have f828 := congrArg Int32.toInt e814
                      unfold J_X3_touchesInRow_170
                      exact ok_some (show δ = δ from rfl)
                  · have c829 := o_ne h808
                    unfold J_X3_touchesInRow_170
                    exact ok_some (show δ = δ from rfl)
              · have c830 := o_ne h767
                unfold J_X3_touchesInRow_146
                have f831 : (1 : Int32).toInt = 1 := rfl
                refine ok_ite (fun h832 => ?_) (fun h832 => ?_)
                · have c833 := o_eq h832
                  have f834 : (0 : Int32).toInt = 0 := rfl
                  refine ok_ite (fun h835 => ?_) (fun h835 => ?_)
                  · have c836 := o_eq h835
                    unfold J_X3_touchesInRow_170
                    exact ok_some (show δ = δ from rfl)
                  · have c837 := o_ne h835
                    have f840 := ti_b x4v
                    obtain ⟨q841, f842, f843, f844⟩ := ti_sub (q_I δ 3 1 a0) x5v
                    obtain ⟨q845, f846, f847, f848⟩ := ti_sub ((q_I δ 3 1 a0) - x5v) (1 : Int32)
                    obtain ⟨q849, f850, f851, f852⟩ := ti_add x4v (((q_I δ 3 1 a0) - x5v) - (1 : Int32))
                    refine ok_biv (fun vx838 e839 => ?_)
                    have f853 := congrArg Int32.toInt e839
                    unfold J_X3_touchesInRow_170
                    exact ok_some (show δ = δ from rfl)
                · have c854 := o_ne h832
                  unfold J_X3_touchesInRow_170
                  exact ok_some (show δ = δ from rfl)
            · have c855 := o_nle h765
              unfold J_X3_touchesInRow_120
              have f858 := ti_b x4v
              have f859 : (1 : Int32).toInt = 1 := rfl
              obtain ⟨q860, f861, f862, f863⟩ := ti_add x4v (1 : Int32)
              refine ok_biv (fun vx856 e857 => ?_)
              have f864 := congrArg Int32.toInt e857
              unfold J_X3_touchesInRow_123
              refine ok_ite (fun h865 => ?_) (fun h865 => ?_)
              · have c866 := o_eq h865
                have f867 : (0 : Int32).toInt = 0 := rfl
                refine ok_ite (fun h868 => ?_) (fun h868 => ?_)
                · have c869 := o_eq h868
                  obtain ⟨q872, f873, f874, f875⟩ := ti_sub (q_I δ 3 1 a0) x5v
                  have f876 : (1 : Int32).toInt = 1 := rfl
                  obtain ⟨q877, f878, f879, f880⟩ := ti_add ((q_I δ 3 1 a0) - x5v) (1 : Int32)
                  obtain ⟨q881, f882, f883, f884⟩ := ti_add vx856 (((q_I δ 3 1 a0) - x5v) + (1 : Int32))
                  refine ok_biv (fun vx870 e871 => ?_)
                  have f885 := congrArg Int32.toInt e871
                  unfold J_X3_touchesInRow_146
                  refine ok_ite (fun h886 => ?_) (fun h886 => ?_)
                  · have c887 := o_eq h886
                    refine ok_ite (fun h888 => ?_) (fun h888 => ?_)
                    · have c889 := o_eq h888
                      unfold J_X3_touchesInRow_170
                      exact ok_some (show δ = δ from rfl)
                    · have c890 := o_ne h888
                      obtain ⟨q893, f894, f895, f896⟩ := ti_sub ((q_I δ 3 1 a0) - x5v) (1 : Int32)
                      obtain ⟨q897, f898, f899, f900⟩ := ti_add vx870 (((q_I δ 3 1 a0) - x5v) - (1 : Int32))
                      refine ok_biv (fun vx891 e892 => ?_)
                      have f901 := congrArg Int32.toInt e892
                      unfold J_X3_touchesInRow_170
                      exact ok_some (show δ = δ from rfl)
                  · have c902 := o_ne h886
                    unfold J_X3_touchesInRow_170
                    exact ok_some (show δ = δ from rfl)
                · have c903 := o_ne h868
                  unfold J_X3_touchesInRow_146
                  have f904 : (1 : Int32).toInt = 1 := rfl
                  refine ok_ite (fun h905 => ?_) (fun h905 => ?_)
                  · have c906 := o_eq h905
                    refine ok_ite (fun h907 => ?_) (fun h907 => ?_)
                    · have c908 := o_eq h907
                      unfold J_X3_touchesInRow_170
                      exact ok_some (show δ = δ from rfl)
                    · have c909 := o_ne h907
                      obtain ⟨q912, f913, f914, f915⟩ := ti_sub (q_I δ 3 1 a0) x5v
                      obtain ⟨q916, f917, f918, f919⟩ := ti_sub ((q_I δ 3 1 a0) - x5v) (1 : Int32)
                      obtain ⟨q920, f921, f922, f923⟩ := ti_add vx856 (((q_I δ 3 1 a0) - x5v) - (1 : Int32))
                      refine ok_biv (fun vx910 e911 => ?_)
                      have f924 := congrArg Int32.toInt e911
                      unfold J_X3_touchesInRow_170
                      exact ok_some (show δ = δ from rfl)
                  · have c925 := o_ne h905
                    unfold J_X3_touchesInRow_170
                    exact ok_some (show δ = δ from rfl)
              · have c926 := o_ne h865
                unfold J_X3_touchesInRow_146
                have f927 : (1 : Int32).toInt = 1 := rfl
                refine ok_ite (fun h928 => ?_) (fun h928 => ?_)
                · have c929 := o_eq h928
                  have f930 : (0 : Int32).toInt = 0 := rfl
                  refine ok_ite (fun h931 => ?_) (fun h931 => ?_)
                  · have c932 := o_eq h931
                    unfold J_X3_touchesInRow_170
                    exact ok_some (show δ = δ from rfl)
                  · have c933 := o_ne h931
                    obtain ⟨q936, f937, f938, f939⟩ := ti_sub (q_I δ 3 1 a0) x5v
                    obtain ⟨q940, f941, f942, f943⟩ := ti_sub ((q_I δ 3 1 a0) - x5v) (1 : Int32)
                    obtain ⟨q944, f945, f946, f947⟩ := ti_add vx856 (((q_I δ 3 1 a0) - x5v) - (1 : Int32))
                    refine ok_biv (fun vx934 e935 => ?_)
                    have f948 := congrArg Int32.toInt e935
                    unfold J_X3_touchesInRow_170
                    exact ok_some (show δ = δ from rfl)
                · have c949 := o_ne h928
                  unfold J_X3_touchesInRow_170
                  exact ok_some (show δ = δ from rfl)
          · have c950 := o_ne h763
            refine ok_ite (fun h951 => ?_) (fun h951 => ?_)
            · have c952 := o_le h951
              unfold J_X3_touchesInRow_123
              refine ok_ite (fun h953 => ?_) (fun h953 => ?_)
              · have c954 := o_eq h953
                have f955 : (0 : Int32).toInt = 0 := rfl
                refine ok_ite (fun h956 => ?_) (fun h956 => ?_)
                · have c957 := o_eq h956
                  have f960 := ti_b x4v
                  obtain ⟨q961, f962, f963, f964⟩ := ti_sub (q_I δ 3 1 a0) x5v
                  have f965 : (1 : Int32).toInt = 1 := rfl
                  obtain ⟨q966, f967, f968, f969⟩ := ti_add ((q_I δ 3 1 a0) - x5v) (1 : Int32)
                  obtain ⟨q970, f971, f972, f973⟩ := ti_add x4v (((q_I δ 3 1 a0) - x5v) + (1 : Int32))
                  refine ok_biv (fun vx958 e959 => ?_)
                  have f974 := congrArg Int32.toInt e959
                  unfold J_X3_touchesInRow_146
                  refine ok_ite (fun h975 => ?_) (fun h975 => ?_)
                  · have c976 := o_eq h975
                    refine ok_ite (fun h977 => ?_) (fun h977 => ?_)
                    · have c978 := o_eq h977
                      unfold J_X3_touchesInRow_170
                      exact ok_some (show δ = δ from rfl)
                    · have c979 := o_ne h977
                      obtain ⟨q982, f983, f984, f985⟩ := ti_sub ((q_I δ 3 1 a0) - x5v) (1 : Int32)
                      obtain ⟨q986, f987, f988, f989⟩ := ti_add vx958 (((q_I δ 3 1 a0) - x5v) - (1 : Int32))
                      refine ok_biv (fun vx980 e981 => ?_)
                      have f990 := congrArg Int32.toInt e981
                      unfold J_X3_touchesInRow_170
                      exact ok_some (show δ = δ from rfl)
                  · have c991 := o_ne h975
                    unfold J_X3_touchesInRow_170
                    exact ok_some (show δ = δ from rfl)
                · have c992 := o_ne h956
                  unfold J_X3_touchesInRow_146
                  have f993 : (1 : Int32).toInt = 1 := rfl
                  refine ok_ite (fun h994 => ?_) (fun h994 => ?_)
                  · have c995 := o_eq h994
                    refine ok_ite (fun h996 => ?_) (fun h996 => ?_)
                    · have c997 := o_eq h996
                      unfold J_X3_touchesInRow_170
                      exact ok_some (show δ = δ from rfl)
                    · have c998 := o_ne h996
                      have f1001 := ti_b x4v
                      obtain ⟨q1002, f1003, f1004, f1005⟩ := ti_sub (q_I δ 3 1 a0) x5v
                      obtain ⟨q1006, f1007, f1008, f1009⟩ := ti_sub ((q_I δ 3 1 a0) - x5v) (1 : Int32)
                      obtain ⟨q1010, f1011, f1012, f1013⟩ := ti_add x4v (((q_I δ 3 1 a0) - x5v) - (1 : Int32))
                      refine ok_biv (fun vx999 e1000 => ?_)
                      have f1014 := congrArg Int32.toInt e1000
                      unfold J_X3_touchesInRow_170
                      exact ok_some (show δ = δ from rfl)
                  · have c1015 := o_ne h994
                    unfold J_X3_touchesInRow_170
                    exact ok_some (show δ = δ from rfl)
              · have c1016 := o_ne h953
                unfold J_X3_touchesInRow_146
                have f1017 : (1 : Int32).toInt = 1 := rfl
                refine ok_ite (fun h1018 => ?_) (fun h1018 => ?_)
                · have c1019 := o_eq h1018
                  have f1020 : (0 : Int32).toInt = 0 := rfl
                  refine ok_ite (fun h1021 => ?_) (fun h1021 => ?_)
                  · have c1022 := o_eq h1021
                    unfold J_X3_touchesInRow_170
                    exact ok_some (show δ = δ from rfl)
                  · have c1023 := o_ne h1021
                    have f1026 := ti_b x4v
                    obtain ⟨q1027, f1028, f1029, f1030⟩ := ti_sub (q_I δ 3 1 a0) x5v
                    obtain ⟨q1031, f1032, f1033, f1034⟩ := ti_sub ((q_I δ 3 1 a0) - x5v) (1 : Int32)
                    obtain ⟨q1035, f1036, f1037, f1038⟩ := ti_add x4v (((q_I δ 3 1 a0) - x5v) - (1 : Int32))
                    refine ok_biv (fun vx1024 e1025 => ?_)
                    have f1039 := congrArg Int32.toInt e1025
                    unfold J_X3_touchesInRow_170
                    exact ok_some (show δ = δ from rfl)
                · have c1040 := o_ne h1018
                  unfold J_X3_touchesInRow_170
                  exact ok_some (show δ = δ from rfl)
            · have c1041 := o_nle h951
              unfold J_X3_touchesInRow_120
              have f1044 := ti_b x4v
              have f1045 : (1 : Int32).toInt = 1 := rfl
              obtain ⟨q1046, f1047, f1048, f1049⟩ := ti_add x4v (1 : Int32)
              refine ok_biv (fun vx1042 e1043 => ?_)
              have f1050 := congrArg Int32.toInt e1043
              unfold J_X3_touchesInRow_123
              refine ok_ite (fun h1051 => ?_) (fun h1051 => ?_)
              · have c1052 := o_eq h1051
                have f1053 : (0 : Int32).toInt = 0 := rfl
                refine ok_ite (fun h1054 => ?_) (fun h1054 => ?_)
                · have c1055 := o_eq h1054
                  obtain ⟨q1058, f1059, f1060, f1061⟩ := ti_sub (q_I δ 3 1 a0) x5v
                  have f1062 : (1 : Int32).toInt = 1 := rfl
                  obtain ⟨q1063, f1064, f1065, f1066⟩ := ti_add ((q_I δ 3 1 a0) - x5v) (1 : Int32)
                  obtain ⟨q1067, f1068, f1069, f1070⟩ := ti_add vx1042 (((q_I δ 3 1 a0) - x5v) + (1 : Int32))
                  refine ok_biv (fun vx1056 e1057 => ?_)
                  have f1071 := congrArg Int32.toInt e1057
                  unfold J_X3_touchesInRow_146
                  refine ok_ite (fun h1072 => ?_) (fun h1072 => ?_)
                  · have c1073 := o_eq h1072
                    refine ok_ite (fun h1074 => ?_) (fun h1074 => ?_)
                    · have c1075 := o_eq h1074
                      unfold J_X3_touchesInRow_170
                      exact ok_some (show δ = δ from rfl)
                    · have c1076 := o_ne h1074
                      obtain ⟨q1079, f1080, f1081, f1082⟩ := ti_sub ((q_I δ 3 1 a0) - x5v) (1 : Int32)
                      obtain ⟨q1083, f1084, f1085, f1086⟩ := ti_add vx1056 (((q_I δ 3 1 a0) - x5v) - (1 : Int32))
                      refine ok_biv (fun vx1077 e1078 => ?_)
                      have f1087 := congrArg Int32.toInt e1078
                      unfold J_X3_touchesInRow_170
                      exact ok_some (show δ = δ from rfl)
                  · have c1088 := o_ne h1072
                    unfold J_X3_touchesInRow_170
                    exact ok_some (show δ = δ from rfl)
                · have c1089 := o_ne h1054
                  unfold J_X3_touchesInRow_146
                  have f1090 : (1 : Int32).toInt = 1 := rfl
                  refine ok_ite (fun h1091 => ?_) (fun h1091 => ?_)
                  · have c1092 := o_eq h1091
                    refine ok_ite (fun h1093 => ?_) (fun h1093 => ?_)
                    · have c1094 := o_eq h1093
                      unfold J_X3_touchesInRow_170
                      exact ok_some (show δ = δ from rfl)
                    · have c1095 := o_ne h1093
                      obtain ⟨q1098, f1099, f1100, f1101⟩ := ti_sub (q_I δ 3 1 a0) x5v
                      obtain ⟨q1102, f1103, f1104, f1105⟩ := ti_sub ((q_I δ 3 1 a0) - x5v) (1 : Int32)
                      obtain ⟨q1106, f1107, f1108, f1109⟩ := ti_add vx1042 (((q_I δ 3 1 a0) - x5v) - (1 : Int32))
                      refine ok_biv (fun vx1096 e1097 => ?_)
                      have f1110 := congrArg Int32.toInt e1097
                      unfold J_X3_touchesInRow_170
                      exact ok_some (show δ = δ from rfl)
                  · have c1111 := o_ne h1091
                    unfold J_X3_touchesInRow_170
                    exact ok_some (show δ = δ from rfl)
              · have c1112 := o_ne h1051
                unfold J_X3_touchesInRow_146
                have f1113 : (1 : Int32).toInt = 1 := rfl
                refine ok_ite (fun h1114 => ?_) (fun h1114 => ?_)
                · have c1115 := o_eq h1114
                  have f1116 : (0 : Int32).toInt = 0 := rfl
                  refine ok_ite (fun h1117 => ?_) (fun h1117 => ?_)
                  · have c1118 := o_eq h1117
                    unfold J_X3_touchesInRow_170
                    exact ok_some (show δ = δ from rfl)
                  · have c1119 := o_ne h1117
                    obtain ⟨q1122, f1123, f1124, f1125⟩ := ti_sub (q_I δ 3 1 a0) x5v
                    obtain ⟨q1126, f1127, f1128, f1129⟩ := ti_sub ((q_I δ 3 1 a0) - x5v) (1 : Int32)
                    obtain ⟨q1130, f1131, f1132, f1133⟩ := ti_add vx1042 (((q_I δ 3 1 a0) - x5v) - (1 : Int32))
                    refine ok_biv (fun vx1120 e1121 => ?_)
                    have f1134 := congrArg Int32.toInt e1121
                    unfold J_X3_touchesInRow_170
                    exact ok_some (show δ = δ from rfl)
                · have c1135 := o_ne h1114
                  unfold J_X3_touchesInRow_170
                  exact ok_some (show δ = δ from rfl)
    · have c1136 := o_nle h10
      obtain ⟨q1139, f1140, f1141, f1142⟩ := ti_add x5v x6v
      have f1143 := ti_div (c := 2) (n := 2) rfl (by decide) (x5v + x6v)
      have f1144 := ti_b ((x5v + x6v) / (2 : Int32))
      refine ok_biv (fun vx1137 e1138 => ?_)
      have f1145 := congrArg Int32.toInt e1138
      have f1148 := ti_b x4v
      have f1149 : (1 : Int32).toInt = 1 := rfl
      obtain ⟨q1150, f1151, f1152, f1153⟩ := ti_add x4v (1 : Int32)
      refine ok_biv (fun vx1146 e1147 => ?_)
      have f1154 := congrArg Int32.toInt e1147
      refine ok_at o2 ?_
      have f1155 : (0 : Int32).toInt = 0 := rfl
      have t1156 := ti_tn vx1137
      refine ok_gd (fun hc1157 => ?_) ?_
      · rcases hc1157 with hc1157 | hc1157
        · have c1158 := o_lt hc1157
          omega
        · omega
      refine ok_ite (fun h1159 => ?_) (fun h1159 => ?_)
      · unfold J_X3_touchesInRow_68
        refine ok_mono (ih x3v vx1146 x5v vx1137 δ I (show 0 ≤ (x5v).toInt by first | omega | assumption) (show (x5v).toInt ≤ (vx1137).toInt by first | omega | assumption) (show (vx1137).toInt ≤ (q_I δ 3 1 a0).toInt by first | omega | assumption) (show (vx1137).toInt - (x5v).toInt < _ by omega)) (fun r1160 hr1161 => ?_)
        have i1162 := hr1161
        try simp only [i1162]
        have f1163 := ti_b r1160.1
        exact by assumption
      · have f1166 : (1 : Int32).toInt = 1 := rfl
        obtain ⟨q1167, f1168, f1169, f1170⟩ := ti_add vx1137 (1 : Int32)
        refine ok_biv (fun vx1164 e1165 => ?_)
        have f1171 := congrArg Int32.toInt e1165
        unfold J_X3_touchesInRow_68
        refine ok_mono (ih x3v vx1146 vx1164 x6v δ I (show 0 ≤ (vx1164).toInt by first | omega | assumption) (show (vx1164).toInt ≤ (x6v).toInt by first | omega | assumption) (show (x6v).toInt ≤ (q_I δ 3 1 a0).toInt by first | omega | assumption) (show (x6v).toInt - (vx1164).toInt < _ by omega)) (fun r1172 hr1173 => ?_)
        have i1174 := hr1173
        try simp only [i1174]
        have f1175 := ti_b r1172.1
        exact by assumption
set_option maxHeartbeats 4000000 in
theorem k_X3_touchesInRow {ad : List Nat} {h : hp} (L : Lay TLx ad h) {δ0 : dp} {N : Nat} (hN : 10000000 ≤ N) {a0 : Nat} {x1 : Int32} {x2 : Int32} (k_a0 : q_K h.1 a0 = 3) {δ : dp} (I : CI ad h.1 δ0 δ) : ok (D_X3_touchesInRow N h.1 a0 x1 x2 δ) (fun r => r.2 = δ) := by
  unfold D_X3_touchesInRow
  have f1 := ti_b x1
  have f2 : (3 : Int32).toInt = 3 := rfl
  refine ok_ite (fun h3 => ?_) (fun h3 => ?_)
  · have c4 := o_eq h3
    unfold J_X3_touchesInRow_12
    obtain ⟨b7, o8, k9, ⟨n10, n11⟩, w12⟩ := gO_3_0 L k_a0
    have f13 := cb_3_1 I k_a0 o8
    refine ok_biv (fun vx5 e6 => ?_)
    have f14 := congrArg Int32.toInt e6
    have f15 : (0 : Int32).toInt = 0 := rfl
    refine ok_mono (kl_X3_touchesInRow_25 L hN k_a0 _ (x2 + (1 : Int32)) (0 : Int32) (0 : Int32) vx5 δ I (show 0 ≤ ((0 : Int32)).toInt by first | omega | assumption) (show ((0 : Int32)).toInt ≤ (vx5).toInt by first | omega | assumption) (show (vx5).toInt ≤ (q_I δ 3 1 a0).toInt by first | omega | assumption) (show (vx5).toInt - ((0 : Int32)).toInt < _ by omega)) (fun r16 hr17 => ?_)
    have i18 := hr17
    try simp only [i18]
    have f19 := ti_b r16.1
    exact by assumption
  · have c20 := o_ne h3
    unfold J_X3_touchesInRow_12
    obtain ⟨b23, o24, k25, ⟨n26, n27⟩, w28⟩ := gO_3_0 L k_a0
    have f29 := cb_3_1 I k_a0 o24
    refine ok_biv (fun vx21 e22 => ?_)
    have f30 := congrArg Int32.toInt e22
    have f31 : (0 : Int32).toInt = 0 := rfl
    refine ok_mono (kl_X3_touchesInRow_25 L hN k_a0 _ x2 (0 : Int32) (0 : Int32) vx21 δ I (show 0 ≤ ((0 : Int32)).toInt by first | omega | assumption) (show ((0 : Int32)).toInt ≤ (vx21).toInt by first | omega | assumption) (show (vx21).toInt ≤ (q_I δ 3 1 a0).toInt by first | omega | assumption) (show (vx21).toInt - ((0 : Int32)).toInt < _ by omega)) (fun r32 hr33 => ?_)
    have i34 := hr33
    try simp only [i34]
    have f35 := ti_b r32.1
    exact by assumption
