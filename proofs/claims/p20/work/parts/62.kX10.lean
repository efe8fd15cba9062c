/-! 62.kX10 (by gen_safe.py) -/
set_option maxHeartbeats 4000000 in
theorem kl_X10_forget_2 {ad : List Nat} {h : hp} (L : Lay TLx ad h) {δ0 : dp} {N : Nat} (hN : 10000000 ≤ N) {a0 : Nat} (k_a0 : q_K h.1 a0 = 10) : ∀ (n : Nat) (x1v : Int32) (δ : dp), CI ad h.1 δ0 δ → 0 ≤ (x1v).toInt → (x1v).toInt ≤ 5 → 5 - (x1v).toInt < (n : Int) → ok (L_X10_forget_2 N h.1 a0 n x1v δ) (fun r => CI ad h.1 δ0 r ∧ (kp [] δ r ∧ q_V r = q_V δ)) := by
  intro n
  induction n with
  | zero =>
    intro x1v δ I j0 j1 hm
    have f1 := ti_b x1v
    exfalso; omega
  | succ n ih =>
    intro x1v δ I j0 j1 hm
    unfold L_X10_forget_2
    have f1 := ti_b x1v
    refine ok_ite (fun h2 => ?_) (fun h2 => ?_)
    · have c3 : (5 : Int) ≤ x1v.toInt := o_le h2
      exact ok_some (show CI ad h.1 δ0 δ ∧ (kp [] δ δ ∧ q_V δ = q_V δ) from ⟨I, ⟨kp_w (by decide) kp_r, rfl⟩⟩)
    · have c4 : x1v.toInt < (5 : Int) := o_nle h2
      obtain ⟨b5, o6, k7, n8⟩ := gO_10_3 L k_a0
      obtain rfl := gS_10_3 L k_a0 o6
      refine ok_at o6 ?_
      have t9 := ti_tn x1v
      refine ok_gd (fun hc10 => ?_) ?_
      · rcases hc10 with hc10 | hc10
        · have c11 : x1v.toInt < (0 : Int) := o_lt hc10
          omega
        · omega
      refine ok_bdv (fun d12 e13 => ?_)
      have i14 : CI ad h.1 δ0 d12 := by rw [e13]; exact cr_22 L I (show 0 ≤ (0 : Int) by omega) (show (0 : Int) ≤ 17 by omega)
      have u15 := kp_N kp_r (show q_I d12 = q_I δ by rw [e13]; rfl)
      have v16 : q_V d12 = q_V δ := ((show q_V d12 = q_V δ by rw [e13]; rfl)).trans rfl
      refine ok_biv (fun vx17 e18 => ?_)
      first | (have q19 := te_addc (c := 1) (n := 1) rfl x1v (by omega) (by omega); rw [← e18] at q19; obtain ⟨f20, f21, f22⟩ := q19) | (obtain ⟨q19, f20, f21, f22⟩ : ∃ q : Int, vx17.toInt = x1v.toInt + (1 : Int) + 4294967296 * q ∧ -2147483648 ≤ vx17.toInt ∧ vx17.toInt ≤ 2147483647 := by rw [e18]; exact ti_addc (c := 1) (n := 1) rfl x1v)
      refine ok_mono (ih vx17 d12 i14 (show 0 ≤ (vx17).toInt by first | with_reducible assumption | omega) (show (vx17).toInt ≤ 5 by first | with_reducible assumption | omega) (show 5 - (vx17).toInt < _ by omega)) (fun r23 hr24 => ?_)
      obtain ⟨i25, ⟨u26, u27⟩⟩ := hr24
      have u28 := kp_t u15 u26
      have v29 : q_V r23 = q_V δ := (u27).trans v16
      exact ⟨by first | with_reducible assumption | assumption, ⟨kp_w (by decide) u28, v29⟩⟩
set_option maxHeartbeats 4000000 in
theorem k_X10_forget {ad : List Nat} {h : hp} (L : Lay TLx ad h) {δ0 : dp} {N : Nat} (hN : 10000000 ≤ N) {a0 : Nat} (k_a0 : q_K h.1 a0 = 10) {δ : dp} (I : CI ad h.1 δ0 δ) : ok (D_X10_forget N h.1 a0 δ) (fun r => CI ad h.1 δ0 r ∧ (kp [] δ r ∧ q_V r = q_V δ)) := by
  unfold D_X10_forget
  refine ok_mono (kl_X10_forget_2 L hN   k_a0 _ (0 : Int32) δ I (show 0 ≤ (0 : Int) by first | with_reducible assumption | omega) (show (0 : Int) ≤ 5 by first | with_reducible assumption | omega) (show 5 - (0 : Int) < _ by omega)) (fun r1 hr2 => ?_)
  obtain ⟨i3, ⟨u4, u5⟩⟩ := hr2
  have u6 := kp_t kp_r u4
  have v7 : q_V r1 = q_V δ := (u5).trans rfl
  exact ⟨by first | with_reducible assumption | assumption, ⟨kp_w (by decide) u6, v7⟩⟩
set_option maxHeartbeats 4000000 in
theorem kl_X10_member_6 {ad : List Nat} {h : hp} (L : Lay TLx ad h) {δ0 : dp} {N : Nat} (hN : 10000000 ≤ N) {a0 : Nat} {x1 : Int32} {x2 : Int32} {x3 : Int32} (k_a0 : q_K h.1 a0 = 10) : ∀ (n : Nat) (x4v : Int32) (x5v : Int32) (δ : dp), CI ad h.1 δ0 δ → 0 ≤ (x1).toInt → (x1).toInt < 5 → 0 ≤ (x2).toInt → (x2).toInt ≤ 16 → 0 ≤ (x5v).toInt → (x5v).toInt ≤ 64 → 64 - (x5v).toInt < (n : Int) → ok (L_X10_member_6 N h.1 a0 x1 x2 x3 n x4v x5v δ) (fun r => r.2 = δ) := by
  intro n
  induction n with
  | zero =>
    intro x4v x5v δ I j0 j1 j2 j3 j4 j5 hm
    have f1 := ti_b x1
    have f2 := ti_b x2
    have f3 := ti_b x5v
    exfalso; omega
  | succ n ih =>
    intro x4v x5v δ I j0 j1 j2 j3 j4 j5 hm
    unfold L_X10_member_6
    have f1 := ti_b x1
    have f2 := ti_b x2
    have f3 := ti_b x5v
    refine ok_ite (fun h4 => ?_) (fun h4 => ?_)
    · have c5 : (64 : Int) ≤ x5v.toInt := o_le h4
      unfold J_X10_member_53
      exact ok_some (show δ = δ from rfl)
    · have c6 : x5v.toInt < (64 : Int) := o_nle h4
      have f7 := ti_b x4v
      refine ok_ite (fun h8 => ?_) (fun h8 => ?_)
      · have c9 : x4v.toInt < (0 : Int) := o_lt h8
        unfold J_X10_member_53
        exact ok_some (show δ = δ from rfl)
      · have c10 : (0 : Int) ≤ x4v.toInt := o_nlt h8
        obtain ⟨b11, o12, k13, n14, w15⟩ := gO_10_6 L k_a0
        refine ok_at o12 ?_
        have t16 := ti_tn x1
        refine ok_gd (fun hc17 => ?_) ?_
        · rcases hc17 with hc17 | hc17
          · have c18 : x1.toInt < (0 : Int) := o_lt hc17
            omega
          · omega
        obtain ⟨b19, o20, k21, n22, w23⟩ := gE_10_6 L k_a0 o12 (i := x1.toNatClampNeg) (by omega)
        refine ok_at o20 ?_
        have t24 := ti_tn x2
        refine ok_gd (fun hc25 => ?_) ?_
        · rcases hc25 with hc25 | hc25
          · have c26 : x2.toInt < (0 : Int) := o_lt hc25
            omega
          · omega
        have f27 := ti_b (lg_cmp ((((q_J δ b19 x2.toNatClampNeg).toUInt64 >>> (x5v.toInt64.toUInt64 &&& Int64.toUInt64 63)).toInt64) &&& (1 : Int64)) 0)
        refine ok_ite (fun h28 => ?_) (fun h28 => ?_)
        · have c29 : (lg_cmp ((((q_J δ b19 x2.toNatClampNeg).toUInt64 >>> (x5v.toInt64.toUInt64 &&& Int64.toUInt64 63)).toInt64) &&& (1 : Int64)) 0).toInt = (0 : Int) := o_eq h28
          unfold J_X10_member_47
          refine ok_biv (fun vx30 e31 => ?_)
          first | (have q32 := te_addc (c := 1) (n := 1) rfl x5v (by omega) (by omega); rw [← e31] at q32; obtain ⟨f33, f34, f35⟩ := q32) | (obtain ⟨q32, f33, f34, f35⟩ : ∃ q : Int, vx30.toInt = x5v.toInt + (1 : Int) + 4294967296 * q ∧ -2147483648 ≤ vx30.toInt ∧ vx30.toInt ≤ 2147483647 := by rw [e31]; exact ti_addc (c := 1) (n := 1) rfl x5v)
          refine ok_mono (ih x4v vx30 δ I (show 0 ≤ (x1).toInt by first | with_reducible assumption | omega) (show (x1).toInt < 5 by first | with_reducible assumption | omega) (show 0 ≤ (x2).toInt by first | with_reducible assumption | omega) (show (x2).toInt ≤ 16 by first | with_reducible assumption | omega) (show 0 ≤ (vx30).toInt by first | with_reducible assumption | omega) (show (vx30).toInt ≤ 64 by first | with_reducible assumption | omega) (show 64 - (vx30).toInt < _ by omega)) (fun r36 hr37 => ?_)
          have i38 := hr37
          have f39 := ti_b r36.1
          exact by assumption
        · have c40 : (lg_cmp ((((q_J δ b19 x2.toNatClampNeg).toUInt64 >>> (x5v.toInt64.toUInt64 &&& Int64.toUInt64 63)).toInt64) &&& (1 : Int64)) 0).toInt ≠ (0 : Int) := o_ne h28
          refine ok_ite (fun h41 => ?_) (fun h41 => ?_)
          · have c42 : x4v.toInt = (0 : Int) := o_eq h41
            exact ok_some (show δ = δ from rfl)
          · have c43 : x4v.toInt ≠ (0 : Int) := o_ne h41
            refine ok_biv (fun vx44 e45 => ?_)
            first | (have q46 := te_addc (c := -1) (n := -1) (by decide) x4v (by omega) (by omega); rw [← e45] at q46; obtain ⟨f47, f48, f49⟩ := q46) | (obtain ⟨q46, f47, f48, f49⟩ : ∃ q : Int, vx44.toInt = x4v.toInt + (-1 : Int) + 4294967296 * q ∧ -2147483648 ≤ vx44.toInt ∧ vx44.toInt ≤ 2147483647 := by rw [e45]; exact ti_addc (c := -1) (n := -1) (by decide) x4v)
            unfold J_X10_member_47
            refine ok_biv (fun vx50 e51 => ?_)
            first | (have q52 := te_addc (c := 1) (n := 1) rfl x5v (by omega) (by omega); rw [← e51] at q52; obtain ⟨f53, f54, f55⟩ := q52) | (obtain ⟨q52, f53, f54, f55⟩ : ∃ q : Int, vx50.toInt = x5v.toInt + (1 : Int) + 4294967296 * q ∧ -2147483648 ≤ vx50.toInt ∧ vx50.toInt ≤ 2147483647 := by rw [e51]; exact ti_addc (c := 1) (n := 1) rfl x5v)
            refine ok_mono (ih vx44 vx50 δ I (show 0 ≤ (x1).toInt by first | with_reducible assumption | omega) (show (x1).toInt < 5 by first | with_reducible assumption | omega) (show 0 ≤ (x2).toInt by first | with_reducible assumption | omega) (show (x2).toInt ≤ 16 by first | with_reducible assumption | omega) (show 0 ≤ (vx50).toInt by first | with_reducible assumption | omega) (show (vx50).toInt ≤ 64 by first | with_reducible assumption | omega) (show 64 - (vx50).toInt < _ by omega)) (fun r56 hr57 => ?_)
            have i58 := hr57
            have f59 := ti_b r56.1
            exact by assumption
set_option maxHeartbeats 4000000 in
theorem k_X10_member {ad : List Nat} {h : hp} (L : Lay TLx ad h) {δ0 : dp} {N : Nat} (hN : 10000000 ≤ N) {a0 : Nat} {x1 : Int32} {x2 : Int32} {x3 : Int32} (k_a0 : q_K h.1 a0 = 10) {δ : dp} (z0 : 0 ≤ (x1).toInt) (z1 : (x1).toInt < 5) (z2 : 0 ≤ (x2).toInt) (z3 : (x2).toInt ≤ 16) (I : CI ad h.1 δ0 δ) : ok (D_X10_member N h.1 a0 x1 x2 x3 δ) (fun r => r.2 = δ) := by
  unfold D_X10_member
  have f1 := ti_b x1
  have f2 := ti_b x2
  refine ok_mono (kl_X10_member_6 L hN   k_a0 _ x3 (0 : Int32) δ I (show 0 ≤ (x1).toInt by first | with_reducible assumption | omega) (show (x1).toInt < 5 by first | with_reducible assumption | omega) (show 0 ≤ (x2).toInt by first | with_reducible assumption | omega) (show (x2).toInt ≤ 16 by first | with_reducible assumption | omega) (show 0 ≤ (0 : Int) by first | with_reducible assumption | omega) (show (0 : Int) ≤ 64 by first | with_reducible assumption | omega) (show 64 - (0 : Int) < _ by omega)) (fun r3 hr4 => ?_)
  have i5 := hr4
  have f6 := ti_b r3.1
  exact by assumption
set_option maxHeartbeats 4000000 in
theorem kl_X10_bitsOfSet_4 {ad : List Nat} {h : hp} (L : Lay TLx ad h) {δ0 : dp} {N : Nat} (hN : 10000000 ≤ N) {a0 : Nat} (k_a0 : q_K h.1 a0 = 10) : ∀ (n : Nat) (y1v : Int64) (x3v : Int32) (δ : dp), CI ad h.1 δ0 δ → 0 ≤ (x3v).toInt → (x3v).toInt ≤ 2000 → 2000 - (x3v).toInt < (n : Int) → ok (L_X10_bitsOfSet_4 N h.1 a0 n y1v x3v δ) (fun r => r.2 = δ) := by
  intro n
  induction n with
  | zero =>
    intro y1v x3v δ I j0 j1 hm
    have f1 := ti_b x3v
    exfalso; omega
  | succ n ih =>
    intro y1v x3v δ I j0 j1 hm
    unfold L_X10_bitsOfSet_4
    have f1 := ti_b x3v
    obtain ⟨b2, o3, k4⟩ := gO_10_1 L k_a0
    refine ok_at o3 ?_
    obtain ⟨b5, o6, k7, ⟨n8, n9⟩, w10⟩ := gO_3_0 L k4
    have f11 := cb_3_1 I k4 o6
    refine ok_ite (fun h12 => ?_) (fun h12 => ?_)
    · have c13 : (q_I δ 3 1 b2).toInt ≤ x3v.toInt := o_le h12
      exact ok_some (show δ = δ from rfl)
    · have c14 : x3v.toInt < (q_I δ 3 1 b2).toInt := o_nle h12
      refine ok_at o3 ?_
      refine ok_bind (k_X3_at L hN (a0 := b2) (x1 := x3v) k4 I) (fun r15 hr16 => ?_)
      have i17 := hr16
      try rw [i17]
      have f18 := ti_b r15.1
      refine ok_blv (fun vx19 e20 => ?_)
      refine ok_biv (fun vx21 e22 => ?_)
      first | (have q23 := te_addc (c := 1) (n := 1) rfl x3v (by omega) (by omega); rw [← e22] at q23; obtain ⟨f24, f25, f26⟩ := q23) | (obtain ⟨q23, f24, f25, f26⟩ : ∃ q : Int, vx21.toInt = x3v.toInt + (1 : Int) + 4294967296 * q ∧ -2147483648 ≤ vx21.toInt ∧ vx21.toInt ≤ 2147483647 := by rw [e22]; exact ti_addc (c := 1) (n := 1) rfl x3v)
      refine ok_mono (ih vx19 vx21 δ I (show 0 ≤ (vx21).toInt by first | with_reducible assumption | omega) (show (vx21).toInt ≤ 2000 by first | with_reducible assumption | omega) (show 2000 - (vx21).toInt < _ by omega)) (fun r27 hr28 => ?_)
      have i29 := hr28
      exact by assumption
set_option maxHeartbeats 4000000 in
theorem k_X10_bitsOfSet {ad : List Nat} {h : hp} (L : Lay TLx ad h) {δ0 : dp} {N : Nat} (hN : 10000000 ≤ N) {a0 : Nat} (k_a0 : q_K h.1 a0 = 10) {δ : dp} (I : CI ad h.1 δ0 δ) : ok (D_X10_bitsOfSet N h.1 a0 δ) (fun r => r.2 = δ) := by
  unfold D_X10_bitsOfSet
  refine ok_mono (kl_X10_bitsOfSet_4 L hN   k_a0 _ (0 : Int64) (0 : Int32) δ I (show 0 ≤ (0 : Int) by first | with_reducible assumption | omega) (show (0 : Int) ≤ 2000 by first | with_reducible assumption | omega) (show 2000 - (0 : Int) < _ by omega)) (fun r1 hr2 => ?_)
  have i3 := hr2
  exact by assumption
set_option maxHeartbeats 4000000 in
theorem kl_X10_tryAll_2 {ad : List Nat} {h : hp} (L : Lay TLx ad h) {δ0 : dp} {N : Nat} (hN : 10000000 ≤ N) {a0 : Nat} {x1 : Int32} {x2 : Int32} (k_a0 : q_K h.1 a0 = 10) : ∀ (n : Nat) (x3v : Int32) (δ : dp), CI ad h.1 δ0 δ → 0 ≤ (x1).toInt → (x1).toInt < 5 → 0 ≤ (x2).toInt → (x2).toInt ≤ 16 → 0 ≤ (x3v).toInt → (x3v).toInt ≤ 65536 → 65536 - (x3v).toInt < (n : Int) → ok (L_X10_tryAll_2 N h.1 a0 x1 x2 n x3v δ) (fun r => CI ad h.1 δ0 r ∧ (kp [(1, 3), (1, 4), (1, 5), (1, 6), (1, 7), (1, 8), (1, 9), (1, 10), (1, 11), (1, 12), (1, 13), (1, 14), (1, 15)] δ r ∧ q_V r = q_V δ)) := by
  intro n
  induction n with
  | zero =>
    intro x3v δ I j0 j1 j2 j3 j4 j5 hm
    have f1 := ti_b x1
    have f2 := ti_b x2
    have f3 := ti_b x3v
    exfalso; omega
  | succ n ih =>
    intro x3v δ I j0 j1 j2 j3 j4 j5 hm
    unfold L_X10_tryAll_2
    have f1 := ti_b x1
    have f2 := ti_b x2
    have f3 := ti_b x3v
    obtain ⟨b4, o5, k6⟩ := gO_10_0 L k_a0
    refine ok_at o5 ?_
    refine ok_bind (k_X5_greatest L hN (a0 := b4) k6 I) (fun r7 hr8 => ?_)
    obtain ⟨i9, p10, p11, p12, p13⟩ := hr8
    try rw [i9]
    have f14 := ti_b r7.1
    have f15 := cb_5_0 I k6
    refine ok_ite (fun h16 => ?_) (fun h16 => ?_)
    · have c17 : r7.1.toInt < x3v.toInt := o_lt h16
      exact ok_some (show CI ad h.1 δ0 δ ∧ (kp [(1, 3), (1, 4), (1, 5), (1, 6), (1, 7), (1, 8), (1, 9), (1, 10), (1, 11), (1, 12), (1, 13), (1, 14), (1, 15)] δ δ ∧ q_V δ = q_V δ) from ⟨I, ⟨kp_w (by decide) kp_r, rfl⟩⟩)
    · have c18 : x3v.toInt ≤ r7.1.toInt := o_nlt h16
      obtain ⟨b19, o20, k21⟩ := gO_10_2 L k_a0
      refine ok_at o20 ?_
      obtain ⟨b24, o25, k26⟩ := gO_1_1 L k21
      refine ok_bind (k_X1_touchesOf L hN (a0 := b19) (x1 := x1) (x2 := x3v) k21 o25 k26 I) (fun r22 hr23 => ?_)
      obtain ⟨i27, ⟨u28, u29, u30⟩⟩ := hr23
      have u31 := kp_t kp_r u28
      have v32 : q_V r22.2 = q_V δ := (u29).trans rfl
      have f33 := ti_b r22.1
      obtain ⟨b34, o35, k36, n37, w38⟩ := gO_10_4 L k_a0
      refine ok_at o35 ?_
      have t39 := ti_tn x1
      refine ok_gd (fun hc40 => ?_) ?_
      · rcases hc40 with hc40 | hc40
        · have c41 : x1.toInt < (0 : Int) := o_lt hc40
          omega
        · omega
      obtain ⟨b42, o43, k44, n45, w46⟩ := gE_10_4 L k_a0 o35 (i := x1.toNatClampNeg) (by omega)
      refine ok_at o43 ?_
      have t47 := ti_tn x2
      refine ok_gd (fun hc48 => ?_) ?_
      · rcases hc48 with hc48 | hc48
        · have c49 : x2.toInt < (0 : Int) := o_lt hc48
          omega
        · omega
      have f50 := ti_b (q_R r22.2 b42 x2.toNatClampNeg)
      refine ok_ite (fun h51 => ?_) (fun h51 => ?_)
      · have c52 : r22.1.toInt ≤ (q_R r22.2 b42 x2.toNatClampNeg).toInt := o_le h51
        unfold J_X10_tryAll_68
        refine ok_biv (fun vx53 e54 => ?_)
        first | (have q55 := te_addc (c := 1) (n := 1) rfl x3v (by omega) (by omega); rw [← e54] at q55; obtain ⟨f56, f57, f58⟩ := q55) | (obtain ⟨q55, f56, f57, f58⟩ : ∃ q : Int, vx53.toInt = x3v.toInt + (1 : Int) + 4294967296 * q ∧ -2147483648 ≤ vx53.toInt ∧ vx53.toInt ≤ 2147483647 := by rw [e54]; exact ti_addc (c := 1) (n := 1) rfl x3v)
        refine ok_mono (ih vx53 r22.2 i27 (show 0 ≤ (x1).toInt by first | with_reducible assumption | omega) (show (x1).toInt < 5 by first | with_reducible assumption | omega) (show 0 ≤ (x2).toInt by first | with_reducible assumption | omega) (show (x2).toInt ≤ 16 by first | with_reducible assumption | omega) (show 0 ≤ (vx53).toInt by first | with_reducible assumption | omega) (show (vx53).toInt ≤ 65536 by first | with_reducible assumption | omega) (show 65536 - (vx53).toInt < _ by omega)) (fun r59 hr60 => ?_)
        obtain ⟨i61, ⟨u62, u63⟩⟩ := hr60
        have u64 := kp_t u31 u62
        have v65 : q_V r59 = q_V δ := (u63).trans v32
        exact ⟨by first | with_reducible assumption | assumption, ⟨kp_w (by decide) u64, v65⟩⟩
      · have c66 : (q_R r22.2 b42 x2.toNatClampNeg).toInt < r22.1.toInt := o_nle h51
        refine ok_at o35 ?_
        refine ok_gd (fun hc67 => ?_) ?_
        · rcases hc67 with hc67 | hc67
          · have c68 : x1.toInt < (0 : Int) := o_lt hc67
            omega
          · omega
        obtain ⟨b69, o70, k71, n72, w73⟩ := gE_10_4 L k_a0 o35 (i := x1.toNatClampNeg) (by omega)
        refine ok_at o70 ?_
        refine ok_gd (fun hc74 => ?_) ?_
        · rcases hc74 with hc74 | hc74
          · have c75 : x2.toInt < (0 : Int) := o_lt hc74
            omega
          · omega
        refine ok_bdv (fun d76 e77 => ?_)
        have i78 : CI ad h.1 δ0 d76 := by rw [e77]; exact CI.sR L i27 w73
        have u79 := kp_N u31 (show q_I d76 = q_I r22.2 by rw [e77]; rfl)
        have v80 : q_V d76 = q_V δ := ((show q_V d76 = q_V r22.2 by rw [e77]; rfl)).trans v32
        obtain ⟨b81, o82, k83, n84, w85⟩ := gO_10_5 L k_a0
        refine ok_at o82 ?_
        refine ok_gd (fun hc86 => ?_) ?_
        · rcases hc86 with hc86 | hc86
          · have c87 : x1.toInt < (0 : Int) := o_lt hc86
            omega
          · omega
        obtain ⟨b88, o89, k90, n91, w92⟩ := gE_10_5 L k_a0 o82 (i := x1.toNatClampNeg) (by omega)
        refine ok_at o89 ?_
        refine ok_gd (fun hc93 => ?_) ?_
        · rcases hc93 with hc93 | hc93
          · have c94 : x2.toInt < (0 : Int) := o_lt hc93
            omega
          · omega
        refine ok_bdv (fun d95 e96 => ?_)
        have i97 : CI ad h.1 δ0 d95 := by rw [e96]; exact CI.sR L i78 w92
        have u98 := kp_N u79 (show q_I d95 = q_I d76 by rw [e96]; rfl)
        have v99 : q_V d95 = q_V δ := ((show q_V d95 = q_V d76 by rw [e96]; rfl)).trans v80
        obtain ⟨b100, o101, k102, n103, w104⟩ := gO_10_6 L k_a0
        refine ok_at o101 ?_
        refine ok_gd (fun hc105 => ?_) ?_
        · rcases hc105 with hc105 | hc105
          · have c106 : x1.toInt < (0 : Int) := o_lt hc105
            omega
          · omega
        obtain ⟨b107, o108, k109, n110, w111⟩ := gE_10_6 L k_a0 o101 (i := x1.toNatClampNeg) (by omega)
        refine ok_at o108 ?_
        refine ok_bind (k_X10_bitsOfSet L hN (a0 := a0) k_a0 i97) (fun r112 hr113 => ?_)
        have i114 := hr113
        try rw [i114]
        refine ok_gd (fun hc115 => ?_) ?_
        · rcases hc115 with hc115 | hc115
          · have c116 : x2.toInt < (0 : Int) := o_lt hc115
            omega
          · omega
        refine ok_bdv (fun d117 e118 => ?_)
        have i119 : CI ad h.1 δ0 d117 := by rw [e118]; exact CI.sJ i97
        have u120 := kp_N u98 (show q_I d117 = q_I d95 by rw [e118]; rfl)
        have v121 : q_V d117 = q_V δ := ((show q_V d117 = q_V d95 by rw [e118]; rfl)).trans v99
        unfold J_X10_tryAll_68
        refine ok_biv (fun vx122 e123 => ?_)
        first | (have q124 := te_addc (c := 1) (n := 1) rfl x3v (by omega) (by omega); rw [← e123] at q124; obtain ⟨f125, f126, f127⟩ := q124) | (obtain ⟨q124, f125, f126, f127⟩ : ∃ q : Int, vx122.toInt = x3v.toInt + (1 : Int) + 4294967296 * q ∧ -2147483648 ≤ vx122.toInt ∧ vx122.toInt ≤ 2147483647 := by rw [e123]; exact ti_addc (c := 1) (n := 1) rfl x3v)
        refine ok_mono (ih vx122 d117 i119 (show 0 ≤ (x1).toInt by first | with_reducible assumption | omega) (show (x1).toInt < 5 by first | with_reducible assumption | omega) (show 0 ≤ (x2).toInt by first | with_reducible assumption | omega) (show (x2).toInt ≤ 16 by first | with_reducible assumption | omega) (show 0 ≤ (vx122).toInt by first | with_reducible assumption | omega) (show (vx122).toInt ≤ 65536 by first | with_reducible assumption | omega) (show 65536 - (vx122).toInt < _ by omega)) (fun r128 hr129 => ?_)
        obtain ⟨i130, ⟨u131, u132⟩⟩ := hr129
        have u133 := kp_t u120 u131
        have v134 : q_V r128 = q_V δ := (u132).trans v121
        exact ⟨by first | with_reducible assumption | assumption, ⟨kp_w (by decide) u133, v134⟩⟩
set_option maxHeartbeats 4000000 in
theorem k_X10_tryAll {ad : List Nat} {h : hp} (L : Lay TLx ad h) {δ0 : dp} {N : Nat} (hN : 10000000 ≤ N) {a0 : Nat} {x1 : Int32} {x2 : Int32} (k_a0 : q_K h.1 a0 = 10) {δ : dp} (z0 : 0 ≤ (x1).toInt) (z1 : (x1).toInt < 5) (z2 : 0 ≤ (x2).toInt) (z3 : (x2).toInt ≤ 16) (I : CI ad h.1 δ0 δ) : ok (D_X10_tryAll N h.1 a0 x1 x2 δ) (fun r => CI ad h.1 δ0 r ∧ (kp [(1, 3), (1, 4), (1, 5), (1, 6), (1, 7), (1, 8), (1, 9), (1, 10), (1, 11), (1, 12), (1, 13), (1, 14), (1, 15)] δ r ∧ q_V r = q_V δ)) := by
  unfold D_X10_tryAll
  have f1 := ti_b x1
  have f2 := ti_b x2
  refine ok_mono (kl_X10_tryAll_2 L hN   k_a0 _ (0 : Int32) δ I (show 0 ≤ (x1).toInt by first | with_reducible assumption | omega) (show (x1).toInt < 5 by first | with_reducible assumption | omega) (show 0 ≤ (x2).toInt by first | with_reducible assumption | omega) (show (x2).toInt ≤ 16 by first | with_reducible assumption | omega) (show 0 ≤ (0 : Int) by first | with_reducible assumption | omega) (show (0 : Int) ≤ 65536 by first | with_reducible assumption | omega) (show 65536 - (0 : Int) < _ by omega)) (fun r3 hr4 => ?_)
  obtain ⟨i5, ⟨u6, u7⟩⟩ := hr4
  have u8 := kp_t kp_r u6
  have v9 : q_V r3 = q_V δ := (u7).trans rfl
  exact ⟨by first | with_reducible assumption | assumption, ⟨kp_w (by decide) u8, v9⟩⟩
set_option maxHeartbeats 4000000 in
theorem kl_X10_goThroughAll_51 {ad : List Nat} {h : hp} (L : Lay TLx ad h) {δ0 : dp} {N : Nat} (hN : 10000000 ≤ N) {a0 : Nat} {x1 : Int32} {x2 : Int32} (k_a0 : q_K h.1 a0 = 10) : ∀ (n : Nat) (x3v : Int32) (x4v : Int32) (x5v : Int32) (x6v : Int32) (δ : dp), CI ad h.1 δ0 δ → 0 ≤ (x1).toInt → (x1).toInt < 5 → 0 ≤ (x2).toInt → (x2).toInt ≤ 16 → 0 ≤ (x6v).toInt → (x6v).toInt ≤ 1000000 → 1000000 - (x6v).toInt < (n : Int) → ok (L_X10_goThroughAll_51 N h.1 a0 x1 x2 n x3v x4v x5v x6v δ) (fun r => CI ad h.1 δ0 r ∧ (kp [(1, 3), (1, 4), (1, 5), (1, 6), (1, 7), (1, 8), (1, 9), (1, 10), (1, 11), (1, 12), (1, 13), (1, 14), (1, 15), (3, 1)] δ r ∧ q_V r = q_V δ)) := by
  intro n
  induction n with
  | zero =>
    intro x3v x4v x5v x6v δ I j0 j1 j2 j3 j4 j5 hm
    have f1 := ti_b x1
    have f2 := ti_b x2
    have f3 := ti_b x6v
    exfalso; omega
  | succ n ih =>
    intro x3v x4v x5v x6v δ I j0 j1 j2 j3 j4 j5 hm
    unfold L_X10_goThroughAll_51
    have f1 := ti_b x1
    have f2 := ti_b x2
    have f3 := ti_b x6v
    refine ok_ite (fun h4 => ?_) (fun h4 => ?_)
    · have c5 : (1000000 : Int) ≤ x6v.toInt := o_le h4
      unfold J_X10_goThroughAll_98
      exact ok_some (show CI ad h.1 δ0 δ ∧ (kp [(1, 3), (1, 4), (1, 5), (1, 6), (1, 7), (1, 8), (1, 9), (1, 10), (1, 11), (1, 12), (1, 13), (1, 14), (1, 15), (3, 1)] δ δ ∧ q_V δ = q_V δ) from ⟨I, ⟨kp_w (by decide) kp_r, rfl⟩⟩)
    · have c6 : x6v.toInt < (1000000 : Int) := o_nle h4
      have f7 := ti_b x5v
      refine ok_ite (fun h8 => ?_) (fun h8 => ?_)
      · have c9 : x5v.toInt = (0 : Int) := o_eq h8
        unfold J_X10_goThroughAll_98
        exact ok_some (show CI ad h.1 δ0 δ ∧ (kp [(1, 3), (1, 4), (1, 5), (1, 6), (1, 7), (1, 8), (1, 9), (1, 10), (1, 11), (1, 12), (1, 13), (1, 14), (1, 15), (3, 1)] δ δ ∧ q_V δ = q_V δ) from ⟨I, ⟨kp_w (by decide) kp_r, rfl⟩⟩)
      · have c10 : x5v.toInt ≠ (0 : Int) := o_ne h8
        obtain ⟨b11, o12, k13, n14, w15⟩ := gO_10_4 L k_a0
        refine ok_at o12 ?_
        have t16 := ti_tn x1
        refine ok_gd (fun hc17 => ?_) ?_
        · rcases hc17 with hc17 | hc17
          · have c18 : x1.toInt < (0 : Int) := o_lt hc17
            omega
          · omega
        obtain ⟨b19, o20, k21, n22, w23⟩ := gE_10_4 L k_a0 o12 (i := x1.toNatClampNeg) (by omega)
        refine ok_at o20 ?_
        have t24 := ti_tn x2
        refine ok_gd (fun hc25 => ?_) ?_
        · rcases hc25 with hc25 | hc25
          · have c26 : x2.toInt < (0 : Int) := o_lt hc25
            omega
          · omega
        have f27 := ti_b x4v
        have f28 := ti_b (q_R δ b19 x2.toNatClampNeg)
        refine ok_ite (fun h29 => ?_) (fun h29 => ?_)
        · have c30 : x4v.toInt ≤ (q_R δ b19 x2.toNatClampNeg).toInt := o_le h29
          unfold J_X10_goThroughAll_98
          exact ok_some (show CI ad h.1 δ0 δ ∧ (kp [(1, 3), (1, 4), (1, 5), (1, 6), (1, 7), (1, 8), (1, 9), (1, 10), (1, 11), (1, 12), (1, 13), (1, 14), (1, 15), (3, 1)] δ δ ∧ q_V δ = q_V δ) from ⟨I, ⟨kp_w (by decide) kp_r, rfl⟩⟩)
        · have c31 : (q_R δ b19 x2.toNatClampNeg).toInt < x4v.toInt := o_nle h29
          refine ok_bind (k_X10_tryAll L hN (a0 := a0) (x1 := x1) (x2 := x2) k_a0 (show 0 ≤ (x1).toInt by first | with_reducible assumption | omega) (show (x1).toInt < 5 by first | with_reducible assumption | omega) (show 0 ≤ (x2).toInt by first | with_reducible assumption | omega) (show (x2).toInt ≤ 16 by first | with_reducible assumption | omega) I) (fun r32 hr33 => ?_)
          obtain ⟨i34, ⟨u35, u36⟩⟩ := hr33
          have u37 := kp_t kp_r u35
          have v38 : q_V r32 = q_V δ := (u36).trans rfl
          obtain ⟨b39, o40, k41⟩ := gO_10_1 L k_a0
          refine ok_at o40 ?_
          refine ok_bind (k_X3_beNextSet L hN (a0 := b39) (x1 := x3v) k41 i34) (fun r42 hr43 => ?_)
          obtain ⟨i44, ⟨u46, u47⟩, p45⟩ := hr43
          have u48 := kp_t u37 u46
          have v49 : q_V r42.2 = q_V δ := (u47).trans v38
          have f50 := bo_t p45
          have f51 := ti_b r42.1
          refine ok_biv (fun vx52 e53 => ?_)
          first | (have q54 := te_addc (c := 1) (n := 1) rfl x6v (by omega) (by omega); rw [← e53] at q54; obtain ⟨f55, f56, f57⟩ := q54) | (obtain ⟨q54, f55, f56, f57⟩ : ∃ q : Int, vx52.toInt = x6v.toInt + (1 : Int) + 4294967296 * q ∧ -2147483648 ≤ vx52.toInt ∧ vx52.toInt ≤ 2147483647 := by rw [e53]; exact ti_addc (c := 1) (n := 1) rfl x6v)
          refine ok_mono (ih x3v x4v r42.1 vx52 r42.2 i44 (show 0 ≤ (x1).toInt by first | with_reducible assumption | omega) (show (x1).toInt < 5 by first | with_reducible assumption | omega) (show 0 ≤ (x2).toInt by first | with_reducible assumption | omega) (show (x2).toInt ≤ 16 by first | with_reducible assumption | omega) (show 0 ≤ (vx52).toInt by first | with_reducible assumption | omega) (show (vx52).toInt ≤ 1000000 by first | with_reducible assumption | omega) (show 1000000 - (vx52).toInt < _ by omega)) (fun r58 hr59 => ?_)
          obtain ⟨i60, ⟨u61, u62⟩⟩ := hr59
          have u63 := kp_t u48 u61
          have v64 : q_V r58 = q_V δ := (u62).trans v49
          exact ⟨by first | with_reducible assumption | assumption, ⟨kp_w (by decide) u63, v64⟩⟩
set_option maxHeartbeats 4000000 in
theorem k_X10_goThroughAll {ad : List Nat} {h : hp} (L : Lay TLx ad h) {δ0 : dp} {N : Nat} (hN : 10000000 ≤ N) {a0 : Nat} {x1 : Int32} {x2 : Int32} (k_a0 : q_K h.1 a0 = 10) {δ : dp} (z0 : 0 ≤ (x1).toInt) (z1 : (x1).toInt < 5) (z2 : 0 ≤ (x2).toInt) (z3 : (x2).toInt ≤ 16) (I : CI ad h.1 δ0 δ) : ok (D_X10_goThroughAll N h.1 a0 x1 x2 δ) (fun r => CI ad h.1 δ0 r ∧ (kp [(1, 3), (1, 4), (1, 5), (1, 6), (1, 7), (1, 8), (1, 9), (1, 10), (1, 11), (1, 12), (1, 13), (1, 14), (1, 15), (3, 1)] δ r ∧ q_V r = q_V δ)) := by
  unfold D_X10_goThroughAll
  have f1 := ti_b x1
  have f2 := ti_b x2
  obtain ⟨b3, o4, k5⟩ := gO_10_0 L k_a0
  refine ok_at o4 ?_
  refine ok_bind (k_X5_greatest L hN (a0 := b3) k5 I) (fun r6 hr7 => ?_)
  obtain ⟨i8, p9, p10, p11, p12⟩ := hr7
  try rw [i8]
  have f13 := ti_b r6.1
  have f14 := cb_5_0 I k5
  refine ok_biv (fun vx15 e16 => ?_)
  first | (have q17 := te_addc (c := 1) (n := 1) rfl r6.1 (by omega) (by omega); rw [← e16] at q17; obtain ⟨f18, f19, f20⟩ := q17) | (obtain ⟨q17, f18, f19, f20⟩ : ∃ q : Int, vx15.toInt = r6.1.toInt + (1 : Int) + 4294967296 * q ∧ -2147483648 ≤ vx15.toInt ∧ vx15.toInt ≤ 2147483647 := by rw [e16]; exact ti_addc (c := 1) (n := 1) rfl r6.1)
  refine ok_at o4 ?_
  refine ok_at o4 ?_
  refine ok_bind (k_X5_mostTouches L hN (a0 := b3) (x1 := x1) (x2 := (q_I δ 5 0 b3)) (x3 := x2) k5 (show 0 ≤ ((q_I δ 5 0 b3)).toInt by first | with_reducible assumption | omega) (show ((q_I δ 5 0 b3)).toInt ≤ 16 by first | with_reducible assumption | omega) (show ((q_I δ 5 0 b3)).toInt < 20 by first | with_reducible assumption | omega) I) (fun r21 hr22 => ?_)
  obtain ⟨i23, p24, p25⟩ := hr22
  try rw [i23]
  have f26 := ti_b r21.1
  refine ok_ite (fun h27 => ?_) (fun h27 => ?_)
  · have c28 : vx15.toInt < x2.toInt := o_lt h27
    unfold J_X10_goThroughAll_38
    obtain ⟨b29, o30, k31⟩ := gO_10_1 L k_a0
    refine ok_at o30 ?_
    refine ok_bind (k_X3_beFirstSet L hN (a0 := b29) (x1 := x2) k31 (show 0 ≤ (x2).toInt by first | with_reducible assumption | omega) I) (fun r32 hr33 => ?_)
    obtain ⟨i34, ⟨u35, u36⟩⟩ := hr33
    have u37 := kp_t kp_r u35
    have v38 : q_V r32 = q_V δ := (u36).trans rfl
    refine ok_mono (kl_X10_goThroughAll_51 L hN   k_a0 _ vx15 r21.1 (0 : Int32) (0 : Int32) r32 i34 (show 0 ≤ (x1).toInt by first | with_reducible assumption | omega) (show (x1).toInt < 5 by first | with_reducible assumption | omega) (show 0 ≤ (x2).toInt by first | with_reducible assumption | omega) (show (x2).toInt ≤ 16 by first | with_reducible assumption | omega) (show 0 ≤ (0 : Int) by first | with_reducible assumption | omega) (show (0 : Int) ≤ 1000000 by first | with_reducible assumption | omega) (show 1000000 - (0 : Int) < _ by omega)) (fun r39 hr40 => ?_)
    obtain ⟨i41, ⟨u42, u43⟩⟩ := hr40
    have u44 := kp_t u37 u42
    have v45 : q_V r39 = q_V δ := (u43).trans v38
    exact ⟨by first | with_reducible assumption | assumption, ⟨kp_w (by decide) u44, v45⟩⟩
  · have c46 : x2.toInt ≤ vx15.toInt := o_nlt h27
    unfold J_X10_goThroughAll_38
    obtain ⟨b47, o48, k49⟩ := gO_10_1 L k_a0
    refine ok_at o48 ?_
    refine ok_bind (k_X3_beFirstSet L hN (a0 := b47) (x1 := x2) k49 (show 0 ≤ (x2).toInt by first | with_reducible assumption | omega) I) (fun r50 hr51 => ?_)
    obtain ⟨i52, ⟨u53, u54⟩⟩ := hr51
    have u55 := kp_t kp_r u53
    have v56 : q_V r50 = q_V δ := (u54).trans rfl
    refine ok_mono (kl_X10_goThroughAll_51 L hN   k_a0 _ vx15 r21.1 (1 : Int32) (0 : Int32) r50 i52 (show 0 ≤ (x1).toInt by first | with_reducible assumption | omega) (show (x1).toInt < 5 by first | with_reducible assumption | omega) (show 0 ≤ (x2).toInt by first | with_reducible assumption | omega) (show (x2).toInt ≤ 16 by first | with_reducible assumption | omega) (show 0 ≤ (0 : Int) by first | with_reducible assumption | omega) (show (0 : Int) ≤ 1000000 by first | with_reducible assumption | omega) (show 1000000 - (0 : Int) < _ by omega)) (fun r57 hr58 => ?_)
    obtain ⟨i59, ⟨u60, u61⟩⟩ := hr58
    have u62 := kp_t u55 u60
    have v63 : q_V r57 = q_V δ := (u61).trans v56
    exact ⟨by first | with_reducible assumption | assumption, ⟨kp_w (by decide) u62, v63⟩⟩
set_option maxHeartbeats 4000000 in
theorem kl_X10_learn_7 {ad : List Nat} {h : hp} (L : Lay TLx ad h) {δ0 : dp} {N : Nat} (hN : 10000000 ≤ N) {a0 : Nat} {x1 : Int32} {x2 : Int32} (k_a0 : q_K h.1 a0 = 10) : ∀ (n : Nat) (x3v : Int32) (δ : dp), CI ad h.1 δ0 δ → 0 ≤ (x1).toInt → (x1).toInt < 5 → 0 ≤ (x2).toInt → (x2).toInt ≤ 16 → 0 ≤ (x3v).toInt → (x3v).toInt ≤ 17 → 17 - (x3v).toInt < (n : Int) → ok (L_X10_learn_7 N h.1 a0 x1 x2 n x3v δ) (fun r => CI ad h.1 δ0 r ∧ (kp [(1, 3), (1, 4), (1, 5), (1, 6), (1, 7), (1, 8), (1, 9), (1, 10), (1, 11), (1, 12), (1, 13), (1, 14), (1, 15), (3, 1)] δ r ∧ q_V r = q_V δ)) := by
  intro n
  induction n with
  | zero =>
    intro x3v δ I j0 j1 j2 j3 j4 j5 hm
    have f1 := ti_b x1
    have f2 := ti_b x2
    have f3 := ti_b x3v
    exfalso; omega
  | succ n ih =>
    intro x3v δ I j0 j1 j2 j3 j4 j5 hm
    unfold L_X10_learn_7
    have f1 := ti_b x1
    have f2 := ti_b x2
    have f3 := ti_b x3v
    refine ok_ite (fun h4 => ?_) (fun h4 => ?_)
    · have c5 : x2.toInt < x3v.toInt := o_lt h4
      exact ok_some (show CI ad h.1 δ0 δ ∧ (kp [(1, 3), (1, 4), (1, 5), (1, 6), (1, 7), (1, 8), (1, 9), (1, 10), (1, 11), (1, 12), (1, 13), (1, 14), (1, 15), (3, 1)] δ δ ∧ q_V δ = q_V δ) from ⟨I, ⟨kp_w (by decide) kp_r, rfl⟩⟩)
    · have c6 : x3v.toInt ≤ x2.toInt := o_nlt h4
      obtain ⟨b7, o8, k9, n10, w11⟩ := gO_10_4 L k_a0
      refine ok_at o8 ?_
      have t12 := ti_tn x1
      refine ok_gd (fun hc13 => ?_) ?_
      · rcases hc13 with hc13 | hc13
        · have c14 : x1.toInt < (0 : Int) := o_lt hc13
          omega
        · omega
      obtain ⟨b15, o16, k17, n18, w19⟩ := gE_10_4 L k_a0 o8 (i := x1.toNatClampNeg) (by omega)
      refine ok_at o16 ?_
      refine ok_ite (fun h20 => ?_) (fun h20 => ?_)
      · have c21 : x3v.toInt = (0 : Int) := o_eq h20
        unfold J_X10_learn_37
        have t22 := ti_tn x3v
        refine ok_gd (fun hc23 => ?_) ?_
        · rcases hc23 with hc23 | hc23
          · have c24 : x3v.toInt < (0 : Int) := o_lt hc23
            omega
          · omega
        refine ok_bdv (fun d25 e26 => ?_)
        have i27 : CI ad h.1 δ0 d25 := by rw [e26]; exact CI.sR L I w19
        have u28 := kp_N kp_r (show q_I d25 = q_I δ by rw [e26]; rfl)
        have v29 : q_V d25 = q_V δ := ((show q_V d25 = q_V δ by rw [e26]; rfl)).trans rfl
        obtain ⟨b30, o31, k32, n33, w34⟩ := gO_10_5 L k_a0
        refine ok_at o31 ?_
        refine ok_gd (fun hc35 => ?_) ?_
        · rcases hc35 with hc35 | hc35
          · have c36 : x1.toInt < (0 : Int) := o_lt hc35
            omega
          · omega
        obtain ⟨b37, o38, k39, n40, w41⟩ := gE_10_5 L k_a0 o31 (i := x1.toNatClampNeg) (by omega)
        refine ok_at o38 ?_
        refine ok_ite (fun h42 => ?_) (fun h42 => ?_)
        · have c43 : x3v.toInt = (0 : Int) := o_eq h42
          unfold J_X10_learn_63
          refine ok_gd (fun hc44 => ?_) ?_
          · rcases hc44 with hc44 | hc44
            · have c45 : x3v.toInt < (0 : Int) := o_lt hc44
              omega
            · omega
          refine ok_bdv (fun d46 e47 => ?_)
          have i48 : CI ad h.1 δ0 d46 := by rw [e47]; exact CI.sR L i27 w41
          have u49 := kp_N u28 (show q_I d46 = q_I d25 by rw [e47]; rfl)
          have v50 : q_V d46 = q_V δ := ((show q_V d46 = q_V d25 by rw [e47]; rfl)).trans v29
          obtain ⟨b51, o52, k53, n54, w55⟩ := gO_10_6 L k_a0
          refine ok_at o52 ?_
          refine ok_gd (fun hc56 => ?_) ?_
          · rcases hc56 with hc56 | hc56
            · have c57 : x1.toInt < (0 : Int) := o_lt hc56
              omega
            · omega
          obtain ⟨b58, o59, k60, n61, w62⟩ := gE_10_6 L k_a0 o52 (i := x1.toNatClampNeg) (by omega)
          refine ok_at o59 ?_
          refine ok_ite (fun h63 => ?_) (fun h63 => ?_)
          · have c64 : x3v.toInt = (0 : Int) := o_eq h63
            unfold J_X10_learn_89
            refine ok_gd (fun hc65 => ?_) ?_
            · rcases hc65 with hc65 | hc65
              · have c66 : x3v.toInt < (0 : Int) := o_lt hc65
                omega
              · omega
            refine ok_bdv (fun d67 e68 => ?_)
            have i69 : CI ad h.1 δ0 d67 := by rw [e68]; exact CI.sJ i48
            have u70 := kp_N u49 (show q_I d67 = q_I d46 by rw [e68]; rfl)
            have v71 : q_V d67 = q_V δ := ((show q_V d67 = q_V d46 by rw [e68]; rfl)).trans v50
            refine ok_bind (k_X10_goThroughAll L hN (a0 := a0) (x1 := x1) (x2 := x3v) k_a0 (show 0 ≤ (x1).toInt by first | with_reducible assumption | omega) (show (x1).toInt < 5 by first | with_reducible assumption | omega) (show 0 ≤ (x3v).toInt by first | with_reducible assumption | omega) (show (x3v).toInt ≤ 16 by first | with_reducible assumption | omega) i69) (fun r72 hr73 => ?_)
            obtain ⟨i74, ⟨u75, u76⟩⟩ := hr73
            have u77 := kp_t u70 u75
            have v78 : q_V r72 = q_V δ := (u76).trans v71
            obtain ⟨b79, o80, k81, n82⟩ := gO_10_3 L k_a0
            obtain rfl := gS_10_3 L k_a0 o80
            refine ok_at o80 ?_
            refine ok_gd (fun hc83 => ?_) ?_
            · rcases hc83 with hc83 | hc83
              · have c84 : x1.toInt < (0 : Int) := o_lt hc83
                omega
              · omega
            first | (have q89 := te_addc (c := 1) (n := 1) rfl x3v (by omega) (by omega); obtain ⟨f90, f91, f92⟩ := q89) | (obtain ⟨q89, f90, f91, f92⟩ := ti_addc (c := 1) (n := 1) rfl x3v)
            refine ok_bdv (fun d85 e86 => ?_)
            have i87 : CI ad h.1 δ0 d85 := by rw [e86]; exact cr_22 L i74 (show 0 ≤ (x3v + (1 : Int32)).toInt by omega) (show (x3v + (1 : Int32)).toInt ≤ 17 by omega)
            have u93 := kp_N u77 (show q_I d85 = q_I r72 by rw [e86]; rfl)
            have v94 : q_V d85 = q_V δ := ((show q_V d85 = q_V r72 by rw [e86]; rfl)).trans v78
            refine ok_biv (fun vx95 e96 => ?_)
            first | (have q97 := te_addc (c := 1) (n := 1) rfl x3v (by omega) (by omega); rw [← e96] at q97; obtain ⟨f98, f99, f100⟩ := q97) | (obtain ⟨q97, f98, f99, f100⟩ : ∃ q : Int, vx95.toInt = x3v.toInt + (1 : Int) + 4294967296 * q ∧ -2147483648 ≤ vx95.toInt ∧ vx95.toInt ≤ 2147483647 := by rw [e96]; exact ti_addc (c := 1) (n := 1) rfl x3v)
            refine ok_mono (ih vx95 d85 i87 (show 0 ≤ (x1).toInt by first | with_reducible assumption | omega) (show (x1).toInt < 5 by first | with_reducible assumption | omega) (show 0 ≤ (x2).toInt by first | with_reducible assumption | omega) (show (x2).toInt ≤ 16 by first | with_reducible assumption | omega) (show 0 ≤ (vx95).toInt by first | with_reducible assumption | omega) (show (vx95).toInt ≤ 17 by first | with_reducible assumption | omega) (show 17 - (vx95).toInt < _ by omega)) (fun r101 hr102 => ?_)
            obtain ⟨i103, ⟨u104, u105⟩⟩ := hr102
            have u106 := kp_t u93 u104
            have v107 : q_V r101 = q_V δ := (u105).trans v94
            exact ⟨by first | with_reducible assumption | assumption, ⟨kp_w (by decide) u106, v107⟩⟩
          · have c108 : x3v.toInt ≠ (0 : Int) := o_ne h63
            refine ok_at o52 ?_
            refine ok_gd (fun hc109 => ?_) ?_
            · rcases hc109 with hc109 | hc109
              · have c110 : x1.toInt < (0 : Int) := o_lt hc109
                omega
              · omega
            obtain ⟨b111, o112, k113, n114, w115⟩ := gE_10_6 L k_a0 o52 (i := x1.toNatClampNeg) (by omega)
            refine ok_at o112 ?_
            first | (have q117 := te_subc (c := 1) (n := 1) rfl x3v (by omega) (by omega); obtain ⟨f118, f119, f120⟩ := q117) | (obtain ⟨q117, f118, f119, f120⟩ := ti_subc (c := 1) (n := 1) rfl x3v)
            have t121 := ti_tn (x3v - (1 : Int32))
            refine ok_gd (fun hc122 => ?_) ?_
            · rcases hc122 with hc122 | hc122
              · have c123 : (x3v - (1 : Int32)).toInt < (0 : Int) := o_lt hc122
                omega
              · omega
            unfold J_X10_learn_89
            refine ok_gd (fun hc124 => ?_) ?_
            · rcases hc124 with hc124 | hc124
              · have c125 : x3v.toInt < (0 : Int) := o_lt hc124
                omega
              · omega
            refine ok_bdv (fun d126 e127 => ?_)
            have i128 : CI ad h.1 δ0 d126 := by rw [e127]; exact CI.sJ i48
            have u129 := kp_N u49 (show q_I d126 = q_I d46 by rw [e127]; rfl)
            have v130 : q_V d126 = q_V δ := ((show q_V d126 = q_V d46 by rw [e127]; rfl)).trans v50
            refine ok_bind (k_X10_goThroughAll L hN (a0 := a0) (x1 := x1) (x2 := x3v) k_a0 (show 0 ≤ (x1).toInt by first | with_reducible assumption | omega) (show (x1).toInt < 5 by first | with_reducible assumption | omega) (show 0 ≤ (x3v).toInt by first | with_reducible assumption | omega) (show (x3v).toInt ≤ 16 by first | with_reducible assumption | omega) i128) (fun r131 hr132 => ?_)
            obtain ⟨i133, ⟨u134, u135⟩⟩ := hr132
            have u136 := kp_t u129 u134
            have v137 : q_V r131 = q_V δ := (u135).trans v130
            obtain ⟨b138, o139, k140, n141⟩ := gO_10_3 L k_a0
            obtain rfl := gS_10_3 L k_a0 o139
            refine ok_at o139 ?_
            refine ok_gd (fun hc142 => ?_) ?_
            · rcases hc142 with hc142 | hc142
              · have c143 : x1.toInt < (0 : Int) := o_lt hc142
                omega
              · omega
            first | (have q148 := te_addc (c := 1) (n := 1) rfl x3v (by omega) (by omega); obtain ⟨f149, f150, f151⟩ := q148) | (obtain ⟨q148, f149, f150, f151⟩ := ti_addc (c := 1) (n := 1) rfl x3v)
            refine ok_bdv (fun d144 e145 => ?_)
            have i146 : CI ad h.1 δ0 d144 := by rw [e145]; exact cr_22 L i133 (show 0 ≤ (x3v + (1 : Int32)).toInt by omega) (show (x3v + (1 : Int32)).toInt ≤ 17 by omega)
            have u152 := kp_N u136 (show q_I d144 = q_I r131 by rw [e145]; rfl)
            have v153 : q_V d144 = q_V δ := ((show q_V d144 = q_V r131 by rw [e145]; rfl)).trans v137
            refine ok_biv (fun vx154 e155 => ?_)
            first | (have q156 := te_addc (c := 1) (n := 1) rfl x3v (by omega) (by omega); rw [← e155] at q156; obtain ⟨f157, f158, f159⟩ := q156) | (obtain ⟨q156, f157, f158, f159⟩ : ∃ q : Int, vx154.toInt = x3v.toInt + (1 : Int) + 4294967296 * q ∧ -2147483648 ≤ vx154.toInt ∧ vx154.toInt ≤ 2147483647 := by rw [e155]; exact ti_addc (c := 1) (n := 1) rfl x3v)
            refine ok_mono (ih vx154 d144 i146 (show 0 ≤ (x1).toInt by first | with_reducible assumption | omega) (show (x1).toInt < 5 by first | with_reducible assumption | omega) (show 0 ≤ (x2).toInt by first | with_reducible assumption | omega) (show (x2).toInt ≤ 16 by first | with_reducible assumption | omega) (show 0 ≤ (vx154).toInt by first | with_reducible assumption | omega) (show (vx154).toInt ≤ 17 by first | with_reducible assumption | omega) (show 17 - (vx154).toInt < _ by omega)) (fun r160 hr161 => ?_)
            obtain ⟨i162, ⟨u163, u164⟩⟩ := hr161
            have u165 := kp_t u152 u163
            have v166 : q_V r160 = q_V δ := (u164).trans v153
            exact ⟨by first | with_reducible assumption | assumption, ⟨kp_w (by decide) u165, v166⟩⟩
        · have c167 : x3v.toInt ≠ (0 : Int) := o_ne h42
          refine ok_at o31 ?_
          refine ok_gd (fun hc168 => ?_) ?_
          · rcases hc168 with hc168 | hc168
            · have c169 : x1.toInt < (0 : Int) := o_lt hc168
              omega
            · omega
          obtain ⟨b170, o171, k172, n173, w174⟩ := gE_10_5 L k_a0 o31 (i := x1.toNatClampNeg) (by omega)
          refine ok_at o171 ?_
          first | (have q176 := te_subc (c := 1) (n := 1) rfl x3v (by omega) (by omega); obtain ⟨f177, f178, f179⟩ := q176) | (obtain ⟨q176, f177, f178, f179⟩ := ti_subc (c := 1) (n := 1) rfl x3v)
          have t180 := ti_tn (x3v - (1 : Int32))
          refine ok_gd (fun hc181 => ?_) ?_
          · rcases hc181 with hc181 | hc181
            · have c182 : (x3v - (1 : Int32)).toInt < (0 : Int) := o_lt hc181
              omega
            · omega
          unfold J_X10_learn_63
          refine ok_gd (fun hc183 => ?_) ?_
          · rcases hc183 with hc183 | hc183
            · have c184 : x3v.toInt < (0 : Int) := o_lt hc183
              omega
            · omega
          refine ok_bdv (fun d185 e186 => ?_)
          have i187 : CI ad h.1 δ0 d185 := by rw [e186]; exact CI.sR L i27 w41
          have u188 := kp_N u28 (show q_I d185 = q_I d25 by rw [e186]; rfl)
          have v189 : q_V d185 = q_V δ := ((show q_V d185 = q_V d25 by rw [e186]; rfl)).trans v29
          obtain ⟨b190, o191, k192, n193, w194⟩ := gO_10_6 L k_a0
          refine ok_at o191 ?_
          refine ok_gd (fun hc195 => ?_) ?_
          · rcases hc195 with hc195 | hc195
            · have c196 : x1.toInt < (0 : Int) := o_lt hc195
              omega
            · omega
          obtain ⟨b197, o198, k199, n200, w201⟩ := gE_10_6 L k_a0 o191 (i := x1.toNatClampNeg) (by omega)
          refine ok_at o198 ?_
          refine ok_ite (fun h202 => ?_) (fun h202 => ?_)
          · have c203 : x3v.toInt = (0 : Int) := o_eq h202
            unfold J_X10_learn_89
            refine ok_gd (fun hc204 => ?_) ?_
            · rcases hc204 with hc204 | hc204
              · have c205 : x3v.toInt < (0 : Int) := o_lt hc204
                omega
              · omega
            refine ok_bdv (fun d206 e207 => ?_)
            have i208 : CI ad h.1 δ0 d206 := by rw [e207]; exact CI.sJ i187
            have u209 := kp_N u188 (show q_I d206 = q_I d185 by rw [e207]; rfl)
            have v210 : q_V d206 = q_V δ := ((show q_V d206 = q_V d185 by rw [e207]; rfl)).trans v189
            refine ok_bind (k_X10_goThroughAll L hN (a0 := a0) (x1 := x1) (x2 := x3v) k_a0 (show 0 ≤ (x1).toInt by first | with_reducible assumption | omega) (show (x1).toInt < 5 by first | with_reducible assumption | omega) (show 0 ≤ (x3v).toInt by first | with_reducible assumption | omega) (show (x3v).toInt ≤ 16 by first | with_reducible assumption | omega) i208) (fun r211 hr212 => ?_)
            obtain ⟨i213, ⟨u214, u215⟩⟩ := hr212
            have u216 := kp_t u209 u214
            have v217 : q_V r211 = q_V δ := (u215).trans v210
            obtain ⟨b218, o219, k220, n221⟩ := gO_10_3 L k_a0
            obtain rfl := gS_10_3 L k_a0 o219
            refine ok_at o219 ?_
            refine ok_gd (fun hc222 => ?_) ?_
            · rcases hc222 with hc222 | hc222
              · have c223 : x1.toInt < (0 : Int) := o_lt hc222
                omega
              · omega
            first | (have q228 := te_addc (c := 1) (n := 1) rfl x3v (by omega) (by omega); obtain ⟨f229, f230, f231⟩ := q228) | (obtain ⟨q228, f229, f230, f231⟩ := ti_addc (c := 1) (n := 1) rfl x3v)
            refine ok_bdv (fun d224 e225 => ?_)
            have i226 : CI ad h.1 δ0 d224 := by rw [e225]; exact cr_22 L i213 (show 0 ≤ (x3v + (1 : Int32)).toInt by omega) (show (x3v + (1 : Int32)).toInt ≤ 17 by omega)
            have u232 := kp_N u216 (show q_I d224 = q_I r211 by rw [e225]; rfl)
            have v233 : q_V d224 = q_V δ := ((show q_V d224 = q_V r211 by rw [e225]; rfl)).trans v217
            refine ok_biv (fun vx234 e235 => ?_)
            first | (have q236 := te_addc (c := 1) (n := 1) rfl x3v (by omega) (by omega); rw [← e235] at q236; obtain ⟨f237, f238, f239⟩ := q236) | (obtain ⟨q236, f237, f238, f239⟩ : ∃ q : Int, vx234.toInt = x3v.toInt + (1 : Int) + 4294967296 * q ∧ -2147483648 ≤ vx234.toInt ∧ vx234.toInt ≤ 2147483647 := by rw [e235]; exact ti_addc (c := 1) (n := 1) rfl x3v)
            refine ok_mono (ih vx234 d224 i226 (show 0 ≤ (x1).toInt by first | with_reducible assumption | omega) (show (x1).toInt < 5 by first | with_reducible assumption | omega) (show 0 ≤ (x2).toInt by first | with_reducible assumption | omega) (show (x2).toInt ≤ 16 by first | with_reducible assumption | omega) (show 0 ≤ (vx234).toInt by first | with_reducible assumption | omega) (show (vx234).toInt ≤ 17 by first | with_reducible assumption | omega) (show 17 - (vx234).toInt < _ by omega)) (fun r240 hr241 => ?_)
            obtain ⟨i242, ⟨u243, u244⟩⟩ := hr241
            have u245 := kp_t u232 u243
            have v246 : q_V r240 = q_V δ := (u244).trans v233
            exact ⟨by first | with_reducible assumption | assumption, ⟨kp_w (by decide) u245, v246⟩⟩
          · have c247 : x3v.toInt ≠ (0 : Int) := o_ne h202
            refine ok_at o191 ?_
            refine ok_gd (fun hc248 => ?_) ?_
            · rcases hc248 with hc248 | hc248
              · have c249 : x1.toInt < (0 : Int) := o_lt hc248
                omega
              · omega
            obtain ⟨b250, o251, k252, n253, w254⟩ := gE_10_6 L k_a0 o191 (i := x1.toNatClampNeg) (by omega)
            refine ok_at o251 ?_
            refine ok_gd (fun hc255 => ?_) ?_
            · rcases hc255 with hc255 | hc255
              · have c256 : (x3v - (1 : Int32)).toInt < (0 : Int) := o_lt hc255
                omega
              · omega
            unfold J_X10_learn_89
            refine ok_gd (fun hc257 => ?_) ?_
            · rcases hc257 with hc257 | hc257
              · have c258 : x3v.toInt < (0 : Int) := o_lt hc257
                omega
              · omega
            refine ok_bdv (fun d259 e260 => ?_)
            have i261 : CI ad h.1 δ0 d259 := by rw [e260]; exact CI.sJ i187
            have u262 := kp_N u188 (show q_I d259 = q_I d185 by rw [e260]; rfl)
            have v263 : q_V d259 = q_V δ := ((show q_V d259 = q_V d185 by rw [e260]; rfl)).trans v189
            refine ok_bind (k_X10_goThroughAll L hN (a0 := a0) (x1 := x1) (x2 := x3v) k_a0 (show 0 ≤ (x1).toInt by first | with_reducible assumption | omega) (show (x1).toInt < 5 by first | with_reducible assumption | omega) (show 0 ≤ (x3v).toInt by first | with_reducible assumption | omega) (show (x3v).toInt ≤ 16 by first | with_reducible assumption | omega) i261) (fun r264 hr265 => ?_)
            obtain ⟨i266, ⟨u267, u268⟩⟩ := hr265
            have u269 := kp_t u262 u267
            have v270 : q_V r264 = q_V δ := (u268).trans v263
            obtain ⟨b271, o272, k273, n274⟩ := gO_10_3 L k_a0
            obtain rfl := gS_10_3 L k_a0 o272
            refine ok_at o272 ?_
            refine ok_gd (fun hc275 => ?_) ?_
            · rcases hc275 with hc275 | hc275
              · have c276 : x1.toInt < (0 : Int) := o_lt hc275
                omega
              · omega
            first | (have q281 := te_addc (c := 1) (n := 1) rfl x3v (by omega) (by omega); obtain ⟨f282, f283, f284⟩ := q281) | (obtain ⟨q281, f282, f283, f284⟩ := ti_addc (c := 1) (n := 1) rfl x3v)
            refine ok_bdv (fun d277 e278 => ?_)
            have i279 : CI ad h.1 δ0 d277 := by rw [e278]; exact cr_22 L i266 (show 0 ≤ (x3v + (1 : Int32)).toInt by omega) (show (x3v + (1 : Int32)).toInt ≤ 17 by omega)
            have u285 := kp_N u269 (show q_I d277 = q_I r264 by rw [e278]; rfl)
            have v286 : q_V d277 = q_V δ := ((show q_V d277 = q_V r264 by rw [e278]; rfl)).trans v270
            refine ok_biv (fun vx287 e288 => ?_)
            first | (have q289 := te_addc (c := 1) (n := 1) rfl x3v (by omega) (by omega); rw [← e288] at q289; obtain ⟨f290, f291, f292⟩ := q289) | (obtain ⟨q289, f290, f291, f292⟩ : ∃ q : Int, vx287.toInt = x3v.toInt + (1 : Int) + 4294967296 * q ∧ -2147483648 ≤ vx287.toInt ∧ vx287.toInt ≤ 2147483647 := by rw [e288]; exact ti_addc (c := 1) (n := 1) rfl x3v)
            refine ok_mono (ih vx287 d277 i279 (show 0 ≤ (x1).toInt by first | with_reducible assumption | omega) (show (x1).toInt < 5 by first | with_reducible assumption | omega) (show 0 ≤ (x2).toInt by first | with_reducible assumption | omega) (show (x2).toInt ≤ 16 by first | with_reducible assumption | omega) (show 0 ≤ (vx287).toInt by first | with_reducible assumption | omega) (show (vx287).toInt ≤ 17 by first | with_reducible assumption | omega) (show 17 - (vx287).toInt < _ by omega)) (fun r293 hr294 => ?_)
            obtain ⟨i295, ⟨u296, u297⟩⟩ := hr294
            have u298 := kp_t u285 u296
            have v299 : q_V r293 = q_V δ := (u297).trans v286
            exact ⟨by first | with_reducible assumption | assumption, ⟨kp_w (by decide) u298, v299⟩⟩
      · have c300 : x3v.toInt ≠ (0 : Int) := o_ne h20
        refine ok_at o8 ?_
        refine ok_gd (fun hc301 => ?_) ?_
        · rcases hc301 with hc301 | hc301
          · have c302 : x1.toInt < (0 : Int) := o_lt hc301
            omega
          · omega
        obtain ⟨b303, o304, k305, n306, w307⟩ := gE_10_4 L k_a0 o8 (i := x1.toNatClampNeg) (by omega)
        refine ok_at o304 ?_
        first | (have q309 := te_subc (c := 1) (n := 1) rfl x3v (by omega) (by omega); obtain ⟨f310, f311, f312⟩ := q309) | (obtain ⟨q309, f310, f311, f312⟩ := ti_subc (c := 1) (n := 1) rfl x3v)
        have t313 := ti_tn (x3v - (1 : Int32))
        refine ok_gd (fun hc314 => ?_) ?_
        · rcases hc314 with hc314 | hc314
          · have c315 : (x3v - (1 : Int32)).toInt < (0 : Int) := o_lt hc314
            omega
          · omega
        unfold J_X10_learn_37
        have t316 := ti_tn x3v
        refine ok_gd (fun hc317 => ?_) ?_
        · rcases hc317 with hc317 | hc317
          · have c318 : x3v.toInt < (0 : Int) := o_lt hc317
            omega
          · omega
        refine ok_bdv (fun d319 e320 => ?_)
        have i321 : CI ad h.1 δ0 d319 := by rw [e320]; exact CI.sR L I w19
        have u322 := kp_N kp_r (show q_I d319 = q_I δ by rw [e320]; rfl)
        have v323 : q_V d319 = q_V δ := ((show q_V d319 = q_V δ by rw [e320]; rfl)).trans rfl
        obtain ⟨b324, o325, k326, n327, w328⟩ := gO_10_5 L k_a0
        refine ok_at o325 ?_
        refine ok_gd (fun hc329 => ?_) ?_
        · rcases hc329 with hc329 | hc329
          · have c330 : x1.toInt < (0 : Int) := o_lt hc329
            omega
          · omega
        obtain ⟨b331, o332, k333, n334, w335⟩ := gE_10_5 L k_a0 o325 (i := x1.toNatClampNeg) (by omega)
        refine ok_at o332 ?_
        refine ok_ite (fun h336 => ?_) (fun h336 => ?_)
        · have c337 : x3v.toInt = (0 : Int) := o_eq h336
          unfold J_X10_learn_63
          refine ok_gd (fun hc338 => ?_) ?_
          · rcases hc338 with hc338 | hc338
            · have c339 : x3v.toInt < (0 : Int) := o_lt hc338
              omega
            · omega
          refine ok_bdv (fun d340 e341 => ?_)
          have i342 : CI ad h.1 δ0 d340 := by rw [e341]; exact CI.sR L i321 w335
          have u343 := kp_N u322 (show q_I d340 = q_I d319 by rw [e341]; rfl)
          have v344 : q_V d340 = q_V δ := ((show q_V d340 = q_V d319 by rw [e341]; rfl)).trans v323
          obtain ⟨b345, o346, k347, n348, w349⟩ := gO_10_6 L k_a0
          refine ok_at o346 ?_
          refine ok_gd (fun hc350 => ?_) ?_
          · rcases hc350 with hc350 | hc350
            · have c351 : x1.toInt < (0 : Int) := o_lt hc350
              omega
            · omega
          obtain ⟨b352, o353, k354, n355, w356⟩ := gE_10_6 L k_a0 o346 (i := x1.toNatClampNeg) (by omega)
          refine ok_at o353 ?_
          refine ok_ite (fun h357 => ?_) (fun h357 => ?_)
          · have c358 : x3v.toInt = (0 : Int) := o_eq h357
            unfold J_X10_learn_89
            refine ok_gd (fun hc359 => ?_) ?_
            · rcases hc359 with hc359 | hc359
              · have c360 : x3v.toInt < (0 : Int) := o_lt hc359
                omega
              · omega
            refine ok_bdv (fun d361 e362 => ?_)
            have i363 : CI ad h.1 δ0 d361 := by rw [e362]; exact CI.sJ i342
            have u364 := kp_N u343 (show q_I d361 = q_I d340 by rw [e362]; rfl)
            have v365 : q_V d361 = q_V δ := ((show q_V d361 = q_V d340 by rw [e362]; rfl)).trans v344
            refine ok_bind (k_X10_goThroughAll L hN (a0 := a0) (x1 := x1) (x2 := x3v) k_a0 (show 0 ≤ (x1).toInt by first | with_reducible assumption | omega) (show (x1).toInt < 5 by first | with_reducible assumption | omega) (show 0 ≤ (x3v).toInt by first | with_reducible assumption | omega) (show (x3v).toInt ≤ 16 by first | with_reducible assumption | omega) i363) (fun r366 hr367 => ?_)
            obtain ⟨i368, ⟨u369, u370⟩⟩ := hr367
            have u371 := kp_t u364 u369
            have v372 : q_V r366 = q_V δ := (u370).trans v365
            obtain ⟨b373, o374, k375, n376⟩ := gO_10_3 L k_a0
            obtain rfl := gS_10_3 L k_a0 o374
            refine ok_at o374 ?_
            refine ok_gd (fun hc377 => ?_) ?_
            · rcases hc377 with hc377 | hc377
              · have c378 : x1.toInt < (0 : Int) := o_lt hc377
                omega
              · omega
            first | (have q383 := te_addc (c := 1) (n := 1) rfl x3v (by omega) (by omega); obtain ⟨f384, f385, f386⟩ := q383) | (obtain ⟨q383, f384, f385, f386⟩ := ti_addc (c := 1) (n := 1) rfl x3v)
            refine ok_bdv (fun d379 e380 => ?_)
            have i381 : CI ad h.1 δ0 d379 := by rw [e380]; exact cr_22 L i368 (show 0 ≤ (x3v + (1 : Int32)).toInt by omega) (show (x3v + (1 : Int32)).toInt ≤ 17 by omega)
            have u387 := kp_N u371 (show q_I d379 = q_I r366 by rw [e380]; rfl)
            have v388 : q_V d379 = q_V δ := ((show q_V d379 = q_V r366 by rw [e380]; rfl)).trans v372
            refine ok_biv (fun vx389 e390 => ?_)
            first | (have q391 := te_addc (c := 1) (n := 1) rfl x3v (by omega) (by omega); rw [← e390] at q391; obtain ⟨f392, f393, f394⟩ := q391) | (obtain ⟨q391, f392, f393, f394⟩ : ∃ q : Int, vx389.toInt = x3v.toInt + (1 : Int) + 4294967296 * q ∧ -2147483648 ≤ vx389.toInt ∧ vx389.toInt ≤ 2147483647 := by rw [e390]; exact ti_addc (c := 1) (n := 1) rfl x3v)
            refine ok_mono (ih vx389 d379 i381 (show 0 ≤ (x1).toInt by first | with_reducible assumption | omega) (show (x1).toInt < 5 by first | with_reducible assumption | omega) (show 0 ≤ (x2).toInt by first | with_reducible assumption | omega) (show (x2).toInt ≤ 16 by first | with_reducible assumption | omega) (show 0 ≤ (vx389).toInt by first | with_reducible assumption | omega) (show (vx389).toInt ≤ 17 by first | with_reducible assumption | omega) (show 17 - (vx389).toInt < _ by omega)) (fun r395 hr396 => ?_)
            obtain ⟨i397, ⟨u398, u399⟩⟩ := hr396
            have u400 := kp_t u387 u398
            have v401 : q_V r395 = q_V δ := (u399).trans v388
            exact ⟨by first | with_reducible assumption | assumption, ⟨kp_w (by decide) u400, v401⟩⟩
          · have c402 : x3v.toInt ≠ (0 : Int) := o_ne h357
            refine ok_at o346 ?_
            refine ok_gd (fun hc403 => ?_) ?_
            · rcases hc403 with hc403 | hc403
              · have c404 : x1.toInt < (0 : Int) := o_lt hc403
                omega
              · omega
            obtain ⟨b405, o406, k407, n408, w409⟩ := gE_10_6 L k_a0 o346 (i := x1.toNatClampNeg) (by omega)
            refine ok_at o406 ?_
            refine ok_gd (fun hc410 => ?_) ?_
            · rcases hc410 with hc410 | hc410
              · have c411 : (x3v - (1 : Int32)).toInt < (0 : Int) := o_lt hc410
                omega
              · omega
            unfold J_X10_learn_89
            refine ok_gd (fun hc412 => ?_) ?_
            · rcases hc412 with hc412 | hc412
              · have c413 : x3v.toInt < (0 : Int) := o_lt hc412
                omega
              · omega
            refine ok_bdv (fun d414 e415 => ?_)
            have i416 : CI ad h.1 δ0 d414 := by rw [e415]; exact CI.sJ i342
            have u417 := kp_N u343 (show q_I d414 = q_I d340 by rw [e415]; rfl)
            have v418 : q_V d414 = q_V δ := ((show q_V d414 = q_V d340 by rw [e415]; rfl)).trans v344
            refine ok_bind (k_X10_goThroughAll L hN (a0 := a0) (x1 := x1) (x2 := x3v) k_a0 (show 0 ≤ (x1).toInt by first | with_reducible assumption | omega) (show (x1).toInt < 5 by first | with_reducible assumption | omega) (show 0 ≤ (x3v).toInt by first | with_reducible assumption | omega) (show (x3v).toInt ≤ 16 by first | with_reducible assumption | omega) i416) (fun r419 hr420 => ?_)
            obtain ⟨i421, ⟨u422, u423⟩⟩ := hr420
            have u424 := kp_t u417 u422
            have v425 : q_V r419 = q_V δ := (u423).trans v418
            obtain ⟨b426, o427, k428, n429⟩ := gO_10_3 L k_a0
            obtain rfl := gS_10_3 L k_a0 o427
            refine ok_at o427 ?_
            refine ok_gd (fun hc430 => ?_) ?_
            · rcases hc430 with hc430 | hc430
              · have c431 : x1.toInt < (0 : Int) := o_lt hc430
                omega
              · omega
            first | (have q436 := te_addc (c := 1) (n := 1) rfl x3v (by omega) (by omega); obtain ⟨f437, f438, f439⟩ := q436) | (obtain ⟨q436, f437, f438, f439⟩ := ti_addc (c := 1) (n := 1) rfl x3v)
            refine ok_bdv (fun d432 e433 => ?_)
            have i434 : CI ad h.1 δ0 d432 := by rw [e433]; exact cr_22 L i421 (show 0 ≤ (x3v + (1 : Int32)).toInt by omega) (show (x3v + (1 : Int32)).toInt ≤ 17 by omega)
            have u440 := kp_N u424 (show q_I d432 = q_I r419 by rw [e433]; rfl)
            have v441 : q_V d432 = q_V δ := ((show q_V d432 = q_V r419 by rw [e433]; rfl)).trans v425
            refine ok_biv (fun vx442 e443 => ?_)
            first | (have q444 := te_addc (c := 1) (n := 1) rfl x3v (by omega) (by omega); rw [← e443] at q444; obtain ⟨f445, f446, f447⟩ := q444) | (obtain ⟨q444, f445, f446, f447⟩ : ∃ q : Int, vx442.toInt = x3v.toInt + (1 : Int) + 4294967296 * q ∧ -2147483648 ≤ vx442.toInt ∧ vx442.toInt ≤ 2147483647 := by rw [e443]; exact ti_addc (c := 1) (n := 1) rfl x3v)
            refine ok_mono (ih vx442 d432 i434 (show 0 ≤ (x1).toInt by first | with_reducible assumption | omega) (show (x1).toInt < 5 by first | with_reducible assumption | omega) (show 0 ≤ (x2).toInt by first | with_reducible assumption | omega) (show (x2).toInt ≤ 16 by first | with_reducible assumption | omega) (show 0 ≤ (vx442).toInt by first | with_reducible assumption | omega) (show (vx442).toInt ≤ 17 by first | with_reducible assumption | omega) (show 17 - (vx442).toInt < _ by omega)) (fun r448 hr449 => ?_)
            obtain ⟨i450, ⟨u451, u452⟩⟩ := hr449
            have u453 := kp_t u440 u451
            have v454 : q_V r448 = q_V δ := (u452).trans v441
            exact ⟨by first | with_reducible assumption | assumption, ⟨kp_w (by decide) u453, v454⟩⟩
        · have c455 : x3v.toInt ≠ (0 : Int) := o_ne h336
          refine ok_at o325 ?_
          refine ok_gd (fun hc456 => ?_) ?_
          · rcases hc456 with hc456 | hc456
            · have c457 : x1.toInt < (0 : Int) := o_lt hc456
              omega
            · omega
          obtain ⟨b458, o459, k460, n461, w462⟩ := gE_10_5 L k_a0 o325 (i := x1.toNatClampNeg) (by omega)
          refine ok_at o459 ?_
          refine ok_gd (fun hc463 => ?_) ?_
          · rcases hc463 with hc463 | hc463
            · have c464 : (x3v - (1 : Int32)).toInt < (0 : Int) := o_lt hc463
              omega
            · omega
          unfold J_X10_learn_63
          refine ok_gd (fun hc465 => ?_) ?_
          · rcases hc465 with hc465 | hc465
            · have c466 : x3v.toInt < (0 : Int) := o_lt hc465
              omega
            · omega
          refine ok_bdv (fun d467 e468 => ?_)
          have i469 : CI ad h.1 δ0 d467 := by rw [e468]; exact CI.sR L i321 w335
          have u470 := kp_N u322 (show q_I d467 = q_I d319 by rw [e468]; rfl)
          have v471 : q_V d467 = q_V δ := ((show q_V d467 = q_V d319 by rw [e468]; rfl)).trans v323
          obtain ⟨b472, o473, k474, n475, w476⟩ := gO_10_6 L k_a0
          refine ok_at o473 ?_
          refine ok_gd (fun hc477 => ?_) ?_
          · rcases hc477 with hc477 | hc477
            · have c478 : x1.toInt < (0 : Int) := o_lt hc477
              omega
            · omega
          obtain ⟨b479, o480, k481, n482, w483⟩ := gE_10_6 L k_a0 o473 (i := x1.toNatClampNeg) (by omega)
          refine ok_at o480 ?_
          refine ok_ite (fun h484 => ?_) (fun h484 => ?_)
          · have c485 : x3v.toInt = (0 : Int) := o_eq h484
            unfold J_X10_learn_89
            refine ok_gd (fun hc486 => ?_) ?_
            · rcases hc486 with hc486 | hc486
              · have c487 : x3v.toInt < (0 : Int) := o_lt hc486
                omega
              · omega
            refine ok_bdv (fun d488 e489 => ?_)
            have i490 : CI ad h.1 δ0 d488 := by rw [e489]; exact CI.sJ i469
            have u491 := kp_N u470 (show q_I d488 = q_I d467 by rw [e489]; rfl)
            have v492 : q_V d488 = q_V δ := ((show q_V d488 = q_V d467 by rw [e489]; rfl)).trans v471
            refine ok_bind (k_X10_goThroughAll L hN (a0 := a0) (x1 := x1) (x2 := x3v) k_a0 (show 0 ≤ (x1).toInt by first | with_reducible assumption | omega) (show (x1).toInt < 5 by first | with_reducible assumption | omega) (show 0 ≤ (x3v).toInt by first | with_reducible assumption | omega) (show (x3v).toInt ≤ 16 by first | with_reducible assumption | omega) i490) (fun r493 hr494 => ?_)
            obtain ⟨i495, ⟨u496, u497⟩⟩ := hr494
            have u498 := kp_t u491 u496
            have v499 : q_V r493 = q_V δ := (u497).trans v492
            obtain ⟨b500, o501, k502, n503⟩ := gO_10_3 L k_a0
            obtain rfl := gS_10_3 L k_a0 o501
            refine ok_at o501 ?_
            refine ok_gd (fun hc504 => ?_) ?_
            · rcases hc504 with hc504 | hc504
              · have c505 : x1.toInt < (0 : Int) := o_lt hc504
                omega
              · omega
            first | (have q510 := te_addc (c := 1) (n := 1) rfl x3v (by omega) (by omega); obtain ⟨f511, f512, f513⟩ := q510) | (obtain ⟨q510, f511, f512, f513⟩ := ti_addc (c := 1) (n := 1) rfl x3v)
            refine ok_bdv (fun d506 e507 => ?_)
            have i508 : CI ad h.1 δ0 d506 := by rw [e507]; exact cr_22 L i495 (show 0 ≤ (x3v + (1 : Int32)).toInt by omega) (show (x3v + (1 : Int32)).toInt ≤ 17 by omega)
            have u514 := kp_N u498 (show q_I d506 = q_I r493 by rw [e507]; rfl)
            have v515 : q_V d506 = q_V δ := ((show q_V d506 = q_V r493 by rw [e507]; rfl)).trans v499
            refine ok_biv (fun vx516 e517 => ?_)
            first | (have q518 := te_addc (c := 1) (n := 1) rfl x3v (by omega) (by omega); rw [← e517] at q518; obtain ⟨f519, f520, f521⟩ := q518) | (obtain ⟨q518, f519, f520, f521⟩ : ∃ q : Int, vx516.toInt = x3v.toInt + (1 : Int) + 4294967296 * q ∧ -2147483648 ≤ vx516.toInt ∧ vx516.toInt ≤ 2147483647 := by rw [e517]; exact ti_addc (c := 1) (n := 1) rfl x3v)
            refine ok_mono (ih vx516 d506 i508 (show 0 ≤ (x1).toInt by first | with_reducible assumption | omega) (show (x1).toInt < 5 by first | with_reducible assumption | omega) (show 0 ≤ (x2).toInt by first | with_reducible assumption | omega) (show (x2).toInt ≤ 16 by first | with_reducible assumption | omega) (show 0 ≤ (vx516).toInt by first | with_reducible assumption | omega) (show (vx516).toInt ≤ 17 by first | with_reducible assumption | omega) (show 17 - (vx516).toInt < _ by omega)) (fun r522 hr523 => ?_)
            obtain ⟨i524, ⟨u525, u526⟩⟩ := hr523
            have u527 := kp_t u514 u525
            have v528 : q_V r522 = q_V δ := (u526).trans v515
            exact ⟨by first | with_reducible assumption | assumption, ⟨kp_w (by decide) u527, v528⟩⟩
          · have c529 : x3v.toInt ≠ (0 : Int) := o_ne h484
            refine ok_at o473 ?_
            refine ok_gd (fun hc530 => ?_) ?_
            · rcases hc530 with hc530 | hc530
              · have c531 : x1.toInt < (0 : Int) := o_lt hc530
                omega
              · omega
            obtain ⟨b532, o533, k534, n535, w536⟩ := gE_10_6 L k_a0 o473 (i := x1.toNatClampNeg) (by omega)
            refine ok_at o533 ?_
            refine ok_gd (fun hc537 => ?_) ?_
            · rcases hc537 with hc537 | hc537
              · have c538 : (x3v - (1 : Int32)).toInt < (0 : Int) := o_lt hc537
                omega
              · omega
            unfold J_X10_learn_89
            refine ok_gd (fun hc539 => ?_) ?_
            · rcases hc539 with hc539 | hc539
              · have c540 : x3v.toInt < (0 : Int) := o_lt hc539
                omega
              · omega
            refine ok_bdv (fun d541 e542 => ?_)
            have i543 : CI ad h.1 δ0 d541 := by rw [e542]; exact CI.sJ i469
            have u544 := kp_N u470 (show q_I d541 = q_I d467 by rw [e542]; rfl)
            have v545 : q_V d541 = q_V δ := ((show q_V d541 = q_V d467 by rw [e542]; rfl)).trans v471
            refine ok_bind (k_X10_goThroughAll L hN (a0 := a0) (x1 := x1) (x2 := x3v) k_a0 (show 0 ≤ (x1).toInt by first | with_reducible assumption | omega) (show (x1).toInt < 5 by first | with_reducible assumption | omega) (show 0 ≤ (x3v).toInt by first | with_reducible assumption | omega) (show (x3v).toInt ≤ 16 by first | with_reducible assumption | omega) i543) (fun r546 hr547 => ?_)
            obtain ⟨i548, ⟨u549, u550⟩⟩ := hr547
            have u551 := kp_t u544 u549
            have v552 : q_V r546 = q_V δ := (u550).trans v545
            obtain ⟨b553, o554, k555, n556⟩ := gO_10_3 L k_a0
            obtain rfl := gS_10_3 L k_a0 o554
            refine ok_at o554 ?_
            refine ok_gd (fun hc557 => ?_) ?_
            · rcases hc557 with hc557 | hc557
              · have c558 : x1.toInt < (0 : Int) := o_lt hc557
                omega
              · omega
            first | (have q563 := te_addc (c := 1) (n := 1) rfl x3v (by omega) (by omega); obtain ⟨f564, f565, f566⟩ := q563) | (obtain ⟨q563, f564, f565, f566⟩ := ti_addc (c := 1) (n := 1) rfl x3v)
            refine ok_bdv (fun d559 e560 => ?_)
            have i561 : CI ad h.1 δ0 d559 := by rw [e560]; exact cr_22 L i548 (show 0 ≤ (x3v + (1 : Int32)).toInt by omega) (show (x3v + (1 : Int32)).toInt ≤ 17 by omega)
            have u567 := kp_N u551 (show q_I d559 = q_I r546 by rw [e560]; rfl)
            have v568 : q_V d559 = q_V δ := ((show q_V d559 = q_V r546 by rw [e560]; rfl)).trans v552
            refine ok_biv (fun vx569 e570 => ?_)
            first | (have q571 := te_addc (c := 1) (n := 1) rfl x3v (by omega) (by omega); rw [← e570] at q571; obtain ⟨f572, f573, f574⟩ := q571) | (obtain ⟨q571, f572, f573, f574⟩ : ∃ q : Int, vx569.toInt = x3v.toInt + (1 : Int) + 4294967296 * q ∧ -2147483648 ≤ vx569.toInt ∧ vx569.toInt ≤ 2147483647 := by rw [e570]; exact ti_addc (c := 1) (n := 1) rfl x3v)
            refine ok_mono (ih vx569 d559 i561 (show 0 ≤ (x1).toInt by first | with_reducible assumption | omega) (show (x1).toInt < 5 by first | with_reducible assumption | omega) (show 0 ≤ (x2).toInt by first | with_reducible assumption | omega) (show (x2).toInt ≤ 16 by first | with_reducible assumption | omega) (show 0 ≤ (vx569).toInt by first | with_reducible assumption | omega) (show (vx569).toInt ≤ 17 by first | with_reducible assumption | omega) (show 17 - (vx569).toInt < _ by omega)) (fun r575 hr576 => ?_)
            obtain ⟨i577, ⟨u578, u579⟩⟩ := hr576
            have u580 := kp_t u567 u578
            have v581 : q_V r575 = q_V δ := (u579).trans v568
            exact ⟨by first | with_reducible assumption | assumption, ⟨kp_w (by decide) u580, v581⟩⟩
set_option maxHeartbeats 4000000 in
theorem k_X10_learn {ad : List Nat} {h : hp} (L : Lay TLx ad h) {δ0 : dp} {N : Nat} (hN : 10000000 ≤ N) {a0 : Nat} {x1 : Int32} {x2 : Int32} (k_a0 : q_K h.1 a0 = 10) {δ : dp} (z0 : 0 ≤ (x1).toInt) (z1 : (x1).toInt < 5) (z2 : 0 ≤ (x2).toInt) (z3 : (x2).toInt ≤ 16) (I : CI ad h.1 δ0 δ) : ok (D_X10_learn N h.1 a0 x1 x2 δ) (fun r => CI ad h.1 δ0 r ∧ (kp [(1, 3), (1, 4), (1, 5), (1, 6), (1, 7), (1, 8), (1, 9), (1, 10), (1, 11), (1, 12), (1, 13), (1, 14), (1, 15), (3, 1)] δ r ∧ q_V r = q_V δ)) := by
  unfold D_X10_learn
  have f1 := ti_b x1
  have f2 := ti_b x2
  obtain ⟨b3, o4, k5, n6⟩ := gO_10_3 L k_a0
  obtain rfl := gS_10_3 L k_a0 o4
  refine ok_at o4 ?_
  have t7 := ti_tn x1
  refine ok_gd (fun hc8 => ?_) ?_
  · rcases hc8 with hc8 | hc8
    · have c9 : x1.toInt < (0 : Int) := o_lt hc8
      omega
    · omega
  have f12 := rb_22 L I x1.toNatClampNeg
  refine ok_biv (fun vx10 e11 => ?_)
  have f13 : vx10.toInt = (q_R δ (Ad ad 22) x1.toNatClampNeg).toInt := congrArg Int32.toInt e11
  refine ok_mono (kl_X10_learn_7 L hN   k_a0 _ vx10 δ I (show 0 ≤ (x1).toInt by first | with_reducible assumption | omega) (show (x1).toInt < 5 by first | with_reducible assumption | omega) (show 0 ≤ (x2).toInt by first | with_reducible assumption | omega) (show (x2).toInt ≤ 16 by first | with_reducible assumption | omega) (show 0 ≤ (vx10).toInt by first | with_reducible assumption | omega) (show (vx10).toInt ≤ 17 by first | with_reducible assumption | omega) (show 17 - (vx10).toInt < _ by omega)) (fun r14 hr15 => ?_)
  obtain ⟨i16, ⟨u17, u18⟩⟩ := hr15
  have u19 := kp_t kp_r u17
  have v20 : q_V r14 = q_V δ := (u18).trans rfl
  exact ⟨by first | with_reducible assumption | assumption, ⟨kp_w (by decide) u19, v20⟩⟩
