section
/-! 66.kX0 (by gen_safe.py) -/
set_option maxHeartbeats 4000000 in
theorem k_X0_forget {ad : List Nat} {h : hp} (L : Lay TLx ad h) {δ0 : dp} {N : Nat} (hN : 10000000 ≤ N) {a0 : Nat} (k_a0 : q_K h.1 a0 = 0) {δ : dp} (I : CI ad h.1 δ0 δ) : ok (D_X0_forget N h.1 a0 δ) (fun r => CI ad h.1 δ0 r ∧ (kp [(0, 4), (0, 6)] δ r ∧ q_V r = q_V δ ∧ q_R r = q_R δ)) := by
  unfold D_X0_forget
  refine ok_bdv (fun d1 e2 => ?_)
  have i3 : CI ad h.1 δ0 d1 := by rw [e2]; exact cs_0_4 L I k_a0 (show 0 ≤ (0 : Int) by omega) (show (0 : Int) ≤ 1 by omega)
  have u4 := kp_I kp_r e2
  have v5 : q_V d1 = q_V δ := ((show q_V d1 = q_V δ by rw [e2]; rfl)).trans rfl
  have v6 : q_R d1 = q_R δ := ((show q_R d1 = q_R δ by rw [e2]; rfl)).trans rfl
  refine ok_bdv (fun d7 e8 => ?_)
  have i9 : CI ad h.1 δ0 d7 := by rw [e8]; exact cs_0_6 L i3
  have u10 := kp_I u4 e8
  have v11 : q_V d7 = q_V δ := ((show q_V d7 = q_V d1 by rw [e8]; rfl)).trans v5
  have v12 : q_R d7 = q_R δ := ((show q_R d7 = q_R d1 by rw [e8]; rfl)).trans v6
  exact ok_some (show CI ad h.1 δ0 d7 ∧ (kp [(0, 4), (0, 6)] δ d7 ∧ q_V d7 = q_V δ ∧ q_R d7 = q_R δ) from ⟨i9, ⟨kp_w (by decide) u10, v11, v12⟩⟩)
set_option maxHeartbeats 4000000 in
theorem k_X0_callAt {ad : List Nat} {h : hp} (L : Lay TLx ad h) {δ0 : dp} {N : Nat} (hN : 10000000 ≤ N) {a0 : Nat} {x1 : Int32} {x2 : Int32} (k_a0 : q_K h.1 a0 = 0) {δ : dp} (z0 : (x1).toInt ≤ 6) (I : CI ad h.1 δ0 δ) : ok (D_X0_callAt N h.1 a0 x1 x2 δ) (fun r => r.2 = δ) := by
  unfold D_X0_callAt
  have f1 := ti_b x1
  have f2 := ti_b x2
  refine ok_ite (fun h3 => ?_) (fun h3 => ?_)
  · have c4 : x2.toInt < (0 : Int) := o_lt h3
    unfold J_X0_callAt_9
    unfold J_X0_callAt_21
    exact ok_some (show δ = δ from rfl)
  · have c5 : (0 : Int) ≤ x2.toInt := o_nlt h3
    refine ok_ite (fun h6 => ?_) (fun h6 => ?_)
    · have c7 : x2.toInt < x1.toInt := o_lt h6
      obtain ⟨b8, o9, k10, n11, w12⟩ := gO_0_5 L k_a0
      obtain rfl := gS_0_5 L k_a0 o9
      refine ok_at o9 ?_
      first | (have q14 := te_sub x1 x2 (by omega) (by omega); obtain ⟨f15, f16, f17⟩ := q14) | (obtain ⟨q14, f15, f16, f17⟩ := ti_sub x1 x2)
      have t18 := ti_tn (x1 - x2)
      refine ok_gd (fun hc19 => ?_) ?_
      · rcases hc19 with hc19 | hc19
        · have c20 : (x1 - x2).toInt < (0 : Int) := o_lt hc19
          omega
        · omega
      unfold J_X0_callAt_21
      exact ok_some (show δ = δ from rfl)
    · have c21 : x1.toInt ≤ x2.toInt := o_nlt h6
      unfold J_X0_callAt_9
      unfold J_X0_callAt_21
      exact ok_some (show δ = δ from rfl)
set_option maxHeartbeats 4000000 in
theorem k_X0_limitOf {ad : List Nat} {h : hp} (L : Lay TLx ad h) {δ0 : dp} {N : Nat} (hN : 10000000 ≤ N) {a0 : Nat} {x1 : Int32} {x2 : Int32} {x3 : Int32} (k_a0 : q_K h.1 a0 = 0) {δ : dp} (z0 : 1 ≤ (x2).toInt) (z1 : 0 ≤ (x3).toInt) (z2 : (x2).toInt + (x3).toInt ≤ 6) (I : CI ad h.1 δ0 δ) : ok (D_X0_limitOf N h.1 a0 x1 x2 x3 δ) (fun r => r.2 = δ ∧ 0 ≤ (r.1).toInt ∧ (r.1).toInt ≤ 65 * (x2).toInt) := by
  unfold D_X0_limitOf
  have f1 := ti_b x2
  have f2 := ti_b x3
  obtain ⟨b3, o4, k5⟩ := gO_0_0 L k_a0
  refine ok_at o4 ?_
  refine ok_at o4 ?_
  have f8 := cb_5_0 I k5
  refine ok_bind (k_X5_mostTouches L hN (a0 := b3) (x1 := x1) (x2 := (q_I δ 5 0 b3)) (x3 := x3) k5 (show 0 ≤ ((q_I δ 5 0 b3)).toInt by first | with_reducible assumption | omega) (show ((q_I δ 5 0 b3)).toInt ≤ 16 by first | with_reducible assumption | omega) (show ((q_I δ 5 0 b3)).toInt < 20 by first | with_reducible assumption | omega) I) (fun r6 hr7 => ?_)
  obtain ⟨i9, p10, p11⟩ := hr7
  try rw [i9]
  have f12 := ti_b r6.1
  obtain ⟨b13, o14, k15, n16, w17⟩ := gO_0_3 L k_a0
  refine ok_at o14 ?_
  first | (have q19 := te_subc (c := 1) (n := 1) rfl x2 (by omega) (by omega); obtain ⟨f20, f21, f22⟩ := q19) | (obtain ⟨q19, f20, f21, f22⟩ := ti_subc (c := 1) (n := 1) rfl x2)
  have t23 := ti_tn (x2 - (1 : Int32))
  refine ok_gd (fun hc24 => ?_) ?_
  · rcases hc24 with hc24 | hc24
    · have c25 : (x2 - (1 : Int32)).toInt < (0 : Int) := o_lt hc24
      omega
    · omega
  obtain ⟨b26, o27, k28, n29, w30⟩ := gW_0_3 L k_a0 o14 (i := (x2 - (1 : Int32)).toNatClampNeg) (by omega)
  refine ok_at o27 ?_
  have ne32 : b26 ≠ Ad ad 44 := w30.ne L (by decide) (by decide)
  have t33 := ti_tn x3
  refine ok_gd (fun hc34 => ?_) ?_
  · rcases hc34 with hc34 | hc34
    · have c35 : x3.toInt < (0 : Int) := o_lt hc34
      omega
    · omega
  have f38 := CI.wR I w30 x3.toNatClampNeg
  refine ok_biv (fun vx36 e37 => ?_)
  have f39 : vx36.toInt = (q_R δ b26 x3.toNatClampNeg).toInt := congrArg Int32.toInt e37
  have f40 := ti_b x1
  refine ok_ite (fun h41 => ?_) (fun h41 => ?_)
  · have c42 : x1.toInt = (0 : Int) := o_eq h41
    refine ok_at o14 ?_
    refine ok_gd (fun hc43 => ?_) ?_
    · rcases hc43 with hc43 | hc43
      · have c44 : (x2 - (1 : Int32)).toInt < (0 : Int) := o_lt hc43
        omega
      · omega
    obtain ⟨b45, o46, k47, n48, w49⟩ := gW_0_3 L k_a0 o14 (i := (x2 - (1 : Int32)).toNatClampNeg) (by omega)
    refine ok_at o46 ?_
    have ne51 : b45 ≠ Ad ad 44 := w49.ne L (by decide) (by decide)
    first | (have q53 := te_addc (c := 1) (n := 1) rfl x3 (by omega) (by omega); obtain ⟨f54, f55, f56⟩ := q53) | (obtain ⟨q53, f54, f55, f56⟩ := ti_addc (c := 1) (n := 1) rfl x3)
    have t57 := ti_tn (x3 + (1 : Int32))
    refine ok_gd (fun hc58 => ?_) ?_
    · rcases hc58 with hc58 | hc58
      · have c59 : (x3 + (1 : Int32)).toInt < (0 : Int) := o_lt hc58
        omega
      · omega
    have f60 := CI.wR I w49 (x3 + (1 : Int32)).toNatClampNeg
    first | (have q62 := te_add r6.1 (q_R δ b45 (x3 + (1 : Int32)).toNatClampNeg) (by omega) (by omega); obtain ⟨f63, f64, f65⟩ := q62) | (obtain ⟨q62, f63, f64, f65⟩ := ti_add r6.1 (q_R δ b45 (x3 + (1 : Int32)).toNatClampNeg))
    exact ok_some (show δ = δ ∧ 0 ≤ ((r6.1 + (q_R δ b45 (x3 + (1 : Int32)).toNatClampNeg))).toInt ∧ ((r6.1 + (q_R δ b45 (x3 + (1 : Int32)).toNatClampNeg))).toInt ≤ 65 * (x2).toInt from ⟨rfl, by first | with_reducible assumption | omega, by first | with_reducible assumption | omega⟩)
  · have c66 : x1.toInt ≠ (0 : Int) := o_ne h41
    refine ok_ite (fun h67 => ?_) (fun h67 => ?_)
    · have c68 : x1.toInt = (1 : Int) := o_eq h67
      refine ok_at o4 ?_
      refine ok_at o4 ?_
      refine ok_bind (k_X5_mostTouches L hN (a0 := b3) (x1 := (2 : Int32)) (x2 := (q_I δ 5 0 b3)) (x3 := x3) k5 (show 0 ≤ ((q_I δ 5 0 b3)).toInt by first | with_reducible assumption | omega) (show ((q_I δ 5 0 b3)).toInt ≤ 16 by first | with_reducible assumption | omega) (show ((q_I δ 5 0 b3)).toInt < 20 by first | with_reducible assumption | omega) I) (fun r69 hr70 => ?_)
      obtain ⟨i71, p72, p73⟩ := hr70
      try rw [i71]
      have f74 := ti_b r69.1
      refine ok_biv (fun vx75 e76 => ?_)
      first | (have q77 := te_add r69.1 vx36 (by omega) (by omega); rw [← e76] at q77; obtain ⟨f78, f79, f80⟩ := q77) | (obtain ⟨q77, f78, f79, f80⟩ : ∃ q : Int, vx75.toInt = r69.1.toInt + vx36.toInt + 4294967296 * q ∧ -2147483648 ≤ vx75.toInt ∧ vx75.toInt ≤ 2147483647 := by rw [e76]; exact ti_add r69.1 vx36)
      refine ok_at o14 ?_
      refine ok_gd (fun hc81 => ?_) ?_
      · rcases hc81 with hc81 | hc81
        · have c82 : (x2 - (1 : Int32)).toInt < (0 : Int) := o_lt hc81
          omega
        · omega
      obtain ⟨b83, o84, k85, n86, w87⟩ := gW_0_3 L k_a0 o14 (i := (x2 - (1 : Int32)).toNatClampNeg) (by omega)
      refine ok_at o84 ?_
      have ne89 : b83 ≠ Ad ad 44 := w87.ne L (by decide) (by decide)
      refine ok_bind (k_J9_max_7cf53 L hN (x0 := (x3 - (1 : Int32))) (x1 := (0 : Int32))  I) (fun r90 hr91 => ?_)
      obtain ⟨i92, p93, p94, p95⟩ := hr91
      try rw [i92]
      first | (have q97 := te_subc (c := 1) (n := 1) rfl x3 (by omega) (by omega); obtain ⟨f98, f99, f100⟩ := q97) | (obtain ⟨q97, f98, f99, f100⟩ := ti_subc (c := 1) (n := 1) rfl x3)
      have f101 := ti_b r90.1
      replace p94 : (0 : Int) ≤ (r90.1).toInt := p94
      replace p95 : ((r90.1).toInt = ((x3 - (1 : Int32))).toInt ∨ (r90.1).toInt = (0 : Int)) := p95
      have t102 := ti_tn r90.1
      refine ok_gd (fun hc103 => ?_) ?_
      · rcases hc103 with hc103 | hc103
        · have c104 : r90.1.toInt < (0 : Int) := o_lt hc103
          omega
        · omega
      refine ok_bind (k_J9_max_7cf53 L hN (x0 := vx75) (x1 := (r6.1 + (q_R δ b83 r90.1.toNatClampNeg)))  I) (fun r105 hr106 => ?_)
      obtain ⟨i107, p108, p109, p110⟩ := hr106
      try rw [i107]
      have f111 := ti_b r105.1
      have f112 := CI.wR I w87 r90.1.toNatClampNeg
      first | (have q114 := te_add r6.1 (q_R δ b83 r90.1.toNatClampNeg) (by omega) (by omega); obtain ⟨f115, f116, f117⟩ := q114) | (obtain ⟨q114, f115, f116, f117⟩ := ti_add r6.1 (q_R δ b83 r90.1.toNatClampNeg))
      exact ok_some (show δ = δ ∧ 0 ≤ (r105.1).toInt ∧ (r105.1).toInt ≤ 65 * (x2).toInt from ⟨rfl, by first | with_reducible assumption | omega, by first | with_reducible assumption | omega⟩)
    · have c118 : x1.toInt ≠ (1 : Int) := o_ne h67
      first | (have q120 := te_add r6.1 vx36 (by omega) (by omega); obtain ⟨f121, f122, f123⟩ := q120) | (obtain ⟨q120, f121, f122, f123⟩ := ti_add r6.1 vx36)
      exact ok_some (show δ = δ ∧ 0 ≤ ((r6.1 + vx36)).toInt ∧ ((r6.1 + vx36)).toInt ≤ 65 * (x2).toInt from ⟨rfl, by first | with_reducible assumption | omega, by first | with_reducible assumption | omega⟩)
set_option maxHeartbeats 4000000 in
theorem kl_X0_setLimits_29 {ad : List Nat} {h : hp} (L : Lay TLx ad h) {δ0 : dp} {N : Nat} (hN : 10000000 ≤ N) {a0 : Nat} {kt2 : Int32 → dp → Option (dp)} {K2 : Int} (h_kt2 : ∀ (x1v : Int32) (δ : dp), CI ad h.1 δ0 δ → 1 ≤ (x1v).toInt → (x1v).toInt ≤ 7 → 7 - (x1v).toInt < K2 → ok (kt2 x1v δ) (fun r => CI ad h.1 δ0 r ∧ (kp [(0, 4)] δ r ∧ q_V r = q_V δ))) {kt10 : Int32 → Int32 → dp → Option (dp)} {K10 : Int} (h_kt10 : ∀ (x1v : Int32) (x2v : Int32) (δ : dp), CI ad h.1 δ0 δ → 1 ≤ (x1v).toInt → (x1v).toInt ≤ 6 → 0 ≤ (x2v).toInt → (x2v).toInt ≤ 7 - (x1v).toInt → 7 - (x1v).toInt ≤ K2 → 7 - (x2v).toInt < K10 → ok (kt10 x1v x2v δ) (fun r => CI ad h.1 δ0 r ∧ (kp [(0, 4)] δ r ∧ q_V r = q_V δ))) (k_a0 : q_K h.1 a0 = 0) : ∀ (n : Nat) (x1v : Int32) (x2v : Int32) (x3v : Int32) (δ : dp), CI ad h.1 δ0 δ → 1 ≤ (x1v).toInt → (x1v).toInt ≤ 6 → 0 ≤ (x2v).toInt → (x2v).toInt ≤ 6 - (x1v).toInt → 7 - (x1v).toInt ≤ K2 → 7 - (x2v).toInt ≤ K10 → 0 ≤ (x3v).toInt → (x3v).toInt ≤ 5 → 5 - (x3v).toInt < (n : Int) → ok (L_X0_setLimits_29 N h.1 a0 kt2 kt10 n x1v x2v x3v δ) (fun r => CI ad h.1 δ0 r ∧ (kp [(0, 4)] δ r ∧ q_V r = q_V δ)) := by
  intro n
  induction n with
  | zero =>
    intro x1v x2v x3v δ I j0 j1 j2 j3 j4 j5 j6 j7 hm
    have f1 := ti_b x1v
    have f2 := ti_b x2v
    have f3 := ti_b x3v
    exfalso; omega
  | succ n ih =>
    intro x1v x2v x3v δ I j0 j1 j2 j3 j4 j5 j6 j7 hm
    unfold L_X0_setLimits_29
    have f1 := ti_b x1v
    have f2 := ti_b x2v
    have f3 := ti_b x3v
    refine ok_ite (fun h4 => ?_) (fun h4 => ?_)
    · have c5 : (5 : Int) ≤ x3v.toInt := o_le h4
      refine ok_biv (fun vx6 e7 => ?_)
      first | (have q8 := te_addc (c := 1) (n := 1) rfl x2v (by omega) (by omega); rw [← e7] at q8; obtain ⟨f9, f10, f11⟩ := q8) | (obtain ⟨q8, f9, f10, f11⟩ : ∃ q : Int, vx6.toInt = x2v.toInt + (1 : Int) + 4294967296 * q ∧ -2147483648 ≤ vx6.toInt ∧ vx6.toInt ≤ 2147483647 := by rw [e7]; exact ti_addc (c := 1) (n := 1) rfl x2v)
      refine ok_mono (h_kt10 x1v vx6 δ I (show 1 ≤ (x1v).toInt by first | with_reducible assumption | omega) (show (x1v).toInt ≤ 6 by first | with_reducible assumption | omega) (show 0 ≤ (vx6).toInt by first | with_reducible assumption | omega) (show (vx6).toInt ≤ 7 - (x1v).toInt by first | with_reducible assumption | omega) (show 7 - (x1v).toInt ≤ K2 by first | with_reducible assumption | omega) (show 7 - (vx6).toInt < _ by omega)) (fun r12 hr13 => ?_)
      obtain ⟨i14, ⟨u15, u16⟩⟩ := hr13
      have u17 := kp_t kp_r u15
      have v18 : q_V r12 = q_V δ := (u16).trans rfl
      exact ⟨by first | with_reducible assumption | assumption, ⟨kp_w (by decide) u17, v18⟩⟩
    · have c19 : x3v.toInt < (5 : Int) := o_nle h4
      obtain ⟨b20, o21, k22, n23, w24⟩ := gO_0_3 L k_a0
      refine ok_at o21 ?_
      have t25 := ti_tn x1v
      refine ok_gd (fun hc26 => ?_) ?_
      · rcases hc26 with hc26 | hc26
        · have c27 : x1v.toInt < (0 : Int) := o_lt hc26
          omega
        · omega
      obtain ⟨b28, o29, k30, n31, w32⟩ := gW_0_3 L k_a0 o21 (i := x1v.toNatClampNeg) (by omega)
      refine ok_at o29 ?_
      have ne34 : b28 ≠ Ad ad 44 := w32.ne L (by decide) (by decide)
      refine ok_at o21 ?_
      refine ok_gd (fun hc35 => ?_) ?_
      · rcases hc35 with hc35 | hc35
        · have c36 : x1v.toInt < (0 : Int) := o_lt hc35
          omega
        · omega
      obtain ⟨b37, o38, k39, n40, w41⟩ := gW_0_3 L k_a0 o21 (i := x1v.toNatClampNeg) (by omega)
      refine ok_at o38 ?_
      have ne43 : b37 ≠ Ad ad 44 := w41.ne L (by decide) (by decide)
      have t44 := ti_tn x2v
      refine ok_gd (fun hc45 => ?_) ?_
      · rcases hc45 with hc45 | hc45
        · have c46 : x2v.toInt < (0 : Int) := o_lt hc45
          omega
        · omega
      refine ok_bind (k_X0_limitOf L hN (a0 := a0) (x1 := x3v) (x2 := x1v) (x3 := x2v) k_a0 (show 1 ≤ (x1v).toInt by first | with_reducible assumption | omega) (show 0 ≤ (x2v).toInt by first | with_reducible assumption | omega) (show (x1v).toInt + (x2v).toInt ≤ 6 by first | with_reducible assumption | omega) I) (fun r47 hr48 => ?_)
      obtain ⟨i49, p50, p51⟩ := hr48
      try rw [i49]
      have f52 := ti_b r47.1
      refine ok_bind (k_J9_max_7cf53 L hN (x0 := (q_R δ b37 x2v.toNatClampNeg)) (x1 := r47.1)  I) (fun r53 hr54 => ?_)
      obtain ⟨i55, p56, p57, p58⟩ := hr54
      try rw [i55]
      have f59 := CI.wR I w41 x2v.toNatClampNeg
      have f60 := ti_b r53.1
      refine ok_gd (fun hc61 => ?_) ?_
      · rcases hc61 with hc61 | hc61
        · have c62 : x2v.toInt < (0 : Int) := o_lt hc61
          omega
        · omega
      refine ok_bdv (fun d63 e64 => ?_)
      have i65 : CI ad h.1 δ0 d63 := by rw [e64]; exact CI.sW L I w32 (show 0 ≤ r53.1.toInt by omega) (show r53.1.toInt ≤ 65 * (x1v.toNatClampNeg : Int) by omega)
      have u66 := kp_N kp_r (show q_I d63 = q_I δ by rw [e64]; rfl)
      have v67 : q_V d63 = q_V δ := ((show q_V d63 = q_V δ by rw [e64]; rfl)).trans rfl
      refine ok_biv (fun vx68 e69 => ?_)
      first | (have q70 := te_addc (c := 1) (n := 1) rfl x3v (by omega) (by omega); rw [← e69] at q70; obtain ⟨f71, f72, f73⟩ := q70) | (obtain ⟨q70, f71, f72, f73⟩ : ∃ q : Int, vx68.toInt = x3v.toInt + (1 : Int) + 4294967296 * q ∧ -2147483648 ≤ vx68.toInt ∧ vx68.toInt ≤ 2147483647 := by rw [e69]; exact ti_addc (c := 1) (n := 1) rfl x3v)
      refine ok_mono (ih x1v x2v vx68 d63 i65 (show 1 ≤ (x1v).toInt by first | with_reducible assumption | omega) (show (x1v).toInt ≤ 6 by first | with_reducible assumption | omega) (show 0 ≤ (x2v).toInt by first | with_reducible assumption | omega) (show (x2v).toInt ≤ 6 - (x1v).toInt by first | with_reducible assumption | omega) (show 7 - (x1v).toInt ≤ K2 by first | with_reducible assumption | omega) (show 7 - (x2v).toInt ≤ K10 by first | with_reducible assumption | omega) (show 0 ≤ (vx68).toInt by first | with_reducible assumption | omega) (show (vx68).toInt ≤ 5 by first | with_reducible assumption | omega) (show 5 - (vx68).toInt < _ by omega)) (fun r74 hr75 => ?_)
      obtain ⟨i76, ⟨u77, u78⟩⟩ := hr75
      have u79 := kp_t u66 u77
      have v80 : q_V r74 = q_V δ := (u78).trans v67
      exact ⟨by first | with_reducible assumption | assumption, ⟨kp_w (by decide) u79, v80⟩⟩
set_option maxHeartbeats 4000000 in
theorem kl_X0_setLimits_10 {ad : List Nat} {h : hp} (L : Lay TLx ad h) {δ0 : dp} {N : Nat} (hN : 10000000 ≤ N) {a0 : Nat} {kt2 : Int32 → dp → Option (dp)} {K2 : Int} (h_kt2 : ∀ (x1v : Int32) (δ : dp), CI ad h.1 δ0 δ → 1 ≤ (x1v).toInt → (x1v).toInt ≤ 7 → 7 - (x1v).toInt < K2 → ok (kt2 x1v δ) (fun r => CI ad h.1 δ0 r ∧ (kp [(0, 4)] δ r ∧ q_V r = q_V δ))) (k_a0 : q_K h.1 a0 = 0) : ∀ (n : Nat) (x1v : Int32) (x2v : Int32) (δ : dp), CI ad h.1 δ0 δ → 1 ≤ (x1v).toInt → (x1v).toInt ≤ 6 → 0 ≤ (x2v).toInt → (x2v).toInt ≤ 7 - (x1v).toInt → 7 - (x1v).toInt ≤ K2 → 7 - (x2v).toInt < (n : Int) → ok (L_X0_setLimits_10 N h.1 a0 kt2 n x1v x2v δ) (fun r => CI ad h.1 δ0 r ∧ (kp [(0, 4)] δ r ∧ q_V r = q_V δ)) := by
  intro n
  induction n with
  | zero =>
    intro x1v x2v δ I j0 j1 j2 j3 j4 hm
    have f1 := ti_b x1v
    have f2 := ti_b x2v
    exfalso; omega
  | succ n ih =>
    intro x1v x2v δ I j0 j1 j2 j3 j4 hm
    unfold L_X0_setLimits_10
    have f1 := ti_b x1v
    have f2 := ti_b x2v
    first | (have q4 := te_csub (c := 6) (n := 6) rfl x1v (by omega) (by omega); obtain ⟨f5, f6, f7⟩ := q4) | (obtain ⟨q4, f5, f6, f7⟩ := ti_csub (c := 6) (n := 6) rfl x1v)
    refine ok_ite (fun h8 => ?_) (fun h8 => ?_)
    · have c9 : ((6 : Int32) - x1v).toInt < x2v.toInt := o_lt h8
      refine ok_biv (fun vx10 e11 => ?_)
      first | (have q12 := te_addc (c := 1) (n := 1) rfl x1v (by omega) (by omega); rw [← e11] at q12; obtain ⟨f13, f14, f15⟩ := q12) | (obtain ⟨q12, f13, f14, f15⟩ : ∃ q : Int, vx10.toInt = x1v.toInt + (1 : Int) + 4294967296 * q ∧ -2147483648 ≤ vx10.toInt ∧ vx10.toInt ≤ 2147483647 := by rw [e11]; exact ti_addc (c := 1) (n := 1) rfl x1v)
      refine ok_mono (h_kt2 vx10 δ I (show 1 ≤ (vx10).toInt by first | with_reducible assumption | omega) (show (vx10).toInt ≤ 7 by first | with_reducible assumption | omega) (show 7 - (vx10).toInt < _ by omega)) (fun r16 hr17 => ?_)
      obtain ⟨i18, ⟨u19, u20⟩⟩ := hr17
      have u21 := kp_t kp_r u19
      have v22 : q_V r16 = q_V δ := (u20).trans rfl
      exact ⟨by first | with_reducible assumption | assumption, ⟨kp_w (by decide) u21, v22⟩⟩
    · have c23 : x2v.toInt ≤ ((6 : Int32) - x1v).toInt := o_nlt h8
      obtain ⟨b24, o25, k26, n27, w28⟩ := gO_0_3 L k_a0
      refine ok_at o25 ?_
      have t29 := ti_tn x1v
      refine ok_gd (fun hc30 => ?_) ?_
      · rcases hc30 with hc30 | hc30
        · have c31 : x1v.toInt < (0 : Int) := o_lt hc30
          omega
        · omega
      obtain ⟨b32, o33, k34, n35, w36⟩ := gW_0_3 L k_a0 o25 (i := x1v.toNatClampNeg) (by omega)
      refine ok_at o33 ?_
      have ne38 : b32 ≠ Ad ad 44 := w36.ne L (by decide) (by decide)
      have t39 := ti_tn x2v
      refine ok_gd (fun hc40 => ?_) ?_
      · rcases hc40 with hc40 | hc40
        · have c41 : x2v.toInt < (0 : Int) := o_lt hc40
          omega
        · omega
      refine ok_bdv (fun d42 e43 => ?_)
      have i44 : CI ad h.1 δ0 d42 := by rw [e43]; exact CI.sW L I w36 (show 0 ≤ (0 : Int) by omega) (show (0 : Int) ≤ 65 * (x1v.toNatClampNeg : Int) by omega)
      have u45 := kp_N kp_r (show q_I d42 = q_I δ by rw [e43]; rfl)
      have v46 : q_V d42 = q_V δ := ((show q_V d42 = q_V δ by rw [e43]; rfl)).trans rfl
      refine ok_mono (kl_X0_setLimits_29 L hN (K2 := K2) (K10 := (n : Int)) h_kt2 ih k_a0 _ x1v x2v (0 : Int32) d42 i44 (show 1 ≤ (x1v).toInt by first | with_reducible assumption | omega) (show (x1v).toInt ≤ 6 by first | with_reducible assumption | omega) (show 0 ≤ (x2v).toInt by first | with_reducible assumption | omega) (show (x2v).toInt ≤ 6 - (x1v).toInt by first | with_reducible assumption | omega) (show 7 - (x1v).toInt ≤ K2 by first | with_reducible assumption | omega) (show 7 - (x2v).toInt ≤ (n : Int) by first | with_reducible assumption | omega) (show 0 ≤ (0 : Int) by first | with_reducible assumption | omega) (show (0 : Int) ≤ 5 by first | with_reducible assumption | omega) (show 5 - (0 : Int) < _ by omega)) (fun r47 hr48 => ?_)
      obtain ⟨i49, ⟨u50, u51⟩⟩ := hr48
      have u52 := kp_t u45 u50
      have v53 : q_V r47 = q_V δ := (u51).trans v46
      exact ⟨by first | with_reducible assumption | assumption, ⟨kp_w (by decide) u52, v53⟩⟩
set_option maxHeartbeats 4000000 in
theorem kl_X0_setLimits_2 {ad : List Nat} {h : hp} (L : Lay TLx ad h) {δ0 : dp} {N : Nat} (hN : 10000000 ≤ N) {a0 : Nat} (k_a0 : q_K h.1 a0 = 0) : ∀ (n : Nat) (x1v : Int32) (δ : dp), CI ad h.1 δ0 δ → 1 ≤ (x1v).toInt → (x1v).toInt ≤ 7 → 7 - (x1v).toInt < (n : Int) → ok (L_X0_setLimits_2 N h.1 a0 n x1v δ) (fun r => CI ad h.1 δ0 r ∧ (kp [(0, 4)] δ r ∧ q_V r = q_V δ)) := by
  intro n
  induction n with
  | zero =>
    intro x1v δ I j0 j1 hm
    have f1 := ti_b x1v
    exfalso; omega
  | succ n ih =>
    intro x1v δ I j0 j1 hm
    unfold L_X0_setLimits_2
    have f1 := ti_b x1v
    refine ok_ite (fun h2 => ?_) (fun h2 => ?_)
    · have c3 : (6 : Int) < x1v.toInt := o_lt h2
      refine ok_bdv (fun d4 e5 => ?_)
      have i6 : CI ad h.1 δ0 d4 := by rw [e5]; exact cs_0_4 L I k_a0 (show 0 ≤ (1 : Int) by omega) (show (1 : Int) ≤ 1 by omega)
      have u7 := kp_I kp_r e5
      have v8 : q_V d4 = q_V δ := ((show q_V d4 = q_V δ by rw [e5]; rfl)).trans rfl
      exact ok_some (show CI ad h.1 δ0 d4 ∧ (kp [(0, 4)] δ d4 ∧ q_V d4 = q_V δ) from ⟨i6, ⟨kp_w (by decide) u7, v8⟩⟩)
    · have c9 : x1v.toInt ≤ (6 : Int) := o_nlt h2
      refine ok_mono (kl_X0_setLimits_10 L hN (K2 := (n : Int)) ih k_a0 _ x1v (0 : Int32) δ I (show 1 ≤ (x1v).toInt by first | with_reducible assumption | omega) (show (x1v).toInt ≤ 6 by first | with_reducible assumption | omega) (show 0 ≤ (0 : Int) by first | with_reducible assumption | omega) (show (0 : Int) ≤ 7 - (x1v).toInt by first | with_reducible assumption | omega) (show 7 - (x1v).toInt ≤ (n : Int) by first | with_reducible assumption | omega) (show 7 - (0 : Int) < _ by omega)) (fun r10 hr11 => ?_)
      obtain ⟨i12, ⟨u13, u14⟩⟩ := hr11
      have u15 := kp_t kp_r u13
      have v16 : q_V r10 = q_V δ := (u14).trans rfl
      exact ⟨by first | with_reducible assumption | assumption, ⟨kp_w (by decide) u15, v16⟩⟩
set_option maxHeartbeats 4000000 in
theorem k_X0_setLimits {ad : List Nat} {h : hp} (L : Lay TLx ad h) {δ0 : dp} {N : Nat} (hN : 10000000 ≤ N) {a0 : Nat} (k_a0 : q_K h.1 a0 = 0) {δ : dp} (I : CI ad h.1 δ0 δ) : ok (D_X0_setLimits N h.1 a0 δ) (fun r => CI ad h.1 δ0 r ∧ (kp [(0, 4)] δ r ∧ q_V r = q_V δ)) := by
  unfold D_X0_setLimits
  refine ok_mono (kl_X0_setLimits_2 L hN   k_a0 _ (1 : Int32) δ I (show 1 ≤ (1 : Int) by first | with_reducible assumption | omega) (show (1 : Int) ≤ 7 by first | with_reducible assumption | omega) (show 7 - (1 : Int) < _ by omega)) (fun r1 hr2 => ?_)
  obtain ⟨i3, ⟨u4, u5⟩⟩ := hr2
  have u6 := kp_t kp_r u4
  have v7 : q_V r1 = q_V δ := (u5).trans rfl
  exact ⟨by first | with_reducible assumption | assumption, ⟨kp_w (by decide) u6, v7⟩⟩
end
section
set_option maxHeartbeats 4000000 in
theorem k_bX0_findBehind {ad : List Nat} {h : hp} (L : Lay TLx ad h) {δ0 : dp} {N : Nat} (hN : 10000000 ≤ N) {T : Nat → Int32 → Int32 → dp → Option (Int32 × dp)} {K : Int} (hT : ∀ (a0 : Nat) (x1 : Int32) (x2 : Int32) (δ : dp), q_K h.1 a0 = 0 → 0 ≤ (x1).toInt → 0 ≤ (q_I δ 3 1 (Ad ad 43)).toInt → (q_I δ 3 1 (Ad ad 43)).toInt + (x1).toInt ≤ 6 → srt δ (Ad ad 43) (Ad ad 44) → (x1).toInt < K → CI ad h.1 δ0 δ → ok (T a0 x1 x2 δ) (fun r => CI ad h.1 δ0 r.2 ∧ (kp [(1, 3), (1, 4), (1, 5), (1, 6), (1, 7), (1, 8), (1, 9), (1, 10), (1, 11), (1, 12), (1, 13), (1, 14), (1, 15), (3, 1)] δ r.2 ∧ q_V r.2 = q_V δ ∧ sam ad δ r.2) ∧ bo (r.1))) {a0 : Nat} {x1 : Int32} {x2 : Int32} {x3 : Int32} {x4 : Int32} (k_a0 : q_K h.1 a0 = 0) {δ : dp} (z0 : 1 ≤ (x3).toInt) (z1 : 0 ≤ (q_I δ 3 1 (Ad ad 43)).toInt) (z2 : (q_I δ 3 1 (Ad ad 43)).toInt + (x3).toInt ≤ 6) (z3 : srt δ (Ad ad 43) (Ad ad 44)) (z4 : (x3).toInt ≤ K) (I : CI ad h.1 δ0 δ) : ok (B_X0_findBehind N h.1 T a0 x1 x2 x3 x4 δ) (fun r => CI ad h.1 δ0 r.2 ∧ (kp [(1, 3), (1, 4), (1, 5), (1, 6), (1, 7), (1, 8), (1, 9), (1, 10), (1, 11), (1, 12), (1, 13), (1, 14), (1, 15), (3, 1)] δ r.2 ∧ q_V r.2 = q_V δ ∧ sam ad δ r.2) ∧ bo (r.1)) := by
  have e0 : (0 : Int32).toInt = 0 := rfl
  have kS : q_K h.1 (Ad ad 43) = 3 := (lay_knd L (by decide)).trans (by decide)
  obtain ⟨b1, o1, kb1⟩ := gO_0_2 L k_a0
  obtain ⟨s1, os, ks⟩ := gO_0_1 L k_a0
  obtain rfl := gS_0_1 L k_a0 os
  have tx := ti_b x3
  have tq := te_subc (c := 1) (n := 1) rfl x3 (by omega) (by omega)
  unfold B_X0_findBehind
  refine ok_at o1 ?_
  obtain ⟨nu, onu, knu⟩ := gO_1_1 L kb1
  refine ok_bind (k_X1_touchesOf L hN (a0 := b1) (x1 := x1) (x2 := x2) kb1 onu knu I) (fun r hr => ?_)
  obtain ⟨i1, ⟨u1, v1, w1⟩⟩ := hr
  have M1 : sam ad δ r.2 := sam_c (u1 3 1 _ (by decide)) w1
  have S1 := srt_s M1 z3
  have m1 : (q_I r.2 3 1 (Ad ad 43)).toInt = (q_I δ 3 1 (Ad ad 43)).toInt := congrArg Int32.toInt M1.1
  have plain : ok (J_X0_findBehind_53 N h.1 T a0 x1 x2 x3 x4 r.1 0 r.2) (fun r => CI ad h.1 δ0 r.2 ∧ (kp [(1, 3), (1, 4), (1, 5), (1, 6), (1, 7), (1, 8), (1, 9), (1, 10), (1, 11), (1, 12), (1, 13), (1, 14), (1, 15), (3, 1)] δ r.2 ∧ q_V r.2 = q_V δ ∧ sam ad δ r.2) ∧ bo (r.1)) := by
    unfold J_X0_findBehind_53 J_X0_findBehind_54
    refine ok_bind (hT a0 (x3 - 1) (x4 - r.1) r.2 k_a0 (by omega) (by omega) (by omega) S1 (by omega) i1) (fun r3 hr3 => ?_)
    obtain ⟨i3, ⟨u3, v3, M3⟩, b3⟩ := hr3
    refine ok_ite (fun _ => ?_) (fun c3 => absurd rfl c3)
    unfold J_X0_findBehind_84
    refine ok_ite (fun _ => ?_) (fun c3 => absurd rfl c3)
    unfold J_X0_findBehind_98
    refine ok_gp b3 ?_
    exact ok_some ⟨i3, ⟨kp_w (by decide) (kp_t u1 u3), v3.trans v1, sam_t M1 M3⟩, b3⟩
  have rest : ok (J_X0_findBehind_30 N h.1 T a0 x1 x2 x3 x4 r.1 r.2) (fun r => CI ad h.1 δ0 r.2 ∧ (kp [(1, 3), (1, 4), (1, 5), (1, 6), (1, 7), (1, 8), (1, 9), (1, 10), (1, 11), (1, 12), (1, 13), (1, 14), (1, 15), (3, 1)] δ r.2 ∧ q_V r.2 = q_V δ ∧ sam ad δ r.2) ∧ bo (r.1)) := by
    unfold J_X0_findBehind_30 J_X0_findBehind_31
    refine ok_ite (fun c => ?_) (fun c => ?_)
    · refine ok_at os ?_
      refine ok_bind (ok_and (k_X3_remove L hN (a0 := Ad ad 43) (x1 := x2) kS i1) (f_remove L hN (x := x2) kS (fO_43_0 L) i1 S1)) (fun r2 hr2 => ?_)
      obtain ⟨⟨i2, ⟨u2, v2⟩, _⟩, hf⟩ := hr2
      rcases hf with ⟨e2, e3, _⟩ | ⟨e2, p, P, lt, ex, D⟩
      · rw [e2, e3]
        refine ok_ite (fun _ => ?_) (fun c2 => absurd rfl c2)
        exact plain
      · rw [e2]
        refine ok_ite (fun c2 => absurd c2 (by decide)) (fun _ => ?_)
        unfold J_X0_findBehind_54
        refine ok_bind (hT a0 (x3 - 1) (x4 - r.1) r2.2 k_a0 (by omega) (by rw [D.1]; omega) (by rw [D.1]; omega) (del_srt S1 D) (by omega) i2) (fun r3 hr3 => ?_)
        obtain ⟨i3, ⟨u3, v3, M3⟩, b3⟩ := hr3
        refine ok_ite (fun _ => ?_) (fun c3 => absurd rfl c3)
        unfold J_X0_findBehind_84
        refine ok_ite (fun c3 => absurd c3 (by decide)) (fun _ => ?_)
        refine ok_at os ?_
        refine ok_bind (ok_and (k_X3_add L hN (a0 := Ad ad 43) (x1 := x2) kS i3) (undo_remove L hN i1 i3 S1 P lt ex D M3)) (fun r4 hr4 => ?_)
        obtain ⟨⟨i4, ⟨u4, v4⟩, _⟩, M4⟩ := hr4
        unfold J_X0_findBehind_98
        refine ok_gp b3 ?_
        exact ok_some ⟨i4, ⟨kp_w (by decide) (kp_t (kp_t (kp_t u1 u2) u3) u4), v4.trans (v3.trans (v2.trans v1)), sam_t M1 M4⟩, b3⟩
    · exact plain
  refine ok_ite (fun c => ?_) (fun c => ?_)
  · refine ok_at os ?_
    refine ok_bind (ok_and (k_X3_add L hN (a0 := Ad ad 43) (x1 := x2) kS i1) (f_add L hN (x := x2) kS (fO_43_0 L) i1 S1)) (fun r2 hr2 => ?_)
    obtain ⟨⟨i2, ⟨u2, v2⟩, _⟩, hf⟩ := hr2
    rcases hf with ⟨e2, e3, _⟩ | ⟨e2, p, P, ne, D⟩
    · rw [e2, e3]
      refine ok_ite (fun _ => ?_) (fun c2 => absurd rfl c2)
      exact rest
    · rw [e2]
      refine ok_ite (fun c2 => absurd c2 (by decide)) (fun _ => ?_)
      unfold J_X0_findBehind_31
      refine ok_ite (fun c3 => ?_) (fun c3 => ?_)
      · exact absurd (c.symm.trans c3) (by decide)
      unfold J_X0_findBehind_53 J_X0_findBehind_54
      refine ok_bind (hT a0 (x3 - 1) (x4 - r.1) r2.2 k_a0 (by omega) (by rw [D.1]; omega) (by rw [D.1]; omega) (ins_srt S1 P ne D) (by omega) i2) (fun r3 hr3 => ?_)
      obtain ⟨i3, ⟨u3, v3, M3⟩, b3⟩ := hr3
      refine ok_ite (fun c3 => absurd c3 (by decide)) (fun _ => ?_)
      refine ok_at os ?_
      refine ok_bind (ok_and (k_X3_remove L hN (a0 := Ad ad 43) (x1 := x2) kS i3) (undo_add L hN i3 S1 P ne D M3)) (fun r4 hr4 => ?_)
      obtain ⟨⟨i4, ⟨u4, v4⟩, _⟩, M4⟩ := hr4
      unfold J_X0_findBehind_84
      refine ok_ite (fun _ => ?_) (fun c3 => absurd rfl c3)
      unfold J_X0_findBehind_98
      refine ok_gp b3 ?_
      exact ok_some ⟨i4, ⟨kp_w (by decide) (kp_t (kp_t (kp_t u1 u2) u3) u4), v4.trans (v3.trans (v2.trans v1)), sam_t M1 M4⟩, b3⟩
  · exact rest
end
section
/-! 68.kX0b (by gen_safe.py) -/
set_option maxHeartbeats 4000000 in
theorem kl_X0_find_70 {ad : List Nat} {h : hp} (L : Lay TLx ad h) {δ0 : dp} {N : Nat} (hN : 10000000 ≤ N) {T : Nat → Int32 → Int32 → dp → Option (Int32 × dp)} {K : Int} (hT : ∀ (a0 : Nat) (x1 : Int32) (x2 : Int32) (δ : dp), q_K h.1 a0 = 0 → 0 ≤ (x1).toInt → 0 ≤ (q_I δ 3 1 (Ad ad 43)).toInt → (q_I δ 3 1 (Ad ad 43)).toInt + (x1).toInt ≤ 6 → srt δ (Ad ad 43) (Ad ad 44) → (x1).toInt < K → CI ad h.1 δ0 δ → ok (T a0 x1 x2 δ) (fun r => CI ad h.1 δ0 r.2 ∧ (kp [(1, 3), (1, 4), (1, 5), (1, 6), (1, 7), (1, 8), (1, 9), (1, 10), (1, 11), (1, 12), (1, 13), (1, 14), (1, 15), (3, 1)] δ r.2 ∧ q_V r.2 = q_V δ ∧ sam ad δ r.2) ∧ bo (r.1))) {a0 : Nat} {x1 : Int32} {x2 : Int32} {kt38 : Int32 → dp → Option (Int32 × dp)} {K38 : Int} (h_kt38 : ∀ (x3v : Int32) (δ : dp), CI ad h.1 δ0 δ → 1 ≤ (x1).toInt → 0 ≤ (q_I δ 3 1 (Ad ad 43)).toInt → (q_I δ 3 1 (Ad ad 43)).toInt + (x1).toInt ≤ 6 → srt δ (Ad ad 43) (Ad ad 44) → (x1).toInt ≤ K → 0 ≤ (x3v).toInt → (x3v).toInt ≤ 5 → 5 - (x3v).toInt < K38 → ok (kt38 x3v δ) (fun r => CI ad h.1 δ0 r.2 ∧ (kp [(1, 3), (1, 4), (1, 5), (1, 6), (1, 7), (1, 8), (1, 9), (1, 10), (1, 11), (1, 12), (1, 13), (1, 14), (1, 15), (3, 1)] δ r.2 ∧ q_V r.2 = q_V δ ∧ sam ad δ r.2) ∧ bo (r.1))) (k_a0 : q_K h.1 a0 = 0) : ∀ (n : Nat) (x3v : Int32) (x4v : Int32) (x5v : Int32) (δ : dp), CI ad h.1 δ0 δ → 1 ≤ (x1).toInt → 0 ≤ (q_I δ 3 1 (Ad ad 43)).toInt → (q_I δ 3 1 (Ad ad 43)).toInt + (x1).toInt ≤ 6 → srt δ (Ad ad 43) (Ad ad 44) → (x1).toInt ≤ K → 0 ≤ (x3v).toInt → (x3v).toInt ≤ 4 → 0 ≤ (x5v).toInt → (x5v).toInt ≤ 65536 → 5 - (x3v).toInt ≤ K38 → 65536 - (x5v).toInt < (n : Int) → ok (L_X0_find_70 N h.1 T a0 x1 x2 kt38 n x3v x4v x5v δ) (fun r => CI ad h.1 δ0 r.2 ∧ (kp [(1, 3), (1, 4), (1, 5), (1, 6), (1, 7), (1, 8), (1, 9), (1, 10), (1, 11), (1, 12), (1, 13), (1, 14), (1, 15), (3, 1)] δ r.2 ∧ q_V r.2 = q_V δ ∧ sam ad δ r.2) ∧ bo (r.1)) := by
  intro n
  induction n with
  | zero =>
    intro x3v x4v x5v δ I j0 j1 j2 j3 j4 j5 j6 j7 j8 j9 hm
    have f1 := ti_b x1
    have f2 := ti_b x3v
    have f3 := ti_b x5v
    exfalso; omega
  | succ n ih =>
    intro x3v x4v x5v δ I j0 j1 j2 j3 j4 j5 j6 j7 j8 j9 hm
    unfold L_X0_find_70
    have f1 := ti_b x1
    have f2 := ti_b x3v
    have f3 := ti_b x5v
    obtain ⟨b4, o5, k6⟩ := gO_0_0 L k_a0
    refine ok_at o5 ?_
    refine ok_bind (k_X5_greatest L hN (a0 := b4) k6 I) (fun r7 hr8 => ?_)
    obtain ⟨i9, p10, p11, p12, p13⟩ := hr8
    try rw [i9]
    have f14 := ti_b r7.1
    have f15 := cb_5_0 I k6
    refine ok_ite (fun h16 => ?_) (fun h16 => ?_)
    · have c17 : r7.1.toInt < x5v.toInt := o_lt h16
      unfold J_X0_find_120
      refine ok_biv (fun vx18 e19 => ?_)
      first | (have q20 := te_addc (c := 1) (n := 1) rfl x3v (by omega) (by omega); rw [← e19] at q20; obtain ⟨f21, f22, f23⟩ := q20) | (obtain ⟨q20, f21, f22, f23⟩ : ∃ q : Int, vx18.toInt = x3v.toInt + (1 : Int) + 4294967296 * q ∧ -2147483648 ≤ vx18.toInt ∧ vx18.toInt ≤ 2147483647 := by rw [e19]; exact ti_addc (c := 1) (n := 1) rfl x3v)
      refine ok_mono (h_kt38 vx18 δ I (show 1 ≤ (x1).toInt by first | with_reducible assumption | omega) (show 0 ≤ (q_I δ 3 1 (Ad ad 43)).toInt by first | with_reducible assumption | omega) (show (q_I δ 3 1 (Ad ad 43)).toInt + (x1).toInt ≤ 6 by first | with_reducible assumption | omega) (srt_s sam_r j3) (show (x1).toInt ≤ K by first | with_reducible assumption | omega) (show 0 ≤ (vx18).toInt by first | with_reducible assumption | omega) (show (vx18).toInt ≤ 5 by first | with_reducible assumption | omega) (show 5 - (vx18).toInt < _ by omega)) (fun r24 hr25 => ?_)
      obtain ⟨i26, ⟨u28, u29, u30⟩, p27⟩ := hr25
      have u31 := kp_t kp_r u28
      have v32 : q_V r24.2 = q_V δ := (u29).trans rfl
      have v33 : sam ad δ r24.2 := sam_t sam_r u30
      have f34 := bo_t p27
      have f35 := ti_b r24.1
      exact ⟨by first | with_reducible assumption | assumption, ⟨kp_w (by decide) u31, v32, v33⟩, by first | with_reducible assumption | omega⟩
    · have c36 : x5v.toInt ≤ r7.1.toInt := o_nlt h16
      have f37 := ti_b x4v
      refine ok_ite (fun h38 => ?_) (fun h38 => ?_)
      · have c39 : x4v.toInt = (0 : Int) := o_eq h38
        unfold J_X0_find_120
        refine ok_biv (fun vx40 e41 => ?_)
        first | (have q42 := te_addc (c := 1) (n := 1) rfl x3v (by omega) (by omega); rw [← e41] at q42; obtain ⟨f43, f44, f45⟩ := q42) | (obtain ⟨q42, f43, f44, f45⟩ : ∃ q : Int, vx40.toInt = x3v.toInt + (1 : Int) + 4294967296 * q ∧ -2147483648 ≤ vx40.toInt ∧ vx40.toInt ≤ 2147483647 := by rw [e41]; exact ti_addc (c := 1) (n := 1) rfl x3v)
        refine ok_mono (h_kt38 vx40 δ I (show 1 ≤ (x1).toInt by first | with_reducible assumption | omega) (show 0 ≤ (q_I δ 3 1 (Ad ad 43)).toInt by first | with_reducible assumption | omega) (show (q_I δ 3 1 (Ad ad 43)).toInt + (x1).toInt ≤ 6 by first | with_reducible assumption | omega) (srt_s sam_r j3) (show (x1).toInt ≤ K by first | with_reducible assumption | omega) (show 0 ≤ (vx40).toInt by first | with_reducible assumption | omega) (show (vx40).toInt ≤ 5 by first | with_reducible assumption | omega) (show 5 - (vx40).toInt < _ by omega)) (fun r46 hr47 => ?_)
        obtain ⟨i48, ⟨u50, u51, u52⟩, p49⟩ := hr47
        have u53 := kp_t kp_r u50
        have v54 : q_V r46.2 = q_V δ := (u51).trans rfl
        have v55 : sam ad δ r46.2 := sam_t sam_r u52
        have f56 := bo_t p49
        have f57 := ti_b r46.1
        exact ⟨by first | with_reducible assumption | assumption, ⟨kp_w (by decide) u53, v54, v55⟩, by first | with_reducible assumption | omega⟩
      · have c58 : x4v.toInt ≠ (0 : Int) := o_ne h38
        refine ok_bind (k_bX0_findBehind L hN (a0 := a0) (x1 := x3v) (x2 := x5v) (x3 := x1) (x4 := x2) hT k_a0 (show 1 ≤ (x1).toInt by first | with_reducible assumption | omega) (show 0 ≤ (q_I δ 3 1 (Ad ad 43)).toInt by first | with_reducible assumption | omega) (show (q_I δ 3 1 (Ad ad 43)).toInt + (x1).toInt ≤ 6 by first | with_reducible assumption | omega) (srt_s sam_r j3) (show (x1).toInt ≤ K by first | with_reducible assumption | omega) I) (fun r59 hr60 => ?_)
        obtain ⟨i61, ⟨u63, u64, u65⟩, p62⟩ := hr60
        have u66 := kp_t kp_r u63
        have v67 : q_V r59.2 = q_V δ := (u64).trans rfl
        have v68 : sam ad δ r59.2 := sam_t sam_r u65
        have f69 := bo_t p62
        have f70 := ti_b r59.1
        refine ok_ite (fun h71 => ?_) (fun h71 => ?_)
        · have c72 : r59.1.toInt = (0 : Int) := o_eq h71
          refine ok_biv (fun vx73 e74 => ?_)
          first | (have q75 := te_addc (c := 1) (n := 1) rfl x5v (by omega) (by omega); rw [← e74] at q75; obtain ⟨f76, f77, f78⟩ := q75) | (obtain ⟨q75, f76, f77, f78⟩ : ∃ q : Int, vx73.toInt = x5v.toInt + (1 : Int) + 4294967296 * q ∧ -2147483648 ≤ vx73.toInt ∧ vx73.toInt ≤ 2147483647 := by rw [e74]; exact ti_addc (c := 1) (n := 1) rfl x5v)
          have f79 : (q_I r59.2 3 1 (Ad ad 43)).toInt = (q_I δ 3 1 (Ad ad 43)).toInt := congrArg Int32.toInt (v68).1
          refine ok_mono (ih x3v x4v vx73 r59.2 i61 (show 1 ≤ (x1).toInt by first | with_reducible assumption | omega) (show 0 ≤ (q_I r59.2 3 1 (Ad ad 43)).toInt by first | with_reducible assumption | omega) (show (q_I r59.2 3 1 (Ad ad 43)).toInt + (x1).toInt ≤ 6 by first | with_reducible assumption | omega) (srt_s v68 j3) (show (x1).toInt ≤ K by first | with_reducible assumption | omega) (show 0 ≤ (x3v).toInt by first | with_reducible assumption | omega) (show (x3v).toInt ≤ 4 by first | with_reducible assumption | omega) (show 0 ≤ (vx73).toInt by first | with_reducible assumption | omega) (show (vx73).toInt ≤ 65536 by first | with_reducible assumption | omega) (show 5 - (x3v).toInt ≤ K38 by first | with_reducible assumption | omega) (show 65536 - (vx73).toInt < _ by omega)) (fun r80 hr81 => ?_)
          obtain ⟨i82, ⟨u84, u85, u86⟩, p83⟩ := hr81
          have u87 := kp_t u66 u84
          have v88 : q_V r80.2 = q_V δ := (u85).trans v67
          have v89 : sam ad δ r80.2 := sam_t v68 u86
          have f90 := bo_t p83
          have f91 := ti_b r80.1
          exact ⟨by first | with_reducible assumption | assumption, ⟨kp_w (by decide) u87, v88, v89⟩, by first | with_reducible assumption | omega⟩
        · have c92 : r59.1.toInt ≠ (0 : Int) := o_ne h71
          obtain ⟨b93, o94, k95, n96, w97⟩ := gO_0_5 L k_a0
          obtain rfl := gS_0_5 L k_a0 o94
          refine ok_at o94 ?_
          have t98 := ti_tn x1
          refine ok_gd (fun hc99 => ?_) ?_
          · rcases hc99 with hc99 | hc99
            · have c100 : x1.toInt < (0 : Int) := o_lt hc99
              omega
            · omega
          refine ok_bdv (fun d101 e102 => ?_)
          have i103 : CI ad h.1 δ0 d101 := by rw [e102]; exact CI.sR L i61 w97
          have u104 := kp_N u66 (show q_I d101 = q_I r59.2 by rw [e102]; rfl)
          have v105 : q_V d101 = q_V δ := ((show q_V d101 = q_V r59.2 by rw [e102]; rfl)).trans v67
          have v106 : sam ad δ d101 := sam_t v68 ((show sam ad r59.2 d101 by rw [e102]; exact sam_w (ad_ne L (i := 53) (j := 44) (by decide) (by decide) (by decide))))
          refine ok_gp (by decide) ?_
          exact ok_some (show CI ad h.1 δ0 d101 ∧ (kp [(1, 3), (1, 4), (1, 5), (1, 6), (1, 7), (1, 8), (1, 9), (1, 10), (1, 11), (1, 12), (1, 13), (1, 14), (1, 15), (3, 1)] δ d101 ∧ q_V d101 = q_V δ ∧ sam ad δ d101) ∧ bo ((1 : Int32)) from ⟨i103, ⟨kp_w (by decide) u104, v105, v106⟩, bo_1⟩)
set_option maxHeartbeats 4000000 in
theorem kl_X0_find_38 {ad : List Nat} {h : hp} (L : Lay TLx ad h) {δ0 : dp} {N : Nat} (hN : 10000000 ≤ N) {T : Nat → Int32 → Int32 → dp → Option (Int32 × dp)} {K : Int} (hT : ∀ (a0 : Nat) (x1 : Int32) (x2 : Int32) (δ : dp), q_K h.1 a0 = 0 → 0 ≤ (x1).toInt → 0 ≤ (q_I δ 3 1 (Ad ad 43)).toInt → (q_I δ 3 1 (Ad ad 43)).toInt + (x1).toInt ≤ 6 → srt δ (Ad ad 43) (Ad ad 44) → (x1).toInt < K → CI ad h.1 δ0 δ → ok (T a0 x1 x2 δ) (fun r => CI ad h.1 δ0 r.2 ∧ (kp [(1, 3), (1, 4), (1, 5), (1, 6), (1, 7), (1, 8), (1, 9), (1, 10), (1, 11), (1, 12), (1, 13), (1, 14), (1, 15), (3, 1)] δ r.2 ∧ q_V r.2 = q_V δ ∧ sam ad δ r.2) ∧ bo (r.1))) {a0 : Nat} {x1 : Int32} {x2 : Int32} (k_a0 : q_K h.1 a0 = 0) : ∀ (n : Nat) (x3v : Int32) (δ : dp), CI ad h.1 δ0 δ → 1 ≤ (x1).toInt → 0 ≤ (q_I δ 3 1 (Ad ad 43)).toInt → (q_I δ 3 1 (Ad ad 43)).toInt + (x1).toInt ≤ 6 → srt δ (Ad ad 43) (Ad ad 44) → (x1).toInt ≤ K → 0 ≤ (x3v).toInt → (x3v).toInt ≤ 5 → 5 - (x3v).toInt < (n : Int) → ok (L_X0_find_38 N h.1 T a0 x1 x2 n x3v δ) (fun r => CI ad h.1 δ0 r.2 ∧ (kp [(1, 3), (1, 4), (1, 5), (1, 6), (1, 7), (1, 8), (1, 9), (1, 10), (1, 11), (1, 12), (1, 13), (1, 14), (1, 15), (3, 1)] δ r.2 ∧ q_V r.2 = q_V δ ∧ sam ad δ r.2) ∧ bo (r.1)) := by
  intro n
  induction n with
  | zero =>
    intro x3v δ I j0 j1 j2 j3 j4 j5 j6 hm
    have f1 := ti_b x1
    have f2 := ti_b x3v
    exfalso; omega
  | succ n ih =>
    intro x3v δ I j0 j1 j2 j3 j4 j5 j6 hm
    unfold L_X0_find_38
    have f1 := ti_b x1
    have f2 := ti_b x3v
    refine ok_ite (fun h3 => ?_) (fun h3 => ?_)
    · have c4 : (5 : Int) ≤ x3v.toInt := o_le h3
      refine ok_gp (by decide) ?_
      exact ok_some (show CI ad h.1 δ0 δ ∧ (kp [(1, 3), (1, 4), (1, 5), (1, 6), (1, 7), (1, 8), (1, 9), (1, 10), (1, 11), (1, 12), (1, 13), (1, 14), (1, 15), (3, 1)] δ δ ∧ q_V δ = q_V δ ∧ sam ad δ δ) ∧ bo ((0 : Int32)) from ⟨I, ⟨kp_w (by decide) kp_r, rfl, sam_r⟩, bo_0⟩)
    · have c5 : x3v.toInt < (5 : Int) := o_nle h3
      obtain ⟨b6, o7, k8⟩ := gO_0_1 L k_a0
      obtain rfl := gS_0_1 L k_a0 o7
      refine ok_at o7 ?_
      refine ok_bind (k_X0_limitOf L hN (a0 := a0) (x1 := x3v) (x2 := x1) (x3 := (q_I δ 3 1 (Ad ad 43))) k_a0 (show 1 ≤ (x1).toInt by first | with_reducible assumption | omega) (show 0 ≤ ((q_I δ 3 1 (Ad ad 43))).toInt by first | with_reducible assumption | omega) (show (x1).toInt + ((q_I δ 3 1 (Ad ad 43))).toInt ≤ 6 by first | with_reducible assumption | omega) I) (fun r9 hr10 => ?_)
      obtain ⟨i11, p12, p13⟩ := hr10
      try rw [i11]
      have f14 := ti_b r9.1
      have f15 := ti_b x2
      refine ok_ite (fun h16 => ?_) (fun h16 => ?_)
      · have c17 : r9.1.toInt < x2.toInt := o_lt h16
        unfold J_X0_find_65
        refine ok_mono (kl_X0_find_70 L hN (K38 := (n : Int)) hT ih k_a0 _ x3v (0 : Int32) (0 : Int32) δ I (show 1 ≤ (x1).toInt by first | with_reducible assumption | omega) (show 0 ≤ (q_I δ 3 1 (Ad ad 43)).toInt by first | with_reducible assumption | omega) (show (q_I δ 3 1 (Ad ad 43)).toInt + (x1).toInt ≤ 6 by first | with_reducible assumption | omega) (srt_s sam_r j3) (show (x1).toInt ≤ K by first | with_reducible assumption | omega) (show 0 ≤ (x3v).toInt by first | with_reducible assumption | omega) (show (x3v).toInt ≤ 4 by first | with_reducible assumption | omega) (show 0 ≤ (0 : Int) by first | with_reducible assumption | omega) (show (0 : Int) ≤ 65536 by first | with_reducible assumption | omega) (show 5 - (x3v).toInt ≤ (n : Int) by first | with_reducible assumption | omega) (show 65536 - (0 : Int) < _ by omega)) (fun r18 hr19 => ?_)
        obtain ⟨i20, ⟨u22, u23, u24⟩, p21⟩ := hr19
        have u25 := kp_t kp_r u22
        have v26 : q_V r18.2 = q_V δ := (u23).trans rfl
        have v27 : sam ad δ r18.2 := sam_t sam_r u24
        have f28 := bo_t p21
        have f29 := ti_b r18.1
        exact ⟨by first | with_reducible assumption | assumption, ⟨kp_w (by decide) u25, v26, v27⟩, by first | with_reducible assumption | omega⟩
      · have c30 : x2.toInt ≤ r9.1.toInt := o_nlt h16
        unfold J_X0_find_65
        refine ok_mono (kl_X0_find_70 L hN (K38 := (n : Int)) hT ih k_a0 _ x3v (1 : Int32) (0 : Int32) δ I (show 1 ≤ (x1).toInt by first | with_reducible assumption | omega) (show 0 ≤ (q_I δ 3 1 (Ad ad 43)).toInt by first | with_reducible assumption | omega) (show (q_I δ 3 1 (Ad ad 43)).toInt + (x1).toInt ≤ 6 by first | with_reducible assumption | omega) (srt_s sam_r j3) (show (x1).toInt ≤ K by first | with_reducible assumption | omega) (show 0 ≤ (x3v).toInt by first | with_reducible assumption | omega) (show (x3v).toInt ≤ 4 by first | with_reducible assumption | omega) (show 0 ≤ (0 : Int) by first | with_reducible assumption | omega) (show (0 : Int) ≤ 65536 by first | with_reducible assumption | omega) (show 5 - (x3v).toInt ≤ (n : Int) by first | with_reducible assumption | omega) (show 65536 - (0 : Int) < _ by omega)) (fun r31 hr32 => ?_)
        obtain ⟨i33, ⟨u35, u36, u37⟩, p34⟩ := hr32
        have u38 := kp_t kp_r u35
        have v39 : q_V r31.2 = q_V δ := (u36).trans rfl
        have v40 : sam ad δ r31.2 := sam_t sam_r u37
        have f41 := bo_t p34
        have f42 := ti_b r31.1
        exact ⟨by first | with_reducible assumption | assumption, ⟨kp_w (by decide) u38, v39, v40⟩, by first | with_reducible assumption | omega⟩
set_option maxHeartbeats 4000000 in
theorem ke_X0_find {ad : List Nat} {h : hp} (L : Lay TLx ad h) {δ0 : dp} {N : Nat} (hN : 10000000 ≤ N) : ∀ (k : Nat), ∀ (a0 : Nat) (x1 : Int32) (x2 : Int32) (δ : dp), q_K h.1 a0 = 0 → 0 ≤ (x1).toInt → 0 ≤ (q_I δ 3 1 (Ad ad 43)).toInt → (q_I δ 3 1 (Ad ad 43)).toInt + (x1).toInt ≤ 6 → srt δ (Ad ad 43) (Ad ad 44) → (x1).toInt < (k : Int) → CI ad h.1 δ0 δ → ok (E_X0_find N h.1 k a0 x1 x2 δ) (fun r => CI ad h.1 δ0 r.2 ∧ (kp [(1, 3), (1, 4), (1, 5), (1, 6), (1, 7), (1, 8), (1, 9), (1, 10), (1, 11), (1, 12), (1, 13), (1, 14), (1, 15), (3, 1)] δ r.2 ∧ q_V r.2 = q_V δ ∧ sam ad δ r.2) ∧ bo (r.1)) := by
  intro k
  induction k with
  | zero =>
    intro a0 x1 x2 δ k_a0 z0 z1 z2 z3 hd I
    exfalso; omega
  | succ k ih =>
    intro a0 x1 x2 δ k_a0 z0 z1 z2 z3 hd I
    unfold E_X0_find B_X0_find
    have f1 := ti_b x1
    refine ok_ite (fun h2 => ?_) (fun h2 => ?_)
    · have c3 : x1.toInt ≤ (0 : Int) := o_le h2
      unfold J_X0_find_22
      refine ok_ite (fun h4 => ?_) (fun h4 => ?_)
      · have c5 : (0 : Int) < x1.toInt := o_lt h4
        unfold J_X0_find_34
        unfold J_X0_find_35
        refine ok_gp (by decide) ?_
        exact ok_some (show CI ad h.1 δ0 δ ∧ (kp [(1, 3), (1, 4), (1, 5), (1, 6), (1, 7), (1, 8), (1, 9), (1, 10), (1, 11), (1, 12), (1, 13), (1, 14), (1, 15), (3, 1)] δ δ ∧ q_V δ = q_V δ ∧ sam ad δ δ) ∧ bo ((0 : Int32)) from ⟨I, ⟨kp_w (by decide) kp_r, rfl, sam_r⟩, bo_0⟩)
      · have c6 : x1.toInt ≤ (0 : Int) := o_nlt h4
        have f7 := ti_b x2
        refine ok_ite (fun h8 => ?_) (fun h8 => ?_)
        · have c9 : (0 : Int) < x2.toInt := o_lt h8
          unfold J_X0_find_34
          unfold J_X0_find_35
          refine ok_gp (by decide) ?_
          exact ok_some (show CI ad h.1 δ0 δ ∧ (kp [(1, 3), (1, 4), (1, 5), (1, 6), (1, 7), (1, 8), (1, 9), (1, 10), (1, 11), (1, 12), (1, 13), (1, 14), (1, 15), (3, 1)] δ δ ∧ q_V δ = q_V δ ∧ sam ad δ δ) ∧ bo ((0 : Int32)) from ⟨I, ⟨kp_w (by decide) kp_r, rfl, sam_r⟩, bo_0⟩)
        · have c10 : x2.toInt ≤ (0 : Int) := o_nlt h8
          unfold J_X0_find_35
          refine ok_gp (by decide) ?_
          exact ok_some (show CI ad h.1 δ0 δ ∧ (kp [(1, 3), (1, 4), (1, 5), (1, 6), (1, 7), (1, 8), (1, 9), (1, 10), (1, 11), (1, 12), (1, 13), (1, 14), (1, 15), (3, 1)] δ δ ∧ q_V δ = q_V δ ∧ sam ad δ δ) ∧ bo ((1 : Int32)) from ⟨I, ⟨kp_w (by decide) kp_r, rfl, sam_r⟩, bo_1⟩)
    · have c11 : (0 : Int) < x1.toInt := o_nle h2
      obtain ⟨b12, o13, k14, n15, w16⟩ := gO_0_3 L k_a0
      refine ok_at o13 ?_
      have t17 := ti_tn x1
      refine ok_gd (fun hc18 => ?_) ?_
      · rcases hc18 with hc18 | hc18
        · have c19 : x1.toInt < (0 : Int) := o_lt hc18
          omega
        · omega
      obtain ⟨b20, o21, k22, n23, w24⟩ := gW_0_3 L k_a0 o13 (i := x1.toNatClampNeg) (by omega)
      refine ok_at o21 ?_
      have ne26 : b20 ≠ Ad ad 44 := w24.ne L (by decide) (by decide)
      obtain ⟨b27, o28, k29⟩ := gO_0_1 L k_a0
      obtain rfl := gS_0_1 L k_a0 o28
      refine ok_at o28 ?_
      have t30 := ti_tn (q_I δ 3 1 (Ad ad 43))
      refine ok_gd (fun hc31 => ?_) ?_
      · rcases hc31 with hc31 | hc31
        · have c32 : (q_I δ 3 1 (Ad ad 43)).toInt < (0 : Int) := o_lt hc31
          omega
        · omega
      have f33 := ti_b x2
      have f34 := CI.wR I w24 (q_I δ 3 1 (Ad ad 43)).toNatClampNeg
      refine ok_ite (fun h35 => ?_) (fun h35 => ?_)
      · have c36 : x2.toInt ≤ (q_R δ b20 (q_I δ 3 1 (Ad ad 43)).toNatClampNeg).toInt := o_le h35
        refine ok_mono (kl_X0_find_38 L hN   ih k_a0 _ (0 : Int32) δ I (show 1 ≤ (x1).toInt by first | with_reducible assumption | omega) (show 0 ≤ (q_I δ 3 1 (Ad ad 43)).toInt by first | with_reducible assumption | omega) (show (q_I δ 3 1 (Ad ad 43)).toInt + (x1).toInt ≤ 6 by first | with_reducible assumption | omega) (srt_s sam_r z3) (show (x1).toInt ≤ (k : Int) by first | with_reducible assumption | omega) (show 0 ≤ (0 : Int) by first | with_reducible assumption | omega) (show (0 : Int) ≤ 5 by first | with_reducible assumption | omega) (show 5 - (0 : Int) < _ by omega)) (fun r37 hr38 => ?_)
        obtain ⟨i39, ⟨u41, u42, u43⟩, p40⟩ := hr38
        have u44 := kp_t kp_r u41
        have v45 : q_V r37.2 = q_V δ := (u42).trans rfl
        have v46 : sam ad δ r37.2 := sam_t sam_r u43
        have f47 := bo_t p40
        have f48 := ti_b r37.1
        exact ⟨by first | with_reducible assumption | assumption, ⟨kp_w (by decide) u44, v45, v46⟩, by first | with_reducible assumption | omega⟩
      · have c49 : (q_R δ b20 (q_I δ 3 1 (Ad ad 43)).toNatClampNeg).toInt < x2.toInt := o_nle h35
        unfold J_X0_find_22
        refine ok_ite (fun h50 => ?_) (fun h50 => ?_)
        · have c51 : (0 : Int) < x1.toInt := o_lt h50
          unfold J_X0_find_34
          unfold J_X0_find_35
          refine ok_gp (by decide) ?_
          exact ok_some (show CI ad h.1 δ0 δ ∧ (kp [(1, 3), (1, 4), (1, 5), (1, 6), (1, 7), (1, 8), (1, 9), (1, 10), (1, 11), (1, 12), (1, 13), (1, 14), (1, 15), (3, 1)] δ δ ∧ q_V δ = q_V δ ∧ sam ad δ δ) ∧ bo ((0 : Int32)) from ⟨I, ⟨kp_w (by decide) kp_r, rfl, sam_r⟩, bo_0⟩)
        · have c52 : x1.toInt ≤ (0 : Int) := o_nlt h50
          refine ok_ite (fun h53 => ?_) (fun h53 => ?_)
          · have c54 : (0 : Int) < x2.toInt := o_lt h53
            unfold J_X0_find_34
            unfold J_X0_find_35
            refine ok_gp (by decide) ?_
            exact ok_some (show CI ad h.1 δ0 δ ∧ (kp [(1, 3), (1, 4), (1, 5), (1, 6), (1, 7), (1, 8), (1, 9), (1, 10), (1, 11), (1, 12), (1, 13), (1, 14), (1, 15), (3, 1)] δ δ ∧ q_V δ = q_V δ ∧ sam ad δ δ) ∧ bo ((0 : Int32)) from ⟨I, ⟨kp_w (by decide) kp_r, rfl, sam_r⟩, bo_0⟩)
          · have c55 : x2.toInt ≤ (0 : Int) := o_nlt h53
            unfold J_X0_find_35
            refine ok_gp (by decide) ?_
            exact ok_some (show CI ad h.1 δ0 δ ∧ (kp [(1, 3), (1, 4), (1, 5), (1, 6), (1, 7), (1, 8), (1, 9), (1, 10), (1, 11), (1, 12), (1, 13), (1, 14), (1, 15), (3, 1)] δ δ ∧ q_V δ = q_V δ ∧ sam ad δ δ) ∧ bo ((1 : Int32)) from ⟨I, ⟨kp_w (by decide) kp_r, rfl, sam_r⟩, bo_1⟩)
set_option maxHeartbeats 4000000 in
theorem k_X0_find {ad : List Nat} {h : hp} (L : Lay TLx ad h) {δ0 : dp} {N : Nat} (hN : 10000000 ≤ N) {a0 : Nat} {x1 : Int32} {x2 : Int32} (k_a0 : q_K h.1 a0 = 0) {δ : dp} (z0 : 0 ≤ (x1).toInt) (z1 : 0 ≤ (q_I δ 3 1 (Ad ad 43)).toInt) (z2 : (q_I δ 3 1 (Ad ad 43)).toInt + (x1).toInt ≤ 6) (z3 : srt δ (Ad ad 43) (Ad ad 44)) (hd : (x1).toInt < 20) (I : CI ad h.1 δ0 δ) : ok (D_X0_find N h.1 a0 x1 x2 δ) (fun r => CI ad h.1 δ0 r.2 ∧ (kp [(1, 3), (1, 4), (1, 5), (1, 6), (1, 7), (1, 8), (1, 9), (1, 10), (1, 11), (1, 12), (1, 13), (1, 14), (1, 15), (3, 1)] δ r.2 ∧ q_V r.2 = q_V δ ∧ sam ad δ r.2) ∧ bo (r.1)) := ke_X0_find L hN 20 a0 x1 x2 δ k_a0 z0 z1 z2 z3 hd I
set_option maxHeartbeats 4000000 in
theorem kl_X0_learn_35 {ad : List Nat} {h : hp} (L : Lay TLx ad h) {δ0 : dp} {N : Nat} (hN : 10000000 ≤ N) {a0 : Nat} {x1 : Int32} (k_a0 : q_K h.1 a0 = 0) : ∀ (n : Nat) (x2v : Int32) (δ : dp), CI ad h.1 δ0 δ → 0 ≤ (x1).toInt → 0 ≤ (q_I δ 3 1 (Ad ad 43)).toInt → (q_I δ 3 1 (Ad ad 43)).toInt + (x1).toInt ≤ 6 → srt δ (Ad ad 43) (Ad ad 44) → 0 ≤ (x2v).toInt → (x2v).toInt ≤ 390 → (x2v).toInt < (n : Int) → ok (L_X0_learn_35 N h.1 a0 x1 n x2v δ) (fun r => CI ad h.1 δ0 r.2 ∧ (kp [(0, 4), (0, 6), (0, 7), (1, 3), (1, 4), (1, 5), (1, 6), (1, 7), (1, 8), (1, 9), (1, 10), (1, 11), (1, 12), (1, 13), (1, 14), (1, 15), (3, 1)] δ r.2 ∧ q_V r.2 = q_V δ)) := by
  intro n
  induction n with
  | zero =>
    intro x2v δ I j0 j1 j2 j3 j4 j5 hm
    have f1 := ti_b x1
    have f2 := ti_b x2v
    exfalso; omega
  | succ n ih =>
    intro x2v δ I j0 j1 j2 j3 j4 j5 hm
    unfold L_X0_learn_35
    have f1 := ti_b x1
    have f2 := ti_b x2v
    refine ok_ite (fun h3 => ?_) (fun h3 => ?_)
    · have c4 : x2v.toInt ≤ (0 : Int) := o_le h3
      unfold J_X0_learn_54
      refine ok_bdv (fun d5 e6 => ?_)
      have i7 : CI ad h.1 δ0 d5 := by rw [e6]; exact cs_0_6 L I
      have u8 := kp_I kp_r e6
      have v9 : q_V d5 = q_V δ := ((show q_V d5 = q_V δ by rw [e6]; rfl)).trans rfl
      have v10 : sam ad δ d5 := sam_t sam_r (sam_c (show q_I d5 3 1 _ = q_I δ 3 1 _ by rw [e6]; exact rI_o (by decide)) (show q_R d5 = q_R δ by rw [e6]; rfl))
      refine ok_bdv (fun d11 e12 => ?_)
      have i13 : CI ad h.1 δ0 d11 := by rw [e12]; exact cs_0_7 L i7
      have u14 := kp_I u8 e12
      have v15 : q_V d11 = q_V δ := ((show q_V d11 = q_V d5 by rw [e12]; rfl)).trans v9
      have v16 : sam ad δ d11 := sam_t v10 (sam_c (show q_I d11 3 1 _ = q_I d5 3 1 _ by rw [e12]; exact rI_o (by decide)) (show q_R d11 = q_R d5 by rw [e12]; rfl))
      unfold J_X0_learn_64
      exact ok_some (show CI ad h.1 δ0 d11 ∧ (kp [(0, 4), (0, 6), (0, 7), (1, 3), (1, 4), (1, 5), (1, 6), (1, 7), (1, 8), (1, 9), (1, 10), (1, 11), (1, 12), (1, 13), (1, 14), (1, 15), (3, 1)] δ d11 ∧ q_V d11 = q_V δ) from ⟨i13, ⟨kp_w (by decide) u14, v15⟩⟩)
    · have c17 : (0 : Int) < x2v.toInt := o_nle h3
      refine ok_bind (k_X0_find L hN (a0 := a0) (x1 := x1) (x2 := x2v) k_a0 (show 0 ≤ (x1).toInt by first | with_reducible assumption | omega) (show 0 ≤ (q_I δ 3 1 (Ad ad 43)).toInt by first | with_reducible assumption | omega) (show (q_I δ 3 1 (Ad ad 43)).toInt + (x1).toInt ≤ 6 by first | with_reducible assumption | omega) (srt_s sam_r j3) (show (x1).toInt < 20 by first | with_reducible assumption | omega) I) (fun r18 hr19 => ?_)
      obtain ⟨i20, ⟨u22, u23, u24⟩, p21⟩ := hr19
      have u25 := kp_t kp_r u22
      have v26 : q_V r18.2 = q_V δ := (u23).trans rfl
      have v27 : sam ad δ r18.2 := sam_t sam_r u24
      have f28 := bo_t p21
      have f29 := ti_b r18.1
      refine ok_ite (fun h30 => ?_) (fun h30 => ?_)
      · have c31 : r18.1.toInt = (0 : Int) := o_eq h30
        refine ok_biv (fun vx32 e33 => ?_)
        first | (have q34 := te_addc (c := -1) (n := -1) (by decide) x2v (by omega) (by omega); rw [← e33] at q34; obtain ⟨f35, f36, f37⟩ := q34) | (obtain ⟨q34, f35, f36, f37⟩ : ∃ q : Int, vx32.toInt = x2v.toInt + (-1 : Int) + 4294967296 * q ∧ -2147483648 ≤ vx32.toInt ∧ vx32.toInt ≤ 2147483647 := by rw [e33]; exact ti_addc (c := -1) (n := -1) (by decide) x2v)
        have f38 : (q_I r18.2 3 1 (Ad ad 43)).toInt = (q_I δ 3 1 (Ad ad 43)).toInt := congrArg Int32.toInt (v27).1
        refine ok_mono (ih vx32 r18.2 i20 (show 0 ≤ (x1).toInt by first | with_reducible assumption | omega) (show 0 ≤ (q_I r18.2 3 1 (Ad ad 43)).toInt by first | with_reducible assumption | omega) (show (q_I r18.2 3 1 (Ad ad 43)).toInt + (x1).toInt ≤ 6 by first | with_reducible assumption | omega) (srt_s v27 j3) (show 0 ≤ (vx32).toInt by first | with_reducible assumption | omega) (show (vx32).toInt ≤ 390 by first | with_reducible assumption | omega) (show (vx32).toInt < _ by omega)) (fun r39 hr40 => ?_)
        obtain ⟨i41, ⟨u42, u43⟩⟩ := hr40
        have u44 := kp_t u25 u42
        have v45 : q_V r39.2 = q_V δ := (u43).trans v26
        have f46 := ti_b r39.1
        exact ⟨by first | with_reducible assumption | assumption, ⟨kp_w (by decide) u44, v45⟩⟩
      · have c47 : r18.1.toInt ≠ (0 : Int) := o_ne h30
        unfold J_X0_learn_54
        refine ok_bdv (fun d48 e49 => ?_)
        have i50 : CI ad h.1 δ0 d48 := by rw [e49]; exact cs_0_6 L i20
        have u51 := kp_I u25 e49
        have v52 : q_V d48 = q_V δ := ((show q_V d48 = q_V r18.2 by rw [e49]; rfl)).trans v26
        have v53 : sam ad δ d48 := sam_t v27 (sam_c (show q_I d48 3 1 _ = q_I r18.2 3 1 _ by rw [e49]; exact rI_o (by decide)) (show q_R d48 = q_R r18.2 by rw [e49]; rfl))
        refine ok_bdv (fun d54 e55 => ?_)
        have i56 : CI ad h.1 δ0 d54 := by rw [e55]; exact cs_0_7 L i50
        have u57 := kp_I u51 e55
        have v58 : q_V d54 = q_V δ := ((show q_V d54 = q_V d48 by rw [e55]; rfl)).trans v52
        have v59 : sam ad δ d54 := sam_t v53 (sam_c (show q_I d54 3 1 _ = q_I d48 3 1 _ by rw [e55]; exact rI_o (by decide)) (show q_R d54 = q_R d48 by rw [e55]; rfl))
        unfold J_X0_learn_64
        exact ok_some (show CI ad h.1 δ0 d54 ∧ (kp [(0, 4), (0, 6), (0, 7), (1, 3), (1, 4), (1, 5), (1, 6), (1, 7), (1, 8), (1, 9), (1, 10), (1, 11), (1, 12), (1, 13), (1, 14), (1, 15), (3, 1)] δ d54 ∧ q_V d54 = q_V δ) from ⟨i56, ⟨kp_w (by decide) u57, v58⟩⟩)
set_option maxHeartbeats 4000000 in
theorem k_X0_learn {ad : List Nat} {h : hp} (L : Lay TLx ad h) {δ0 : dp} {N : Nat} (hN : 10000000 ≤ N) {a0 : Nat} {x1 : Int32} (k_a0 : q_K h.1 a0 = 0) {δ : dp} (z0 : 0 ≤ (x1).toInt) (z1 : (x1).toInt ≤ 6) (I : CI ad h.1 δ0 δ) : ok (D_X0_learn N h.1 a0 x1 δ) (fun r => CI ad h.1 δ0 r.2 ∧ (kp [(0, 4), (0, 6), (0, 7), (1, 3), (1, 4), (1, 5), (1, 6), (1, 7), (1, 8), (1, 9), (1, 10), (1, 11), (1, 12), (1, 13), (1, 14), (1, 15), (3, 1)] δ r.2 ∧ q_V r.2 = q_V δ)) := by
  unfold D_X0_learn
  have f1 := ti_b x1
  have f2 := cb_0_4 I k_a0
  refine ok_ite (fun h3 => ?_) (fun h3 => ?_)
  · have c4 : (q_I δ 0 4 a0).toInt = (0 : Int) := o_eq h3
    refine ok_bind (k_X0_setLimits L hN (a0 := a0) k_a0 I) (fun r5 hr6 => ?_)
    obtain ⟨i7, ⟨u8, u9⟩⟩ := hr6
    have u10 := kp_t kp_r u8
    have v11 : q_V r5 = q_V δ := (u9).trans rfl
    unfold J_X0_learn_11
    have f12 : (q_I r5 0 6 a0).toInt = (q_I δ 0 6 a0).toInt := congrArg Int32.toInt (u8 0 6 a0 (by decide))
    have f13 := ti_b (q_I δ 0 6 a0)
    refine ok_ite (fun h14 => ?_) (fun h14 => ?_)
    · have c15 : (q_I r5 0 6 a0).toInt = x1.toInt := o_eq h14
      unfold J_X0_learn_64
      exact ok_some (show CI ad h.1 δ0 r5 ∧ (kp [(0, 4), (0, 6), (0, 7), (1, 3), (1, 4), (1, 5), (1, 6), (1, 7), (1, 8), (1, 9), (1, 10), (1, 11), (1, 12), (1, 13), (1, 14), (1, 15), (3, 1)] δ r5 ∧ q_V r5 = q_V δ) from ⟨i7, ⟨kp_w (by decide) u10, v11⟩⟩)
    · have c16 : (q_I r5 0 6 a0).toInt ≠ x1.toInt := o_ne h14
      obtain ⟨b17, o18, k19⟩ := gO_0_1 L k_a0
      obtain rfl := gS_0_1 L k_a0 o18
      refine ok_at o18 ?_
      refine ok_bind (k_X3_clear L hN (a0 := (Ad ad 43)) k19 i7) (fun r20 hr21 => ?_)
      obtain ⟨i22, ⟨u24, u25, u26⟩, p23⟩ := hr21
      have u27 := kp_t u10 u24
      have v28 : q_V r20 = q_V δ := (u25).trans v11
      obtain ⟨b29, o30, k31, ⟨n32, n33⟩, w34⟩ := gO_3_0 L k19
      have f35 := cb_3_1 i22 k19 o30
      obtain ⟨b36, o37, k38, n39, w40⟩ := gO_0_3 L k_a0
      refine ok_at o37 ?_
      have t41 := ti_tn x1
      refine ok_gd (fun hc42 => ?_) ?_
      · rcases hc42 with hc42 | hc42
        · have c43 : x1.toInt < (0 : Int) := o_lt hc42
          omega
        · omega
      obtain ⟨b44, o45, k46, n47, w48⟩ := gW_0_3 L k_a0 o37 (i := x1.toNatClampNeg) (by omega)
      refine ok_at o45 ?_
      have ne50 : b44 ≠ Ad ad 44 := w48.ne L (by decide) (by decide)
      have t51 : (0 : Int32).toNatClampNeg = 0 := rfl
      refine ok_gd (fun hc52 => ?_) ?_
      · rcases hc52 with hc52 | hc52
        · have c53 : (0 : Int) < (0 : Int) := o_lt hc52
          omega
        · omega
      have f56 := CI.wR i22 w48 (0 : Int32).toNatClampNeg
      refine ok_biv (fun vx54 e55 => ?_)
      have f57 : vx54.toInt = (q_R r20 b44 (0 : Int32).toNatClampNeg).toInt := congrArg Int32.toInt e55
      refine ok_mono (kl_X0_learn_35 L hN   k_a0 _ vx54 r20 i22 (show 0 ≤ (x1).toInt by first | with_reducible assumption | omega) (show 0 ≤ (q_I r20 3 1 (Ad ad 43)).toInt by first | with_reducible assumption | omega) (show (q_I r20 3 1 (Ad ad 43)).toInt + (x1).toInt ≤ 6 by first | with_reducible assumption | omega) (srt_0 (by omega)) (show 0 ≤ (vx54).toInt by first | with_reducible assumption | omega) (show (vx54).toInt ≤ 390 by first | with_reducible assumption | omega) (show (vx54).toInt < _ by omega)) (fun r58 hr59 => ?_)
      obtain ⟨i60, ⟨u61, u62⟩⟩ := hr59
      have u63 := kp_t u27 u61
      have v64 : q_V r58.2 = q_V δ := (u62).trans v28
      have f65 := ti_b r58.1
      exact ⟨by first | with_reducible assumption | assumption, ⟨kp_w (by decide) u63, v64⟩⟩
  · have c66 : (q_I δ 0 4 a0).toInt ≠ (0 : Int) := o_ne h3
    unfold J_X0_learn_11
    have f67 := ti_b (q_I δ 0 6 a0)
    refine ok_ite (fun h68 => ?_) (fun h68 => ?_)
    · have c69 : (q_I δ 0 6 a0).toInt = x1.toInt := o_eq h68
      unfold J_X0_learn_64
      exact ok_some (show CI ad h.1 δ0 δ ∧ (kp [(0, 4), (0, 6), (0, 7), (1, 3), (1, 4), (1, 5), (1, 6), (1, 7), (1, 8), (1, 9), (1, 10), (1, 11), (1, 12), (1, 13), (1, 14), (1, 15), (3, 1)] δ δ ∧ q_V δ = q_V δ) from ⟨I, ⟨kp_w (by decide) kp_r, rfl⟩⟩)
    · have c70 : (q_I δ 0 6 a0).toInt ≠ x1.toInt := o_ne h68
      obtain ⟨b71, o72, k73⟩ := gO_0_1 L k_a0
      obtain rfl := gS_0_1 L k_a0 o72
      refine ok_at o72 ?_
      refine ok_bind (k_X3_clear L hN (a0 := (Ad ad 43)) k73 I) (fun r74 hr75 => ?_)
      obtain ⟨i76, ⟨u78, u79, u80⟩, p77⟩ := hr75
      have u81 := kp_t kp_r u78
      have v82 : q_V r74 = q_V δ := (u79).trans rfl
      obtain ⟨b83, o84, k85, ⟨n86, n87⟩, w88⟩ := gO_3_0 L k73
      have f89 := cb_3_1 i76 k73 o84
      obtain ⟨b90, o91, k92, n93, w94⟩ := gO_0_3 L k_a0
      refine ok_at o91 ?_
      have t95 := ti_tn x1
      refine ok_gd (fun hc96 => ?_) ?_
      · rcases hc96 with hc96 | hc96
        · have c97 : x1.toInt < (0 : Int) := o_lt hc96
          omega
        · omega
      obtain ⟨b98, o99, k100, n101, w102⟩ := gW_0_3 L k_a0 o91 (i := x1.toNatClampNeg) (by omega)
      refine ok_at o99 ?_
      have ne104 : b98 ≠ Ad ad 44 := w102.ne L (by decide) (by decide)
      have t105 : (0 : Int32).toNatClampNeg = 0 := rfl
      refine ok_gd (fun hc106 => ?_) ?_
      · rcases hc106 with hc106 | hc106
        · have c107 : (0 : Int) < (0 : Int) := o_lt hc106
          omega
        · omega
      have f110 := CI.wR i76 w102 (0 : Int32).toNatClampNeg
      refine ok_biv (fun vx108 e109 => ?_)
      have f111 : vx108.toInt = (q_R r74 b98 (0 : Int32).toNatClampNeg).toInt := congrArg Int32.toInt e109
      refine ok_mono (kl_X0_learn_35 L hN   k_a0 _ vx108 r74 i76 (show 0 ≤ (x1).toInt by first | with_reducible assumption | omega) (show 0 ≤ (q_I r74 3 1 (Ad ad 43)).toInt by first | with_reducible assumption | omega) (show (q_I r74 3 1 (Ad ad 43)).toInt + (x1).toInt ≤ 6 by first | with_reducible assumption | omega) (srt_0 (by omega)) (show 0 ≤ (vx108).toInt by first | with_reducible assumption | omega) (show (vx108).toInt ≤ 390 by first | with_reducible assumption | omega) (show (vx108).toInt < _ by omega)) (fun r112 hr113 => ?_)
      obtain ⟨i114, ⟨u115, u116⟩⟩ := hr113
      have u117 := kp_t u81 u115
      have v118 : q_V r112.2 = q_V δ := (u116).trans v82
      have f119 := ti_b r112.1
      exact ⟨by first | with_reducible assumption | assumption, ⟨kp_w (by decide) u117, v118⟩⟩
end
