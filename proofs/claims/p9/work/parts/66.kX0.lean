/-! 66.kX0 (by gen_safe.py) -/
set_option maxHeartbeats 4000000 in
theorem k_X0_forget {ad : List Nat} {h : hp} (L : Lay TLx ad h) {δ0 : dp} {N : Nat} (hN : 10000000 ≤ N) {a0 : Nat} (k_a0 : q_K h.1 a0 = 0) {δ : dp} (I : CI ad h.1 δ0 δ) : ok (D_X0_forget N h.1 a0 δ) (fun r => CI ad h.1 δ0 r ∧ (kp [(0, 4), (0, 6)] δ r ∧ q_V r = q_V δ ∧ q_R r = q_R δ)) := by
  unfold D_X0_forget
  refine ok_bdv (fun d1 e2 => ?_)
  have i3 : CI ad h.1 δ0 d1 := by rw [e2]; exact cs_0_4 L I k_a0 (show 0 ≤ (0 : Int) by omega) (show (0 : Int) ≤ 1 by omega)
  have u4 := kp_I kp_r e2
  have v5 : q_V d1 = q_V δ := ((show q_V d1 = q_V δ by rw [e2]; rfl)).trans rfl
  have v6 : q_R d1 = q_R δ := ((show q_R d1 = q_R δ by rw [e2]; rfl)).trans rfl
  refine ok_bdv (fun d7 e8 => ?_)
  have i9 : CI ad h.1 δ0 d7 := by rw [e8]; exact cs_0_6 L i3
  have u10 := kp_I u4 e8
  have v11 : q_V d7 = q_V δ := ((show q_V d7 = q_V d1 by rw [e8]; rfl)).trans v5
  have v12 : q_R d7 = q_R δ := ((show q_R d7 = q_R d1 by rw [e8]; rfl)).trans v6
  exact ok_some (show CI ad h.1 δ0 d7 ∧ (kp [(0, 4), (0, 6)] δ d7 ∧ q_V d7 = q_V δ ∧ q_R d7 = q_R δ) from ⟨i9, ⟨kp_w (by decide) u10, v11, v12⟩⟩)
set_option maxHeartbeats 4000000 in
theorem k_X0_callAt {ad : List Nat} {h : hp} (L : Lay TLx ad h) {δ0 : dp} {N : Nat} (hN : 10000000 ≤ N) {a0 : Nat} {x1 : Int32} {x2 : Int32} (k_a0 : q_K h.1 a0 = 0) {δ : dp} (z0 : (x1).toInt ≤ 6) (I : CI ad h.1 δ0 δ) : ok (D_X0_callAt N h.1 a0 x1 x2 δ) (fun r => r.2 = δ) := by
  unfold D_X0_callAt
  have f1 := ti_b x1
  have f2 := ti_b x2
  refine ok_ite (fun h3 => ?_) (fun h3 => ?_)
  · have c4 : x2.toInt < (0 : Int) := o_lt h3
    unfold J_X0_callAt_9
    unfold J_X0_callAt_21
    exact ok_some (show δ = δ from rfl)
  · have c5 : (0 : Int) ≤ x2.toInt := o_nlt h3
    refine ok_ite (fun h6 => ?_) (fun h6 => ?_)
    · have c7 : x2.toInt < x1.toInt := o_lt h6
      obtain ⟨b8, o9, k10, n11, w12⟩ := gO_0_5 L k_a0
      obtain rfl := gS_0_5 L k_a0 o9
      refine ok_at o9 ?_
      first | (have q14 := te_sub x1 x2 (by omega) (by omega); obtain ⟨f15, f16, f17⟩ := q14) | (obtain ⟨q14, f15, f16, f17⟩ := ti_sub x1 x2)
      have t18 := ti_tn (x1 - x2)
      refine ok_gd (fun hc19 => ?_) ?_
      · rcases hc19 with hc19 | hc19
        · have c20 : (x1 - x2).toInt < (0 : Int) := o_lt hc19
          omega
        · omega
      unfold J_X0_callAt_21
      exact ok_some (show δ = δ from rfl)
    · have c21 : x1.toInt ≤ x2.toInt := o_nlt h6
      unfold J_X0_callAt_9
      unfold J_X0_callAt_21
      exact ok_some (show δ = δ from rfl)
set_option maxHeartbeats 4000000 in
theorem k_X0_limitOf {ad : List Nat} {h : hp} (L : Lay TLx ad h) {δ0 : dp} {N : Nat} (hN : 10000000 ≤ N) {a0 : Nat} {x1 : Int32} {x2 : Int32} {x3 : Int32} (k_a0 : q_K h.1 a0 = 0) {δ : dp} (z0 : 1 ≤ (x2).toInt) (z1 : 0 ≤ (x3).toInt) (z2 : (x2).toInt + (x3).toInt ≤ 6) (I : CI ad h.1 δ0 δ) : ok (D_X0_limitOf N h.1 a0 x1 x2 x3 δ) (fun r => r.2 = δ ∧ 0 ≤ (r.1).toInt ∧ (r.1).toInt ≤ 65 * (x2).toInt) := by
  unfold D_X0_limitOf
  have f1 := ti_b x2
  have f2 := ti_b x3
  obtain ⟨b3, o4, k5⟩ := gO_0_0 L k_a0
  refine ok_at o4 ?_
  refine ok_at o4 ?_
  have f8 := cb_5_0 I k5
  refine ok_bind (k_X5_mostTouches L hN (a0 := b3) (x1 := x1) (x2 := (q_I δ 5 0 b3)) (x3 := x3) k5 (show 0 ≤ ((q_I δ 5 0 b3)).toInt by first | with_reducible assumption | omega) (show ((q_I δ 5 0 b3)).toInt ≤ 16 by first | with_reducible assumption | omega) (show ((q_I δ 5 0 b3)).toInt < 20 by first | with_reducible assumption | omega) I) (fun r6 hr7 => ?_)
  obtain ⟨i9, p10, p11⟩ := hr7
  try rw [i9]
  have f12 := ti_b r6.1
  obtain ⟨b13, o14, k15, n16, w17⟩ := gO_0_3 L k_a0
  refine ok_at o14 ?_
  first | (have q19 := te_subc (c := 1) (n := 1) rfl x2 (by omega) (by omega); obtain ⟨f20, f21, f22⟩ := q19) | (obtain ⟨q19, f20, f21, f22⟩ := ti_subc (c := 1) (n := 1) rfl x2)
  have t23 := ti_tn (x2 - (1 : Int32))
  refine ok_gd (fun hc24 => ?_) ?_
  · rcases hc24 with hc24 | hc24
    · have c25 : (x2 - (1 : Int32)).toInt < (0 : Int) := o_lt hc24
      omega
    · omega
  obtain ⟨b26, o27, k28, n29, w30⟩ := gW_0_3 L k_a0 o14 (i := (x2 - (1 : Int32)).toNatClampNeg) (by omega)
  refine ok_at o27 ?_
  have ne32 : b26 ≠ Ad ad 44 := w30.ne L (by decide) (by decide)
  have t33 := ti_tn x3
  refine ok_gd (fun hc34 => ?_) ?_
  · rcases hc34 with hc34 | hc34
    · have c35 : x3.toInt < (0 : Int) := o_lt hc34
      omega
    · omega
  have f38 := CI.wR I w30 x3.toNatClampNeg
  refine ok_biv (fun vx36 e37 => ?_)
  have f39 : vx36.toInt = (q_R δ b26 x3.toNatClampNeg).toInt := congrArg Int32.toInt e37
  have f40 := ti_b x1
  refine ok_ite (fun h41 => ?_) (fun h41 => ?_)
  · have c42 : x1.toInt = (0 : Int) := o_eq h41
    refine ok_at o14 ?_
    refine ok_gd (fun hc43 => ?_) ?_
    · rcases hc43 with hc43 | hc43
      · have c44 : (x2 - (1 : Int32)).toInt < (0 : Int) := o_lt hc43
        omega
      · omega
    obtain ⟨b45, o46, k47, n48, w49⟩ := gW_0_3 L k_a0 o14 (i := (x2 - (1 : Int32)).toNatClampNeg) (by omega)
    refine ok_at o46 ?_
    have ne51 : b45 ≠ Ad ad 44 := w49.ne L (by decide) (by decide)
    first | (have q53 := te_addc (c := 1) (n := 1) rfl x3 (by omega) (by omega); obtain ⟨f54, f55, f56⟩ := q53) | (obtain ⟨q53, f54, f55, f56⟩ := ti_addc (c := 1) (n := 1) rfl x3)
    have t57 := ti_tn (x3 + (1 : Int32))
    refine ok_gd (fun hc58 => ?_) ?_
    · rcases hc58 with hc58 | hc58
      · have c59 : (x3 + (1 : Int32)).toInt < (0 : Int) := o_lt hc58
        omega
      · omega
    have f60 := CI.wR I w49 (x3 + (1 : Int32)).toNatClampNeg
    first | (have q62 := te_add r6.1 (q_R δ b45 (x3 + (1 : Int32)).toNatClampNeg) (by omega) (by omega); obtain ⟨f63, f64, f65⟩ := q62) | (obtain ⟨q62, f63, f64, f65⟩ := ti_add r6.1 (q_R δ b45 (x3 + (1 : Int32)).toNatClampNeg))
    exact ok_some (show δ = δ ∧ 0 ≤ ((r6.1 + (q_R δ b45 (x3 + (1 : Int32)).toNatClampNeg))).toInt ∧ ((r6.1 + (q_R δ b45 (x3 + (1 : Int32)).toNatClampNeg))).toInt ≤ 65 * (x2).toInt from ⟨rfl, by first | with_reducible assumption | omega, by first | with_reducible assumption | omega⟩)
  · have c66 : x1.toInt ≠ (0 : Int) := o_ne h41
    refine ok_ite (fun h67 => ?_) (fun h67 => ?_)
    · have c68 : x1.toInt = (1 : Int) := o_eq h67
      refine ok_at o4 ?_
      refine ok_at o4 ?_
      refine ok_bind (k_X5_mostTouches L hN (a0 := b3) (x1 := (2 : Int32)) (x2 := (q_I δ 5 0 b3)) (x3 := x3) k5 (show 0 ≤ ((q_I δ 5 0 b3)).toInt by first | with_reducible assumption | omega) (show ((q_I δ 5 0 b3)).toInt ≤ 16 by first | with_reducible assumption | omega) (show ((q_I δ 5 0 b3)).toInt < 20 by first | with_reducible assumption | omega) I) (fun r69 hr70 => ?_)
      obtain ⟨i71, p72, p73⟩ := hr70
      try rw [i71]
      have f74 := ti_b r69.1
      refine ok_biv (fun vx75 e76 => ?_)
      first | (have q77 := te_add r69.1 vx36 (by omega) (by omega); rw [← e76] at q77; obtain ⟨f78, f79, f80⟩ := q77) | (obtain ⟨q77, f78, f79, f80⟩ : ∃ q : Int, vx75.toInt = r69.1.toInt + vx36.toInt + 4294967296 * q ∧ -2147483648 ≤ vx75.toInt ∧ vx75.toInt ≤ 2147483647 := by rw [e76]; exact ti_add r69.1 vx36)
      refine ok_at o14 ?_
      refine ok_gd (fun hc81 => ?_) ?_
      · rcases hc81 with hc81 | hc81
        · have c82 : (x2 - (1 : Int32)).toInt < (0 : Int) := o_lt hc81
          omega
        · omega
      obtain ⟨b83, o84, k85, n86, w87⟩ := gW_0_3 L k_a0 o14 (i := (x2 - (1 : Int32)).toNatClampNeg) (by omega)
      refine ok_at o84 ?_
      have ne89 : b83 ≠ Ad ad 44 := w87.ne L (by decide) (by decide)
      refine ok_bind (k_J9_max_7cf53 L hN (x0 := (x3 - (1 : Int32))) (x1 := (0 : Int32))  I) (fun r90 hr91 => ?_)
      obtain ⟨i92, p93, p94, p95⟩ := hr91
      try rw [i92]
      first | (have q97 := te_subc (c := 1) (n := 1) rfl x3 (by omega) (by omega); obtain ⟨f98, f99, f100⟩ := q97) | (obtain ⟨q97, f98, f99, f100⟩ := ti_subc (c := 1) (n := 1) rfl x3)
      have f101 := ti_b r90.1
      replace p94 : (0 : Int) ≤ (r90.1).toInt := p94
      replace p95 : ((r90.1).toInt = ((x3 - (1 : Int32))).toInt ∨ (r90.1).toInt = (0 : Int)) := p95
      have t102 := ti_tn r90.1
      refine ok_gd (fun hc103 => ?_) ?_
      · rcases hc103 with hc103 | hc103
        · have c104 : r90.1.toInt < (0 : Int) := o_lt hc103
          omega
        · omega
      refine ok_bind (k_J9_max_7cf53 L hN (x0 := vx75) (x1 := (r6.1 + (q_R δ b83 r90.1.toNatClampNeg)))  I) (fun r105 hr106 => ?_)
      obtain ⟨i107, p108, p109, p110⟩ := hr106
      try rw [i107]
      have f111 := ti_b r105.1
      have f112 := CI.wR I w87 r90.1.toNatClampNeg
      first | (have q114 := te_add r6.1 (q_R δ b83 r90.1.toNatClampNeg) (by omega) (by omega); obtain ⟨f115, f116, f117⟩ := q114) | (obtain ⟨q114, f115, f116, f117⟩ := ti_add r6.1 (q_R δ b83 r90.1.toNatClampNeg))
      exact ok_some (show δ = δ ∧ 0 ≤ (r105.1).toInt ∧ (r105.1).toInt ≤ 65 * (x2).toInt from ⟨rfl, by first | with_reducible assumption | omega, by first | with_reducible assumption | omega⟩)
    · have c118 : x1.toInt ≠ (1 : Int) := o_ne h67
      first | (have q120 := te_add r6.1 vx36 (by omega) (by omega); obtain ⟨f121, f122, f123⟩ := q120) | (obtain ⟨q120, f121, f122, f123⟩ := ti_add r6.1 vx36)
      exact ok_some (show δ = δ ∧ 0 ≤ ((r6.1 + vx36)).toInt ∧ ((r6.1 + vx36)).toInt ≤ 65 * (x2).toInt from ⟨rfl, by first | with_reducible assumption | omega, by first | with_reducible assumption | omega⟩)
set_option maxHeartbeats 4000000 in
theorem kl_X0_setLimits_29 {ad : List Nat} {h : hp} (L : Lay TLx ad h) {δ0 : dp} {N : Nat} (hN : 10000000 ≤ N) {a0 : Nat} {kt2 : Int32 → dp → Option (dp)} {K2 : Int} (h_kt2 : ∀ (x1v : Int32) (δ : dp), CI ad h.1 δ0 δ → 1 ≤ (x1v).toInt → (x1v).toInt ≤ 7 → 7 - (x1v).toInt < K2 → ok (kt2 x1v δ) (fun r => CI ad h.1 δ0 r ∧ (kp [(0, 4)] δ r ∧ q_V r = q_V δ))) {kt10 : Int32 → Int32 → dp → Option (dp)} {K10 : Int} (h_kt10 : ∀ (x1v : Int32) (x2v : Int32) (δ : dp), CI ad h.1 δ0 δ → 1 ≤ (x1v).toInt → (x1v).toInt ≤ 6 → 0 ≤ (x2v).toInt → (x2v).toInt ≤ 7 - (x1v).toInt → 7 - (x1v).toInt ≤ K2 → 7 - (x2v).toInt < K10 → ok (kt10 x1v x2v δ) (fun r => CI ad h.1 δ0 r ∧ (kp [(0, 4)] δ r ∧ q_V r = q_V δ))) (k_a0 : q_K h.1 a0 = 0) : ∀ (n : Nat) (x1v : Int32) (x2v : Int32) (x3v : Int32) (δ : dp), CI ad h.1 δ0 δ → 1 ≤ (x1v).toInt → (x1v).toInt ≤ 6 → 0 ≤ (x2v).toInt → (x2v).toInt ≤ 6 - (x1v).toInt → 7 - (x1v).toInt ≤ K2 → 7 - (x2v).toInt ≤ K10 → 0 ≤ (x3v).toInt → (x3v).toInt ≤ 5 → 5 - (x3v).toInt < (n : Int) → ok (L_X0_setLimits_29 N h.1 a0 kt2 kt10 n x1v x2v x3v δ) (fun r => CI ad h.1 δ0 r ∧ (kp [(0, 4)] δ r ∧ q_V r = q_V δ)) := by
  intro n
  induction n with
  | zero =>
    intro x1v x2v x3v δ I j0 j1 j2 j3 j4 j5 j6 j7 hm
    have f1 := ti_b x1v
    have f2 := ti_b x2v
    have f3 := ti_b x3v
    exfalso; omega
  | succ n ih =>
    intro x1v x2v x3v δ I j0 j1 j2 j3 j4 j5 j6 j7 hm
    unfold L_X0_setLimits_29
    have f1 := ti_b x1v
    have f2 := ti_b x2v
    have f3 := ti_b x3v
    refine ok_ite (fun h4 => ?_) (fun h4 => ?_)
    · have c5 : (5 : Int) ≤ x3v.toInt := o_le h4
      refine ok_biv (fun vx6 e7 => ?_)
      first | (have q8 := te_addc (c := 1) (n := 1) rfl x2v (by omega) (by omega); rw [← e7] at q8; obtain ⟨f9, f10, f11⟩ := q8) | (obtain ⟨q8, f9, f10, f11⟩ : ∃ q : Int, vx6.toInt = x2v.toInt + (1 : Int) + 4294967296 * q ∧ -2147483648 ≤ vx6.toInt ∧ vx6.toInt ≤ 2147483647 := by rw [e7]; exact ti_addc (c := 1) (n := 1) rfl x2v)
      refine ok_mono (h_kt10 x1v vx6 δ I (show 1 ≤ (x1v).toInt by first | with_reducible assumption | omega) (show (x1v).toInt ≤ 6 by first | with_reducible assumption | omega) (show 0 ≤ (vx6).toInt by first | with_reducible assumption | omega) (show (vx6).toInt ≤ 7 - (x1v).toInt by first | with_reducible assumption | omega) (show 7 - (x1v).toInt ≤ K2 by first | with_reducible assumption | omega) (show 7 - (vx6).toInt < _ by omega)) (fun r12 hr13 => ?_)
      obtain ⟨i14, ⟨u15, u16⟩⟩ := hr13
      have u17 := kp_t kp_r u15
      have v18 : q_V r12 = q_V δ := (u16).trans rfl
      exact ⟨by first | with_reducible assumption | assumption, ⟨kp_w (by decide) u17, v18⟩⟩
    · have c19 : x3v.toInt < (5 : Int) := o_nle h4
      obtain ⟨b20, o21, k22, n23, w24⟩ := gO_0_3 L k_a0
      refine ok_at o21 ?_
      have t25 := ti_tn x1v
      refine ok_gd (fun hc26 => ?_) ?_
      · rcases hc26 with hc26 | hc26
        · have c27 : x1v.toInt < (0 : Int) := o_lt hc26
          omega
        · omega
      obtain ⟨b28, o29, k30, n31, w32⟩ := gW_0_3 L k_a0 o21 (i := x1v.toNatClampNeg) (by omega)
      refine ok_at o29 ?_
      have ne34 : b28 ≠ Ad ad 44 := w32.ne L (by decide) (by decide)
      refine ok_at o21 ?_
      refine ok_gd (fun hc35 => ?_) ?_
      · rcases hc35 with hc35 | hc35
        · have c36 : x1v.toInt < (0 : Int) := o_lt hc35
          omega
        · omega
      obtain ⟨b37, o38, k39, n40, w41⟩ := gW_0_3 L k_a0 o21 (i := x1v.toNatClampNeg) (by omega)
      refine ok_at o38 ?_
      have ne43 : b37 ≠ Ad ad 44 := w41.ne L (by decide) (by decide)
      have t44 := ti_tn x2v
      refine ok_gd (fun hc45 => ?_) ?_
      · rcases hc45 with hc45 | hc45
        · have c46 : x2v.toInt < (0 : Int) := o_lt hc45
          omega
        · omega
      refine ok_bind (k_X0_limitOf L hN (a0 := a0) (x1 := x3v) (x2 := x1v) (x3 := x2v) k_a0 (show 1 ≤ (x1v).toInt by first | with_reducible assumption | omega) (show 0 ≤ (x2v).toInt by first | with_reducible assumption | omega) (show (x1v).toInt + (x2v).toInt ≤ 6 by first | with_reducible assumption | omega) I) (fun r47 hr48 => ?_)
      obtain ⟨i49, p50, p51⟩ := hr48
      try rw [i49]
      have f52 := ti_b r47.1
      refine ok_bind (k_J9_max_7cf53 L hN (x0 := (q_R δ b37 x2v.toNatClampNeg)) (x1 := r47.1)  I) (fun r53 hr54 => ?_)
      obtain ⟨i55, p56, p57, p58⟩ := hr54
      try rw [i55]
      have f59 := CI.wR I w41 x2v.toNatClampNeg
      have f60 := ti_b r53.1
      refine ok_gd (fun hc61 => ?_) ?_
      · rcases hc61 with hc61 | hc61
        · have c62 : x2v.toInt < (0 : Int) := o_lt hc61
          omega
        · omega
      refine ok_bdv (fun d63 e64 => ?_)
      have i65 : CI ad h.1 δ0 d63 := by rw [e64]; exact CI.sW L I w32 (show 0 ≤ r53.1.toInt by omega) (show r53.1.toInt ≤ 65 * (x1v.toNatClampNeg : Int) by omega)
      have u66 := kp_N kp_r (show q_I d63 = q_I δ by rw [e64]; rfl)
      have v67 : q_V d63 = q_V δ := ((show q_V d63 = q_V δ by rw [e64]; rfl)).trans rfl
      refine ok_biv (fun vx68 e69 => ?_)
      first | (have q70 := te_addc (c := 1) (n := 1) rfl x3v (by omega) (by omega); rw [← e69] at q70; obtain ⟨f71, f72, f73⟩ := q70) | (obtain ⟨q70, f71, f72, f73⟩ : ∃ q : Int, vx68.toInt = x3v.toInt + (1 : Int) + 4294967296 * q ∧ -2147483648 ≤ vx68.toInt ∧ vx68.toInt ≤ 2147483647 := by rw [e69]; exact ti_addc (c := 1) (n := 1) rfl x3v)
      refine ok_mono (ih x1v x2v vx68 d63 i65 (show 1 ≤ (x1v).toInt by first | with_reducible assumption | omega) (show (x1v).toInt ≤ 6 by first | with_reducible assumption | omega) (show 0 ≤ (x2v).toInt by first | with_reducible assumption | omega) (show (x2v).toInt ≤ 6 - (x1v).toInt by first | with_reducible assumption | omega) (show 7 - (x1v).toInt ≤ K2 by first | with_reducible assumption | omega) (show 7 - (x2v).toInt ≤ K10 by first | with_reducible assumption | omega) (show 0 ≤ (vx68).toInt by first | with_reducible assumption | omega) (show (vx68).toInt ≤ 5 by first | with_reducible assumption | omega) (show 5 - (vx68).toInt < _ by omega)) (fun r74 hr75 => ?_)
      obtain ⟨i76, ⟨u77, u78⟩⟩ := hr75
      have u79 := kp_t u66 u77
      have v80 : q_V r74 = q_V δ := (u78).trans v67
      exact ⟨by first | with_reducible assumption | assumption, ⟨kp_w (by decide) u79, v80⟩⟩
set_option maxHeartbeats 4000000 in
theorem kl_X0_setLimits_10 {ad : List Nat} {h : hp} (L : Lay TLx ad h) {δ0 : dp} {N : Nat} (hN : 10000000 ≤ N) {a0 : Nat} {kt2 : Int32 → dp → Option (dp)} {K2 : Int} (h_kt2 : ∀ (x1v : Int32) (δ : dp), CI ad h.1 δ0 δ → 1 ≤ (x1v).toInt → (x1v).toInt ≤ 7 → 7 - (x1v).toInt < K2 → ok (kt2 x1v δ) (fun r => CI ad h.1 δ0 r ∧ (kp [(0, 4)] δ r ∧ q_V r = q_V δ))) (k_a0 : q_K h.1 a0 = 0) : ∀ (n : Nat) (x1v : Int32) (x2v : Int32) (δ : dp), CI ad h.1 δ0 δ → 1 ≤ (x1v).toInt → (x1v).toInt ≤ 6 → 0 ≤ (x2v).toInt → (x2v).toInt ≤ 7 - (x1v).toInt → 7 - (x1v).toInt ≤ K2 → 7 - (x2v).toInt < (n : Int) → ok (L_X0_setLimits_10 N h.1 a0 kt2 n x1v x2v δ) (fun r => CI ad h.1 δ0 r ∧ (kp [(0, 4)] δ r ∧ q_V r = q_V δ)) := by
  intro n
  induction n with
  | zero =>
    intro x1v x2v δ I j0 j1 j2 j3 j4 hm
    have f1 := ti_b x1v
    have f2 := ti_b x2v
    exfalso; omega
  | succ n ih =>
    intro x1v x2v δ I j0 j1 j2 j3 j4 hm
    unfold L_X0_setLimits_10
    have f1 := ti_b x1v
    have f2 := ti_b x2v
    first | (have q4 := te_csub (c := 6) (n := 6) rfl x1v (by omega) (by omega); obtain ⟨f5, f6, f7⟩ := q4) | (obtain ⟨q4, f5, f6, f7⟩ := ti_csub (c := 6) (n := 6) rfl x1v)
    refine ok_ite (fun h8 => ?_) (fun h8 => ?_)
    · have c9 : ((6 : Int32) - x1v).toInt < x2v.toInt := o_lt h8
      refine ok_biv (fun vx10 e11 => ?_)
      first | (have q12 := te_addc (c := 1) (n := 1) rfl x1v (by omega) (by omega); rw [← e11] at q12; obtain ⟨f13, f14, f15⟩ := q12) | (obtain ⟨q12, f13, f14, f15⟩ : ∃ q : Int, vx10.toInt = x1v.toInt + (1 : Int) + 4294967296 * q ∧ -2147483648 ≤ vx10.toInt ∧ vx10.toInt ≤ 2147483647 := by rw [e11]; exact ti_addc (c := 1) (n := 1) rfl x1v)
      refine ok_mono (h_kt2 vx10 δ I (show 1 ≤ (vx10).toInt by first | with_reducible assumption | omega) (show (vx10).toInt ≤ 7 by first | with_reducible assumption | omega) (show 7 - (vx10).toInt < _ by omega)) (fun r16 hr17 => ?_)
      obtain ⟨i18, ⟨u19, u20⟩⟩ := hr17
      have u21 := kp_t kp_r u19
      have v22 : q_V r16 = q_V δ := (u20).trans rfl
      exact ⟨by first | with_reducible assumption | assumption, ⟨kp_w (by decide) u21, v22⟩⟩
    · have c23 : x2v.toInt ≤ ((6 : Int32) - x1v).toInt := o_nlt h8
      obtain ⟨b24, o25, k26, n27, w28⟩ := gO_0_3 L k_a0
      refine ok_at o25 ?_
      have t29 := ti_tn x1v
      refine ok_gd (fun hc30 => ?_) ?_
      · rcases hc30 with hc30 | hc30
        · have c31 : x1v.toInt < (0 : Int) := o_lt hc30
          omega
        · omega
      obtain ⟨b32, o33, k34, n35, w36⟩ := gW_0_3 L k_a0 o25 (i := x1v.toNatClampNeg) (by omega)
      refine ok_at o33 ?_
      have ne38 : b32 ≠ Ad ad 44 := w36.ne L (by decide) (by decide)
      have t39 := ti_tn x2v
      refine ok_gd (fun hc40 => ?_) ?_
      · rcases hc40 with hc40 | hc40
        · have c41 : x2v.toInt < (0 : Int) := o_lt hc40
          omega
        · omega
      refine ok_bdv (fun d42 e43 => ?_)
      have i44 : CI ad h.1 δ0 d42 := by rw [e43]; exact CI.sW L I w36 (show 0 ≤ (0 : Int) by omega) (show (0 : Int) ≤ 65 * (x1v.toNatClampNeg : Int) by omega)
      have u45 := kp_N kp_r (show q_I d42 = q_I δ by rw [e43]; rfl)
      have v46 : q_V d42 = q_V δ := ((show q_V d42 = q_V δ by rw [e43]; rfl)).trans rfl
      refine ok_mono (kl_X0_setLimits_29 L hN (K2 := K2) (K10 := (n : Int)) h_kt2 ih k_a0 _ x1v x2v (0 : Int32) d42 i44 (show 1 ≤ (x1v).toInt by first | with_reducible assumption | omega) (show (x1v).toInt ≤ 6 by first | with_reducible assumption | omega) (show 0 ≤ (x2v).toInt by first | with_reducible assumption | omega) (show (x2v).toInt ≤ 6 - (x1v).toInt by first | with_reducible assumption | omega) (show 7 - (x1v).toInt ≤ K2 by first | with_reducible assumption | omega) (show 7 - (x2v).toInt ≤ (n : Int) by first | with_reducible assumption | omega) (show 0 ≤ (0 : Int) by first | with_reducible assumption | omega) (show (0 : Int) ≤ 5 by first | with_reducible assumption | omega) (show 5 - (0 : Int) < _ by omega)) (fun r47 hr48 => ?_)
      obtain ⟨i49, ⟨u50, u51⟩⟩ := hr48
      have u52 := kp_t u45 u50
      have v53 : q_V r47 = q_V δ := (u51).trans v46
      exact ⟨by first | with_reducible assumption | assumption, ⟨kp_w (by decide) u52, v53⟩⟩
set_option maxHeartbeats 4000000 in
theorem kl_X0_setLimits_2 {ad : List Nat} {h : hp} (L : Lay TLx ad h) {δ0 : dp} {N : Nat} (hN : 10000000 ≤ N) {a0 : Nat} (k_a0 : q_K h.1 a0 = 0) : ∀ (n : Nat) (x1v : Int32) (δ : dp), CI ad h.1 δ0 δ → 1 ≤ (x1v).toInt → (x1v).toInt ≤ 7 → 7 - (x1v).toInt < (n : Int) → ok (L_X0_setLimits_2 N h.1 a0 n x1v δ) (fun r => CI ad h.1 δ0 r ∧ (kp [(0, 4)] δ r ∧ q_V r = q_V δ)) := by
  intro n
  induction n with
  | zero =>
    intro x1v δ I j0 j1 hm
    have f1 := ti_b x1v
    exfalso; omega
  | succ n ih =>
    intro x1v δ I j0 j1 hm
    unfold L_X0_setLimits_2
    have f1 := ti_b x1v
    refine ok_ite (fun h2 => ?_) (fun h2 => ?_)
    · have c3 : (6 : Int) < x1v.toInt := o_lt h2
      refine ok_bdv (fun d4 e5 => ?_)
      have i6 : CI ad h.1 δ0 d4 := by rw [e5]; exact cs_0_4 L I k_a0 (show 0 ≤ (1 : Int) by omega) (show (1 : Int) ≤ 1 by omega)
      have u7 := kp_I kp_r e5
      have v8 : q_V d4 = q_V δ := ((show q_V d4 = q_V δ by rw [e5]; rfl)).trans rfl
      exact ok_some (show CI ad h.1 δ0 d4 ∧ (kp [(0, 4)] δ d4 ∧ q_V d4 = q_V δ) from ⟨i6, ⟨kp_w (by decide) u7, v8⟩⟩)
    · have c9 : x1v.toInt ≤ (6 : Int) := o_nlt h2
      refine ok_mono (kl_X0_setLimits_10 L hN (K2 := (n : Int)) ih k_a0 _ x1v (0 : Int32) δ I (show 1 ≤ (x1v).toInt by first | with_reducible assumption | omega) (show (x1v).toInt ≤ 6 by first | with_reducible assumption | omega) (show 0 ≤ (0 : Int) by first | with_reducible assumption | omega) (show (0 : Int) ≤ 7 - (x1v).toInt by first | with_reducible assumption | omega) (show 7 - (x1v).toInt ≤ (n : Int) by first | with_reducible assumption | omega) (show 7 - (0 : Int) < _ by omega)) (fun r10 hr11 => ?_)
      obtain ⟨i12, ⟨u13, u14⟩⟩ := hr11
      have u15 := kp_t kp_r u13
      have v16 : q_V r10 = q_V δ := (u14).trans rfl
      exact ⟨by first | with_reducible assumption | assumption, ⟨kp_w (by decide) u15, v16⟩⟩
set_option maxHeartbeats 4000000 in
theorem k_X0_setLimits {ad : List Nat} {h : hp} (L : Lay TLx ad h) {δ0 : dp} {N : Nat} (hN : 10000000 ≤ N) {a0 : Nat} (k_a0 : q_K h.1 a0 = 0) {δ : dp} (I : CI ad h.1 δ0 δ) : ok (D_X0_setLimits N h.1 a0 δ) (fun r => CI ad h.1 δ0 r ∧ (kp [(0, 4)] δ r ∧ q_V r = q_V δ)) := by
  unfold D_X0_setLimits
  refine ok_mono (kl_X0_setLimits_2 L hN   k_a0 _ (1 : Int32) δ I (show 1 ≤ (1 : Int) by first | with_reducible assumption | omega) (show (1 : Int) ≤ 7 by first | with_reducible assumption | omega) (show 7 - (1 : Int) < _ by omega)) (fun r1 hr2 => ?_)
  obtain ⟨i3, ⟨u4, u5⟩⟩ := hr2
  have u6 := kp_t kp_r u4
  have v7 : q_V r1 = q_V δ := (u5).trans rfl
  exact ⟨by first | with_reducible assumption | assumption, ⟨kp_w (by decide) u6, v7⟩⟩
