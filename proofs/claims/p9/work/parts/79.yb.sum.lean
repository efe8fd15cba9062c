/-! 79.yb.sum (by gen_safe.py) -/
set_option maxHeartbeats 4000000 in
theorem kl_X12_product_4 {ad : List Nat} {h : hp} (L : Lay TLx ad h) {δ0 : dp} {N : Nat} (hN : 10000000 ≤ N) {T : Nat → dp → Option (dp)} {K : Int} (hT : ∀ (a0 : Nat) (δ : dp), q_K h.1 a0 = 12 → (q_I δ 12 24 a0).toInt ≤ 3 → (q_I δ 12 26 a0).toInt ≤ (q_I δ 12 4 a0).toInt → 0 ≤ (q_I δ 12 7 a0).toInt → (q_I δ 12 7 a0).toInt ≤ 7 → ((q_I δ 12 7 a0).toInt = 7 → 0 ≤ (q_I δ 12 5 a0).toInt) → 8 - (q_I δ 12 7 a0).toInt < K → RI ad h.1 δ0 δ → ok (T a0 δ) (fun r => RI ad h.1 δ0 r ∧ (kp [(12, 4), (12, 5), (12, 6), (12, 7), (12, 26)] δ r ∧ q_V r = q_V δ ∧ kr ad [116, 117] δ r) ∧ (q_I δ 12 4 a0).toInt ≤ (q_I r 12 4 a0).toInt ∧ (q_I δ 12 5 a0).toInt ≤ (q_I r 12 5 a0).toInt ∧ (q_I r 12 7 a0).toInt = (q_I δ 12 7 a0).toInt ∧ (q_I δ 12 26 a0).toInt ≤ (q_I r 12 26 a0).toInt ∧ (q_I r 12 26 a0).toInt - (q_I δ 12 26 a0).toInt ≤ (q_I r 12 4 a0).toInt - (q_I δ 12 4 a0).toInt ∧ US ad a0 δ r)) {a0 : Nat} (k_a0 : q_K h.1 a0 = 12) : ∀ (n : Nat) (δ : dp), RI ad h.1 δ0 δ → (q_I δ 12 24 a0).toInt ≤ 3 → (q_I δ 12 26 a0).toInt ≤ (q_I δ 12 4 a0).toInt → 0 ≤ (q_I δ 12 7 a0).toInt → (q_I δ 12 7 a0).toInt ≤ 7 → ((q_I δ 12 7 a0).toInt = 7 → 0 ≤ (q_I δ 12 5 a0).toInt) → 8 - (q_I δ 12 7 a0).toInt ≤ K → 501 - (q_I δ 12 4 a0).toInt < (n : Int) → ok (L_X12_product_4 N h.1 T a0 n δ) (fun r => RI ad h.1 δ0 r ∧ (kp [(12, 4), (12, 5), (12, 6), (12, 7), (12, 26)] δ r ∧ q_V r = q_V δ ∧ kr ad [116, 117] δ r) ∧ (q_I δ 12 4 a0).toInt ≤ (q_I r 12 4 a0).toInt ∧ (q_I δ 12 5 a0).toInt ≤ (q_I r 12 5 a0).toInt ∧ (q_I r 12 7 a0).toInt = (q_I δ 12 7 a0).toInt ∧ (q_I δ 12 26 a0).toInt ≤ (q_I r 12 26 a0).toInt ∧ (q_I r 12 26 a0).toInt - (q_I δ 12 26 a0).toInt ≤ (q_I r 12 4 a0).toInt - (q_I δ 12 4 a0).toInt ∧ LU ad a0 δ r) := by
  intro n
  induction n with
  | zero =>
    intro δ I j0 j1 j2 j3 j4 j5 hm
    have f1 := cb_12_24 I k_a0
    have f2 := cb_12_26 I k_a0
    have f3 := cb_12_4 I k_a0
    have f4 := ti_b (q_I δ 12 7 a0)
    have f5 := cb_12_5 I k_a0
    exfalso; omega
  | succ n ih =>
    intro δ I j0 j1 j2 j3 j4 j5 hm
    unfold L_X12_product_4
    have f1 := cb_12_24 I k_a0
    have f2 := cb_12_26 I k_a0
    have f3 := cb_12_4 I k_a0
    have f4 := ti_b (q_I δ 12 7 a0)
    have f5 := cb_12_5 I k_a0
    refine ok_bind (k_X12_fine L hN (a0 := a0) k_a0 I) (fun r6 hr7 => ?_)
    obtain ⟨i8, p9, p10, p11⟩ := hr7
    try rw [i8]
    have f12 := bo_l p9
    have f13 := ti_b r6.1
    have f14 := ti_b r6.1
    refine ok_ite (fun h15 => ?_) (fun h15 => ?_)
    · have c16 : r6.1.toInt = (0 : Int) := o_eq h15
      unfold J_X12_product_69
      exact ok_some (show RI ad h.1 δ0 δ ∧ (kp [(12, 4), (12, 5), (12, 6), (12, 7), (12, 26)] δ δ ∧ q_V δ = q_V δ ∧ kr ad [116, 117] δ δ) ∧ (q_I δ 12 4 a0).toInt ≤ (q_I δ 12 4 a0).toInt ∧ (q_I δ 12 5 a0).toInt ≤ (q_I δ 12 5 a0).toInt ∧ (q_I δ 12 7 a0).toInt = (q_I δ 12 7 a0).toInt ∧ (q_I δ 12 26 a0).toInt ≤ (q_I δ 12 26 a0).toInt ∧ (q_I δ 12 26 a0).toInt - (q_I δ 12 26 a0).toInt ≤ (q_I δ 12 4 a0).toInt - (q_I δ 12 4 a0).toInt ∧ LU ad a0 δ δ from ⟨I, ⟨kp_w (by decide) kp_r, rfl, kr_w (by decide) (kr_r (ad := ad))⟩, by first | assumption | omega, by first | assumption | omega, by first | assumption | omega, by first | assumption | omega, by first | assumption | omega, LU.n NU.r⟩)
    · have c17 : r6.1.toInt ≠ (0 : Int) := o_ne h15
      refine ok_bind (k_X12_here L hN (a0 := a0) k_a0 I) (fun r18 hr19 => ?_)
      obtain ⟨i20, ⟨u24, u25, u26, u27⟩, p21, p22, p23⟩ := hr19
      have u28 := kp_t kp_r u24
      have v29 : q_V r18.2 = q_V δ := (u25).trans rfl
      have v30 := kr_t (kr_r (ad := ad)) u27
      have f31 := cb_12_4 i20 k_a0
      have f32 : hc ad r18.2 a0 = (q_R r18.2 (Ad ad 101) (q_I r18.2 12 4 a0).toNatClampNeg).toInt := rfl
      have t33 := ti_tn (q_I r18.2 12 4 a0)
      have f34 : (q_R r18.2 (Ad ad 101) (q_I r18.2 12 4 a0).toNatClampNeg).toInt = (q_R δ (Ad ad 101) (q_I r18.2 12 4 a0).toNatClampNeg).toInt := congrArg Int32.toInt (congrFun (u27 101 (by decide) (by decide) (by decide)) _)
      have f35 := ti_b (q_R δ (Ad ad 101) (q_I r18.2 12 4 a0).toNatClampNeg)
      have f36 := ti_b (q_R r18.2 (Ad ad 101) (q_I r18.2 12 4 a0).toNatClampNeg)
      have f37 := ti_b r18.1
      have f38 := cb_12_3 I k_a0
      have f39 : hc ad δ a0 = (q_R δ (Ad ad 101) (q_I δ 12 4 a0).toNatClampNeg).toInt := rfl
      have t40 := ti_tn (q_I δ 12 4 a0)
      have f41 := ti_b (q_R δ (Ad ad 101) (q_I δ 12 4 a0).toNatClampNeg)
      have f42 := ti_b r18.1
      have f43 := cb_12_5 i20 k_a0
      have f44 : (q_I r18.2 12 5 a0).toInt = (q_I δ 12 5 a0).toInt := congrArg Int32.toInt (u24 12 5 a0 (by decide))
      have us45 : NU ad a0 δ r18.2 := NU.t NU.r (show NU ad a0 δ r18.2 from ⟨u27 116 (by decide) (by decide) (by decide), u24 12 26 _ (by decide), u24 12 24 _ (by decide), fun z => by omega⟩)
      refine ok_ite (fun h46 => ?_) (fun h46 => ?_)
      · have c47 : r18.1.toInt = (42 : Int) := o_eq h46
        unfold J_X12_product_29
        refine ok_bind (k_X12_here L hN (a0 := a0) k_a0 i20) (fun r48 hr49 => ?_)
        obtain ⟨i50, ⟨u54, u55, u56, u57⟩, p51, p52, p53⟩ := hr49
        have u58 := kp_t u28 u54
        have v59 : q_V r48.2 = q_V δ := (u55).trans v29
        have v60 := kr_t v30 u57
        have f61 := cb_12_4 i50 k_a0
        have f62 : hc ad r48.2 a0 = (q_R r48.2 (Ad ad 101) (q_I r48.2 12 4 a0).toNatClampNeg).toInt := rfl
        have t63 := ti_tn (q_I r48.2 12 4 a0)
        have f64 : (q_R r48.2 (Ad ad 101) (q_I r48.2 12 4 a0).toNatClampNeg).toInt = (q_R r18.2 (Ad ad 101) (q_I r48.2 12 4 a0).toNatClampNeg).toInt := congrArg Int32.toInt (congrFun (u57 101 (by decide) (by decide) (by decide)) _)
        have f65 : (q_R r18.2 (Ad ad 101) (q_I r48.2 12 4 a0).toNatClampNeg).toInt = (q_R δ (Ad ad 101) (q_I r48.2 12 4 a0).toNatClampNeg).toInt := congrArg Int32.toInt (congrFun (u27 101 (by decide) (by decide) (by decide)) _)
        have f66 := ti_b (q_R δ (Ad ad 101) (q_I r48.2 12 4 a0).toNatClampNeg)
        have f67 := ti_b (q_R r18.2 (Ad ad 101) (q_I r48.2 12 4 a0).toNatClampNeg)
        have f68 := ti_b (q_R r48.2 (Ad ad 101) (q_I r48.2 12 4 a0).toNatClampNeg)
        have f69 := ti_b r48.1
        have f70 := cb_12_3 i20 k_a0
        have f71 : (q_I r18.2 12 3 a0).toInt = (q_I δ 12 3 a0).toInt := congrArg Int32.toInt (u24 12 3 a0 (by decide))
        have f72 := ti_b r48.1
        have f73 := cb_12_5 i50 k_a0
        have f74 : (q_I r48.2 12 5 a0).toInt = (q_I r18.2 12 5 a0).toInt := congrArg Int32.toInt (u54 12 5 a0 (by decide))
        have us75 : NU ad a0 δ r48.2 := NU.t us45 (show NU ad a0 r18.2 r48.2 from ⟨u57 116 (by decide) (by decide) (by decide), u54 12 26 _ (by decide), u54 12 24 _ (by decide), fun z => by omega⟩)
        first | (have q80 := te_addc (c := 1) (n := 1) rfl (q_I r48.2 12 4 a0) (by omega) (by omega); obtain ⟨f81, f82, f83⟩ := q80) | (obtain ⟨q80, f81, f82, f83⟩ := ti_addc (c := 1) (n := 1) rfl (q_I r48.2 12 4 a0))
        refine ok_bdv (fun d76 e77 => ?_)
        have i78 : RI ad h.1 δ0 d76 := by rw [e77]; exact cs_12_4 L i50 k_a0 (show 0 ≤ ((q_I r48.2 12 4 a0) + (1 : Int32)).toInt by omega) (show ((q_I r48.2 12 4 a0) + (1 : Int32)).toInt ≤ 500 by omega)
        have u84 := kp_I u58 e77
        have v85 : q_V d76 = q_V δ := ((show q_V d76 = q_V r48.2 by rw [e77]; rfl)).trans v59
        have v86 := kr_N v60 (show q_R d76 = q_R r48.2 by rw [e77]; rfl)
        have us87 : NU ad a0 δ d76 := NU.t us75 (show NU ad a0 r48.2 d76 from NU.w e77 (by decide))
        have f90 := cb_12_24 i78 k_a0
        have f91 : (q_I d76 12 24 a0).toInt = (q_I r48.2 12 24 a0).toInt := congrArg Int32.toInt (by rw [e77]; exact rI_o (by decide))
        have f92 := cb_12_24 i50 k_a0
        have f93 : (q_I r48.2 12 24 a0).toInt = (q_I r18.2 12 24 a0).toInt := congrArg Int32.toInt (u54 12 24 a0 (by decide))
        have f94 := cb_12_24 i20 k_a0
        have f95 : (q_I r18.2 12 24 a0).toInt = (q_I δ 12 24 a0).toInt := congrArg Int32.toInt (u24 12 24 a0 (by decide))
        have f96 := cb_12_26 i78 k_a0
        have f97 : (q_I d76 12 26 a0).toInt = (q_I r48.2 12 26 a0).toInt := congrArg Int32.toInt (by rw [e77]; exact rI_o (by decide))
        have f98 := cb_12_26 i50 k_a0
        have f99 : (q_I r48.2 12 26 a0).toInt = (q_I r18.2 12 26 a0).toInt := congrArg Int32.toInt (u54 12 26 a0 (by decide))
        have f100 := cb_12_26 i20 k_a0
        have f101 : (q_I r18.2 12 26 a0).toInt = (q_I δ 12 26 a0).toInt := congrArg Int32.toInt (u24 12 26 a0 (by decide))
        have f102 := cb_12_4 i78 k_a0
        have f103 : (q_I d76 12 4 a0).toInt = ((q_I r48.2 12 4 a0) + (1 : Int32)).toInt := congrArg Int32.toInt (show q_I d76 12 4 a0 = ((q_I r48.2 12 4 a0) + (1 : Int32)) by rw [e77]; exact rI_s)
        have f104 := ti_b (q_I d76 12 7 a0)
        have f105 : (q_I d76 12 7 a0).toInt = (q_I r48.2 12 7 a0).toInt := congrArg Int32.toInt (by rw [e77]; exact rI_o (by decide))
        have f106 := ti_b (q_I r48.2 12 7 a0)
        have f107 : (q_I r48.2 12 7 a0).toInt = (q_I r18.2 12 7 a0).toInt := congrArg Int32.toInt (u54 12 7 a0 (by decide))
        have f108 := ti_b (q_I r18.2 12 7 a0)
        have f109 : (q_I r18.2 12 7 a0).toInt = (q_I δ 12 7 a0).toInt := congrArg Int32.toInt (u24 12 7 a0 (by decide))
        have f110 := cb_12_5 i78 k_a0
        have f111 : (q_I d76 12 5 a0).toInt = (q_I r48.2 12 5 a0).toInt := congrArg Int32.toInt (by rw [e77]; exact rI_o (by decide))
        refine ok_bind (k_bX12_unit L hN (a0 := a0) hT k_a0 (show (q_I d76 12 24 a0).toInt ≤ 3 by first | assumption | omega) (show (q_I d76 12 26 a0).toInt ≤ (q_I d76 12 4 a0).toInt by first | assumption | omega) (show 0 ≤ (q_I d76 12 7 a0).toInt by first | assumption | omega) (show (q_I d76 12 7 a0).toInt ≤ 7 by first | assumption | omega) (show (q_I d76 12 7 a0).toInt = 7 → 0 ≤ (q_I d76 12 5 a0).toInt by first | assumption | omega) (show 8 - (q_I d76 12 7 a0).toInt ≤ K by first | assumption | omega) i78) (fun r88 hr89 => ?_)
        obtain ⟨i112, ⟨u119, u120, u121⟩, p113, p114, p115, p116, p117, p118⟩ := hr89
        have u122 := kp_t u84 u119
        have v123 : q_V r88 = q_V δ := (u120).trans v85
        have v124 := kr_t v86 u121
        have f125 := cb_12_4 i112 k_a0
        have f126 := cb_12_5 i112 k_a0
        have f127 := ti_b (q_I r88 12 7 a0)
        have f128 := cb_12_26 i112 k_a0
        have us129 : US ad a0 δ r88 := US.pre us87 p118
        refine ok_ite (fun h130 => ?_) (fun h130 => ?_)
        · have c131 : r48.1.toInt = (42 : Int) := o_eq h130
          unfold J_X12_product_62
          have f134 := cb_12_24 i112 k_a0
          have f135 : (q_I r88 12 24 a0).toInt = (q_I d76 12 24 a0).toInt := congrArg Int32.toInt (u119 12 24 a0 (by decide))
          refine ok_bind (k_X12_emit L hN (a0 := a0) (x1 := (8 : Int32)) (x2 := (0 : Int32)) k_a0 (show (q_I r88 12 24 a0).toInt ≤ 3 by first | assumption | omega) (show (q_I r88 12 5 a0).toInt < 0 → (q_I r88 12 26 a0).toInt < 500 by first | assumption | omega) i112) (fun r132 hr133 => ?_)
          obtain ⟨i136, ⟨u141, u142, u143⟩, p137, p138, p139, p140⟩ := hr133
          have u144 := kp_t u122 u141
          have v145 : q_V r132 = q_V δ := (u142).trans v123
          have v146 := kr_t v124 u143
          have f147 := cb_12_26 i136 k_a0
          have us148 : LU ad a0 δ r132 := LU.em us129 p140 (by decide)
          have f149 := cb_12_24 i136 k_a0
          have f150 : (q_I r132 12 24 a0).toInt = (q_I r88 12 24 a0).toInt := congrArg Int32.toInt (u141 12 24 a0 (by decide))
          have f151 := cb_12_4 i136 k_a0
          have f152 : (q_I r132 12 4 a0).toInt = (q_I r88 12 4 a0).toInt := congrArg Int32.toInt (u141 12 4 a0 (by decide))
          have f153 := ti_b (q_I r132 12 7 a0)
          have f154 : (q_I r132 12 7 a0).toInt = (q_I r88 12 7 a0).toInt := congrArg Int32.toInt (u141 12 7 a0 (by decide))
          have f155 := cb_12_5 i136 k_a0
          have f156 : (q_I r132 12 5 a0).toInt = (q_I r88 12 5 a0).toInt := congrArg Int32.toInt (u141 12 5 a0 (by decide))
          refine ok_mono (ih r132 i136 (show (q_I r132 12 24 a0).toInt ≤ 3 by first | assumption | omega) (show (q_I r132 12 26 a0).toInt ≤ (q_I r132 12 4 a0).toInt by first | assumption | omega) (show 0 ≤ (q_I r132 12 7 a0).toInt by first | assumption | omega) (show (q_I r132 12 7 a0).toInt ≤ 7 by first | assumption | omega) (show (q_I r132 12 7 a0).toInt = 7 → 0 ≤ (q_I r132 12 5 a0).toInt by first | assumption | omega) (show 8 - (q_I r132 12 7 a0).toInt ≤ K by first | assumption | omega) (show 501 - (q_I r132 12 4 a0).toInt < _ by omega)) (fun r157 hr158 => ?_)
          obtain ⟨i159, ⟨u166, u167, u168⟩, p160, p161, p162, p163, p164, p165⟩ := hr158
          have u169 := kp_t u144 u166
          have v170 : q_V r157 = q_V δ := (u167).trans v145
          have v171 := kr_t v146 u168
          have f172 := cb_12_4 i159 k_a0
          have f173 := cb_12_5 i159 k_a0
          have f174 := ti_b (q_I r157 12 7 a0)
          have f175 := cb_12_26 i159 k_a0
          have us176 : LU ad a0 δ r157 := LU.t us148 p165
          exact ⟨by assumption, ⟨kp_w (by decide) u169, v170, kr_w (by decide) v171⟩, by first | assumption | omega, by first | assumption | omega, by first | assumption | omega, by first | assumption | omega, by first | assumption | omega, us176⟩
        · have c177 : r48.1.toInt ≠ (42 : Int) := o_ne h130
          unfold J_X12_product_62
          have f180 := cb_12_24 i112 k_a0
          have f181 : (q_I r88 12 24 a0).toInt = (q_I d76 12 24 a0).toInt := congrArg Int32.toInt (u119 12 24 a0 (by decide))
          refine ok_bind (k_X12_emit L hN (a0 := a0) (x1 := (9 : Int32)) (x2 := (0 : Int32)) k_a0 (show (q_I r88 12 24 a0).toInt ≤ 3 by first | assumption | omega) (show (q_I r88 12 5 a0).toInt < 0 → (q_I r88 12 26 a0).toInt < 500 by first | assumption | omega) i112) (fun r178 hr179 => ?_)
          obtain ⟨i182, ⟨u187, u188, u189⟩, p183, p184, p185, p186⟩ := hr179
          have u190 := kp_t u122 u187
          have v191 : q_V r178 = q_V δ := (u188).trans v123
          have v192 := kr_t v124 u189
          have f193 := cb_12_26 i182 k_a0
          have us194 : LU ad a0 δ r178 := LU.em us129 p186 (by decide)
          have f195 := cb_12_24 i182 k_a0
          have f196 : (q_I r178 12 24 a0).toInt = (q_I r88 12 24 a0).toInt := congrArg Int32.toInt (u187 12 24 a0 (by decide))
          have f197 := cb_12_4 i182 k_a0
          have f198 : (q_I r178 12 4 a0).toInt = (q_I r88 12 4 a0).toInt := congrArg Int32.toInt (u187 12 4 a0 (by decide))
          have f199 := ti_b (q_I r178 12 7 a0)
          have f200 : (q_I r178 12 7 a0).toInt = (q_I r88 12 7 a0).toInt := congrArg Int32.toInt (u187 12 7 a0 (by decide))
          have f201 := cb_12_5 i182 k_a0
          have f202 : (q_I r178 12 5 a0).toInt = (q_I r88 12 5 a0).toInt := congrArg Int32.toInt (u187 12 5 a0 (by decide))
          refine ok_mono (ih r178 i182 (show (q_I r178 12 24 a0).toInt ≤ 3 by first | assumption | omega) (show (q_I r178 12 26 a0).toInt ≤ (q_I r178 12 4 a0).toInt by first | assumption | omega) (show 0 ≤ (q_I r178 12 7 a0).toInt by first | assumption | omega) (show (q_I r178 12 7 a0).toInt ≤ 7 by first | assumption | omega) (show (q_I r178 12 7 a0).toInt = 7 → 0 ≤ (q_I r178 12 5 a0).toInt by first | assumption | omega) (show 8 - (q_I r178 12 7 a0).toInt ≤ K by first | assumption | omega) (show 501 - (q_I r178 12 4 a0).toInt < _ by omega)) (fun r203 hr204 => ?_)
          obtain ⟨i205, ⟨u212, u213, u214⟩, p206, p207, p208, p209, p210, p211⟩ := hr204
          have u215 := kp_t u190 u212
          have v216 : q_V r203 = q_V δ := (u213).trans v191
          have v217 := kr_t v192 u214
          have f218 := cb_12_4 i205 k_a0
          have f219 := cb_12_5 i205 k_a0
          have f220 := ti_b (q_I r203 12 7 a0)
          have f221 := cb_12_26 i205 k_a0
          have us222 : LU ad a0 δ r203 := LU.t us194 p211
          exact ⟨by assumption, ⟨kp_w (by decide) u215, v216, kr_w (by decide) v217⟩, by first | assumption | omega, by first | assumption | omega, by first | assumption | omega, by first | assumption | omega, by first | assumption | omega, us222⟩
      · have c223 : r18.1.toInt ≠ (42 : Int) := o_ne h46
        refine ok_bind (k_X12_here L hN (a0 := a0) k_a0 i20) (fun r224 hr225 => ?_)
        obtain ⟨i226, ⟨u230, u231, u232, u233⟩, p227, p228, p229⟩ := hr225
        have u234 := kp_t u28 u230
        have v235 : q_V r224.2 = q_V δ := (u231).trans v29
        have v236 := kr_t v30 u233
        have f237 := cb_12_4 i226 k_a0
        have f238 : hc ad r224.2 a0 = (q_R r224.2 (Ad ad 101) (q_I r224.2 12 4 a0).toNatClampNeg).toInt := rfl
        have t239 := ti_tn (q_I r224.2 12 4 a0)
        have f240 : (q_R r224.2 (Ad ad 101) (q_I r224.2 12 4 a0).toNatClampNeg).toInt = (q_R r18.2 (Ad ad 101) (q_I r224.2 12 4 a0).toNatClampNeg).toInt := congrArg Int32.toInt (congrFun (u233 101 (by decide) (by decide) (by decide)) _)
        have f241 : (q_R r18.2 (Ad ad 101) (q_I r224.2 12 4 a0).toNatClampNeg).toInt = (q_R δ (Ad ad 101) (q_I r224.2 12 4 a0).toNatClampNeg).toInt := congrArg Int32.toInt (congrFun (u27 101 (by decide) (by decide) (by decide)) _)
        have f242 := ti_b (q_R δ (Ad ad 101) (q_I r224.2 12 4 a0).toNatClampNeg)
        have f243 := ti_b (q_R r18.2 (Ad ad 101) (q_I r224.2 12 4 a0).toNatClampNeg)
        have f244 := ti_b (q_R r224.2 (Ad ad 101) (q_I r224.2 12 4 a0).toNatClampNeg)
        have f245 := ti_b r224.1
        have f246 := cb_12_3 i20 k_a0
        have f247 : (q_I r18.2 12 3 a0).toInt = (q_I δ 12 3 a0).toInt := congrArg Int32.toInt (u24 12 3 a0 (by decide))
        have f248 := ti_b r224.1
        have f249 := cb_12_5 i226 k_a0
        have f250 : (q_I r224.2 12 5 a0).toInt = (q_I r18.2 12 5 a0).toInt := congrArg Int32.toInt (u230 12 5 a0 (by decide))
        have us251 : NU ad a0 δ r224.2 := NU.t us45 (show NU ad a0 r18.2 r224.2 from ⟨u233 116 (by decide) (by decide) (by decide), u230 12 26 _ (by decide), u230 12 24 _ (by decide), fun z => by omega⟩)
        refine ok_ite (fun h252 => ?_) (fun h252 => ?_)
        · have c253 : r224.1.toInt = (37 : Int) := o_eq h252
          unfold J_X12_product_29
          refine ok_bind (k_X12_here L hN (a0 := a0) k_a0 i226) (fun r254 hr255 => ?_)
          obtain ⟨i256, ⟨u260, u261, u262, u263⟩, p257, p258, p259⟩ := hr255
          have u264 := kp_t u234 u260
          have v265 : q_V r254.2 = q_V δ := (u261).trans v235
          have v266 := kr_t v236 u263
          have f267 := cb_12_4 i256 k_a0
          have f268 : hc ad r254.2 a0 = (q_R r254.2 (Ad ad 101) (q_I r254.2 12 4 a0).toNatClampNeg).toInt := rfl
          have t269 := ti_tn (q_I r254.2 12 4 a0)
          have f270 : (q_R r254.2 (Ad ad 101) (q_I r254.2 12 4 a0).toNatClampNeg).toInt = (q_R r224.2 (Ad ad 101) (q_I r254.2 12 4 a0).toNatClampNeg).toInt := congrArg Int32.toInt (congrFun (u263 101 (by decide) (by decide) (by decide)) _)
          have f271 : (q_R r224.2 (Ad ad 101) (q_I r254.2 12 4 a0).toNatClampNeg).toInt = (q_R r18.2 (Ad ad 101) (q_I r254.2 12 4 a0).toNatClampNeg).toInt := congrArg Int32.toInt (congrFun (u233 101 (by decide) (by decide) (by decide)) _)
          have f272 : (q_R r18.2 (Ad ad 101) (q_I r254.2 12 4 a0).toNatClampNeg).toInt = (q_R δ (Ad ad 101) (q_I r254.2 12 4 a0).toNatClampNeg).toInt := congrArg Int32.toInt (congrFun (u27 101 (by decide) (by decide) (by decide)) _)
          have f273 := ti_b (q_R δ (Ad ad 101) (q_I r254.2 12 4 a0).toNatClampNeg)
          have f274 := ti_b (q_R r18.2 (Ad ad 101) (q_I r254.2 12 4 a0).toNatClampNeg)
          have f275 := ti_b (q_R r224.2 (Ad ad 101) (q_I r254.2 12 4 a0).toNatClampNeg)
          have f276 := ti_b (q_R r254.2 (Ad ad 101) (q_I r254.2 12 4 a0).toNatClampNeg)
          have f277 := ti_b r254.1
          have f278 := cb_12_3 i226 k_a0
          have f279 : (q_I r224.2 12 3 a0).toInt = (q_I r18.2 12 3 a0).toInt := congrArg Int32.toInt (u230 12 3 a0 (by decide))
          have f280 := ti_b r254.1
          have f281 := cb_12_5 i256 k_a0
          have f282 : (q_I r254.2 12 5 a0).toInt = (q_I r224.2 12 5 a0).toInt := congrArg Int32.toInt (u260 12 5 a0 (by decide))
          have us283 : NU ad a0 δ r254.2 := NU.t us251 (show NU ad a0 r224.2 r254.2 from ⟨u263 116 (by decide) (by decide) (by decide), u260 12 26 _ (by decide), u260 12 24 _ (by decide), fun z => by omega⟩)
          first | (have q288 := te_addc (c := 1) (n := 1) rfl (q_I r254.2 12 4 a0) (by omega) (by omega); obtain ⟨f289, f290, f291⟩ := q288) | (obtain ⟨q288, f289, f290, f291⟩ := ti_addc (c := 1) (n := 1) rfl (q_I r254.2 12 4 a0))
          refine ok_bdv (fun d284 e285 => ?_)
          have i286 : RI ad h.1 δ0 d284 := by rw [e285]; exact cs_12_4 L i256 k_a0 (show 0 ≤ ((q_I r254.2 12 4 a0) + (1 : Int32)).toInt by omega) (show ((q_I r254.2 12 4 a0) + (1 : Int32)).toInt ≤ 500 by omega)
          have u292 := kp_I u264 e285
          have v293 : q_V d284 = q_V δ := ((show q_V d284 = q_V r254.2 by rw [e285]; rfl)).trans v265
          have v294 := kr_N v266 (show q_R d284 = q_R r254.2 by rw [e285]; rfl)
          have us295 : NU ad a0 δ d284 := NU.t us283 (show NU ad a0 r254.2 d284 from NU.w e285 (by decide))
          have f298 := cb_12_24 i286 k_a0
          have f299 : (q_I d284 12 24 a0).toInt = (q_I r254.2 12 24 a0).toInt := congrArg Int32.toInt (by rw [e285]; exact rI_o (by decide))
          have f300 := cb_12_24 i256 k_a0
          have f301 : (q_I r254.2 12 24 a0).toInt = (q_I r224.2 12 24 a0).toInt := congrArg Int32.toInt (u260 12 24 a0 (by decide))
          have f302 := cb_12_24 i226 k_a0
          have f303 : (q_I r224.2 12 24 a0).toInt = (q_I r18.2 12 24 a0).toInt := congrArg Int32.toInt (u230 12 24 a0 (by decide))
          have f304 := cb_12_24 i20 k_a0
          have f305 : (q_I r18.2 12 24 a0).toInt = (q_I δ 12 24 a0).toInt := congrArg Int32.toInt (u24 12 24 a0 (by decide))
          have f306 := cb_12_26 i286 k_a0
          have f307 : (q_I d284 12 26 a0).toInt = (q_I r254.2 12 26 a0).toInt := congrArg Int32.toInt (by rw [e285]; exact rI_o (by decide))
          have f308 := cb_12_26 i256 k_a0
          have f309 : (q_I r254.2 12 26 a0).toInt = (q_I r224.2 12 26 a0).toInt := congrArg Int32.toInt (u260 12 26 a0 (by decide))
          have f310 := cb_12_26 i226 k_a0
          have f311 : (q_I r224.2 12 26 a0).toInt = (q_I r18.2 12 26 a0).toInt := congrArg Int32.toInt (u230 12 26 a0 (by decide))
          have f312 := cb_12_26 i20 k_a0
          have f313 : (q_I r18.2 12 26 a0).toInt = (q_I δ 12 26 a0).toInt := congrArg Int32.toInt (u24 12 26 a0 (by decide))
          have f314 := cb_12_4 i286 k_a0
          have f315 : (q_I d284 12 4 a0).toInt = ((q_I r254.2 12 4 a0) + (1 : Int32)).toInt := congrArg Int32.toInt (show q_I d284 12 4 a0 = ((q_I r254.2 12 4 a0) + (1 : Int32)) by rw [e285]; exact rI_s)
          have f316 := ti_b (q_I d284 12 7 a0)
          have f317 : (q_I d284 12 7 a0).toInt = (q_I r254.2 12 7 a0).toInt := congrArg Int32.toInt (by rw [e285]; exact rI_o (by decide))
          have f318 := ti_b (q_I r254.2 12 7 a0)
          have f319 : (q_I r254.2 12 7 a0).toInt = (q_I r224.2 12 7 a0).toInt := congrArg Int32.toInt (u260 12 7 a0 (by decide))
          have f320 := ti_b (q_I r224.2 12 7 a0)
          have f321 : (q_I r224.2 12 7 a0).toInt = (q_I r18.2 12 7 a0).toInt := congrArg Int32.toInt (u230 12 7 a0 (by decide))
          have f322 := ti_b (q_I r18.2 12 7 a0)
          have f323 : (q_I r18.2 12 7 a0).toInt = (q_I δ 12 7 a0).toInt := congrArg Int32.toInt (u24 12 7 a0 (by decide))
          have f324 := cb_12_5 i286 k_a0
          have f325 : (q_I d284 12 5 a0).toInt = (q_I r254.2 12 5 a0).toInt := congrArg Int32.toInt (by rw [e285]; exact rI_o (by decide))
          refine ok_bind (k_bX12_unit L hN (a0 := a0) hT k_a0 (show (q_I d284 12 24 a0).toInt ≤ 3 by first | assumption | omega) (show (q_I d284 12 26 a0).toInt ≤ (q_I d284 12 4 a0).toInt by first | assumption | omega) (show 0 ≤ (q_I d284 12 7 a0).toInt by first | assumption | omega) (show (q_I d284 12 7 a0).toInt ≤ 7 by first | assumption | omega) (show (q_I d284 12 7 a0).toInt = 7 → 0 ≤ (q_I d284 12 5 a0).toInt by first | assumption | omega) (show 8 - (q_I d284 12 7 a0).toInt ≤ K by first | assumption | omega) i286) (fun r296 hr297 => ?_)
          obtain ⟨i326, ⟨u333, u334, u335⟩, p327, p328, p329, p330, p331, p332⟩ := hr297
          have u336 := kp_t u292 u333
          have v337 : q_V r296 = q_V δ := (u334).trans v293
          have v338 := kr_t v294 u335
          have f339 := cb_12_4 i326 k_a0
          have f340 := cb_12_5 i326 k_a0
          have f341 := ti_b (q_I r296 12 7 a0)
          have f342 := cb_12_26 i326 k_a0
          have us343 : US ad a0 δ r296 := US.pre us295 p332
          refine ok_ite (fun h344 => ?_) (fun h344 => ?_)
          · have c345 : r254.1.toInt = (42 : Int) := o_eq h344
            unfold J_X12_product_62
            have f348 := cb_12_24 i326 k_a0
            have f349 : (q_I r296 12 24 a0).toInt = (q_I d284 12 24 a0).toInt := congrArg Int32.toInt (u333 12 24 a0 (by decide))
            refine ok_bind (k_X12_emit L hN (a0 := a0) (x1 := (8 : Int32)) (x2 := (0 : Int32)) k_a0 (show (q_I r296 12 24 a0).toInt ≤ 3 by first | assumption | omega) (show (q_I r296 12 5 a0).toInt < 0 → (q_I r296 12 26 a0).toInt < 500 by first | assumption | omega) i326) (fun r346 hr347 => ?_)
            obtain ⟨i350, ⟨u355, u356, u357⟩, p351, p352, p353, p354⟩ := hr347
            have u358 := kp_t u336 u355
            have v359 : q_V r346 = q_V δ := (u356).trans v337
            have v360 := kr_t v338 u357
            have f361 := cb_12_26 i350 k_a0
            have us362 : LU ad a0 δ r346 := LU.em us343 p354 (by decide)
            have f363 := cb_12_24 i350 k_a0
            have f364 : (q_I r346 12 24 a0).toInt = (q_I r296 12 24 a0).toInt := congrArg Int32.toInt (u355 12 24 a0 (by decide))
            have f365 := cb_12_4 i350 k_a0
            have f366 : (q_I r346 12 4 a0).toInt = (q_I r296 12 4 a0).toInt := congrArg Int32.toInt (u355 12 4 a0 (by decide))
            have f367 := ti_b (q_I r346 12 7 a0)
            have f368 : (q_I r346 12 7 a0).toInt = (q_I r296 12 7 a0).toInt := congrArg Int32.toInt (u355 12 7 a0 (by decide))
            have f369 := cb_12_5 i350 k_a0
            have f370 : (q_I r346 12 5 a0).toInt = (q_I r296 12 5 a0).toInt := congrArg Int32.toInt (u355 12 5 a0 (by decide))
            refine ok_mono (ih r346 i350 (show (q_I r346 12 24 a0).toInt ≤ 3 by first | assumption | omega) (show (q_I r346 12 26 a0).toInt ≤ (q_I r346 12 4 a0).toInt by first | assumption | omega) (show 0 ≤ (q_I r346 12 7 a0).toInt by first | assumption | omega) (show (q_I r346 12 7 a0).toInt ≤ 7 by first | assumption | omega) (show (q_I r346 12 7 a0).toInt = 7 → 0 ≤ (q_I r346 12 5 a0).toInt by first | assumption | omega) (show 8 - (q_I r346 12 7 a0).toInt ≤ K by first | assumption | omega) (show 501 - (q_I r346 12 4 a0).toInt < _ by omega)) (fun r371 hr372 => ?_)
            obtain ⟨i373, ⟨u380, u381, u382⟩, p374, p375, p376, p377, p378, p379⟩ := hr372
            have u383 := kp_t u358 u380
            have v384 : q_V r371 = q_V δ := (u381).trans v359
            have v385 := kr_t v360 u382
            have f386 := cb_12_4 i373 k_a0
            have f387 := cb_12_5 i373 k_a0
            have f388 := ti_b (q_I r371 12 7 a0)
            have f389 := cb_12_26 i373 k_a0
            have us390 : LU ad a0 δ r371 := LU.t us362 p379
            exact ⟨by assumption, ⟨kp_w (by decide) u383, v384, kr_w (by decide) v385⟩, by first | assumption | omega, by first | assumption | omega, by first | assumption | omega, by first | assumption | omega, by first | assumption | omega, us390⟩
          · have c391 : r254.1.toInt ≠ (42 : Int) := o_ne h344
            unfold J_X12_product_62
            have f394 := cb_12_24 i326 k_a0
            have f395 : (q_I r296 12 24 a0).toInt = (q_I d284 12 24 a0).toInt := congrArg Int32.toInt (u333 12 24 a0 (by decide))
            refine ok_bind (k_X12_emit L hN (a0 := a0) (x1 := (9 : Int32)) (x2 := (0 : Int32)) k_a0 (show (q_I r296 12 24 a0).toInt ≤ 3 by first | assumption | omega) (show (q_I r296 12 5 a0).toInt < 0 → (q_I r296 12 26 a0).toInt < 500 by first | assumption | omega) i326) (fun r392 hr393 => ?_)
            obtain ⟨i396, ⟨u401, u402, u403⟩, p397, p398, p399, p400⟩ := hr393
            have u404 := kp_t u336 u401
            have v405 : q_V r392 = q_V δ := (u402).trans v337
            have v406 := kr_t v338 u403
            have f407 := cb_12_26 i396 k_a0
            have us408 : LU ad a0 δ r392 := LU.em us343 p400 (by decide)
            have f409 := cb_12_24 i396 k_a0
            have f410 : (q_I r392 12 24 a0).toInt = (q_I r296 12 24 a0).toInt := congrArg Int32.toInt (u401 12 24 a0 (by decide))
            have f411 := cb_12_4 i396 k_a0
            have f412 : (q_I r392 12 4 a0).toInt = (q_I r296 12 4 a0).toInt := congrArg Int32.toInt (u401 12 4 a0 (by decide))
            have f413 := ti_b (q_I r392 12 7 a0)
            have f414 : (q_I r392 12 7 a0).toInt = (q_I r296 12 7 a0).toInt := congrArg Int32.toInt (u401 12 7 a0 (by decide))
            have f415 := cb_12_5 i396 k_a0
            have f416 : (q_I r392 12 5 a0).toInt = (q_I r296 12 5 a0).toInt := congrArg Int32.toInt (u401 12 5 a0 (by decide))
            refine ok_mono (ih r392 i396 (show (q_I r392 12 24 a0).toInt ≤ 3 by first | assumption | omega) (show (q_I r392 12 26 a0).toInt ≤ (q_I r392 12 4 a0).toInt by first | assumption | omega) (show 0 ≤ (q_I r392 12 7 a0).toInt by first | assumption | omega) (show (q_I r392 12 7 a0).toInt ≤ 7 by first | assumption | omega) (show (q_I r392 12 7 a0).toInt = 7 → 0 ≤ (q_I r392 12 5 a0).toInt by first | assumption | omega) (show 8 - (q_I r392 12 7 a0).toInt ≤ K by first | assumption | omega) (show 501 - (q_I r392 12 4 a0).toInt < _ by omega)) (fun r417 hr418 => ?_)
            obtain ⟨i419, ⟨u426, u427, u428⟩, p420, p421, p422, p423, p424, p425⟩ := hr418
            have u429 := kp_t u404 u426
            have v430 : q_V r417 = q_V δ := (u427).trans v405
            have v431 := kr_t v406 u428
            have f432 := cb_12_4 i419 k_a0
            have f433 := cb_12_5 i419 k_a0
            have f434 := ti_b (q_I r417 12 7 a0)
            have f435 := cb_12_26 i419 k_a0
            have us436 : LU ad a0 δ r417 := LU.t us408 p425
            exact ⟨by assumption, ⟨kp_w (by decide) u429, v430, kr_w (by decide) v431⟩, by first | assumption | omega, by first | assumption | omega, by first | assumption | omega, by first | assumption | omega, by first | assumption | omega, us436⟩
        · have c437 : r224.1.toInt ≠ (37 : Int) := o_ne h252
          unfold J_X12_product_69
          have f438 := ti_b (q_I r224.2 12 7 a0)
          have f439 : (q_I r224.2 12 7 a0).toInt = (q_I r18.2 12 7 a0).toInt := congrArg Int32.toInt (u230 12 7 a0 (by decide))
          have f440 := ti_b (q_I r18.2 12 7 a0)
          have f441 : (q_I r18.2 12 7 a0).toInt = (q_I δ 12 7 a0).toInt := congrArg Int32.toInt (u24 12 7 a0 (by decide))
          have f442 := cb_12_26 i226 k_a0
          have f443 : (q_I r224.2 12 26 a0).toInt = (q_I r18.2 12 26 a0).toInt := congrArg Int32.toInt (u230 12 26 a0 (by decide))
          have f444 := cb_12_26 i20 k_a0
          have f445 : (q_I r18.2 12 26 a0).toInt = (q_I δ 12 26 a0).toInt := congrArg Int32.toInt (u24 12 26 a0 (by decide))
          exact ok_some (show RI ad h.1 δ0 r224.2 ∧ (kp [(12, 4), (12, 5), (12, 6), (12, 7), (12, 26)] δ r224.2 ∧ q_V r224.2 = q_V δ ∧ kr ad [116, 117] δ r224.2) ∧ (q_I δ 12 4 a0).toInt ≤ (q_I r224.2 12 4 a0).toInt ∧ (q_I δ 12 5 a0).toInt ≤ (q_I r224.2 12 5 a0).toInt ∧ (q_I r224.2 12 7 a0).toInt = (q_I δ 12 7 a0).toInt ∧ (q_I δ 12 26 a0).toInt ≤ (q_I r224.2 12 26 a0).toInt ∧ (q_I r224.2 12 26 a0).toInt - (q_I δ 12 26 a0).toInt ≤ (q_I r224.2 12 4 a0).toInt - (q_I δ 12 4 a0).toInt ∧ LU ad a0 δ r224.2 from ⟨i226, ⟨kp_w (by decide) u234, v235, kr_w (by decide) v236⟩, by first | assumption | omega, by first | assumption | omega, by first | assumption | omega, by first | assumption | omega, by first | assumption | omega, LU.n us251⟩)
set_option maxHeartbeats 4000000 in
theorem k_bX12_product {ad : List Nat} {h : hp} (L : Lay TLx ad h) {δ0 : dp} {N : Nat} (hN : 10000000 ≤ N) {T : Nat → dp → Option (dp)} {K : Int} (hT : ∀ (a0 : Nat) (δ : dp), q_K h.1 a0 = 12 → (q_I δ 12 24 a0).toInt ≤ 3 → (q_I δ 12 26 a0).toInt ≤ (q_I δ 12 4 a0).toInt → 0 ≤ (q_I δ 12 7 a0).toInt → (q_I δ 12 7 a0).toInt ≤ 7 → ((q_I δ 12 7 a0).toInt = 7 → 0 ≤ (q_I δ 12 5 a0).toInt) → 8 - (q_I δ 12 7 a0).toInt < K → RI ad h.1 δ0 δ → ok (T a0 δ) (fun r => RI ad h.1 δ0 r ∧ (kp [(12, 4), (12, 5), (12, 6), (12, 7), (12, 26)] δ r ∧ q_V r = q_V δ ∧ kr ad [116, 117] δ r) ∧ (q_I δ 12 4 a0).toInt ≤ (q_I r 12 4 a0).toInt ∧ (q_I δ 12 5 a0).toInt ≤ (q_I r 12 5 a0).toInt ∧ (q_I r 12 7 a0).toInt = (q_I δ 12 7 a0).toInt ∧ (q_I δ 12 26 a0).toInt ≤ (q_I r 12 26 a0).toInt ∧ (q_I r 12 26 a0).toInt - (q_I δ 12 26 a0).toInt ≤ (q_I r 12 4 a0).toInt - (q_I δ 12 4 a0).toInt ∧ US ad a0 δ r)) {a0 : Nat} (k_a0 : q_K h.1 a0 = 12) {δ : dp} (z0 : (q_I δ 12 24 a0).toInt ≤ 3) (z1 : (q_I δ 12 26 a0).toInt ≤ (q_I δ 12 4 a0).toInt) (z2 : 0 ≤ (q_I δ 12 7 a0).toInt) (z3 : (q_I δ 12 7 a0).toInt ≤ 7) (z4 : (q_I δ 12 7 a0).toInt = 7 → 0 ≤ (q_I δ 12 5 a0).toInt) (z5 : 8 - (q_I δ 12 7 a0).toInt ≤ K) (I : RI ad h.1 δ0 δ) : ok (B_X12_product N h.1 T a0 δ) (fun r => RI ad h.1 δ0 r ∧ (kp [(12, 4), (12, 5), (12, 6), (12, 7), (12, 26)] δ r ∧ q_V r = q_V δ ∧ kr ad [116, 117] δ r) ∧ (q_I δ 12 4 a0).toInt ≤ (q_I r 12 4 a0).toInt ∧ (q_I δ 12 5 a0).toInt ≤ (q_I r 12 5 a0).toInt ∧ (q_I r 12 7 a0).toInt = (q_I δ 12 7 a0).toInt ∧ (q_I δ 12 26 a0).toInt ≤ (q_I r 12 26 a0).toInt ∧ (q_I r 12 26 a0).toInt - (q_I δ 12 26 a0).toInt ≤ (q_I r 12 4 a0).toInt - (q_I δ 12 4 a0).toInt ∧ US ad a0 δ r) := by
  unfold B_X12_product
  have f1 := cb_12_24 I k_a0
  have f2 := cb_12_26 I k_a0
  have f3 := cb_12_4 I k_a0
  have f4 := ti_b (q_I δ 12 7 a0)
  have f5 := cb_12_5 I k_a0
  refine ok_bind (k_bX12_unit L hN (a0 := a0) hT k_a0 (show (q_I δ 12 24 a0).toInt ≤ 3 by first | assumption | omega) (show (q_I δ 12 26 a0).toInt ≤ (q_I δ 12 4 a0).toInt by first | assumption | omega) (show 0 ≤ (q_I δ 12 7 a0).toInt by first | assumption | omega) (show (q_I δ 12 7 a0).toInt ≤ 7 by first | assumption | omega) (show (q_I δ 12 7 a0).toInt = 7 → 0 ≤ (q_I δ 12 5 a0).toInt by first | assumption | omega) (show 8 - (q_I δ 12 7 a0).toInt ≤ K by first | assumption | omega) I) (fun r6 hr7 => ?_)
  obtain ⟨i8, ⟨u15, u16, u17⟩, p9, p10, p11, p12, p13, p14⟩ := hr7
  have u18 := kp_t kp_r u15
  have v19 : q_V r6 = q_V δ := (u16).trans rfl
  have v20 := kr_t (kr_r (ad := ad)) u17
  have f21 := cb_12_4 i8 k_a0
  have f22 := cb_12_5 i8 k_a0
  have f23 := ti_b (q_I r6 12 7 a0)
  have f24 := cb_12_26 i8 k_a0
  have us25 : US ad a0 δ r6 := US.pre NU.r p14
  have f26 := cb_12_24 i8 k_a0
  have f27 : (q_I r6 12 24 a0).toInt = (q_I δ 12 24 a0).toInt := congrArg Int32.toInt (u15 12 24 a0 (by decide))
  refine ok_mono (kl_X12_product_4 L hN   hT k_a0 _ r6 i8 (show (q_I r6 12 24 a0).toInt ≤ 3 by first | assumption | omega) (show (q_I r6 12 26 a0).toInt ≤ (q_I r6 12 4 a0).toInt by first | assumption | omega) (show 0 ≤ (q_I r6 12 7 a0).toInt by first | assumption | omega) (show (q_I r6 12 7 a0).toInt ≤ 7 by first | assumption | omega) (show (q_I r6 12 7 a0).toInt = 7 → 0 ≤ (q_I r6 12 5 a0).toInt by first | assumption | omega) (show 8 - (q_I r6 12 7 a0).toInt ≤ K by first | assumption | omega) (show 501 - (q_I r6 12 4 a0).toInt < _ by omega)) (fun r28 hr29 => ?_)
  obtain ⟨i30, ⟨u37, u38, u39⟩, p31, p32, p33, p34, p35, p36⟩ := hr29
  have u40 := kp_t u18 u37
  have v41 : q_V r28 = q_V δ := (u38).trans v19
  have v42 := kr_t v20 u39
  have f43 := cb_12_4 i30 k_a0
  have f44 := cb_12_5 i30 k_a0
  have f45 := ti_b (q_I r28 12 7 a0)
  have f46 := cb_12_26 i30 k_a0
  have us47 : US ad a0 δ r28 := US.l us25 p36
  exact ⟨by assumption, ⟨kp_w (by decide) u40, v41, kr_w (by decide) v42⟩, by first | assumption | omega, by first | assumption | omega, by first | assumption | omega, by first | assumption | omega, by first | assumption | omega, us47⟩
set_option maxHeartbeats 4000000 in
theorem kl_X12_sum_4 {ad : List Nat} {h : hp} (L : Lay TLx ad h) {δ0 : dp} {N : Nat} (hN : 10000000 ≤ N) {T : Nat → dp → Option (dp)} {K : Int} (hT : ∀ (a0 : Nat) (δ : dp), q_K h.1 a0 = 12 → (q_I δ 12 24 a0).toInt ≤ 3 → (q_I δ 12 26 a0).toInt ≤ (q_I δ 12 4 a0).toInt → 0 ≤ (q_I δ 12 7 a0).toInt → (q_I δ 12 7 a0).toInt ≤ 7 → ((q_I δ 12 7 a0).toInt = 7 → 0 ≤ (q_I δ 12 5 a0).toInt) → 8 - (q_I δ 12 7 a0).toInt < K → RI ad h.1 δ0 δ → ok (T a0 δ) (fun r => RI ad h.1 δ0 r ∧ (kp [(12, 4), (12, 5), (12, 6), (12, 7), (12, 26)] δ r ∧ q_V r = q_V δ ∧ kr ad [116, 117] δ r) ∧ (q_I δ 12 4 a0).toInt ≤ (q_I r 12 4 a0).toInt ∧ (q_I δ 12 5 a0).toInt ≤ (q_I r 12 5 a0).toInt ∧ (q_I r 12 7 a0).toInt = (q_I δ 12 7 a0).toInt ∧ (q_I δ 12 26 a0).toInt ≤ (q_I r 12 26 a0).toInt ∧ (q_I r 12 26 a0).toInt - (q_I δ 12 26 a0).toInt ≤ (q_I r 12 4 a0).toInt - (q_I δ 12 4 a0).toInt ∧ US ad a0 δ r)) {a0 : Nat} (k_a0 : q_K h.1 a0 = 12) : ∀ (n : Nat) (δ : dp), RI ad h.1 δ0 δ → (q_I δ 12 24 a0).toInt ≤ 3 → (q_I δ 12 26 a0).toInt ≤ (q_I δ 12 4 a0).toInt → 0 ≤ (q_I δ 12 7 a0).toInt → (q_I δ 12 7 a0).toInt ≤ 7 → ((q_I δ 12 7 a0).toInt = 7 → 0 ≤ (q_I δ 12 5 a0).toInt) → 8 - (q_I δ 12 7 a0).toInt ≤ K → 501 - (q_I δ 12 4 a0).toInt < (n : Int) → ok (L_X12_sum_4 N h.1 T a0 n δ) (fun r => RI ad h.1 δ0 r ∧ (kp [(12, 4), (12, 5), (12, 6), (12, 7), (12, 26)] δ r ∧ q_V r = q_V δ ∧ kr ad [116, 117] δ r) ∧ (q_I δ 12 4 a0).toInt ≤ (q_I r 12 4 a0).toInt ∧ (q_I δ 12 5 a0).toInt ≤ (q_I r 12 5 a0).toInt ∧ (q_I r 12 7 a0).toInt = (q_I δ 12 7 a0).toInt ∧ (q_I δ 12 26 a0).toInt ≤ (q_I r 12 26 a0).toInt ∧ (q_I r 12 26 a0).toInt - (q_I δ 12 26 a0).toInt ≤ (q_I r 12 4 a0).toInt - (q_I δ 12 4 a0).toInt ∧ LU ad a0 δ r) := by
  intro n
  induction n with
  | zero =>
    intro δ I j0 j1 j2 j3 j4 j5 hm
    have f1 := cb_12_24 I k_a0
    have f2 := cb_12_26 I k_a0
    have f3 := cb_12_4 I k_a0
    have f4 := ti_b (q_I δ 12 7 a0)
    have f5 := cb_12_5 I k_a0
    exfalso; omega
  | succ n ih =>
    intro δ I j0 j1 j2 j3 j4 j5 hm
    unfold L_X12_sum_4
    have f1 := cb_12_24 I k_a0
    have f2 := cb_12_26 I k_a0
    have f3 := cb_12_4 I k_a0
    have f4 := ti_b (q_I δ 12 7 a0)
    have f5 := cb_12_5 I k_a0
    refine ok_bind (k_X12_fine L hN (a0 := a0) k_a0 I) (fun r6 hr7 => ?_)
    obtain ⟨i8, p9, p10, p11⟩ := hr7
    try rw [i8]
    have f12 := bo_l p9
    have f13 := ti_b r6.1
    have f14 := ti_b r6.1
    refine ok_ite (fun h15 => ?_) (fun h15 => ?_)
    · have c16 : r6.1.toInt = (0 : Int) := o_eq h15
      unfold J_X12_sum_69
      exact ok_some (show RI ad h.1 δ0 δ ∧ (kp [(12, 4), (12, 5), (12, 6), (12, 7), (12, 26)] δ δ ∧ q_V δ = q_V δ ∧ kr ad [116, 117] δ δ) ∧ (q_I δ 12 4 a0).toInt ≤ (q_I δ 12 4 a0).toInt ∧ (q_I δ 12 5 a0).toInt ≤ (q_I δ 12 5 a0).toInt ∧ (q_I δ 12 7 a0).toInt = (q_I δ 12 7 a0).toInt ∧ (q_I δ 12 26 a0).toInt ≤ (q_I δ 12 26 a0).toInt ∧ (q_I δ 12 26 a0).toInt - (q_I δ 12 26 a0).toInt ≤ (q_I δ 12 4 a0).toInt - (q_I δ 12 4 a0).toInt ∧ LU ad a0 δ δ from ⟨I, ⟨kp_w (by decide) kp_r, rfl, kr_w (by decide) (kr_r (ad := ad))⟩, by first | assumption | omega, by first | assumption | omega, by first | assumption | omega, by first | assumption | omega, by first | assumption | omega, LU.n NU.r⟩)
    · have c17 : r6.1.toInt ≠ (0 : Int) := o_ne h15
      refine ok_bind (k_X12_here L hN (a0 := a0) k_a0 I) (fun r18 hr19 => ?_)
      obtain ⟨i20, ⟨u24, u25, u26, u27⟩, p21, p22, p23⟩ := hr19
      have u28 := kp_t kp_r u24
      have v29 : q_V r18.2 = q_V δ := (u25).trans rfl
      have v30 := kr_t (kr_r (ad := ad)) u27
      have f31 := cb_12_4 i20 k_a0
      have f32 : hc ad r18.2 a0 = (q_R r18.2 (Ad ad 101) (q_I r18.2 12 4 a0).toNatClampNeg).toInt := rfl
      have t33 := ti_tn (q_I r18.2 12 4 a0)
      have f34 : (q_R r18.2 (Ad ad 101) (q_I r18.2 12 4 a0).toNatClampNeg).toInt = (q_R δ (Ad ad 101) (q_I r18.2 12 4 a0).toNatClampNeg).toInt := congrArg Int32.toInt (congrFun (u27 101 (by decide) (by decide) (by decide)) _)
      have f35 := ti_b (q_R δ (Ad ad 101) (q_I r18.2 12 4 a0).toNatClampNeg)
      have f36 := ti_b (q_R r18.2 (Ad ad 101) (q_I r18.2 12 4 a0).toNatClampNeg)
      have f37 := ti_b r18.1
      have f38 := cb_12_3 I k_a0
      have f39 : hc ad δ a0 = (q_R δ (Ad ad 101) (q_I δ 12 4 a0).toNatClampNeg).toInt := rfl
      have t40 := ti_tn (q_I δ 12 4 a0)
      have f41 := ti_b (q_R δ (Ad ad 101) (q_I δ 12 4 a0).toNatClampNeg)
      have f42 := ti_b r18.1
      have f43 := cb_12_5 i20 k_a0
      have f44 : (q_I r18.2 12 5 a0).toInt = (q_I δ 12 5 a0).toInt := congrArg Int32.toInt (u24 12 5 a0 (by decide))
      have us45 : NU ad a0 δ r18.2 := NU.t NU.r (show NU ad a0 δ r18.2 from ⟨u27 116 (by decide) (by decide) (by decide), u24 12 26 _ (by decide), u24 12 24 _ (by decide), fun z => by omega⟩)
      refine ok_ite (fun h46 => ?_) (fun h46 => ?_)
      · have c47 : r18.1.toInt = (43 : Int) := o_eq h46
        unfold J_X12_sum_29
        refine ok_bind (k_X12_here L hN (a0 := a0) k_a0 i20) (fun r48 hr49 => ?_)
        obtain ⟨i50, ⟨u54, u55, u56, u57⟩, p51, p52, p53⟩ := hr49
        have u58 := kp_t u28 u54
        have v59 : q_V r48.2 = q_V δ := (u55).trans v29
        have v60 := kr_t v30 u57
        have f61 := cb_12_4 i50 k_a0
        have f62 : hc ad r48.2 a0 = (q_R r48.2 (Ad ad 101) (q_I r48.2 12 4 a0).toNatClampNeg).toInt := rfl
        have t63 := ti_tn (q_I r48.2 12 4 a0)
        have f64 : (q_R r48.2 (Ad ad 101) (q_I r48.2 12 4 a0).toNatClampNeg).toInt = (q_R r18.2 (Ad ad 101) (q_I r48.2 12 4 a0).toNatClampNeg).toInt := congrArg Int32.toInt (congrFun (u57 101 (by decide) (by decide) (by decide)) _)
        have f65 : (q_R r18.2 (Ad ad 101) (q_I r48.2 12 4 a0).toNatClampNeg).toInt = (q_R δ (Ad ad 101) (q_I r48.2 12 4 a0).toNatClampNeg).toInt := congrArg Int32.toInt (congrFun (u27 101 (by decide) (by decide) (by decide)) _)
        have f66 := ti_b (q_R δ (Ad ad 101) (q_I r48.2 12 4 a0).toNatClampNeg)
        have f67 := ti_b (q_R r18.2 (Ad ad 101) (q_I r48.2 12 4 a0).toNatClampNeg)
        have f68 := ti_b (q_R r48.2 (Ad ad 101) (q_I r48.2 12 4 a0).toNatClampNeg)
        have f69 := ti_b r48.1
        have f70 := cb_12_3 i20 k_a0
        have f71 : (q_I r18.2 12 3 a0).toInt = (q_I δ 12 3 a0).toInt := congrArg Int32.toInt (u24 12 3 a0 (by decide))
        have f72 := ti_b r48.1
        have f73 := cb_12_5 i50 k_a0
        have f74 : (q_I r48.2 12 5 a0).toInt = (q_I r18.2 12 5 a0).toInt := congrArg Int32.toInt (u54 12 5 a0 (by decide))
        have us75 : NU ad a0 δ r48.2 := NU.t us45 (show NU ad a0 r18.2 r48.2 from ⟨u57 116 (by decide) (by decide) (by decide), u54 12 26 _ (by decide), u54 12 24 _ (by decide), fun z => by omega⟩)
        first | (have q80 := te_addc (c := 1) (n := 1) rfl (q_I r48.2 12 4 a0) (by omega) (by omega); obtain ⟨f81, f82, f83⟩ := q80) | (obtain ⟨q80, f81, f82, f83⟩ := ti_addc (c := 1) (n := 1) rfl (q_I r48.2 12 4 a0))
        refine ok_bdv (fun d76 e77 => ?_)
        have i78 : RI ad h.1 δ0 d76 := by rw [e77]; exact cs_12_4 L i50 k_a0 (show 0 ≤ ((q_I r48.2 12 4 a0) + (1 : Int32)).toInt by omega) (show ((q_I r48.2 12 4 a0) + (1 : Int32)).toInt ≤ 500 by omega)
        have u84 := kp_I u58 e77
        have v85 : q_V d76 = q_V δ := ((show q_V d76 = q_V r48.2 by rw [e77]; rfl)).trans v59
        have v86 := kr_N v60 (show q_R d76 = q_R r48.2 by rw [e77]; rfl)
        have us87 : NU ad a0 δ d76 := NU.t us75 (show NU ad a0 r48.2 d76 from NU.w e77 (by decide))
        have f90 := cb_12_24 i78 k_a0
        have f91 : (q_I d76 12 24 a0).toInt = (q_I r48.2 12 24 a0).toInt := congrArg Int32.toInt (by rw [e77]; exact rI_o (by decide))
        have f92 := cb_12_24 i50 k_a0
        have f93 : (q_I r48.2 12 24 a0).toInt = (q_I r18.2 12 24 a0).toInt := congrArg Int32.toInt (u54 12 24 a0 (by decide))
        have f94 := cb_12_24 i20 k_a0
        have f95 : (q_I r18.2 12 24 a0).toInt = (q_I δ 12 24 a0).toInt := congrArg Int32.toInt (u24 12 24 a0 (by decide))
        have f96 := cb_12_26 i78 k_a0
        have f97 : (q_I d76 12 26 a0).toInt = (q_I r48.2 12 26 a0).toInt := congrArg Int32.toInt (by rw [e77]; exact rI_o (by decide))
        have f98 := cb_12_26 i50 k_a0
        have f99 : (q_I r48.2 12 26 a0).toInt = (q_I r18.2 12 26 a0).toInt := congrArg Int32.toInt (u54 12 26 a0 (by decide))
        have f100 := cb_12_26 i20 k_a0
        have f101 : (q_I r18.2 12 26 a0).toInt = (q_I δ 12 26 a0).toInt := congrArg Int32.toInt (u24 12 26 a0 (by decide))
        have f102 := cb_12_4 i78 k_a0
        have f103 : (q_I d76 12 4 a0).toInt = ((q_I r48.2 12 4 a0) + (1 : Int32)).toInt := congrArg Int32.toInt (show q_I d76 12 4 a0 = ((q_I r48.2 12 4 a0) + (1 : Int32)) by rw [e77]; exact rI_s)
        have f104 := ti_b (q_I d76 12 7 a0)
        have f105 : (q_I d76 12 7 a0).toInt = (q_I r48.2 12 7 a0).toInt := congrArg Int32.toInt (by rw [e77]; exact rI_o (by decide))
        have f106 := ti_b (q_I r48.2 12 7 a0)
        have f107 : (q_I r48.2 12 7 a0).toInt = (q_I r18.2 12 7 a0).toInt := congrArg Int32.toInt (u54 12 7 a0 (by decide))
        have f108 := ti_b (q_I r18.2 12 7 a0)
        have f109 : (q_I r18.2 12 7 a0).toInt = (q_I δ 12 7 a0).toInt := congrArg Int32.toInt (u24 12 7 a0 (by decide))
        have f110 := cb_12_5 i78 k_a0
        have f111 : (q_I d76 12 5 a0).toInt = (q_I r48.2 12 5 a0).toInt := congrArg Int32.toInt (by rw [e77]; exact rI_o (by decide))
        refine ok_bind (k_bX12_product L hN (a0 := a0) hT k_a0 (show (q_I d76 12 24 a0).toInt ≤ 3 by first | assumption | omega) (show (q_I d76 12 26 a0).toInt ≤ (q_I d76 12 4 a0).toInt by first | assumption | omega) (show 0 ≤ (q_I d76 12 7 a0).toInt by first | assumption | omega) (show (q_I d76 12 7 a0).toInt ≤ 7 by first | assumption | omega) (show (q_I d76 12 7 a0).toInt = 7 → 0 ≤ (q_I d76 12 5 a0).toInt by first | assumption | omega) (show 8 - (q_I d76 12 7 a0).toInt ≤ K by first | assumption | omega) i78) (fun r88 hr89 => ?_)
        obtain ⟨i112, ⟨u119, u120, u121⟩, p113, p114, p115, p116, p117, p118⟩ := hr89
        have u122 := kp_t u84 u119
        have v123 : q_V r88 = q_V δ := (u120).trans v85
        have v124 := kr_t v86 u121
        have f125 := cb_12_4 i112 k_a0
        have f126 := cb_12_5 i112 k_a0
        have f127 := ti_b (q_I r88 12 7 a0)
        have f128 := cb_12_26 i112 k_a0
        have us129 : US ad a0 δ r88 := US.pre us87 p118
        refine ok_ite (fun h130 => ?_) (fun h130 => ?_)
        · have c131 : r48.1.toInt = (43 : Int) := o_eq h130
          unfold J_X12_sum_62
          have f134 := cb_12_24 i112 k_a0
          have f135 : (q_I r88 12 24 a0).toInt = (q_I d76 12 24 a0).toInt := congrArg Int32.toInt (u119 12 24 a0 (by decide))
          refine ok_bind (k_X12_emit L hN (a0 := a0) (x1 := (6 : Int32)) (x2 := (0 : Int32)) k_a0 (show (q_I r88 12 24 a0).toInt ≤ 3 by first | assumption | omega) (show (q_I r88 12 5 a0).toInt < 0 → (q_I r88 12 26 a0).toInt < 500 by first | assumption | omega) i112) (fun r132 hr133 => ?_)
          obtain ⟨i136, ⟨u141, u142, u143⟩, p137, p138, p139, p140⟩ := hr133
          have u144 := kp_t u122 u141
          have v145 : q_V r132 = q_V δ := (u142).trans v123
          have v146 := kr_t v124 u143
          have f147 := cb_12_26 i136 k_a0
          have us148 : LU ad a0 δ r132 := LU.em us129 p140 (by decide)
          have f149 := cb_12_24 i136 k_a0
          have f150 : (q_I r132 12 24 a0).toInt = (q_I r88 12 24 a0).toInt := congrArg Int32.toInt (u141 12 24 a0 (by decide))
          have f151 := cb_12_4 i136 k_a0
          have f152 : (q_I r132 12 4 a0).toInt = (q_I r88 12 4 a0).toInt := congrArg Int32.toInt (u141 12 4 a0 (by decide))
          have f153 := ti_b (q_I r132 12 7 a0)
          have f154 : (q_I r132 12 7 a0).toInt = (q_I r88 12 7 a0).toInt := congrArg Int32.toInt (u141 12 7 a0 (by decide))
          have f155 := cb_12_5 i136 k_a0
          have f156 : (q_I r132 12 5 a0).toInt = (q_I r88 12 5 a0).toInt := congrArg Int32.toInt (u141 12 5 a0 (by decide))
          refine ok_mono (ih r132 i136 (show (q_I r132 12 24 a0).toInt ≤ 3 by first | assumption | omega) (show (q_I r132 12 26 a0).toInt ≤ (q_I r132 12 4 a0).toInt by first | assumption | omega) (show 0 ≤ (q_I r132 12 7 a0).toInt by first | assumption | omega) (show (q_I r132 12 7 a0).toInt ≤ 7 by first | assumption | omega) (show (q_I r132 12 7 a0).toInt = 7 → 0 ≤ (q_I r132 12 5 a0).toInt by first | assumption | omega) (show 8 - (q_I r132 12 7 a0).toInt ≤ K by first | assumption | omega) (show 501 - (q_I r132 12 4 a0).toInt < _ by omega)) (fun r157 hr158 => ?_)
          obtain ⟨i159, ⟨u166, u167, u168⟩, p160, p161, p162, p163, p164, p165⟩ := hr158
          have u169 := kp_t u144 u166
          have v170 : q_V r157 = q_V δ := (u167).trans v145
          have v171 := kr_t v146 u168
          have f172 := cb_12_4 i159 k_a0
          have f173 := cb_12_5 i159 k_a0
          have f174 := ti_b (q_I r157 12 7 a0)
          have f175 := cb_12_26 i159 k_a0
          have us176 : LU ad a0 δ r157 := LU.t us148 p165
          exact ⟨by assumption, ⟨kp_w (by decide) u169, v170, kr_w (by decide) v171⟩, by first | assumption | omega, by first | assumption | omega, by first | assumption | omega, by first | assumption | omega, by first | assumption | omega, us176⟩
        · have c177 : r48.1.toInt ≠ (43 : Int) := o_ne h130
          unfold J_X12_sum_62
          have f180 := cb_12_24 i112 k_a0
          have f181 : (q_I r88 12 24 a0).toInt = (q_I d76 12 24 a0).toInt := congrArg Int32.toInt (u119 12 24 a0 (by decide))
          refine ok_bind (k_X12_emit L hN (a0 := a0) (x1 := (7 : Int32)) (x2 := (0 : Int32)) k_a0 (show (q_I r88 12 24 a0).toInt ≤ 3 by first | assumption | omega) (show (q_I r88 12 5 a0).toInt < 0 → (q_I r88 12 26 a0).toInt < 500 by first | assumption | omega) i112) (fun r178 hr179 => ?_)
          obtain ⟨i182, ⟨u187, u188, u189⟩, p183, p184, p185, p186⟩ := hr179
          have u190 := kp_t u122 u187
          have v191 : q_V r178 = q_V δ := (u188).trans v123
          have v192 := kr_t v124 u189
          have f193 := cb_12_26 i182 k_a0
          have us194 : LU ad a0 δ r178 := LU.em us129 p186 (by decide)
          have f195 := cb_12_24 i182 k_a0
          have f196 : (q_I r178 12 24 a0).toInt = (q_I r88 12 24 a0).toInt := congrArg Int32.toInt (u187 12 24 a0 (by decide))
          have f197 := cb_12_4 i182 k_a0
          have f198 : (q_I r178 12 4 a0).toInt = (q_I r88 12 4 a0).toInt := congrArg Int32.toInt (u187 12 4 a0 (by decide))
          have f199 := ti_b (q_I r178 12 7 a0)
          have f200 : (q_I r178 12 7 a0).toInt = (q_I r88 12 7 a0).toInt := congrArg Int32.toInt (u187 12 7 a0 (by decide))
          have f201 := cb_12_5 i182 k_a0
          have f202 : (q_I r178 12 5 a0).toInt = (q_I r88 12 5 a0).toInt := congrArg Int32.toInt (u187 12 5 a0 (by decide))
          refine ok_mono (ih r178 i182 (show (q_I r178 12 24 a0).toInt ≤ 3 by first | assumption | omega) (show (q_I r178 12 26 a0).toInt ≤ (q_I r178 12 4 a0).toInt by first | assumption | omega) (show 0 ≤ (q_I r178 12 7 a0).toInt by first | assumption | omega) (show (q_I r178 12 7 a0).toInt ≤ 7 by first | assumption | omega) (show (q_I r178 12 7 a0).toInt = 7 → 0 ≤ (q_I r178 12 5 a0).toInt by first | assumption | omega) (show 8 - (q_I r178 12 7 a0).toInt ≤ K by first | assumption | omega) (show 501 - (q_I r178 12 4 a0).toInt < _ by omega)) (fun r203 hr204 => ?_)
          obtain ⟨i205, ⟨u212, u213, u214⟩, p206, p207, p208, p209, p210, p211⟩ := hr204
          have u215 := kp_t u190 u212
          have v216 : q_V r203 = q_V δ := (u213).trans v191
          have v217 := kr_t v192 u214
          have f218 := cb_12_4 i205 k_a0
          have f219 := cb_12_5 i205 k_a0
          have f220 := ti_b (q_I r203 12 7 a0)
          have f221 := cb_12_26 i205 k_a0
          have us222 : LU ad a0 δ r203 := LU.t us194 p211
          exact ⟨by assumption, ⟨kp_w (by decide) u215, v216, kr_w (by decide) v217⟩, by first | assumption | omega, by first | assumption | omega, by first | assumption | omega, by first | assumption | omega, by first | assumption | omega, us222⟩
      · have c223 : r18.1.toInt ≠ (43 : Int) := o_ne h46
        refine ok_bind (k_X12_here L hN (a0 := a0) k_a0 i20) (fun r224 hr225 => ?_)
        obtain ⟨i226, ⟨u230, u231, u232, u233⟩, p227, p228, p229⟩ := hr225
        have u234 := kp_t u28 u230
        have v235 : q_V r224.2 = q_V δ := (u231).trans v29
        have v236 := kr_t v30 u233
        have f237 := cb_12_4 i226 k_a0
        have f238 : hc ad r224.2 a0 = (q_R r224.2 (Ad ad 101) (q_I r224.2 12 4 a0).toNatClampNeg).toInt := rfl
        have t239 := ti_tn (q_I r224.2 12 4 a0)
        have f240 : (q_R r224.2 (Ad ad 101) (q_I r224.2 12 4 a0).toNatClampNeg).toInt = (q_R r18.2 (Ad ad 101) (q_I r224.2 12 4 a0).toNatClampNeg).toInt := congrArg Int32.toInt (congrFun (u233 101 (by decide) (by decide) (by decide)) _)
        have f241 : (q_R r18.2 (Ad ad 101) (q_I r224.2 12 4 a0).toNatClampNeg).toInt = (q_R δ (Ad ad 101) (q_I r224.2 12 4 a0).toNatClampNeg).toInt := congrArg Int32.toInt (congrFun (u27 101 (by decide) (by decide) (by decide)) _)
        have f242 := ti_b (q_R δ (Ad ad 101) (q_I r224.2 12 4 a0).toNatClampNeg)
        have f243 := ti_b (q_R r18.2 (Ad ad 101) (q_I r224.2 12 4 a0).toNatClampNeg)
        have f244 := ti_b (q_R r224.2 (Ad ad 101) (q_I r224.2 12 4 a0).toNatClampNeg)
        have f245 := ti_b r224.1
        have f246 := cb_12_3 i20 k_a0
        have f247 : (q_I r18.2 12 3 a0).toInt = (q_I δ 12 3 a0).toInt := congrArg Int32.toInt (u24 12 3 a0 (by decide))
        have f248 := ti_b r224.1
        have f249 := cb_12_5 i226 k_a0
        have f250 : (q_I r224.2 12 5 a0).toInt = (q_I r18.2 12 5 a0).toInt := congrArg Int32.toInt (u230 12 5 a0 (by decide))
        have us251 : NU ad a0 δ r224.2 := NU.t us45 (show NU ad a0 r18.2 r224.2 from ⟨u233 116 (by decide) (by decide) (by decide), u230 12 26 _ (by decide), u230 12 24 _ (by decide), fun z => by omega⟩)
        refine ok_ite (fun h252 => ?_) (fun h252 => ?_)
        · have c253 : r224.1.toInt = (45 : Int) := o_eq h252
          unfold J_X12_sum_29
          refine ok_bind (k_X12_here L hN (a0 := a0) k_a0 i226) (fun r254 hr255 => ?_)
          obtain ⟨i256, ⟨u260, u261, u262, u263⟩, p257, p258, p259⟩ := hr255
          have u264 := kp_t u234 u260
          have v265 : q_V r254.2 = q_V δ := (u261).trans v235
          have v266 := kr_t v236 u263
          have f267 := cb_12_4 i256 k_a0
          have f268 : hc ad r254.2 a0 = (q_R r254.2 (Ad ad 101) (q_I r254.2 12 4 a0).toNatClampNeg).toInt := rfl
          have t269 := ti_tn (q_I r254.2 12 4 a0)
          have f270 : (q_R r254.2 (Ad ad 101) (q_I r254.2 12 4 a0).toNatClampNeg).toInt = (q_R r224.2 (Ad ad 101) (q_I r254.2 12 4 a0).toNatClampNeg).toInt := congrArg Int32.toInt (congrFun (u263 101 (by decide) (by decide) (by decide)) _)
          have f271 : (q_R r224.2 (Ad ad 101) (q_I r254.2 12 4 a0).toNatClampNeg).toInt = (q_R r18.2 (Ad ad 101) (q_I r254.2 12 4 a0).toNatClampNeg).toInt := congrArg Int32.toInt (congrFun (u233 101 (by decide) (by decide) (by decide)) _)
          have f272 : (q_R r18.2 (Ad ad 101) (q_I r254.2 12 4 a0).toNatClampNeg).toInt = (q_R δ (Ad ad 101) (q_I r254.2 12 4 a0).toNatClampNeg).toInt := congrArg Int32.toInt (congrFun (u27 101 (by decide) (by decide) (by decide)) _)
          have f273 := ti_b (q_R δ (Ad ad 101) (q_I r254.2 12 4 a0).toNatClampNeg)
          have f274 := ti_b (q_R r18.2 (Ad ad 101) (q_I r254.2 12 4 a0).toNatClampNeg)
          have f275 := ti_b (q_R r224.2 (Ad ad 101) (q_I r254.2 12 4 a0).toNatClampNeg)
          have f276 := ti_b (q_R r254.2 (Ad ad 101) (q_I r254.2 12 4 a0).toNatClampNeg)
          have f277 := ti_b r254.1
          have f278 := cb_12_3 i226 k_a0
          have f279 : (q_I r224.2 12 3 a0).toInt = (q_I r18.2 12 3 a0).toInt := congrArg Int32.toInt (u230 12 3 a0 (by decide))
          have f280 := ti_b r254.1
          have f281 := cb_12_5 i256 k_a0
          have f282 : (q_I r254.2 12 5 a0).toInt = (q_I r224.2 12 5 a0).toInt := congrArg Int32.toInt (u260 12 5 a0 (by decide))
          have us283 : NU ad a0 δ r254.2 := NU.t us251 (show NU ad a0 r224.2 r254.2 from ⟨u263 116 (by decide) (by decide) (by decide), u260 12 26 _ (by decide), u260 12 24 _ (by decide), fun z => by omega⟩)
          first | (have q288 := te_addc (c := 1) (n := 1) rfl (q_I r254.2 12 4 a0) (by omega) (by omega); obtain ⟨f289, f290, f291⟩ := q288) | (obtain ⟨q288, f289, f290, f291⟩ := ti_addc (c := 1) (n := 1) rfl (q_I r254.2 12 4 a0))
          refine ok_bdv (fun d284 e285 => ?_)
          have i286 : RI ad h.1 δ0 d284 := by rw [e285]; exact cs_12_4 L i256 k_a0 (show 0 ≤ ((q_I r254.2 12 4 a0) + (1 : Int32)).toInt by omega) (show ((q_I r254.2 12 4 a0) + (1 : Int32)).toInt ≤ 500 by omega)
          have u292 := kp_I u264 e285
          have v293 : q_V d284 = q_V δ := ((show q_V d284 = q_V r254.2 by rw [e285]; rfl)).trans v265
          have v294 := kr_N v266 (show q_R d284 = q_R r254.2 by rw [e285]; rfl)
          have us295 : NU ad a0 δ d284 := NU.t us283 (show NU ad a0 r254.2 d284 from NU.w e285 (by decide))
          have f298 := cb_12_24 i286 k_a0
          have f299 : (q_I d284 12 24 a0).toInt = (q_I r254.2 12 24 a0).toInt := congrArg Int32.toInt (by rw [e285]; exact rI_o (by decide))
          have f300 := cb_12_24 i256 k_a0
          have f301 : (q_I r254.2 12 24 a0).toInt = (q_I r224.2 12 24 a0).toInt := congrArg Int32.toInt (u260 12 24 a0 (by decide))
          have f302 := cb_12_24 i226 k_a0
          have f303 : (q_I r224.2 12 24 a0).toInt = (q_I r18.2 12 24 a0).toInt := congrArg Int32.toInt (u230 12 24 a0 (by decide))
          have f304 := cb_12_24 i20 k_a0
          have f305 : (q_I r18.2 12 24 a0).toInt = (q_I δ 12 24 a0).toInt := congrArg Int32.toInt (u24 12 24 a0 (by decide))
          have f306 := cb_12_26 i286 k_a0
          have f307 : (q_I d284 12 26 a0).toInt = (q_I r254.2 12 26 a0).toInt := congrArg Int32.toInt (by rw [e285]; exact rI_o (by decide))
          have f308 := cb_12_26 i256 k_a0
          have f309 : (q_I r254.2 12 26 a0).toInt = (q_I r224.2 12 26 a0).toInt := congrArg Int32.toInt (u260 12 26 a0 (by decide))
          have f310 := cb_12_26 i226 k_a0
          have f311 : (q_I r224.2 12 26 a0).toInt = (q_I r18.2 12 26 a0).toInt := congrArg Int32.toInt (u230 12 26 a0 (by decide))
          have f312 := cb_12_26 i20 k_a0
          have f313 : (q_I r18.2 12 26 a0).toInt = (q_I δ 12 26 a0).toInt := congrArg Int32.toInt (u24 12 26 a0 (by decide))
          have f314 := cb_12_4 i286 k_a0
          have f315 : (q_I d284 12 4 a0).toInt = ((q_I r254.2 12 4 a0) + (1 : Int32)).toInt := congrArg Int32.toInt (show q_I d284 12 4 a0 = ((q_I r254.2 12 4 a0) + (1 : Int32)) by rw [e285]; exact rI_s)
          have f316 := ti_b (q_I d284 12 7 a0)
          have f317 : (q_I d284 12 7 a0).toInt = (q_I r254.2 12 7 a0).toInt := congrArg Int32.toInt (by rw [e285]; exact rI_o (by decide))
          have f318 := ti_b (q_I r254.2 12 7 a0)
          have f319 : (q_I r254.2 12 7 a0).toInt = (q_I r224.2 12 7 a0).toInt := congrArg Int32.toInt (u260 12 7 a0 (by decide))
          have f320 := ti_b (q_I r224.2 12 7 a0)
          have f321 : (q_I r224.2 12 7 a0).toInt = (q_I r18.2 12 7 a0).toInt := congrArg Int32.toInt (u230 12 7 a0 (by decide))
          have f322 := ti_b (q_I r18.2 12 7 a0)
          have f323 : (q_I r18.2 12 7 a0).toInt = (q_I δ 12 7 a0).toInt := congrArg Int32.toInt (u24 12 7 a0 (by decide))
          have f324 := cb_12_5 i286 k_a0
          have f325 : (q_I d284 12 5 a0).toInt = (q_I r254.2 12 5 a0).toInt := congrArg Int32.toInt (by rw [e285]; exact rI_o (by decide))
          refine ok_bind (k_bX12_product L hN (a0 := a0) hT k_a0 (show (q_I d284 12 24 a0).toInt ≤ 3 by first | assumption | omega) (show (q_I d284 12 26 a0).toInt ≤ (q_I d284 12 4 a0).toInt by first | assumption | omega) (show 0 ≤ (q_I d284 12 7 a0).toInt by first | assumption | omega) (show (q_I d284 12 7 a0).toInt ≤ 7 by first | assumption | omega) (show (q_I d284 12 7 a0).toInt = 7 → 0 ≤ (q_I d284 12 5 a0).toInt by first | assumption | omega) (show 8 - (q_I d284 12 7 a0).toInt ≤ K by first | assumption | omega) i286) (fun r296 hr297 => ?_)
          obtain ⟨i326, ⟨u333, u334, u335⟩, p327, p328, p329, p330, p331, p332⟩ := hr297
          have u336 := kp_t u292 u333
          have v337 : q_V r296 = q_V δ := (u334).trans v293
          have v338 := kr_t v294 u335
          have f339 := cb_12_4 i326 k_a0
          have f340 := cb_12_5 i326 k_a0
          have f341 := ti_b (q_I r296 12 7 a0)
          have f342 := cb_12_26 i326 k_a0
          have us343 : US ad a0 δ r296 := US.pre us295 p332
          refine ok_ite (fun h344 => ?_) (fun h344 => ?_)
          · have c345 : r254.1.toInt = (43 : Int) := o_eq h344
            unfold J_X12_sum_62
            have f348 := cb_12_24 i326 k_a0
            have f349 : (q_I r296 12 24 a0).toInt = (q_I d284 12 24 a0).toInt := congrArg Int32.toInt (u333 12 24 a0 (by decide))
            refine ok_bind (k_X12_emit L hN (a0 := a0) (x1 := (6 : Int32)) (x2 := (0 : Int32)) k_a0 (show (q_I r296 12 24 a0).toInt ≤ 3 by first | assumption | omega) (show (q_I r296 12 5 a0).toInt < 0 → (q_I r296 12 26 a0).toInt < 500 by first | assumption | omega) i326) (fun r346 hr347 => ?_)
            obtain ⟨i350, ⟨u355, u356, u357⟩, p351, p352, p353, p354⟩ := hr347
            have u358 := kp_t u336 u355
            have v359 : q_V r346 = q_V δ := (u356).trans v337
            have v360 := kr_t v338 u357
            have f361 := cb_12_26 i350 k_a0
            have us362 : LU ad a0 δ r346 := LU.em us343 p354 (by decide)
            have f363 := cb_12_24 i350 k_a0
            have f364 : (q_I r346 12 24 a0).toInt = (q_I r296 12 24 a0).toInt := congrArg Int32.toInt (u355 12 24 a0 (by decide))
            have f365 := cb_12_4 i350 k_a0
            have f366 : (q_I r346 12 4 a0).toInt = (q_I r296 12 4 a0).toInt := congrArg Int32.toInt (u355 12 4 a0 (by decide))
            have f367 := ti_b (q_I r346 12 7 a0)
            have f368 : (q_I r346 12 7 a0).toInt = (q_I r296 12 7 a0).toInt := congrArg Int32.toInt (u355 12 7 a0 (by decide))
            have f369 := cb_12_5 i350 k_a0
            have f370 : (q_I r346 12 5 a0).toInt = (q_I r296 12 5 a0).toInt := congrArg Int32.toInt (u355 12 5 a0 (by decide))
            refine ok_mono (ih r346 i350 (show (q_I r346 12 24 a0).toInt ≤ 3 by first | assumption | omega) (show (q_I r346 12 26 a0).toInt ≤ (q_I r346 12 4 a0).toInt by first | assumption | omega) (show 0 ≤ (q_I r346 12 7 a0).toInt by first | assumption | omega) (show (q_I r346 12 7 a0).toInt ≤ 7 by first | assumption | omega) (show (q_I r346 12 7 a0).toInt = 7 → 0 ≤ (q_I r346 12 5 a0).toInt by first | assumption | omega) (show 8 - (q_I r346 12 7 a0).toInt ≤ K by first | assumption | omega) (show 501 - (q_I r346 12 4 a0).toInt < _ by omega)) (fun r371 hr372 => ?_)
            obtain ⟨i373, ⟨u380, u381, u382⟩, p374, p375, p376, p377, p378, p379⟩ := hr372
            have u383 := kp_t u358 u380
            have v384 : q_V r371 = q_V δ := (u381).trans v359
            have v385 := kr_t v360 u382
            have f386 := cb_12_4 i373 k_a0
            have f387 := cb_12_5 i373 k_a0
            have f388 := ti_b (q_I r371 12 7 a0)
            have f389 := cb_12_26 i373 k_a0
            have us390 : LU ad a0 δ r371 := LU.t us362 p379
            exact ⟨by assumption, ⟨kp_w (by decide) u383, v384, kr_w (by decide) v385⟩, by first | assumption | omega, by first | assumption | omega, by first | assumption | omega, by first | assumption | omega, by first | assumption | omega, us390⟩
          · have c391 : r254.1.toInt ≠ (43 : Int) := o_ne h344
            unfold J_X12_sum_62
            have f394 := cb_12_24 i326 k_a0
            have f395 : (q_I r296 12 24 a0).toInt = (q_I d284 12 24 a0).toInt := congrArg Int32.toInt (u333 12 24 a0 (by decide))
            refine ok_bind (k_X12_emit L hN (a0 := a0) (x1 := (7 : Int32)) (x2 := (0 : Int32)) k_a0 (show (q_I r296 12 24 a0).toInt ≤ 3 by first | assumption | omega) (show (q_I r296 12 5 a0).toInt < 0 → (q_I r296 12 26 a0).toInt < 500 by first | assumption | omega) i326) (fun r392 hr393 => ?_)
            obtain ⟨i396, ⟨u401, u402, u403⟩, p397, p398, p399, p400⟩ := hr393
            have u404 := kp_t u336 u401
            have v405 : q_V r392 = q_V δ := (u402).trans v337
            have v406 := kr_t v338 u403
            have f407 := cb_12_26 i396 k_a0
            have us408 : LU ad a0 δ r392 := LU.em us343 p400 (by decide)
            have f409 := cb_12_24 i396 k_a0
            have f410 : (q_I r392 12 24 a0).toInt = (q_I r296 12 24 a0).toInt := congrArg Int32.toInt (u401 12 24 a0 (by decide))
            have f411 := cb_12_4 i396 k_a0
            have f412 : (q_I r392 12 4 a0).toInt = (q_I r296 12 4 a0).toInt := congrArg Int32.toInt (u401 12 4 a0 (by decide))
            have f413 := ti_b (q_I r392 12 7 a0)
            have f414 : (q_I r392 12 7 a0).toInt = (q_I r296 12 7 a0).toInt := congrArg Int32.toInt (u401 12 7 a0 (by decide))
            have f415 := cb_12_5 i396 k_a0
            have f416 : (q_I r392 12 5 a0).toInt = (q_I r296 12 5 a0).toInt := congrArg Int32.toInt (u401 12 5 a0 (by decide))
            refine ok_mono (ih r392 i396 (show (q_I r392 12 24 a0).toInt ≤ 3 by first | assumption | omega) (show (q_I r392 12 26 a0).toInt ≤ (q_I r392 12 4 a0).toInt by first | assumption | omega) (show 0 ≤ (q_I r392 12 7 a0).toInt by first | assumption | omega) (show (q_I r392 12 7 a0).toInt ≤ 7 by first | assumption | omega) (show (q_I r392 12 7 a0).toInt = 7 → 0 ≤ (q_I r392 12 5 a0).toInt by first | assumption | omega) (show 8 - (q_I r392 12 7 a0).toInt ≤ K by first | assumption | omega) (show 501 - (q_I r392 12 4 a0).toInt < _ by omega)) (fun r417 hr418 => ?_)
            obtain ⟨i419, ⟨u426, u427, u428⟩, p420, p421, p422, p423, p424, p425⟩ := hr418
            have u429 := kp_t u404 u426
            have v430 : q_V r417 = q_V δ := (u427).trans v405
            have v431 := kr_t v406 u428
            have f432 := cb_12_4 i419 k_a0
            have f433 := cb_12_5 i419 k_a0
            have f434 := ti_b (q_I r417 12 7 a0)
            have f435 := cb_12_26 i419 k_a0
            have us436 : LU ad a0 δ r417 := LU.t us408 p425
            exact ⟨by assumption, ⟨kp_w (by decide) u429, v430, kr_w (by decide) v431⟩, by first | assumption | omega, by first | assumption | omega, by first | assumption | omega, by first | assumption | omega, by first | assumption | omega, us436⟩
        · have c437 : r224.1.toInt ≠ (45 : Int) := o_ne h252
          unfold J_X12_sum_69
          have f438 := ti_b (q_I r224.2 12 7 a0)
          have f439 : (q_I r224.2 12 7 a0).toInt = (q_I r18.2 12 7 a0).toInt := congrArg Int32.toInt (u230 12 7 a0 (by decide))
          have f440 := ti_b (q_I r18.2 12 7 a0)
          have f441 : (q_I r18.2 12 7 a0).toInt = (q_I δ 12 7 a0).toInt := congrArg Int32.toInt (u24 12 7 a0 (by decide))
          have f442 := cb_12_26 i226 k_a0
          have f443 : (q_I r224.2 12 26 a0).toInt = (q_I r18.2 12 26 a0).toInt := congrArg Int32.toInt (u230 12 26 a0 (by decide))
          have f444 := cb_12_26 i20 k_a0
          have f445 : (q_I r18.2 12 26 a0).toInt = (q_I δ 12 26 a0).toInt := congrArg Int32.toInt (u24 12 26 a0 (by decide))
          exact ok_some (show RI ad h.1 δ0 r224.2 ∧ (kp [(12, 4), (12, 5), (12, 6), (12, 7), (12, 26)] δ r224.2 ∧ q_V r224.2 = q_V δ ∧ kr ad [116, 117] δ r224.2) ∧ (q_I δ 12 4 a0).toInt ≤ (q_I r224.2 12 4 a0).toInt ∧ (q_I δ 12 5 a0).toInt ≤ (q_I r224.2 12 5 a0).toInt ∧ (q_I r224.2 12 7 a0).toInt = (q_I δ 12 7 a0).toInt ∧ (q_I δ 12 26 a0).toInt ≤ (q_I r224.2 12 26 a0).toInt ∧ (q_I r224.2 12 26 a0).toInt - (q_I δ 12 26 a0).toInt ≤ (q_I r224.2 12 4 a0).toInt - (q_I δ 12 4 a0).toInt ∧ LU ad a0 δ r224.2 from ⟨i226, ⟨kp_w (by decide) u234, v235, kr_w (by decide) v236⟩, by first | assumption | omega, by first | assumption | omega, by first | assumption | omega, by first | assumption | omega, by first | assumption | omega, LU.n us251⟩)
set_option maxHeartbeats 4000000 in
theorem ke_X12_sum {ad : List Nat} {h : hp} (L : Lay TLx ad h) {δ0 : dp} {N : Nat} (hN : 10000000 ≤ N) : ∀ (k : Nat), ∀ (a0 : Nat) (δ : dp), q_K h.1 a0 = 12 → (q_I δ 12 24 a0).toInt ≤ 3 → (q_I δ 12 26 a0).toInt ≤ (q_I δ 12 4 a0).toInt → 0 ≤ (q_I δ 12 7 a0).toInt → (q_I δ 12 7 a0).toInt ≤ 7 → ((q_I δ 12 7 a0).toInt = 7 → 0 ≤ (q_I δ 12 5 a0).toInt) → 8 - (q_I δ 12 7 a0).toInt < (k : Int) → RI ad h.1 δ0 δ → ok (E_X12_sum N h.1 k a0 δ) (fun r => RI ad h.1 δ0 r ∧ (kp [(12, 4), (12, 5), (12, 6), (12, 7), (12, 26)] δ r ∧ q_V r = q_V δ ∧ kr ad [116, 117] δ r) ∧ (q_I δ 12 4 a0).toInt ≤ (q_I r 12 4 a0).toInt ∧ (q_I δ 12 5 a0).toInt ≤ (q_I r 12 5 a0).toInt ∧ (q_I r 12 7 a0).toInt = (q_I δ 12 7 a0).toInt ∧ (q_I δ 12 26 a0).toInt ≤ (q_I r 12 26 a0).toInt ∧ (q_I r 12 26 a0).toInt - (q_I δ 12 26 a0).toInt ≤ (q_I r 12 4 a0).toInt - (q_I δ 12 4 a0).toInt ∧ US ad a0 δ r) := by
  intro k
  induction k with
  | zero =>
    intro a0 δ k_a0 z0 z1 z2 z3 z4 hd I
    have f48 := ti_b (q_I δ 12 7 a0)
    exfalso; omega
  | succ k ih =>
    intro a0 δ k_a0 z0 z1 z2 z3 z4 hd I
    unfold E_X12_sum B_X12_sum
    have f1 := cb_12_24 I k_a0
    have f2 := cb_12_26 I k_a0
    have f3 := cb_12_4 I k_a0
    have f4 := ti_b (q_I δ 12 7 a0)
    have f5 := cb_12_5 I k_a0
    refine ok_bind (k_bX12_product L hN (a0 := a0) ih k_a0 (show (q_I δ 12 24 a0).toInt ≤ 3 by first | assumption | omega) (show (q_I δ 12 26 a0).toInt ≤ (q_I δ 12 4 a0).toInt by first | assumption | omega) (show 0 ≤ (q_I δ 12 7 a0).toInt by first | assumption | omega) (show (q_I δ 12 7 a0).toInt ≤ 7 by first | assumption | omega) (show (q_I δ 12 7 a0).toInt = 7 → 0 ≤ (q_I δ 12 5 a0).toInt by first | assumption | omega) (show 8 - (q_I δ 12 7 a0).toInt ≤ (k : Int) by first | assumption | omega) I) (fun r6 hr7 => ?_)
    obtain ⟨i8, ⟨u15, u16, u17⟩, p9, p10, p11, p12, p13, p14⟩ := hr7
    have u18 := kp_t kp_r u15
    have v19 : q_V r6 = q_V δ := (u16).trans rfl
    have v20 := kr_t (kr_r (ad := ad)) u17
    have f21 := cb_12_4 i8 k_a0
    have f22 := cb_12_5 i8 k_a0
    have f23 := ti_b (q_I r6 12 7 a0)
    have f24 := cb_12_26 i8 k_a0
    have us25 : US ad a0 δ r6 := US.pre NU.r p14
    have f26 := cb_12_24 i8 k_a0
    have f27 : (q_I r6 12 24 a0).toInt = (q_I δ 12 24 a0).toInt := congrArg Int32.toInt (u15 12 24 a0 (by decide))
    refine ok_mono (kl_X12_sum_4 L hN   ih k_a0 _ r6 i8 (show (q_I r6 12 24 a0).toInt ≤ 3 by first | assumption | omega) (show (q_I r6 12 26 a0).toInt ≤ (q_I r6 12 4 a0).toInt by first | assumption | omega) (show 0 ≤ (q_I r6 12 7 a0).toInt by first | assumption | omega) (show (q_I r6 12 7 a0).toInt ≤ 7 by first | assumption | omega) (show (q_I r6 12 7 a0).toInt = 7 → 0 ≤ (q_I r6 12 5 a0).toInt by first | assumption | omega) (show 8 - (q_I r6 12 7 a0).toInt ≤ (k : Int) by first | assumption | omega) (show 501 - (q_I r6 12 4 a0).toInt < _ by omega)) (fun r28 hr29 => ?_)
    obtain ⟨i30, ⟨u37, u38, u39⟩, p31, p32, p33, p34, p35, p36⟩ := hr29
    have u40 := kp_t u18 u37
    have v41 : q_V r28 = q_V δ := (u38).trans v19
    have v42 := kr_t v20 u39
    have f43 := cb_12_4 i30 k_a0
    have f44 := cb_12_5 i30 k_a0
    have f45 := ti_b (q_I r28 12 7 a0)
    have f46 := cb_12_26 i30 k_a0
    have us47 : US ad a0 δ r28 := US.l us25 p36
    exact ⟨by assumption, ⟨kp_w (by decide) u40, v41, kr_w (by decide) v42⟩, by first | assumption | omega, by first | assumption | omega, by first | assumption | omega, by first | assumption | omega, by first | assumption | omega, us47⟩
set_option maxHeartbeats 4000000 in
theorem k_X12_sum {ad : List Nat} {h : hp} (L : Lay TLx ad h) {δ0 : dp} {N : Nat} (hN : 10000000 ≤ N) {a0 : Nat} (k_a0 : q_K h.1 a0 = 12) {δ : dp} (z0 : (q_I δ 12 24 a0).toInt ≤ 3) (z1 : (q_I δ 12 26 a0).toInt ≤ (q_I δ 12 4 a0).toInt) (z2 : 0 ≤ (q_I δ 12 7 a0).toInt) (z3 : (q_I δ 12 7 a0).toInt ≤ 7) (z4 : (q_I δ 12 7 a0).toInt = 7 → 0 ≤ (q_I δ 12 5 a0).toInt) (hd : 8 - (q_I δ 12 7 a0).toInt < 20) (I : RI ad h.1 δ0 δ) : ok (D_X12_sum N h.1 a0 δ) (fun r => RI ad h.1 δ0 r ∧ (kp [(12, 4), (12, 5), (12, 6), (12, 7), (12, 26)] δ r ∧ q_V r = q_V δ ∧ kr ad [116, 117] δ r) ∧ (q_I δ 12 4 a0).toInt ≤ (q_I r 12 4 a0).toInt ∧ (q_I δ 12 5 a0).toInt ≤ (q_I r 12 5 a0).toInt ∧ (q_I r 12 7 a0).toInt = (q_I δ 12 7 a0).toInt ∧ (q_I δ 12 26 a0).toInt ≤ (q_I r 12 26 a0).toInt ∧ (q_I r 12 26 a0).toInt - (q_I δ 12 26 a0).toInt ≤ (q_I r 12 4 a0).toInt - (q_I δ 12 4 a0).toInt ∧ US ad a0 δ r) := ke_X12_sum L hN 20 a0 δ k_a0 z0 z1 z2 z3 z4 hd I
set_option maxHeartbeats 4000000 in
theorem k_X12_stepOf {ad : List Nat} {h : hp} (L : Lay TLx ad h) {δ0 : dp} {N : Nat} (hN : 10000000 ≤ N) {x0 : Int32} {δ : dp} (I : RI ad h.1 δ0 δ) : ok (D_X12_stepOf N h.1 x0 δ) (fun r => r.2 = δ ∧ -1 ≤ (r.1).toInt ∧ (r.1).toInt ≤ 5 ∧ ((r.1).toInt = -1 ∨ (x0).toInt ≠ 0)) := by
  unfold D_X12_stepOf
  refine ok_bind (k_X12_of L hN (a0 := 5) (show 5 < 16 by first | assumption | omega) I) (fun r1 hr2 => ?_)
  obtain ⟨i3, p4⟩ := hr2
  try rw [i3]
  have f5 := ti_b r1.1
  have f6 := ti_b r1.1
  have f7 := ti_b x0
  refine ok_ite (fun h8 => ?_) (fun h8 => ?_)
  · have c9 : x0.toInt = r1.1.toInt := o_eq h8
    unfold J_X12_stepOf_79
    exact ok_some (show δ = δ ∧ -1 ≤ (0 : Int) ∧ (0 : Int) ≤ 5 ∧ ((0 : Int) = -1 ∨ (x0).toInt ≠ 0) from ⟨rfl, by first | assumption | omega, by first | assumption | omega, by first | assumption | omega⟩)
  · have c10 : x0.toInt ≠ r1.1.toInt := o_ne h8
    refine ok_bind (k_X12_of L hN (a0 := 6) (show 6 < 16 by first | assumption | omega) I) (fun r11 hr12 => ?_)
    obtain ⟨i13, p14⟩ := hr12
    try rw [i13]
    have f15 := ti_b r11.1
    have f16 := ti_b r11.1
    refine ok_ite (fun h17 => ?_) (fun h17 => ?_)
    · have c18 : x0.toInt = r11.1.toInt := o_eq h17
      unfold J_X12_stepOf_79
      exact ok_some (show δ = δ ∧ -1 ≤ (1 : Int) ∧ (1 : Int) ≤ 5 ∧ ((1 : Int) = -1 ∨ (x0).toInt ≠ 0) from ⟨rfl, by first | assumption | omega, by first | assumption | omega, by first | assumption | omega⟩)
    · have c19 : x0.toInt ≠ r11.1.toInt := o_ne h17
      refine ok_bind (k_X12_of L hN (a0 := 7) (show 7 < 16 by first | assumption | omega) I) (fun r20 hr21 => ?_)
      obtain ⟨i22, p23⟩ := hr21
      try rw [i22]
      have f24 := ti_b r20.1
      have f25 := ti_b r20.1
      refine ok_ite (fun h26 => ?_) (fun h26 => ?_)
      · have c27 : x0.toInt = r20.1.toInt := o_eq h26
        unfold J_X12_stepOf_79
        exact ok_some (show δ = δ ∧ -1 ≤ (2 : Int) ∧ (2 : Int) ≤ 5 ∧ ((2 : Int) = -1 ∨ (x0).toInt ≠ 0) from ⟨rfl, by first | assumption | omega, by first | assumption | omega, by first | assumption | omega⟩)
      · have c28 : x0.toInt ≠ r20.1.toInt := o_ne h26
        refine ok_bind (k_X12_of L hN (a0 := 8) (show 8 < 16 by first | assumption | omega) I) (fun r29 hr30 => ?_)
        obtain ⟨i31, p32⟩ := hr30
        try rw [i31]
        have f33 := ti_b r29.1
        have f34 := ti_b r29.1
        refine ok_ite (fun h35 => ?_) (fun h35 => ?_)
        · have c36 : x0.toInt = r29.1.toInt := o_eq h35
          unfold J_X12_stepOf_79
          exact ok_some (show δ = δ ∧ -1 ≤ (3 : Int) ∧ (3 : Int) ≤ 5 ∧ ((3 : Int) = -1 ∨ (x0).toInt ≠ 0) from ⟨rfl, by first | assumption | omega, by first | assumption | omega, by first | assumption | omega⟩)
        · have c37 : x0.toInt ≠ r29.1.toInt := o_ne h35
          refine ok_bind (k_X12_of L hN (a0 := 9) (show 9 < 16 by first | assumption | omega) I) (fun r38 hr39 => ?_)
          obtain ⟨i40, p41⟩ := hr39
          try rw [i40]
          have f42 := ti_b r38.1
          have f43 := ti_b r38.1
          refine ok_ite (fun h44 => ?_) (fun h44 => ?_)
          · have c45 : x0.toInt = r38.1.toInt := o_eq h44
            unfold J_X12_stepOf_79
            exact ok_some (show δ = δ ∧ -1 ≤ (4 : Int) ∧ (4 : Int) ≤ 5 ∧ ((4 : Int) = -1 ∨ (x0).toInt ≠ 0) from ⟨rfl, by first | assumption | omega, by first | assumption | omega, by first | assumption | omega⟩)
          · have c46 : x0.toInt ≠ r38.1.toInt := o_ne h44
            refine ok_bind (k_X12_of L hN (a0 := 10) (show 10 < 16 by first | assumption | omega) I) (fun r47 hr48 => ?_)
            obtain ⟨i49, p50⟩ := hr48
            try rw [i49]
            have f51 := ti_b r47.1
            have f52 := ti_b r47.1
            refine ok_ite (fun h53 => ?_) (fun h53 => ?_)
            · have c54 : x0.toInt = r47.1.toInt := o_eq h53
              unfold J_X12_stepOf_79
              exact ok_some (show δ = δ ∧ -1 ≤ (5 : Int) ∧ (5 : Int) ≤ 5 ∧ ((5 : Int) = -1 ∨ (x0).toInt ≠ 0) from ⟨rfl, by first | assumption | omega, by first | assumption | omega, by first | assumption | omega⟩)
            · have c55 : x0.toInt ≠ r47.1.toInt := o_ne h53
              unfold J_X12_stepOf_79
              exact ok_some (show δ = δ ∧ -1 ≤ (-1 : Int) ∧ (-1 : Int) ≤ 5 ∧ ((-1 : Int) = -1 ∨ (x0).toInt ≠ 0) from ⟨rfl, by first | assumption | omega, by first | assumption | omega, by first | assumption | omega⟩)
