/-! 79.y.v12e (by gen_safe.py) -/
set_option maxHeartbeats 4000000 in
theorem k_bX12_unit {ad : List Nat} {h : hp} (L : Lay TLx ad h) {δ0 : dp} {N : Nat} (hN : 10000000 ≤ N) {T : Nat → dp → Option (dp)} {K : Int} (hT : ∀ (a0 : Nat) (δ : dp), q_K h.1 a0 = 12 → (q_I δ 12 24 a0).toInt ≤ 3 → (q_I δ 12 26 a0).toInt ≤ (q_I δ 12 4 a0).toInt → 0 ≤ (q_I δ 12 7 a0).toInt → (q_I δ 12 7 a0).toInt ≤ 7 → ((q_I δ 12 7 a0).toInt = 7 → 0 ≤ (q_I δ 12 5 a0).toInt) → 8 - (q_I δ 12 7 a0).toInt < K → RI ad h.1 δ0 δ → ok (T a0 δ) (fun r => RI ad h.1 δ0 r ∧ (kp [(12, 4), (12, 5), (12, 6), (12, 7), (12, 26)] δ r ∧ q_V r = q_V δ ∧ kr ad [116, 117] δ r) ∧ (q_I δ 12 4 a0).toInt ≤ (q_I r 12 4 a0).toInt ∧ (q_I δ 12 5 a0).toInt ≤ (q_I r 12 5 a0).toInt ∧ (q_I r 12 7 a0).toInt = (q_I δ 12 7 a0).toInt ∧ (q_I δ 12 26 a0).toInt ≤ (q_I r 12 26 a0).toInt ∧ (q_I r 12 26 a0).toInt - (q_I δ 12 26 a0).toInt ≤ (q_I r 12 4 a0).toInt - (q_I δ 12 4 a0).toInt ∧ US ad a0 δ r)) {a0 : Nat} (k_a0 : q_K h.1 a0 = 12) {δ : dp} (z0 : (q_I δ 12 24 a0).toInt ≤ 3) (z1 : (q_I δ 12 26 a0).toInt ≤ (q_I δ 12 4 a0).toInt) (z2 : 0 ≤ (q_I δ 12 7 a0).toInt) (z3 : (q_I δ 12 7 a0).toInt ≤ 7) (z4 : (q_I δ 12 7 a0).toInt = 7 → 0 ≤ (q_I δ 12 5 a0).toInt) (z5 : 8 - (q_I δ 12 7 a0).toInt ≤ K) (I : RI ad h.1 δ0 δ) : ok (B_X12_unit N h.1 T a0 δ) (fun r => RI ad h.1 δ0 r ∧ (kp [(12, 4), (12, 5), (12, 6), (12, 7), (12, 26)] δ r ∧ q_V r = q_V δ ∧ kr ad [116, 117] δ r) ∧ (q_I δ 12 4 a0).toInt ≤ (q_I r 12 4 a0).toInt ∧ (q_I δ 12 5 a0).toInt ≤ (q_I r 12 5 a0).toInt ∧ (q_I r 12 7 a0).toInt = (q_I δ 12 7 a0).toInt ∧ (q_I δ 12 26 a0).toInt ≤ (q_I r 12 26 a0).toInt ∧ (q_I r 12 26 a0).toInt - (q_I δ 12 26 a0).toInt ≤ (q_I r 12 4 a0).toInt - (q_I δ 12 4 a0).toInt ∧ US ad a0 δ r) := by
  unfold B_X12_unit
  have f1 := cb_12_24 I k_a0
  have f2 := cb_12_26 I k_a0
  have f3 := cb_12_4 I k_a0
  have f4 := ti_b (q_I δ 12 7 a0)
  have f5 := cb_12_5 I k_a0
  refine ok_bind (k_X12_fine L hN (a0 := a0) k_a0 I) (fun r6 hr7 => ?_)
  obtain ⟨i8, p9, p10, p11⟩ := hr7
  try rw [i8]
  have f12 := bo_l p9
  have f13 := ti_b r6.1
  have f14 := ti_b r6.1
  refine ok_ite (fun h15 => ?_) (fun h15 => ?_)
  · have c16 : r6.1.toInt = (0 : Int) := o_eq h15
    exact ok_some (show RI ad h.1 δ0 δ ∧ (kp [(12, 4), (12, 5), (12, 6), (12, 7), (12, 26)] δ δ ∧ q_V δ = q_V δ ∧ kr ad [116, 117] δ δ) ∧ (q_I δ 12 4 a0).toInt ≤ (q_I δ 12 4 a0).toInt ∧ (q_I δ 12 5 a0).toInt ≤ (q_I δ 12 5 a0).toInt ∧ (q_I δ 12 7 a0).toInt = (q_I δ 12 7 a0).toInt ∧ (q_I δ 12 26 a0).toInt ≤ (q_I δ 12 26 a0).toInt ∧ (q_I δ 12 26 a0).toInt - (q_I δ 12 26 a0).toInt ≤ (q_I δ 12 4 a0).toInt - (q_I δ 12 4 a0).toInt ∧ US ad a0 δ δ from ⟨I, ⟨kp_w (by decide) kp_r, rfl, kr_w (by decide) (kr_r (ad := ad))⟩, by first | assumption | omega, by first | assumption | omega, by first | assumption | omega, by first | assumption | omega, by first | assumption | omega, US.bad NU.r (by omega)⟩)
  · have c17 : r6.1.toInt ≠ (0 : Int) := o_ne h15
    refine ok_bind (k_X12_here L hN (a0 := a0) k_a0 I) (fun r18 hr19 => ?_)
    obtain ⟨i20, ⟨u24, u25, u26, u27⟩, p21, p22, p23⟩ := hr19
    have u28 := kp_t kp_r u24
    have v29 : q_V r18.2 = q_V δ := (u25).trans rfl
    have v30 := kr_t (kr_r (ad := ad)) u27
    have f31 := cb_12_4 i20 k_a0
    have f32 : hc ad r18.2 a0 = (q_R r18.2 (Ad ad 101) (q_I r18.2 12 4 a0).toNatClampNeg).toInt := rfl
    have t33 := ti_tn (q_I r18.2 12 4 a0)
    have f34 : (q_R r18.2 (Ad ad 101) (q_I r18.2 12 4 a0).toNatClampNeg).toInt = (q_R δ (Ad ad 101) (q_I r18.2 12 4 a0).toNatClampNeg).toInt := congrArg Int32.toInt (congrFun (u27 101 (by decide) (by decide) (by decide)) _)
    have f35 := ti_b (q_R δ (Ad ad 101) (q_I r18.2 12 4 a0).toNatClampNeg)
    have f36 := ti_b (q_R r18.2 (Ad ad 101) (q_I r18.2 12 4 a0).toNatClampNeg)
    have f37 := ti_b r18.1
    have f38 := cb_12_3 I k_a0
    have f39 : hc ad δ a0 = (q_R δ (Ad ad 101) (q_I δ 12 4 a0).toNatClampNeg).toInt := rfl
    have t40 := ti_tn (q_I δ 12 4 a0)
    have f41 := ti_b (q_R δ (Ad ad 101) (q_I δ 12 4 a0).toNatClampNeg)
    have f42 := ti_b r18.1
    have f43 := cb_12_5 i20 k_a0
    have f44 : (q_I r18.2 12 5 a0).toInt = (q_I δ 12 5 a0).toInt := congrArg Int32.toInt (u24 12 5 a0 (by decide))
    have us45 := NU.t NU.r (⟨u27 116 (by decide) (by decide) (by decide), u24 12 26 _ (by decide), u24 12 24 _ (by decide), fun z => by omega⟩)
    refine ok_bind (k_X12_isDigit L hN (x0 := r18.1)  i20) (fun r46 hr47 => ?_)
    obtain ⟨i48, p49, p50, p51⟩ := hr47
    try rw [i48]
    have f52 := bo_l p49
    have f53 := ti_b r46.1
    have f54 := ti_b r46.1
    refine ok_ite (fun h55 => ?_) (fun h55 => ?_)
    · have c56 : r46.1.toInt = (0 : Int) := o_eq h55
      refine ok_ite (fun h57 => ?_) (fun h57 => ?_)
      · have c58 : r18.1.toInt = (40 : Int) := o_eq h57
        have f59 := ti_b (q_I r18.2 12 7 a0)
        have f60 : (q_I r18.2 12 7 a0).toInt = (q_I δ 12 7 a0).toInt := congrArg Int32.toInt (u24 12 7 a0 (by decide))
        refine ok_ite (fun h61 => ?_) (fun h61 => ?_)
        · have c62 : (q_I r18.2 12 7 a0).toInt = (6 : Int) := o_eq h61
          refine ok_bind (k_X12_wrong L hN (a0 := a0) (x1 := (3 : Int32)) (x2 := (q_I r18.2 12 4 a0)) k_a0 (show 0 ≤ ((q_I r18.2 12 4 a0)).toInt by first | assumption | omega) (show ((q_I r18.2 12 4 a0)).toInt ≤ 500 by first | assumption | omega) i20) (fun r63 hr64 => ?_)
          obtain ⟨i65, ⟨u68, u69, u70, u71⟩, p66, p67⟩ := hr64
          have u72 := kp_t u28 u68
          have v73 : q_V r63 = q_V δ := (u69).trans v29
          have v74 := kr_t v30 u71
          have f75 := cb_12_5 i65 k_a0
          have us76 := NU.t us45 (⟨u71 116 (by decide) (by decide) (by decide), u68 12 26 _ (by decide), u68 12 24 _ (by decide), fun z => by omega⟩)
          unfold J_X12_unit_57
          refine ok_bind (k_X12_fine L hN (a0 := a0) k_a0 i65) (fun r77 hr78 => ?_)
          obtain ⟨i79, p80, p81, p82⟩ := hr78
          try rw [i79]
          have f83 := bo_l p80
          have f84 := ti_b r77.1
          have f85 := ti_b r77.1
          refine ok_ite (fun h86 => ?_) (fun h86 => ?_)
          · have c87 : r77.1.toInt = (0 : Int) := o_eq h86
            unfold J_X12_unit_74
            have f91 := ti_b (q_I r63 12 7 a0)
            have f92 : (q_I r63 12 7 a0).toInt = (q_I r18.2 12 7 a0).toInt := congrArg Int32.toInt (u68 12 7 a0 (by decide))
            first | (have q94 := te_addc (c := 1) (n := 1) rfl (q_I r63 12 7 a0) (by omega) (by omega); obtain ⟨f95, f96, f97⟩ := q94) | (obtain ⟨q94, f95, f96, f97⟩ := ti_addc (c := 1) (n := 1) rfl (q_I r63 12 7 a0))
            refine ok_bdv (fun d88 e89 => ?_)
            have i90 : RI ad h.1 δ0 d88 := by rw [e89]; exact cs_12_7 L i65
            have u98 := kp_I u72 e89
            have v99 : q_V d88 = q_V δ := ((show q_V d88 = q_V r63 by rw [e89]; rfl)).trans v73
            have v100 := kr_N v74 (show q_R d88 = q_R r63 by rw [e89]; rfl)
            have us101 := NU.t us76 (NU.w (ad := ad) e89 (by decide))
            have f104 := cb_12_24 i90 k_a0
            have f105 : (q_I d88 12 24 a0).toInt = (q_I r63 12 24 a0).toInt := congrArg Int32.toInt (by rw [e89]; exact rI_o (by decide))
            have f106 := cb_12_24 i65 k_a0
            have f107 : (q_I r63 12 24 a0).toInt = (q_I r18.2 12 24 a0).toInt := congrArg Int32.toInt (u68 12 24 a0 (by decide))
            have f108 := cb_12_24 i20 k_a0
            have f109 : (q_I r18.2 12 24 a0).toInt = (q_I δ 12 24 a0).toInt := congrArg Int32.toInt (u24 12 24 a0 (by decide))
            have f110 := cb_12_26 i90 k_a0
            have f111 : (q_I d88 12 26 a0).toInt = (q_I r63 12 26 a0).toInt := congrArg Int32.toInt (by rw [e89]; exact rI_o (by decide))
            have f112 := cb_12_26 i65 k_a0
            have f113 : (q_I r63 12 26 a0).toInt = (q_I r18.2 12 26 a0).toInt := congrArg Int32.toInt (u68 12 26 a0 (by decide))
            have f114 := cb_12_26 i20 k_a0
            have f115 : (q_I r18.2 12 26 a0).toInt = (q_I δ 12 26 a0).toInt := congrArg Int32.toInt (u24 12 26 a0 (by decide))
            have f116 := cb_12_4 i90 k_a0
            have f117 : (q_I d88 12 4 a0).toInt = (q_I r63 12 4 a0).toInt := congrArg Int32.toInt (by rw [e89]; exact rI_o (by decide))
            have f118 := cb_12_4 i65 k_a0
            have f119 : (q_I r63 12 4 a0).toInt = (q_I r18.2 12 4 a0).toInt := congrArg Int32.toInt (u68 12 4 a0 (by decide))
            have f120 := ti_b (q_I d88 12 7 a0)
            have f121 : (q_I d88 12 7 a0).toInt = ((q_I r63 12 7 a0) + (1 : Int32)).toInt := congrArg Int32.toInt (show q_I d88 12 7 a0 = ((q_I r63 12 7 a0) + (1 : Int32)) by rw [e89]; exact rI_s)
            have f122 := cb_12_5 i90 k_a0
            have f123 : (q_I d88 12 5 a0).toInt = (q_I r63 12 5 a0).toInt := congrArg Int32.toInt (by rw [e89]; exact rI_o (by decide))
            refine ok_bind (hT a0 d88 k_a0 (show (q_I d88 12 24 a0).toInt ≤ 3 by first | assumption | omega) (show (q_I d88 12 26 a0).toInt ≤ (q_I d88 12 4 a0).toInt by first | assumption | omega) (show 0 ≤ (q_I d88 12 7 a0).toInt by first | assumption | omega) (show (q_I d88 12 7 a0).toInt ≤ 7 by first | assumption | omega) (show (q_I d88 12 7 a0).toInt = 7 → 0 ≤ (q_I d88 12 5 a0).toInt by first | assumption | omega) (show 8 - (q_I d88 12 7 a0).toInt < _ by first | assumption | omega) i90) (fun r102 hr103 => ?_)
            obtain ⟨i124, ⟨u131, u132, u133⟩, p125, p126, p127, p128, p129, p130⟩ := hr103
            have u134 := kp_t u98 u131
            have v135 : q_V r102 = q_V δ := (u132).trans v99
            have v136 := kr_t v100 u133
            have f137 := cb_12_4 i124 k_a0
            have f138 := cb_12_5 i124 k_a0
            have f139 := ti_b (q_I r102 12 7 a0)
            have f140 := cb_12_26 i124 k_a0
            have us141 := US.pre us101 p130
            refine ok_bind (k_X12_sign L hN (a0 := a0) (x1 := (41 : Int32)) k_a0 (show (41 : Int) ≠ 0 by first | assumption | omega) i124) (fun r142 hr143 => ?_)
            obtain ⟨i144, ⟨u148, u149, u150, u151⟩, p145, p146, p147⟩ := hr143
            have u152 := kp_t u134 u148
            have v153 : q_V r142 = q_V δ := (u149).trans v135
            have v154 := kr_t v136 u151
            have f155 := cb_12_4 i144 k_a0
            have f156 := cb_12_5 i144 k_a0
            have us157 := US.post us141 (⟨u151 116 (by decide) (by decide) (by decide), u148 12 26 _ (by decide), u148 12 24 _ (by decide), fun z => by omega⟩)
            have f161 := ti_b (q_I r142 12 7 a0)
            have f162 : (q_I r142 12 7 a0).toInt = (q_I r102 12 7 a0).toInt := congrArg Int32.toInt (u148 12 7 a0 (by decide))
            first | (have q164 := te_subc (c := 1) (n := 1) rfl (q_I r142 12 7 a0) (by omega) (by omega); obtain ⟨f165, f166, f167⟩ := q164) | (obtain ⟨q164, f165, f166, f167⟩ := ti_subc (c := 1) (n := 1) rfl (q_I r142 12 7 a0))
            refine ok_bdv (fun d158 e159 => ?_)
            have i160 : RI ad h.1 δ0 d158 := by rw [e159]; exact cs_12_7 L i144
            have u168 := kp_I u152 e159
            have v169 : q_V d158 = q_V δ := ((show q_V d158 = q_V r142 by rw [e159]; rfl)).trans v153
            have v170 := kr_N v154 (show q_R d158 = q_R r142 by rw [e159]; rfl)
            have us171 := US.post us157 (NU.w (ad := ad) e159 (by decide))
            have f172 := cb_12_4 i160 k_a0
            have f173 : (q_I d158 12 4 a0).toInt = (q_I r142 12 4 a0).toInt := congrArg Int32.toInt (by rw [e159]; exact rI_o (by decide))
            have f174 := cb_12_5 i160 k_a0
            have f175 : (q_I d158 12 5 a0).toInt = (q_I r142 12 5 a0).toInt := congrArg Int32.toInt (by rw [e159]; exact rI_o (by decide))
            have f176 := ti_b (q_I d158 12 7 a0)
            have f177 : (q_I d158 12 7 a0).toInt = ((q_I r142 12 7 a0) - (1 : Int32)).toInt := congrArg Int32.toInt (show q_I d158 12 7 a0 = ((q_I r142 12 7 a0) - (1 : Int32)) by rw [e159]; exact rI_s)
            have f178 := cb_12_26 i160 k_a0
            have f179 : (q_I d158 12 26 a0).toInt = (q_I r142 12 26 a0).toInt := congrArg Int32.toInt (by rw [e159]; exact rI_o (by decide))
            have f180 := cb_12_26 i144 k_a0
            have f181 : (q_I r142 12 26 a0).toInt = (q_I r102 12 26 a0).toInt := congrArg Int32.toInt (u148 12 26 a0 (by decide))
            exact ok_some (show RI ad h.1 δ0 d158 ∧ (kp [(12, 4), (12, 5), (12, 6), (12, 7), (12, 26)] δ d158 ∧ q_V d158 = q_V δ ∧ kr ad [116, 117] δ d158) ∧ (q_I δ 12 4 a0).toInt ≤ (q_I d158 12 4 a0).toInt ∧ (q_I δ 12 5 a0).toInt ≤ (q_I d158 12 5 a0).toInt ∧ (q_I d158 12 7 a0).toInt = (q_I δ 12 7 a0).toInt ∧ (q_I δ 12 26 a0).toInt ≤ (q_I d158 12 26 a0).toInt ∧ (q_I d158 12 26 a0).toInt - (q_I δ 12 26 a0).toInt ≤ (q_I d158 12 4 a0).toInt - (q_I δ 12 4 a0).toInt ∧ US ad a0 δ d158 from ⟨i160, ⟨kp_w (by decide) u168, v169, kr_w (by decide) v170⟩, by first | assumption | omega, by first | assumption | omega, by first | assumption | omega, by first | assumption | omega, by first | assumption | omega, us171⟩)
          · have c182 : r77.1.toInt ≠ (0 : Int) := o_ne h86
            have f186 := cb_12_4 i65 k_a0
            have f187 : (q_I r63 12 4 a0).toInt = (q_I r18.2 12 4 a0).toInt := congrArg Int32.toInt (u68 12 4 a0 (by decide))
            first | (have q189 := te_addc (c := 1) (n := 1) rfl (q_I r63 12 4 a0) (by omega) (by omega); obtain ⟨f190, f191, f192⟩ := q189) | (obtain ⟨q189, f190, f191, f192⟩ := ti_addc (c := 1) (n := 1) rfl (q_I r63 12 4 a0))
            refine ok_bdv (fun d183 e184 => ?_)
            have i185 : RI ad h.1 δ0 d183 := by rw [e184]; exact cs_12_4 L i65 k_a0 (show 0 ≤ ((q_I r63 12 4 a0) + (1 : Int32)).toInt by omega) (show ((q_I r63 12 4 a0) + (1 : Int32)).toInt ≤ 500 by omega)
            have u193 := kp_I u72 e184
            have v194 : q_V d183 = q_V δ := ((show q_V d183 = q_V r63 by rw [e184]; rfl)).trans v73
            have v195 := kr_N v74 (show q_R d183 = q_R r63 by rw [e184]; rfl)
            have us196 := NU.t us76 (NU.w (ad := ad) e184 (by decide))
            unfold J_X12_unit_74
            have f200 := ti_b (q_I d183 12 7 a0)
            have f201 : (q_I d183 12 7 a0).toInt = (q_I r63 12 7 a0).toInt := congrArg Int32.toInt (by rw [e184]; exact rI_o (by decide))
            have f202 := ti_b (q_I r63 12 7 a0)
            have f203 : (q_I r63 12 7 a0).toInt = (q_I r18.2 12 7 a0).toInt := congrArg Int32.toInt (u68 12 7 a0 (by decide))
            first | (have q205 := te_addc (c := 1) (n := 1) rfl (q_I d183 12 7 a0) (by omega) (by omega); obtain ⟨f206, f207, f208⟩ := q205) | (obtain ⟨q205, f206, f207, f208⟩ := ti_addc (c := 1) (n := 1) rfl (q_I d183 12 7 a0))
            refine ok_bdv (fun d197 e198 => ?_)
            have i199 : RI ad h.1 δ0 d197 := by rw [e198]; exact cs_12_7 L i185
            have u209 := kp_I u193 e198
            have v210 : q_V d197 = q_V δ := ((show q_V d197 = q_V d183 by rw [e198]; rfl)).trans v194
            have v211 := kr_N v195 (show q_R d197 = q_R d183 by rw [e198]; rfl)
            have us212 := NU.t us196 (NU.w (ad := ad) e198 (by decide))
            have f215 := cb_12_24 i199 k_a0
            have f216 : (q_I d197 12 24 a0).toInt = (q_I d183 12 24 a0).toInt := congrArg Int32.toInt (by rw [e198]; exact rI_o (by decide))
            have f217 := cb_12_24 i185 k_a0
            have f218 : (q_I d183 12 24 a0).toInt = (q_I r63 12 24 a0).toInt := congrArg Int32.toInt (by rw [e184]; exact rI_o (by decide))
            have f219 := cb_12_24 i65 k_a0
            have f220 : (q_I r63 12 24 a0).toInt = (q_I r18.2 12 24 a0).toInt := congrArg Int32.toInt (u68 12 24 a0 (by decide))
            have f221 := cb_12_24 i20 k_a0
            have f222 : (q_I r18.2 12 24 a0).toInt = (q_I δ 12 24 a0).toInt := congrArg Int32.toInt (u24 12 24 a0 (by decide))
            have f223 := cb_12_26 i199 k_a0
            have f224 : (q_I d197 12 26 a0).toInt = (q_I d183 12 26 a0).toInt := congrArg Int32.toInt (by rw [e198]; exact rI_o (by decide))
            have f225 := cb_12_26 i185 k_a0
            have f226 : (q_I d183 12 26 a0).toInt = (q_I r63 12 26 a0).toInt := congrArg Int32.toInt (by rw [e184]; exact rI_o (by decide))
            have f227 := cb_12_26 i65 k_a0
            have f228 : (q_I r63 12 26 a0).toInt = (q_I r18.2 12 26 a0).toInt := congrArg Int32.toInt (u68 12 26 a0 (by decide))
            have f229 := cb_12_26 i20 k_a0
            have f230 : (q_I r18.2 12 26 a0).toInt = (q_I δ 12 26 a0).toInt := congrArg Int32.toInt (u24 12 26 a0 (by decide))
            have f231 := cb_12_4 i199 k_a0
            have f232 : (q_I d197 12 4 a0).toInt = (q_I d183 12 4 a0).toInt := congrArg Int32.toInt (by rw [e198]; exact rI_o (by decide))
            have f233 := cb_12_4 i185 k_a0
            have f234 : (q_I d183 12 4 a0).toInt = ((q_I r63 12 4 a0) + (1 : Int32)).toInt := congrArg Int32.toInt (show q_I d183 12 4 a0 = ((q_I r63 12 4 a0) + (1 : Int32)) by rw [e184]; exact rI_s)
            have f235 := ti_b (q_I d197 12 7 a0)
            have f236 : (q_I d197 12 7 a0).toInt = ((q_I d183 12 7 a0) + (1 : Int32)).toInt := congrArg Int32.toInt (show q_I d197 12 7 a0 = ((q_I d183 12 7 a0) + (1 : Int32)) by rw [e198]; exact rI_s)
            have f237 := cb_12_5 i199 k_a0
            have f238 : (q_I d197 12 5 a0).toInt = (q_I d183 12 5 a0).toInt := congrArg Int32.toInt (by rw [e198]; exact rI_o (by decide))
            have f239 := cb_12_5 i185 k_a0
            have f240 : (q_I d183 12 5 a0).toInt = (q_I r63 12 5 a0).toInt := congrArg Int32.toInt (by rw [e184]; exact rI_o (by decide))
            refine ok_bind (hT a0 d197 k_a0 (show (q_I d197 12 24 a0).toInt ≤ 3 by first | assumption | omega) (show (q_I d197 12 26 a0).toInt ≤ (q_I d197 12 4 a0).toInt by first | assumption | omega) (show 0 ≤ (q_I d197 12 7 a0).toInt by first | assumption | omega) (show (q_I d197 12 7 a0).toInt ≤ 7 by first | assumption | omega) (show (q_I d197 12 7 a0).toInt = 7 → 0 ≤ (q_I d197 12 5 a0).toInt by first | assumption | omega) (show 8 - (q_I d197 12 7 a0).toInt < _ by first | assumption | omega) i199) (fun r213 hr214 => ?_)
            obtain ⟨i241, ⟨u248, u249, u250⟩, p242, p243, p244, p245, p246, p247⟩ := hr214
            have u251 := kp_t u209 u248
            have v252 : q_V r213 = q_V δ := (u249).trans v210
            have v253 := kr_t v211 u250
            have f254 := cb_12_4 i241 k_a0
            have f255 := cb_12_5 i241 k_a0
            have f256 := ti_b (q_I r213 12 7 a0)
            have f257 := cb_12_26 i241 k_a0
            have us258 := US.pre us212 p247
            refine ok_bind (k_X12_sign L hN (a0 := a0) (x1 := (41 : Int32)) k_a0 (show (41 : Int) ≠ 0 by first | assumption | omega) i241) (fun r259 hr260 => ?_)
            obtain ⟨i261, ⟨u265, u266, u267, u268⟩, p262, p263, p264⟩ := hr260
            have u269 := kp_t u251 u265
            have v270 : q_V r259 = q_V δ := (u266).trans v252
            have v271 := kr_t v253 u268
            have f272 := cb_12_4 i261 k_a0
            have f273 := cb_12_5 i261 k_a0
            have us274 := US.post us258 (⟨u268 116 (by decide) (by decide) (by decide), u265 12 26 _ (by decide), u265 12 24 _ (by decide), fun z => by omega⟩)
            have f278 := ti_b (q_I r259 12 7 a0)
            have f279 : (q_I r259 12 7 a0).toInt = (q_I r213 12 7 a0).toInt := congrArg Int32.toInt (u265 12 7 a0 (by decide))
            first | (have q281 := te_subc (c := 1) (n := 1) rfl (q_I r259 12 7 a0) (by omega) (by omega); obtain ⟨f282, f283, f284⟩ := q281) | (obtain ⟨q281, f282, f283, f284⟩ := ti_subc (c := 1) (n := 1) rfl (q_I r259 12 7 a0))
            refine ok_bdv (fun d275 e276 => ?_)
            have i277 : RI ad h.1 δ0 d275 := by rw [e276]; exact cs_12_7 L i261
            have u285 := kp_I u269 e276
            have v286 : q_V d275 = q_V δ := ((show q_V d275 = q_V r259 by rw [e276]; rfl)).trans v270
            have v287 := kr_N v271 (show q_R d275 = q_R r259 by rw [e276]; rfl)
            have us288 := US.post us274 (NU.w (ad := ad) e276 (by decide))
            have f289 := cb_12_4 i277 k_a0
            have f290 : (q_I d275 12 4 a0).toInt = (q_I r259 12 4 a0).toInt := congrArg Int32.toInt (by rw [e276]; exact rI_o (by decide))
            have f291 := cb_12_5 i277 k_a0
            have f292 : (q_I d275 12 5 a0).toInt = (q_I r259 12 5 a0).toInt := congrArg Int32.toInt (by rw [e276]; exact rI_o (by decide))
            have f293 := ti_b (q_I d275 12 7 a0)
            have f294 : (q_I d275 12 7 a0).toInt = ((q_I r259 12 7 a0) - (1 : Int32)).toInt := congrArg Int32.toInt (show q_I d275 12 7 a0 = ((q_I r259 12 7 a0) - (1 : Int32)) by rw [e276]; exact rI_s)
            have f295 := cb_12_26 i277 k_a0
            have f296 : (q_I d275 12 26 a0).toInt = (q_I r259 12 26 a0).toInt := congrArg Int32.toInt (by rw [e276]; exact rI_o (by decide))
            have f297 := cb_12_26 i261 k_a0
            have f298 : (q_I r259 12 26 a0).toInt = (q_I r213 12 26 a0).toInt := congrArg Int32.toInt (u265 12 26 a0 (by decide))
            exact ok_some (show RI ad h.1 δ0 d275 ∧ (kp [(12, 4), (12, 5), (12, 6), (12, 7), (12, 26)] δ d275 ∧ q_V d275 = q_V δ ∧ kr ad [116, 117] δ d275) ∧ (q_I δ 12 4 a0).toInt ≤ (q_I d275 12 4 a0).toInt ∧ (q_I δ 12 5 a0).toInt ≤ (q_I d275 12 5 a0).toInt ∧ (q_I d275 12 7 a0).toInt = (q_I δ 12 7 a0).toInt ∧ (q_I δ 12 26 a0).toInt ≤ (q_I d275 12 26 a0).toInt ∧ (q_I d275 12 26 a0).toInt - (q_I δ 12 26 a0).toInt ≤ (q_I d275 12 4 a0).toInt - (q_I δ 12 4 a0).toInt ∧ US ad a0 δ d275 from ⟨i277, ⟨kp_w (by decide) u285, v286, kr_w (by decide) v287⟩, by first | assumption | omega, by first | assumption | omega, by first | assumption | omega, by first | assumption | omega, by first | assumption | omega, us288⟩)
        · have c299 : (q_I r18.2 12 7 a0).toInt ≠ (6 : Int) := o_ne h61
          unfold J_X12_unit_57
          refine ok_bind (k_X12_fine L hN (a0 := a0) k_a0 i20) (fun r300 hr301 => ?_)
          obtain ⟨i302, p303, p304, p305⟩ := hr301
          try rw [i302]
          have f306 := bo_l p303
          have f307 := ti_b r300.1
          have f308 := ti_b r300.1
          refine ok_ite (fun h309 => ?_) (fun h309 => ?_)
          · have c310 : r300.1.toInt = (0 : Int) := o_eq h309
            unfold J_X12_unit_74
            first | (have q315 := te_addc (c := 1) (n := 1) rfl (q_I r18.2 12 7 a0) (by omega) (by omega); obtain ⟨f316, f317, f318⟩ := q315) | (obtain ⟨q315, f316, f317, f318⟩ := ti_addc (c := 1) (n := 1) rfl (q_I r18.2 12 7 a0))
            refine ok_bdv (fun d311 e312 => ?_)
            have i313 : RI ad h.1 δ0 d311 := by rw [e312]; exact cs_12_7 L i20
            have u319 := kp_I u28 e312
            have v320 : q_V d311 = q_V δ := ((show q_V d311 = q_V r18.2 by rw [e312]; rfl)).trans v29
            have v321 := kr_N v30 (show q_R d311 = q_R r18.2 by rw [e312]; rfl)
            have us322 := NU.t us45 (NU.w (ad := ad) e312 (by decide))
            have f325 := cb_12_24 i313 k_a0
            have f326 : (q_I d311 12 24 a0).toInt = (q_I r18.2 12 24 a0).toInt := congrArg Int32.toInt (by rw [e312]; exact rI_o (by decide))
            have f327 := cb_12_24 i20 k_a0
            have f328 : (q_I r18.2 12 24 a0).toInt = (q_I δ 12 24 a0).toInt := congrArg Int32.toInt (u24 12 24 a0 (by decide))
            have f329 := cb_12_26 i313 k_a0
            have f330 : (q_I d311 12 26 a0).toInt = (q_I r18.2 12 26 a0).toInt := congrArg Int32.toInt (by rw [e312]; exact rI_o (by decide))
            have f331 := cb_12_26 i20 k_a0
            have f332 : (q_I r18.2 12 26 a0).toInt = (q_I δ 12 26 a0).toInt := congrArg Int32.toInt (u24 12 26 a0 (by decide))
            have f333 := cb_12_4 i313 k_a0
            have f334 : (q_I d311 12 4 a0).toInt = (q_I r18.2 12 4 a0).toInt := congrArg Int32.toInt (by rw [e312]; exact rI_o (by decide))
            have f335 := ti_b (q_I d311 12 7 a0)
            have f336 : (q_I d311 12 7 a0).toInt = ((q_I r18.2 12 7 a0) + (1 : Int32)).toInt := congrArg Int32.toInt (show q_I d311 12 7 a0 = ((q_I r18.2 12 7 a0) + (1 : Int32)) by rw [e312]; exact rI_s)
            have f337 := cb_12_5 i313 k_a0
            have f338 : (q_I d311 12 5 a0).toInt = (q_I r18.2 12 5 a0).toInt := congrArg Int32.toInt (by rw [e312]; exact rI_o (by decide))
            refine ok_bind (hT a0 d311 k_a0 (show (q_I d311 12 24 a0).toInt ≤ 3 by first | assumption | omega) (show (q_I d311 12 26 a0).toInt ≤ (q_I d311 12 4 a0).toInt by first | assumption | omega) (show 0 ≤ (q_I d311 12 7 a0).toInt by first | assumption | omega) (show (q_I d311 12 7 a0).toInt ≤ 7 by first | assumption | omega) (show (q_I d311 12 7 a0).toInt = 7 → 0 ≤ (q_I d311 12 5 a0).toInt by first | assumption | omega) (show 8 - (q_I d311 12 7 a0).toInt < _ by first | assumption | omega) i313) (fun r323 hr324 => ?_)
            obtain ⟨i339, ⟨u346, u347, u348⟩, p340, p341, p342, p343, p344, p345⟩ := hr324
            have u349 := kp_t u319 u346
            have v350 : q_V r323 = q_V δ := (u347).trans v320
            have v351 := kr_t v321 u348
            have f352 := cb_12_4 i339 k_a0
            have f353 := cb_12_5 i339 k_a0
            have f354 := ti_b (q_I r323 12 7 a0)
            have f355 := cb_12_26 i339 k_a0
            have us356 := US.pre us322 p345
            refine ok_bind (k_X12_sign L hN (a0 := a0) (x1 := (41 : Int32)) k_a0 (show (41 : Int) ≠ 0 by first | assumption | omega) i339) (fun r357 hr358 => ?_)
            obtain ⟨i359, ⟨u363, u364, u365, u366⟩, p360, p361, p362⟩ := hr358
            have u367 := kp_t u349 u363
            have v368 : q_V r357 = q_V δ := (u364).trans v350
            have v369 := kr_t v351 u366
            have f370 := cb_12_4 i359 k_a0
            have f371 := cb_12_5 i359 k_a0
            have us372 := US.post us356 (⟨u366 116 (by decide) (by decide) (by decide), u363 12 26 _ (by decide), u363 12 24 _ (by decide), fun z => by omega⟩)
            have f376 := ti_b (q_I r357 12 7 a0)
            have f377 : (q_I r357 12 7 a0).toInt = (q_I r323 12 7 a0).toInt := congrArg Int32.toInt (u363 12 7 a0 (by decide))
            first | (have q379 := te_subc (c := 1) (n := 1) rfl (q_I r357 12 7 a0) (by omega) (by omega); obtain ⟨f380, f381, f382⟩ := q379) | (obtain ⟨q379, f380, f381, f382⟩ := ti_subc (c := 1) (n := 1) rfl (q_I r357 12 7 a0))
            refine ok_bdv (fun d373 e374 => ?_)
            have i375 : RI ad h.1 δ0 d373 := by rw [e374]; exact cs_12_7 L i359
            have u383 := kp_I u367 e374
            have v384 : q_V d373 = q_V δ := ((show q_V d373 = q_V r357 by rw [e374]; rfl)).trans v368
            have v385 := kr_N v369 (show q_R d373 = q_R r357 by rw [e374]; rfl)
            have us386 := US.post us372 (NU.w (ad := ad) e374 (by decide))
            have f387 := cb_12_4 i375 k_a0
            have f388 : (q_I d373 12 4 a0).toInt = (q_I r357 12 4 a0).toInt := congrArg Int32.toInt (by rw [e374]; exact rI_o (by decide))
            have f389 := cb_12_5 i375 k_a0
            have f390 : (q_I d373 12 5 a0).toInt = (q_I r357 12 5 a0).toInt := congrArg Int32.toInt (by rw [e374]; exact rI_o (by decide))
            have f391 := ti_b (q_I d373 12 7 a0)
            have f392 : (q_I d373 12 7 a0).toInt = ((q_I r357 12 7 a0) - (1 : Int32)).toInt := congrArg Int32.toInt (show q_I d373 12 7 a0 = ((q_I r357 12 7 a0) - (1 : Int32)) by rw [e374]; exact rI_s)
            have f393 := cb_12_26 i375 k_a0
            have f394 : (q_I d373 12 26 a0).toInt = (q_I r357 12 26 a0).toInt := congrArg Int32.toInt (by rw [e374]; exact rI_o (by decide))
            have f395 := cb_12_26 i359 k_a0
            have f396 : (q_I r357 12 26 a0).toInt = (q_I r323 12 26 a0).toInt := congrArg Int32.toInt (u363 12 26 a0 (by decide))
            exact ok_some (show RI ad h.1 δ0 d373 ∧ (kp [(12, 4), (12, 5), (12, 6), (12, 7), (12, 26)] δ d373 ∧ q_V d373 = q_V δ ∧ kr ad [116, 117] δ d373) ∧ (q_I δ 12 4 a0).toInt ≤ (q_I d373 12 4 a0).toInt ∧ (q_I δ 12 5 a0).toInt ≤ (q_I d373 12 5 a0).toInt ∧ (q_I d373 12 7 a0).toInt = (q_I δ 12 7 a0).toInt ∧ (q_I δ 12 26 a0).toInt ≤ (q_I d373 12 26 a0).toInt ∧ (q_I d373 12 26 a0).toInt - (q_I δ 12 26 a0).toInt ≤ (q_I d373 12 4 a0).toInt - (q_I δ 12 4 a0).toInt ∧ US ad a0 δ d373 from ⟨i375, ⟨kp_w (by decide) u383, v384, kr_w (by decide) v385⟩, by first | assumption | omega, by first | assumption | omega, by first | assumption | omega, by first | assumption | omega, by first | assumption | omega, us386⟩)
          · have c397 : r300.1.toInt ≠ (0 : Int) := o_ne h309
            first | (have q402 := te_addc (c := 1) (n := 1) rfl (q_I r18.2 12 4 a0) (by omega) (by omega); obtain ⟨f403, f404, f405⟩ := q402) | (obtain ⟨q402, f403, f404, f405⟩ := ti_addc (c := 1) (n := 1) rfl (q_I r18.2 12 4 a0))
            refine ok_bdv (fun d398 e399 => ?_)
            have i400 : RI ad h.1 δ0 d398 := by rw [e399]; exact cs_12_4 L i20 k_a0 (show 0 ≤ ((q_I r18.2 12 4 a0) + (1 : Int32)).toInt by omega) (show ((q_I r18.2 12 4 a0) + (1 : Int32)).toInt ≤ 500 by omega)
            have u406 := kp_I u28 e399
            have v407 : q_V d398 = q_V δ := ((show q_V d398 = q_V r18.2 by rw [e399]; rfl)).trans v29
            have v408 := kr_N v30 (show q_R d398 = q_R r18.2 by rw [e399]; rfl)
            have us409 := NU.t us45 (NU.w (ad := ad) e399 (by decide))
            unfold J_X12_unit_74
            have f413 := ti_b (q_I d398 12 7 a0)
            have f414 : (q_I d398 12 7 a0).toInt = (q_I r18.2 12 7 a0).toInt := congrArg Int32.toInt (by rw [e399]; exact rI_o (by decide))
            first | (have q416 := te_addc (c := 1) (n := 1) rfl (q_I d398 12 7 a0) (by omega) (by omega); obtain ⟨f417, f418, f419⟩ := q416) | (obtain ⟨q416, f417, f418, f419⟩ := ti_addc (c := 1) (n := 1) rfl (q_I d398 12 7 a0))
            refine ok_bdv (fun d410 e411 => ?_)
            have i412 : RI ad h.1 δ0 d410 := by rw [e411]; exact cs_12_7 L i400
            have u420 := kp_I u406 e411
            have v421 : q_V d410 = q_V δ := ((show q_V d410 = q_V d398 by rw [e411]; rfl)).trans v407
            have v422 := kr_N v408 (show q_R d410 = q_R d398 by rw [e411]; rfl)
            have us423 := NU.t us409 (NU.w (ad := ad) e411 (by decide))
            have f426 := cb_12_24 i412 k_a0
            have f427 : (q_I d410 12 24 a0).toInt = (q_I d398 12 24 a0).toInt := congrArg Int32.toInt (by rw [e411]; exact rI_o (by decide))
            have f428 := cb_12_24 i400 k_a0
            have f429 : (q_I d398 12 24 a0).toInt = (q_I r18.2 12 24 a0).toInt := congrArg Int32.toInt (by rw [e399]; exact rI_o (by decide))
            have f430 := cb_12_24 i20 k_a0
            have f431 : (q_I r18.2 12 24 a0).toInt = (q_I δ 12 24 a0).toInt := congrArg Int32.toInt (u24 12 24 a0 (by decide))
            have f432 := cb_12_26 i412 k_a0
            have f433 : (q_I d410 12 26 a0).toInt = (q_I d398 12 26 a0).toInt := congrArg Int32.toInt (by rw [e411]; exact rI_o (by decide))
            have f434 := cb_12_26 i400 k_a0
            have f435 : (q_I d398 12 26 a0).toInt = (q_I r18.2 12 26 a0).toInt := congrArg Int32.toInt (by rw [e399]; exact rI_o (by decide))
            have f436 := cb_12_26 i20 k_a0
            have f437 : (q_I r18.2 12 26 a0).toInt = (q_I δ 12 26 a0).toInt := congrArg Int32.toInt (u24 12 26 a0 (by decide))
            have f438 := cb_12_4 i412 k_a0
            have f439 : (q_I d410 12 4 a0).toInt = (q_I d398 12 4 a0).toInt := congrArg Int32.toInt (by rw [e411]; exact rI_o (by decide))
            have f440 := cb_12_4 i400 k_a0
            have f441 : (q_I d398 12 4 a0).toInt = ((q_I r18.2 12 4 a0) + (1 : Int32)).toInt := congrArg Int32.toInt (show q_I d398 12 4 a0 = ((q_I r18.2 12 4 a0) + (1 : Int32)) by rw [e399]; exact rI_s)
            have f442 := ti_b (q_I d410 12 7 a0)
            have f443 : (q_I d410 12 7 a0).toInt = ((q_I d398 12 7 a0) + (1 : Int32)).toInt := congrArg Int32.toInt (show q_I d410 12 7 a0 = ((q_I d398 12 7 a0) + (1 : Int32)) by rw [e411]; exact rI_s)
            have f444 := cb_12_5 i412 k_a0
            have f445 : (q_I d410 12 5 a0).toInt = (q_I d398 12 5 a0).toInt := congrArg Int32.toInt (by rw [e411]; exact rI_o (by decide))
            have f446 := cb_12_5 i400 k_a0
            have f447 : (q_I d398 12 5 a0).toInt = (q_I r18.2 12 5 a0).toInt := congrArg Int32.toInt (by rw [e399]; exact rI_o (by decide))
            refine ok_bind (hT a0 d410 k_a0 (show (q_I d410 12 24 a0).toInt ≤ 3 by first | assumption | omega) (show (q_I d410 12 26 a0).toInt ≤ (q_I d410 12 4 a0).toInt by first | assumption | omega) (show 0 ≤ (q_I d410 12 7 a0).toInt by first | assumption | omega) (show (q_I d410 12 7 a0).toInt ≤ 7 by first | assumption | omega) (show (q_I d410 12 7 a0).toInt = 7 → 0 ≤ (q_I d410 12 5 a0).toInt by first | assumption | omega) (show 8 - (q_I d410 12 7 a0).toInt < _ by first | assumption | omega) i412) (fun r424 hr425 => ?_)
            obtain ⟨i448, ⟨u455, u456, u457⟩, p449, p450, p451, p452, p453, p454⟩ := hr425
            have u458 := kp_t u420 u455
            have v459 : q_V r424 = q_V δ := (u456).trans v421
            have v460 := kr_t v422 u457
            have f461 := cb_12_4 i448 k_a0
            have f462 := cb_12_5 i448 k_a0
            have f463 := ti_b (q_I r424 12 7 a0)
            have f464 := cb_12_26 i448 k_a0
            have us465 := US.pre us423 p454
            refine ok_bind (k_X12_sign L hN (a0 := a0) (x1 := (41 : Int32)) k_a0 (show (41 : Int) ≠ 0 by first | assumption | omega) i448) (fun r466 hr467 => ?_)
            obtain ⟨i468, ⟨u472, u473, u474, u475⟩, p469, p470, p471⟩ := hr467
            have u476 := kp_t u458 u472
            have v477 : q_V r466 = q_V δ := (u473).trans v459
            have v478 := kr_t v460 u475
            have f479 := cb_12_4 i468 k_a0
            have f480 := cb_12_5 i468 k_a0
            have us481 := US.post us465 (⟨u475 116 (by decide) (by decide) (by decide), u472 12 26 _ (by decide), u472 12 24 _ (by decide), fun z => by omega⟩)
            have f485 := ti_b (q_I r466 12 7 a0)
            have f486 : (q_I r466 12 7 a0).toInt = (q_I r424 12 7 a0).toInt := congrArg Int32.toInt (u472 12 7 a0 (by decide))
            first | (have q488 := te_subc (c := 1) (n := 1) rfl (q_I r466 12 7 a0) (by omega) (by omega); obtain ⟨f489, f490, f491⟩ := q488) | (obtain ⟨q488, f489, f490, f491⟩ := ti_subc (c := 1) (n := 1) rfl (q_I r466 12 7 a0))
            refine ok_bdv (fun d482 e483 => ?_)
            have i484 : RI ad h.1 δ0 d482 := by rw [e483]; exact cs_12_7 L i468
            have u492 := kp_I u476 e483
            have v493 : q_V d482 = q_V δ := ((show q_V d482 = q_V r466 by rw [e483]; rfl)).trans v477
            have v494 := kr_N v478 (show q_R d482 = q_R r466 by rw [e483]; rfl)
            have us495 := US.post us481 (NU.w (ad := ad) e483 (by decide))
            have f496 := cb_12_4 i484 k_a0
            have f497 : (q_I d482 12 4 a0).toInt = (q_I r466 12 4 a0).toInt := congrArg Int32.toInt (by rw [e483]; exact rI_o (by decide))
            have f498 := cb_12_5 i484 k_a0
            have f499 : (q_I d482 12 5 a0).toInt = (q_I r466 12 5 a0).toInt := congrArg Int32.toInt (by rw [e483]; exact rI_o (by decide))
            have f500 := ti_b (q_I d482 12 7 a0)
            have f501 : (q_I d482 12 7 a0).toInt = ((q_I r466 12 7 a0) - (1 : Int32)).toInt := congrArg Int32.toInt (show q_I d482 12 7 a0 = ((q_I r466 12 7 a0) - (1 : Int32)) by rw [e483]; exact rI_s)
            have f502 := cb_12_26 i484 k_a0
            have f503 : (q_I d482 12 26 a0).toInt = (q_I r466 12 26 a0).toInt := congrArg Int32.toInt (by rw [e483]; exact rI_o (by decide))
            have f504 := cb_12_26 i468 k_a0
            have f505 : (q_I r466 12 26 a0).toInt = (q_I r424 12 26 a0).toInt := congrArg Int32.toInt (u472 12 26 a0 (by decide))
            exact ok_some (show RI ad h.1 δ0 d482 ∧ (kp [(12, 4), (12, 5), (12, 6), (12, 7), (12, 26)] δ d482 ∧ q_V d482 = q_V δ ∧ kr ad [116, 117] δ d482) ∧ (q_I δ 12 4 a0).toInt ≤ (q_I d482 12 4 a0).toInt ∧ (q_I δ 12 5 a0).toInt ≤ (q_I d482 12 5 a0).toInt ∧ (q_I d482 12 7 a0).toInt = (q_I δ 12 7 a0).toInt ∧ (q_I δ 12 26 a0).toInt ≤ (q_I d482 12 26 a0).toInt ∧ (q_I d482 12 26 a0).toInt - (q_I δ 12 26 a0).toInt ≤ (q_I d482 12 4 a0).toInt - (q_I δ 12 4 a0).toInt ∧ US ad a0 δ d482 from ⟨i484, ⟨kp_w (by decide) u492, v493, kr_w (by decide) v494⟩, by first | assumption | omega, by first | assumption | omega, by first | assumption | omega, by first | assumption | omega, by first | assumption | omega, us495⟩)
      · have c506 : r18.1.toInt ≠ (40 : Int) := o_ne h57
        refine ok_bind (k_X12_word L hN (a0 := a0) k_a0 i20) (fun r507 hr508 => ?_)
        obtain ⟨i509, ⟨u512, u513, u514, u515⟩, p510, p511⟩ := hr508
        have u516 := kp_t u28 u512
        have v517 : q_V r507.2 = q_V δ := (u513).trans v29
        have v518 := kr_t v30 u515
        have f519 := cb_12_4 i509 k_a0
        have f520 : hc ad r507.2 a0 = (q_R r507.2 (Ad ad 101) (q_I r507.2 12 4 a0).toNatClampNeg).toInt := rfl
        have t521 := ti_tn (q_I r507.2 12 4 a0)
        have f522 : (q_R r507.2 (Ad ad 101) (q_I r507.2 12 4 a0).toNatClampNeg).toInt = (q_R r18.2 (Ad ad 101) (q_I r507.2 12 4 a0).toNatClampNeg).toInt := congrArg Int32.toInt (congrFun (u515 101 (by decide) (by decide) (by decide)) _)
        have f523 : (q_R r18.2 (Ad ad 101) (q_I r507.2 12 4 a0).toNatClampNeg).toInt = (q_R δ (Ad ad 101) (q_I r507.2 12 4 a0).toNatClampNeg).toInt := congrArg Int32.toInt (congrFun (u27 101 (by decide) (by decide) (by decide)) _)
        have f524 := ti_b (q_R δ (Ad ad 101) (q_I r507.2 12 4 a0).toNatClampNeg)
        have f525 := ti_b (q_R r18.2 (Ad ad 101) (q_I r507.2 12 4 a0).toNatClampNeg)
        have f526 := ti_b (q_R r507.2 (Ad ad 101) (q_I r507.2 12 4 a0).toNatClampNeg)
        have f527 := ti_b r507.1
        have f528 := cb_12_3 i20 k_a0
        have f529 : (q_I r18.2 12 3 a0).toInt = (q_I δ 12 3 a0).toInt := congrArg Int32.toInt (u24 12 3 a0 (by decide))
        have f530 := ti_b r507.1
        have f531 := cb_12_5 i509 k_a0
        have f532 : (q_I r507.2 12 5 a0).toInt = (q_I r18.2 12 5 a0).toInt := congrArg Int32.toInt (u512 12 5 a0 (by decide))
        have us533 := NU.t us45 (⟨u515 116 (by decide) (by decide) (by decide), u512 12 26 _ (by decide), u512 12 24 _ (by decide), fun z => by omega⟩)
        refine ok_bind (k_X12_of L hN (a0 := 11) (show 11 < 16 by first | assumption | omega) i509) (fun r534 hr535 => ?_)
        obtain ⟨i536, p537⟩ := hr535
        try rw [i536]
        have f538 := ti_b r534.1
        have f539 := ti_b r534.1
        refine ok_ite (fun h540 => ?_) (fun h540 => ?_)
        · have c541 : r507.1.toInt = r534.1.toInt := o_eq h540
          unfold J_X12_unit_176
          refine ok_ite (fun h542 => ?_) (fun h542 => ?_)
          · have c543 : (1 : Int) = (-1 : Int) := o_eq h542
            refine ok_bind (k_X12_wrong L hN (a0 := a0) (x1 := (1 : Int32)) (x2 := (q_I r507.2 12 4 a0)) k_a0 (show 0 ≤ ((q_I r507.2 12 4 a0)).toInt by first | assumption | omega) (show ((q_I r507.2 12 4 a0)).toInt ≤ 500 by first | assumption | omega) i509) (fun r544 hr545 => ?_)
            obtain ⟨i546, ⟨u549, u550, u551, u552⟩, p547, p548⟩ := hr545
            have u553 := kp_t u516 u549
            have v554 : q_V r544 = q_V δ := (u550).trans v517
            have v555 := kr_t v518 u552
            have f556 := cb_12_5 i546 k_a0
            have us557 := NU.t us533 (⟨u552 116 (by decide) (by decide) (by decide), u549 12 26 _ (by decide), u549 12 24 _ (by decide), fun z => by omega⟩)
            have f558 := cb_12_4 i546 k_a0
            have f559 : (q_I r544 12 4 a0).toInt = (q_I r507.2 12 4 a0).toInt := congrArg Int32.toInt (u549 12 4 a0 (by decide))
            have f560 := ti_b (q_I r544 12 7 a0)
            have f561 : (q_I r544 12 7 a0).toInt = (q_I r507.2 12 7 a0).toInt := congrArg Int32.toInt (u549 12 7 a0 (by decide))
            have f562 := ti_b (q_I r507.2 12 7 a0)
            have f563 : (q_I r507.2 12 7 a0).toInt = (q_I r18.2 12 7 a0).toInt := congrArg Int32.toInt (u512 12 7 a0 (by decide))
            have f564 := ti_b (q_I r18.2 12 7 a0)
            have f565 : (q_I r18.2 12 7 a0).toInt = (q_I δ 12 7 a0).toInt := congrArg Int32.toInt (u24 12 7 a0 (by decide))
            have f566 := cb_12_26 i546 k_a0
            have f567 : (q_I r544 12 26 a0).toInt = (q_I r507.2 12 26 a0).toInt := congrArg Int32.toInt (u549 12 26 a0 (by decide))
            have f568 := cb_12_26 i509 k_a0
            have f569 : (q_I r507.2 12 26 a0).toInt = (q_I r18.2 12 26 a0).toInt := congrArg Int32.toInt (u512 12 26 a0 (by decide))
            have f570 := cb_12_26 i20 k_a0
            have f571 : (q_I r18.2 12 26 a0).toInt = (q_I δ 12 26 a0).toInt := congrArg Int32.toInt (u24 12 26 a0 (by decide))
            exact ok_some (show RI ad h.1 δ0 r544 ∧ (kp [(12, 4), (12, 5), (12, 6), (12, 7), (12, 26)] δ r544 ∧ q_V r544 = q_V δ ∧ kr ad [116, 117] δ r544) ∧ (q_I δ 12 4 a0).toInt ≤ (q_I r544 12 4 a0).toInt ∧ (q_I δ 12 5 a0).toInt ≤ (q_I r544 12 5 a0).toInt ∧ (q_I r544 12 7 a0).toInt = (q_I δ 12 7 a0).toInt ∧ (q_I δ 12 26 a0).toInt ≤ (q_I r544 12 26 a0).toInt ∧ (q_I r544 12 26 a0).toInt - (q_I δ 12 26 a0).toInt ≤ (q_I r544 12 4 a0).toInt - (q_I δ 12 4 a0).toInt ∧ US ad a0 δ r544 from ⟨i546, ⟨kp_w (by decide) u553, v554, kr_w (by decide) v555⟩, by first | assumption | omega, by first | assumption | omega, by first | assumption | omega, by first | assumption | omega, by first | assumption | omega, US.bad us557 (by omega)⟩)
          · have c572 : (1 : Int) ≠ (-1 : Int) := o_ne h542
            refine ok_bind (k_X12_pass L hN (a0 := a0) k_a0 i509) (fun r573 hr574 => ?_)
            obtain ⟨i575, ⟨u578, u579, u580, u581⟩, p576, p577⟩ := hr574
            have u582 := kp_t u516 u578
            have v583 : q_V r573 = q_V δ := (u579).trans v517
            have v584 := kr_t v518 u581
            have f585 := cb_12_4 i575 k_a0
            have f586 := cb_12_3 i509 k_a0
            have f587 : (q_I r507.2 12 3 a0).toInt = (q_I r18.2 12 3 a0).toInt := congrArg Int32.toInt (u512 12 3 a0 (by decide))
            have f588 := cb_12_5 i575 k_a0
            have f589 : (q_I r573 12 5 a0).toInt = (q_I r507.2 12 5 a0).toInt := congrArg Int32.toInt (u578 12 5 a0 (by decide))
            have us590 := NU.t us533 (⟨u581 116 (by decide) (by decide) (by decide), u578 12 26 _ (by decide), u578 12 24 _ (by decide), fun z => by omega⟩)
            have f593 := cb_12_24 i575 k_a0
            have f594 : (q_I r573 12 24 a0).toInt = (q_I r507.2 12 24 a0).toInt := congrArg Int32.toInt (u578 12 24 a0 (by decide))
            have f595 := cb_12_24 i509 k_a0
            have f596 : (q_I r507.2 12 24 a0).toInt = (q_I r18.2 12 24 a0).toInt := congrArg Int32.toInt (u512 12 24 a0 (by decide))
            have f597 := cb_12_24 i20 k_a0
            have f598 : (q_I r18.2 12 24 a0).toInt = (q_I δ 12 24 a0).toInt := congrArg Int32.toInt (u24 12 24 a0 (by decide))
            have f599 := cb_12_26 i575 k_a0
            have f600 : (q_I r573 12 26 a0).toInt = (q_I r507.2 12 26 a0).toInt := congrArg Int32.toInt (u578 12 26 a0 (by decide))
            have f601 := cb_12_26 i509 k_a0
            have f602 : (q_I r507.2 12 26 a0).toInt = (q_I r18.2 12 26 a0).toInt := congrArg Int32.toInt (u512 12 26 a0 (by decide))
            have f603 := cb_12_26 i20 k_a0
            have f604 : (q_I r18.2 12 26 a0).toInt = (q_I δ 12 26 a0).toInt := congrArg Int32.toInt (u24 12 26 a0 (by decide))
            refine ok_bind (k_X12_emit L hN (a0 := a0) (x1 := (1 : Int32)) (x2 := (0 : Int32)) k_a0 (show (q_I r573 12 24 a0).toInt ≤ 3 by first | assumption | omega) (show (q_I r573 12 5 a0).toInt < 0 → (q_I r573 12 26 a0).toInt < 500 by first | assumption | omega) i575) (fun r591 hr592 => ?_)
            obtain ⟨i605, ⟨u610, u611, u612⟩, p606, p607, p608, p609⟩ := hr592
            have u613 := kp_t u582 u610
            have v614 : q_V r591 = q_V δ := (u611).trans v583
            have v615 := kr_t v584 u612
            have f616 := cb_12_26 i605 k_a0
            have us617 := US.em us590 p609 (by decide) (by decide)
            have f618 := cb_12_4 i605 k_a0
            have f619 : (q_I r591 12 4 a0).toInt = (q_I r573 12 4 a0).toInt := congrArg Int32.toInt (u610 12 4 a0 (by decide))
            have f620 := cb_12_5 i605 k_a0
            have f621 : (q_I r591 12 5 a0).toInt = (q_I r573 12 5 a0).toInt := congrArg Int32.toInt (u610 12 5 a0 (by decide))
            have f622 := ti_b (q_I r591 12 7 a0)
            have f623 : (q_I r591 12 7 a0).toInt = (q_I r573 12 7 a0).toInt := congrArg Int32.toInt (u610 12 7 a0 (by decide))
            have f624 := ti_b (q_I r573 12 7 a0)
            have f625 : (q_I r573 12 7 a0).toInt = (q_I r507.2 12 7 a0).toInt := congrArg Int32.toInt (u578 12 7 a0 (by decide))
            have f626 := ti_b (q_I r507.2 12 7 a0)
            have f627 : (q_I r507.2 12 7 a0).toInt = (q_I r18.2 12 7 a0).toInt := congrArg Int32.toInt (u512 12 7 a0 (by decide))
            have f628 := ti_b (q_I r18.2 12 7 a0)
            have f629 : (q_I r18.2 12 7 a0).toInt = (q_I δ 12 7 a0).toInt := congrArg Int32.toInt (u24 12 7 a0 (by decide))
            exact ok_some (show RI ad h.1 δ0 r591 ∧ (kp [(12, 4), (12, 5), (12, 6), (12, 7), (12, 26)] δ r591 ∧ q_V r591 = q_V δ ∧ kr ad [116, 117] δ r591) ∧ (q_I δ 12 4 a0).toInt ≤ (q_I r591 12 4 a0).toInt ∧ (q_I δ 12 5 a0).toInt ≤ (q_I r591 12 5 a0).toInt ∧ (q_I r591 12 7 a0).toInt = (q_I δ 12 7 a0).toInt ∧ (q_I δ 12 26 a0).toInt ≤ (q_I r591 12 26 a0).toInt ∧ (q_I r591 12 26 a0).toInt - (q_I δ 12 26 a0).toInt ≤ (q_I r591 12 4 a0).toInt - (q_I δ 12 4 a0).toInt ∧ US ad a0 δ r591 from ⟨i605, ⟨kp_w (by decide) u613, v614, kr_w (by decide) v615⟩, by first | assumption | omega, by first | assumption | omega, by first | assumption | omega, by first | assumption | omega, by first | assumption | omega, us617⟩)
        · have c630 : r507.1.toInt ≠ r534.1.toInt := o_ne h540
          refine ok_bind (k_X12_of L hN (a0 := 12) (show 12 < 16 by first | assumption | omega) i509) (fun r631 hr632 => ?_)
          obtain ⟨i633, p634⟩ := hr632
          try rw [i633]
          have f635 := ti_b r631.1
          have f636 := ti_b r631.1
          refine ok_ite (fun h637 => ?_) (fun h637 => ?_)
          · have c638 : r507.1.toInt = r631.1.toInt := o_eq h637
            unfold J_X12_unit_176
            refine ok_ite (fun h639 => ?_) (fun h639 => ?_)
            · have c640 : (2 : Int) = (-1 : Int) := o_eq h639
              refine ok_bind (k_X12_wrong L hN (a0 := a0) (x1 := (1 : Int32)) (x2 := (q_I r507.2 12 4 a0)) k_a0 (show 0 ≤ ((q_I r507.2 12 4 a0)).toInt by first | assumption | omega) (show ((q_I r507.2 12 4 a0)).toInt ≤ 500 by first | assumption | omega) i509) (fun r641 hr642 => ?_)
              obtain ⟨i643, ⟨u646, u647, u648, u649⟩, p644, p645⟩ := hr642
              have u650 := kp_t u516 u646
              have v651 : q_V r641 = q_V δ := (u647).trans v517
              have v652 := kr_t v518 u649
              have f653 := cb_12_5 i643 k_a0
              have us654 := NU.t us533 (⟨u649 116 (by decide) (by decide) (by decide), u646 12 26 _ (by decide), u646 12 24 _ (by decide), fun z => by omega⟩)
              have f655 := cb_12_4 i643 k_a0
              have f656 : (q_I r641 12 4 a0).toInt = (q_I r507.2 12 4 a0).toInt := congrArg Int32.toInt (u646 12 4 a0 (by decide))
              have f657 := ti_b (q_I r641 12 7 a0)
              have f658 : (q_I r641 12 7 a0).toInt = (q_I r507.2 12 7 a0).toInt := congrArg Int32.toInt (u646 12 7 a0 (by decide))
              have f659 := ti_b (q_I r507.2 12 7 a0)
              have f660 : (q_I r507.2 12 7 a0).toInt = (q_I r18.2 12 7 a0).toInt := congrArg Int32.toInt (u512 12 7 a0 (by decide))
              have f661 := ti_b (q_I r18.2 12 7 a0)
              have f662 : (q_I r18.2 12 7 a0).toInt = (q_I δ 12 7 a0).toInt := congrArg Int32.toInt (u24 12 7 a0 (by decide))
              have f663 := cb_12_26 i643 k_a0
              have f664 : (q_I r641 12 26 a0).toInt = (q_I r507.2 12 26 a0).toInt := congrArg Int32.toInt (u646 12 26 a0 (by decide))
              have f665 := cb_12_26 i509 k_a0
              have f666 : (q_I r507.2 12 26 a0).toInt = (q_I r18.2 12 26 a0).toInt := congrArg Int32.toInt (u512 12 26 a0 (by decide))
              have f667 := cb_12_26 i20 k_a0
              have f668 : (q_I r18.2 12 26 a0).toInt = (q_I δ 12 26 a0).toInt := congrArg Int32.toInt (u24 12 26 a0 (by decide))
              exact ok_some (show RI ad h.1 δ0 r641 ∧ (kp [(12, 4), (12, 5), (12, 6), (12, 7), (12, 26)] δ r641 ∧ q_V r641 = q_V δ ∧ kr ad [116, 117] δ r641) ∧ (q_I δ 12 4 a0).toInt ≤ (q_I r641 12 4 a0).toInt ∧ (q_I δ 12 5 a0).toInt ≤ (q_I r641 12 5 a0).toInt ∧ (q_I r641 12 7 a0).toInt = (q_I δ 12 7 a0).toInt ∧ (q_I δ 12 26 a0).toInt ≤ (q_I r641 12 26 a0).toInt ∧ (q_I r641 12 26 a0).toInt - (q_I δ 12 26 a0).toInt ≤ (q_I r641 12 4 a0).toInt - (q_I δ 12 4 a0).toInt ∧ US ad a0 δ r641 from ⟨i643, ⟨kp_w (by decide) u650, v651, kr_w (by decide) v652⟩, by first | assumption | omega, by first | assumption | omega, by first | assumption | omega, by first | assumption | omega, by first | assumption | omega, US.bad us654 (by omega)⟩)
            · have c669 : (2 : Int) ≠ (-1 : Int) := o_ne h639
              refine ok_bind (k_X12_pass L hN (a0 := a0) k_a0 i509) (fun r670 hr671 => ?_)
              obtain ⟨i672, ⟨u675, u676, u677, u678⟩, p673, p674⟩ := hr671
              have u679 := kp_t u516 u675
              have v680 : q_V r670 = q_V δ := (u676).trans v517
              have v681 := kr_t v518 u678
              have f682 := cb_12_4 i672 k_a0
              have f683 := cb_12_3 i509 k_a0
              have f684 : (q_I r507.2 12 3 a0).toInt = (q_I r18.2 12 3 a0).toInt := congrArg Int32.toInt (u512 12 3 a0 (by decide))
              have f685 := cb_12_5 i672 k_a0
              have f686 : (q_I r670 12 5 a0).toInt = (q_I r507.2 12 5 a0).toInt := congrArg Int32.toInt (u675 12 5 a0 (by decide))
              have us687 := NU.t us533 (⟨u678 116 (by decide) (by decide) (by decide), u675 12 26 _ (by decide), u675 12 24 _ (by decide), fun z => by omega⟩)
              have f690 := cb_12_24 i672 k_a0
              have f691 : (q_I r670 12 24 a0).toInt = (q_I r507.2 12 24 a0).toInt := congrArg Int32.toInt (u675 12 24 a0 (by decide))
              have f692 := cb_12_24 i509 k_a0
              have f693 : (q_I r507.2 12 24 a0).toInt = (q_I r18.2 12 24 a0).toInt := congrArg Int32.toInt (u512 12 24 a0 (by decide))
              have f694 := cb_12_24 i20 k_a0
              have f695 : (q_I r18.2 12 24 a0).toInt = (q_I δ 12 24 a0).toInt := congrArg Int32.toInt (u24 12 24 a0 (by decide))
              have f696 := cb_12_26 i672 k_a0
              have f697 : (q_I r670 12 26 a0).toInt = (q_I r507.2 12 26 a0).toInt := congrArg Int32.toInt (u675 12 26 a0 (by decide))
              have f698 := cb_12_26 i509 k_a0
              have f699 : (q_I r507.2 12 26 a0).toInt = (q_I r18.2 12 26 a0).toInt := congrArg Int32.toInt (u512 12 26 a0 (by decide))
              have f700 := cb_12_26 i20 k_a0
              have f701 : (q_I r18.2 12 26 a0).toInt = (q_I δ 12 26 a0).toInt := congrArg Int32.toInt (u24 12 26 a0 (by decide))
              refine ok_bind (k_X12_emit L hN (a0 := a0) (x1 := (2 : Int32)) (x2 := (0 : Int32)) k_a0 (show (q_I r670 12 24 a0).toInt ≤ 3 by first | assumption | omega) (show (q_I r670 12 5 a0).toInt < 0 → (q_I r670 12 26 a0).toInt < 500 by first | assumption | omega) i672) (fun r688 hr689 => ?_)
              obtain ⟨i702, ⟨u707, u708, u709⟩, p703, p704, p705, p706⟩ := hr689
              have u710 := kp_t u679 u707
              have v711 : q_V r688 = q_V δ := (u708).trans v680
              have v712 := kr_t v681 u709
              have f713 := cb_12_26 i702 k_a0
              have us714 := US.em us687 p706 (by decide) (by decide)
              have f715 := cb_12_4 i702 k_a0
              have f716 : (q_I r688 12 4 a0).toInt = (q_I r670 12 4 a0).toInt := congrArg Int32.toInt (u707 12 4 a0 (by decide))
              have f717 := cb_12_5 i702 k_a0
              have f718 : (q_I r688 12 5 a0).toInt = (q_I r670 12 5 a0).toInt := congrArg Int32.toInt (u707 12 5 a0 (by decide))
              have f719 := ti_b (q_I r688 12 7 a0)
              have f720 : (q_I r688 12 7 a0).toInt = (q_I r670 12 7 a0).toInt := congrArg Int32.toInt (u707 12 7 a0 (by decide))
              have f721 := ti_b (q_I r670 12 7 a0)
              have f722 : (q_I r670 12 7 a0).toInt = (q_I r507.2 12 7 a0).toInt := congrArg Int32.toInt (u675 12 7 a0 (by decide))
              have f723 := ti_b (q_I r507.2 12 7 a0)
              have f724 : (q_I r507.2 12 7 a0).toInt = (q_I r18.2 12 7 a0).toInt := congrArg Int32.toInt (u512 12 7 a0 (by decide))
              have f725 := ti_b (q_I r18.2 12 7 a0)
              have f726 : (q_I r18.2 12 7 a0).toInt = (q_I δ 12 7 a0).toInt := congrArg Int32.toInt (u24 12 7 a0 (by decide))
              exact ok_some (show RI ad h.1 δ0 r688 ∧ (kp [(12, 4), (12, 5), (12, 6), (12, 7), (12, 26)] δ r688 ∧ q_V r688 = q_V δ ∧ kr ad [116, 117] δ r688) ∧ (q_I δ 12 4 a0).toInt ≤ (q_I r688 12 4 a0).toInt ∧ (q_I δ 12 5 a0).toInt ≤ (q_I r688 12 5 a0).toInt ∧ (q_I r688 12 7 a0).toInt = (q_I δ 12 7 a0).toInt ∧ (q_I δ 12 26 a0).toInt ≤ (q_I r688 12 26 a0).toInt ∧ (q_I r688 12 26 a0).toInt - (q_I δ 12 26 a0).toInt ≤ (q_I r688 12 4 a0).toInt - (q_I δ 12 4 a0).toInt ∧ US ad a0 δ r688 from ⟨i702, ⟨kp_w (by decide) u710, v711, kr_w (by decide) v712⟩, by first | assumption | omega, by first | assumption | omega, by first | assumption | omega, by first | assumption | omega, by first | assumption | omega, us714⟩)
          · have c727 : r507.1.toInt ≠ r631.1.toInt := o_ne h637
            refine ok_bind (k_X12_of L hN (a0 := 13) (show 13 < 16 by first | assumption | omega) i509) (fun r728 hr729 => ?_)
            obtain ⟨i730, p731⟩ := hr729
            try rw [i730]
            have f732 := ti_b r728.1
            have f733 := ti_b r728.1
            refine ok_ite (fun h734 => ?_) (fun h734 => ?_)
            · have c735 : r507.1.toInt = r728.1.toInt := o_eq h734
              unfold J_X12_unit_176
              refine ok_ite (fun h736 => ?_) (fun h736 => ?_)
              · have c737 : (3 : Int) = (-1 : Int) := o_eq h736
                refine ok_bind (k_X12_wrong L hN (a0 := a0) (x1 := (1 : Int32)) (x2 := (q_I r507.2 12 4 a0)) k_a0 (show 0 ≤ ((q_I r507.2 12 4 a0)).toInt by first | assumption | omega) (show ((q_I r507.2 12 4 a0)).toInt ≤ 500 by first | assumption | omega) i509) (fun r738 hr739 => ?_)
                obtain ⟨i740, ⟨u743, u744, u745, u746⟩, p741, p742⟩ := hr739
                have u747 := kp_t u516 u743
                have v748 : q_V r738 = q_V δ := (u744).trans v517
                have v749 := kr_t v518 u746
                have f750 := cb_12_5 i740 k_a0
                have us751 := NU.t us533 (⟨u746 116 (by decide) (by decide) (by decide), u743 12 26 _ (by decide), u743 12 24 _ (by decide), fun z => by omega⟩)
                have f752 := cb_12_4 i740 k_a0
                have f753 : (q_I r738 12 4 a0).toInt = (q_I r507.2 12 4 a0).toInt := congrArg Int32.toInt (u743 12 4 a0 (by decide))
                have f754 := ti_b (q_I r738 12 7 a0)
                have f755 : (q_I r738 12 7 a0).toInt = (q_I r507.2 12 7 a0).toInt := congrArg Int32.toInt (u743 12 7 a0 (by decide))
                have f756 := ti_b (q_I r507.2 12 7 a0)
                have f757 : (q_I r507.2 12 7 a0).toInt = (q_I r18.2 12 7 a0).toInt := congrArg Int32.toInt (u512 12 7 a0 (by decide))
                have f758 := ti_b (q_I r18.2 12 7 a0)
                have f759 : (q_I r18.2 12 7 a0).toInt = (q_I δ 12 7 a0).toInt := congrArg Int32.toInt (u24 12 7 a0 (by decide))
                have f760 := cb_12_26 i740 k_a0
                have f761 : (q_I r738 12 26 a0).toInt = (q_I r507.2 12 26 a0).toInt := congrArg Int32.toInt (u743 12 26 a0 (by decide))
                have f762 := cb_12_26 i509 k_a0
                have f763 : (q_I r507.2 12 26 a0).toInt = (q_I r18.2 12 26 a0).toInt := congrArg Int32.toInt (u512 12 26 a0 (by decide))
                have f764 := cb_12_26 i20 k_a0
                have f765 : (q_I r18.2 12 26 a0).toInt = (q_I δ 12 26 a0).toInt := congrArg Int32.toInt (u24 12 26 a0 (by decide))
                exact ok_some (show RI ad h.1 δ0 r738 ∧ (kp [(12, 4), (12, 5), (12, 6), (12, 7), (12, 26)] δ r738 ∧ q_V r738 = q_V δ ∧ kr ad [116, 117] δ r738) ∧ (q_I δ 12 4 a0).toInt ≤ (q_I r738 12 4 a0).toInt ∧ (q_I δ 12 5 a0).toInt ≤ (q_I r738 12 5 a0).toInt ∧ (q_I r738 12 7 a0).toInt = (q_I δ 12 7 a0).toInt ∧ (q_I δ 12 26 a0).toInt ≤ (q_I r738 12 26 a0).toInt ∧ (q_I r738 12 26 a0).toInt - (q_I δ 12 26 a0).toInt ≤ (q_I r738 12 4 a0).toInt - (q_I δ 12 4 a0).toInt ∧ US ad a0 δ r738 from ⟨i740, ⟨kp_w (by decide) u747, v748, kr_w (by decide) v749⟩, by first | assumption | omega, by first | assumption | omega, by first | assumption | omega, by first | assumption | omega, by first | assumption | omega, US.bad us751 (by omega)⟩)
              · have c766 : (3 : Int) ≠ (-1 : Int) := o_ne h736
                refine ok_bind (k_X12_pass L hN (a0 := a0) k_a0 i509) (fun r767 hr768 => ?_)
                obtain ⟨i769, ⟨u772, u773, u774, u775⟩, p770, p771⟩ := hr768
                have u776 := kp_t u516 u772
                have v777 : q_V r767 = q_V δ := (u773).trans v517
                have v778 := kr_t v518 u775
                have f779 := cb_12_4 i769 k_a0
                have f780 := cb_12_3 i509 k_a0
                have f781 : (q_I r507.2 12 3 a0).toInt = (q_I r18.2 12 3 a0).toInt := congrArg Int32.toInt (u512 12 3 a0 (by decide))
                have f782 := cb_12_5 i769 k_a0
                have f783 : (q_I r767 12 5 a0).toInt = (q_I r507.2 12 5 a0).toInt := congrArg Int32.toInt (u772 12 5 a0 (by decide))
                have us784 := NU.t us533 (⟨u775 116 (by decide) (by decide) (by decide), u772 12 26 _ (by decide), u772 12 24 _ (by decide), fun z => by omega⟩)
                have f787 := cb_12_24 i769 k_a0
                have f788 : (q_I r767 12 24 a0).toInt = (q_I r507.2 12 24 a0).toInt := congrArg Int32.toInt (u772 12 24 a0 (by decide))
                have f789 := cb_12_24 i509 k_a0
                have f790 : (q_I r507.2 12 24 a0).toInt = (q_I r18.2 12 24 a0).toInt := congrArg Int32.toInt (u512 12 24 a0 (by decide))
                have f791 := cb_12_24 i20 k_a0
                have f792 : (q_I r18.2 12 24 a0).toInt = (q_I δ 12 24 a0).toInt := congrArg Int32.toInt (u24 12 24 a0 (by decide))
                have f793 := cb_12_26 i769 k_a0
                have f794 : (q_I r767 12 26 a0).toInt = (q_I r507.2 12 26 a0).toInt := congrArg Int32.toInt (u772 12 26 a0 (by decide))
                have f795 := cb_12_26 i509 k_a0
                have f796 : (q_I r507.2 12 26 a0).toInt = (q_I r18.2 12 26 a0).toInt := congrArg Int32.toInt (u512 12 26 a0 (by decide))
                have f797 := cb_12_26 i20 k_a0
                have f798 : (q_I r18.2 12 26 a0).toInt = (q_I δ 12 26 a0).toInt := congrArg Int32.toInt (u24 12 26 a0 (by decide))
                refine ok_bind (k_X12_emit L hN (a0 := a0) (x1 := (3 : Int32)) (x2 := (0 : Int32)) k_a0 (show (q_I r767 12 24 a0).toInt ≤ 3 by first | assumption | omega) (show (q_I r767 12 5 a0).toInt < 0 → (q_I r767 12 26 a0).toInt < 500 by first | assumption | omega) i769) (fun r785 hr786 => ?_)
                obtain ⟨i799, ⟨u804, u805, u806⟩, p800, p801, p802, p803⟩ := hr786
                have u807 := kp_t u776 u804
                have v808 : q_V r785 = q_V δ := (u805).trans v777
                have v809 := kr_t v778 u806
                have f810 := cb_12_26 i799 k_a0
                have us811 := US.em us784 p803 (by decide) (by decide)
                have f812 := cb_12_4 i799 k_a0
                have f813 : (q_I r785 12 4 a0).toInt = (q_I r767 12 4 a0).toInt := congrArg Int32.toInt (u804 12 4 a0 (by decide))
                have f814 := cb_12_5 i799 k_a0
                have f815 : (q_I r785 12 5 a0).toInt = (q_I r767 12 5 a0).toInt := congrArg Int32.toInt (u804 12 5 a0 (by decide))
                have f816 := ti_b (q_I r785 12 7 a0)
                have f817 : (q_I r785 12 7 a0).toInt = (q_I r767 12 7 a0).toInt := congrArg Int32.toInt (u804 12 7 a0 (by decide))
                have f818 := ti_b (q_I r767 12 7 a0)
                have f819 : (q_I r767 12 7 a0).toInt = (q_I r507.2 12 7 a0).toInt := congrArg Int32.toInt (u772 12 7 a0 (by decide))
                have f820 := ti_b (q_I r507.2 12 7 a0)
                have f821 : (q_I r507.2 12 7 a0).toInt = (q_I r18.2 12 7 a0).toInt := congrArg Int32.toInt (u512 12 7 a0 (by decide))
                have f822 := ti_b (q_I r18.2 12 7 a0)
                have f823 : (q_I r18.2 12 7 a0).toInt = (q_I δ 12 7 a0).toInt := congrArg Int32.toInt (u24 12 7 a0 (by decide))
                exact ok_some (show RI ad h.1 δ0 r785 ∧ (kp [(12, 4), (12, 5), (12, 6), (12, 7), (12, 26)] δ r785 ∧ q_V r785 = q_V δ ∧ kr ad [116, 117] δ r785) ∧ (q_I δ 12 4 a0).toInt ≤ (q_I r785 12 4 a0).toInt ∧ (q_I δ 12 5 a0).toInt ≤ (q_I r785 12 5 a0).toInt ∧ (q_I r785 12 7 a0).toInt = (q_I δ 12 7 a0).toInt ∧ (q_I δ 12 26 a0).toInt ≤ (q_I r785 12 26 a0).toInt ∧ (q_I r785 12 26 a0).toInt - (q_I δ 12 26 a0).toInt ≤ (q_I r785 12 4 a0).toInt - (q_I δ 12 4 a0).toInt ∧ US ad a0 δ r785 from ⟨i799, ⟨kp_w (by decide) u807, v808, kr_w (by decide) v809⟩, by first | assumption | omega, by first | assumption | omega, by first | assumption | omega, by first | assumption | omega, by first | assumption | omega, us811⟩)
            · have c824 : r507.1.toInt ≠ r728.1.toInt := o_ne h734
              refine ok_bind (k_X12_of L hN (a0 := 14) (show 14 < 16 by first | assumption | omega) i509) (fun r825 hr826 => ?_)
              obtain ⟨i827, p828⟩ := hr826
              try rw [i827]
              have f829 := ti_b r825.1
              have f830 := ti_b r825.1
              refine ok_ite (fun h831 => ?_) (fun h831 => ?_)
              · have c832 : r507.1.toInt = r825.1.toInt := o_eq h831
                unfold J_X12_unit_176
                refine ok_ite (fun h833 => ?_) (fun h833 => ?_)
                · have c834 : (4 : Int) = (-1 : Int) := o_eq h833
                  refine ok_bind (k_X12_wrong L hN (a0 := a0) (x1 := (1 : Int32)) (x2 := (q_I r507.2 12 4 a0)) k_a0 (show 0 ≤ ((q_I r507.2 12 4 a0)).toInt by first | assumption | omega) (show ((q_I r507.2 12 4 a0)).toInt ≤ 500 by first | assumption | omega) i509) (fun r835 hr836 => ?_)
                  obtain ⟨i837, ⟨u840, u841, u842, u843⟩, p838, p839⟩ := hr836
                  have u844 := kp_t u516 u840
                  have v845 : q_V r835 = q_V δ := (u841).trans v517
                  have v846 := kr_t v518 u843
                  have f847 := cb_12_5 i837 k_a0
                  have us848 := NU.t us533 (⟨u843 116 (by decide) (by decide) (by decide), u840 12 26 _ (by decide), u840 12 24 _ (by decide), fun z => by omega⟩)
                  have f849 := cb_12_4 i837 k_a0
                  have f850 : (q_I r835 12 4 a0).toInt = (q_I r507.2 12 4 a0).toInt := congrArg Int32.toInt (u840 12 4 a0 (by decide))
                  have f851 := ti_b (q_I r835 12 7 a0)
                  have f852 : (q_I r835 12 7 a0).toInt = (q_I r507.2 12 7 a0).toInt := congrArg Int32.toInt (u840 12 7 a0 (by decide))
                  have f853 := ti_b (q_I r507.2 12 7 a0)
                  have f854 : (q_I r507.2 12 7 a0).toInt = (q_I r18.2 12 7 a0).toInt := congrArg Int32.toInt (u512 12 7 a0 (by decide))
                  have f855 := ti_b (q_I r18.2 12 7 a0)
                  have f856 : (q_I r18.2 12 7 a0).toInt = (q_I δ 12 7 a0).toInt := congrArg Int32.toInt (u24 12 7 a0 (by decide))
                  have f857 := cb_12_26 i837 k_a0
                  have f858 : (q_I r835 12 26 a0).toInt = (q_I r507.2 12 26 a0).toInt := congrArg Int32.toInt (u840 12 26 a0 (by decide))
                  have f859 := cb_12_26 i509 k_a0
                  have f860 : (q_I r507.2 12 26 a0).toInt = (q_I r18.2 12 26 a0).toInt := congrArg Int32.toInt (u512 12 26 a0 (by decide))
                  have f861 := cb_12_26 i20 k_a0
                  have f862 : (q_I r18.2 12 26 a0).toInt = (q_I δ 12 26 a0).toInt := congrArg Int32.toInt (u24 12 26 a0 (by decide))
                  exact ok_some (show RI ad h.1 δ0 r835 ∧ (kp [(12, 4), (12, 5), (12, 6), (12, 7), (12, 26)] δ r835 ∧ q_V r835 = q_V δ ∧ kr ad [116, 117] δ r835) ∧ (q_I δ 12 4 a0).toInt ≤ (q_I r835 12 4 a0).toInt ∧ (q_I δ 12 5 a0).toInt ≤ (q_I r835 12 5 a0).toInt ∧ (q_I r835 12 7 a0).toInt = (q_I δ 12 7 a0).toInt ∧ (q_I δ 12 26 a0).toInt ≤ (q_I r835 12 26 a0).toInt ∧ (q_I r835 12 26 a0).toInt - (q_I δ 12 26 a0).toInt ≤ (q_I r835 12 4 a0).toInt - (q_I δ 12 4 a0).toInt ∧ US ad a0 δ r835 from ⟨i837, ⟨kp_w (by decide) u844, v845, kr_w (by decide) v846⟩, by first | assumption | omega, by first | assumption | omega, by first | assumption | omega, by first | assumption | omega, by first | assumption | omega, US.bad us848 (by omega)⟩)
                · have c863 : (4 : Int) ≠ (-1 : Int) := o_ne h833
                  refine ok_bind (k_X12_pass L hN (a0 := a0) k_a0 i509) (fun r864 hr865 => ?_)
                  obtain ⟨i866, ⟨u869, u870, u871, u872⟩, p867, p868⟩ := hr865
                  have u873 := kp_t u516 u869
                  have v874 : q_V r864 = q_V δ := (u870).trans v517
                  have v875 := kr_t v518 u872
                  have f876 := cb_12_4 i866 k_a0
                  have f877 := cb_12_3 i509 k_a0
                  have f878 : (q_I r507.2 12 3 a0).toInt = (q_I r18.2 12 3 a0).toInt := congrArg Int32.toInt (u512 12 3 a0 (by decide))
                  have f879 := cb_12_5 i866 k_a0
                  have f880 : (q_I r864 12 5 a0).toInt = (q_I r507.2 12 5 a0).toInt := congrArg Int32.toInt (u869 12 5 a0 (by decide))
                  have us881 := NU.t us533 (⟨u872 116 (by decide) (by decide) (by decide), u869 12 26 _ (by decide), u869 12 24 _ (by decide), fun z => by omega⟩)
                  have f884 := cb_12_24 i866 k_a0
                  have f885 : (q_I r864 12 24 a0).toInt = (q_I r507.2 12 24 a0).toInt := congrArg Int32.toInt (u869 12 24 a0 (by decide))
                  have f886 := cb_12_24 i509 k_a0
                  have f887 : (q_I r507.2 12 24 a0).toInt = (q_I r18.2 12 24 a0).toInt := congrArg Int32.toInt (u512 12 24 a0 (by decide))
                  have f888 := cb_12_24 i20 k_a0
                  have f889 : (q_I r18.2 12 24 a0).toInt = (q_I δ 12 24 a0).toInt := congrArg Int32.toInt (u24 12 24 a0 (by decide))
                  have f890 := cb_12_26 i866 k_a0
                  have f891 : (q_I r864 12 26 a0).toInt = (q_I r507.2 12 26 a0).toInt := congrArg Int32.toInt (u869 12 26 a0 (by decide))
                  have f892 := cb_12_26 i509 k_a0
                  have f893 : (q_I r507.2 12 26 a0).toInt = (q_I r18.2 12 26 a0).toInt := congrArg Int32.toInt (u512 12 26 a0 (by decide))
                  have f894 := cb_12_26 i20 k_a0
                  have f895 : (q_I r18.2 12 26 a0).toInt = (q_I δ 12 26 a0).toInt := congrArg Int32.toInt (u24 12 26 a0 (by decide))
                  refine ok_bind (k_X12_emit L hN (a0 := a0) (x1 := (4 : Int32)) (x2 := (0 : Int32)) k_a0 (show (q_I r864 12 24 a0).toInt ≤ 3 by first | assumption | omega) (show (q_I r864 12 5 a0).toInt < 0 → (q_I r864 12 26 a0).toInt < 500 by first | assumption | omega) i866) (fun r882 hr883 => ?_)
                  obtain ⟨i896, ⟨u901, u902, u903⟩, p897, p898, p899, p900⟩ := hr883
                  have u904 := kp_t u873 u901
                  have v905 : q_V r882 = q_V δ := (u902).trans v874
                  have v906 := kr_t v875 u903
                  have f907 := cb_12_26 i896 k_a0
                  have us908 := US.em us881 p900 (by decide) (by decide)
                  have f909 := cb_12_4 i896 k_a0
                  have f910 : (q_I r882 12 4 a0).toInt = (q_I r864 12 4 a0).toInt := congrArg Int32.toInt (u901 12 4 a0 (by decide))
                  have f911 := cb_12_5 i896 k_a0
                  have f912 : (q_I r882 12 5 a0).toInt = (q_I r864 12 5 a0).toInt := congrArg Int32.toInt (u901 12 5 a0 (by decide))
                  have f913 := ti_b (q_I r882 12 7 a0)
                  have f914 : (q_I r882 12 7 a0).toInt = (q_I r864 12 7 a0).toInt := congrArg Int32.toInt (u901 12 7 a0 (by decide))
                  have f915 := ti_b (q_I r864 12 7 a0)
                  have f916 : (q_I r864 12 7 a0).toInt = (q_I r507.2 12 7 a0).toInt := congrArg Int32.toInt (u869 12 7 a0 (by decide))
                  have f917 := ti_b (q_I r507.2 12 7 a0)
                  have f918 : (q_I r507.2 12 7 a0).toInt = (q_I r18.2 12 7 a0).toInt := congrArg Int32.toInt (u512 12 7 a0 (by decide))
                  have f919 := ti_b (q_I r18.2 12 7 a0)
                  have f920 : (q_I r18.2 12 7 a0).toInt = (q_I δ 12 7 a0).toInt := congrArg Int32.toInt (u24 12 7 a0 (by decide))
                  exact ok_some (show RI ad h.1 δ0 r882 ∧ (kp [(12, 4), (12, 5), (12, 6), (12, 7), (12, 26)] δ r882 ∧ q_V r882 = q_V δ ∧ kr ad [116, 117] δ r882) ∧ (q_I δ 12 4 a0).toInt ≤ (q_I r882 12 4 a0).toInt ∧ (q_I δ 12 5 a0).toInt ≤ (q_I r882 12 5 a0).toInt ∧ (q_I r882 12 7 a0).toInt = (q_I δ 12 7 a0).toInt ∧ (q_I δ 12 26 a0).toInt ≤ (q_I r882 12 26 a0).toInt ∧ (q_I r882 12 26 a0).toInt - (q_I δ 12 26 a0).toInt ≤ (q_I r882 12 4 a0).toInt - (q_I δ 12 4 a0).toInt ∧ US ad a0 δ r882 from ⟨i896, ⟨kp_w (by decide) u904, v905, kr_w (by decide) v906⟩, by first | assumption | omega, by first | assumption | omega, by first | assumption | omega, by first | assumption | omega, by first | assumption | omega, us908⟩)
              · have c921 : r507.1.toInt ≠ r825.1.toInt := o_ne h831
                refine ok_bind (k_X12_of L hN (a0 := 15) (show 15 < 16 by first | assumption | omega) i509) (fun r922 hr923 => ?_)
                obtain ⟨i924, p925⟩ := hr923
                try rw [i924]
                have f926 := ti_b r922.1
                have f927 := ti_b r922.1
                refine ok_ite (fun h928 => ?_) (fun h928 => ?_)
                · have c929 : r507.1.toInt = r922.1.toInt := o_eq h928
                  unfold J_X12_unit_176
                  refine ok_ite (fun h930 => ?_) (fun h930 => ?_)
                  · have c931 : (5 : Int) = (-1 : Int) := o_eq h930
                    refine ok_bind (k_X12_wrong L hN (a0 := a0) (x1 := (1 : Int32)) (x2 := (q_I r507.2 12 4 a0)) k_a0 (show 0 ≤ ((q_I r507.2 12 4 a0)).toInt by first | assumption | omega) (show ((q_I r507.2 12 4 a0)).toInt ≤ 500 by first | assumption | omega) i509) (fun r932 hr933 => ?_)
                    obtain ⟨i934, ⟨u937, u938, u939, u940⟩, p935, p936⟩ := hr933
                    have u941 := kp_t u516 u937
                    have v942 : q_V r932 = q_V δ := (u938).trans v517
                    have v943 := kr_t v518 u940
                    have f944 := cb_12_5 i934 k_a0
                    have us945 := NU.t us533 (⟨u940 116 (by decide) (by decide) (by decide), u937 12 26 _ (by decide), u937 12 24 _ (by decide), fun z => by omega⟩)
                    have f946 := cb_12_4 i934 k_a0
                    have f947 : (q_I r932 12 4 a0).toInt = (q_I r507.2 12 4 a0).toInt := congrArg Int32.toInt (u937 12 4 a0 (by decide))
                    have f948 := ti_b (q_I r932 12 7 a0)
                    have f949 : (q_I r932 12 7 a0).toInt = (q_I r507.2 12 7 a0).toInt := congrArg Int32.toInt (u937 12 7 a0 (by decide))
                    have f950 := ti_b (q_I r507.2 12 7 a0)
                    have f951 : (q_I r507.2 12 7 a0).toInt = (q_I r18.2 12 7 a0).toInt := congrArg Int32.toInt (u512 12 7 a0 (by decide))
                    have f952 := ti_b (q_I r18.2 12 7 a0)
                    have f953 : (q_I r18.2 12 7 a0).toInt = (q_I δ 12 7 a0).toInt := congrArg Int32.toInt (u24 12 7 a0 (by decide))
                    have f954 := cb_12_26 i934 k_a0
                    have f955 : (q_I r932 12 26 a0).toInt = (q_I r507.2 12 26 a0).toInt := congrArg Int32.toInt (u937 12 26 a0 (by decide))
                    have f956 := cb_12_26 i509 k_a0
                    have f957 : (q_I r507.2 12 26 a0).toInt = (q_I r18.2 12 26 a0).toInt := congrArg Int32.toInt (u512 12 26 a0 (by decide))
                    have f958 := cb_12_26 i20 k_a0
                    have f959 : (q_I r18.2 12 26 a0).toInt = (q_I δ 12 26 a0).toInt := congrArg Int32.toInt (u24 12 26 a0 (by decide))
                    exact ok_some (show RI ad h.1 δ0 r932 ∧ (kp [(12, 4), (12, 5), (12, 6), (12, 7), (12, 26)] δ r932 ∧ q_V r932 = q_V δ ∧ kr ad [116, 117] δ r932) ∧ (q_I δ 12 4 a0).toInt ≤ (q_I r932 12 4 a0).toInt ∧ (q_I δ 12 5 a0).toInt ≤ (q_I r932 12 5 a0).toInt ∧ (q_I r932 12 7 a0).toInt = (q_I δ 12 7 a0).toInt ∧ (q_I δ 12 26 a0).toInt ≤ (q_I r932 12 26 a0).toInt ∧ (q_I r932 12 26 a0).toInt - (q_I δ 12 26 a0).toInt ≤ (q_I r932 12 4 a0).toInt - (q_I δ 12 4 a0).toInt ∧ US ad a0 δ r932 from ⟨i934, ⟨kp_w (by decide) u941, v942, kr_w (by decide) v943⟩, by first | assumption | omega, by first | assumption | omega, by first | assumption | omega, by first | assumption | omega, by first | assumption | omega, US.bad us945 (by omega)⟩)
                  · have c960 : (5 : Int) ≠ (-1 : Int) := o_ne h930
                    refine ok_bind (k_X12_pass L hN (a0 := a0) k_a0 i509) (fun r961 hr962 => ?_)
                    obtain ⟨i963, ⟨u966, u967, u968, u969⟩, p964, p965⟩ := hr962
                    have u970 := kp_t u516 u966
                    have v971 : q_V r961 = q_V δ := (u967).trans v517
                    have v972 := kr_t v518 u969
                    have f973 := cb_12_4 i963 k_a0
                    have f974 := cb_12_3 i509 k_a0
                    have f975 : (q_I r507.2 12 3 a0).toInt = (q_I r18.2 12 3 a0).toInt := congrArg Int32.toInt (u512 12 3 a0 (by decide))
                    have f976 := cb_12_5 i963 k_a0
                    have f977 : (q_I r961 12 5 a0).toInt = (q_I r507.2 12 5 a0).toInt := congrArg Int32.toInt (u966 12 5 a0 (by decide))
                    have us978 := NU.t us533 (⟨u969 116 (by decide) (by decide) (by decide), u966 12 26 _ (by decide), u966 12 24 _ (by decide), fun z => by omega⟩)
                    have f981 := cb_12_24 i963 k_a0
                    have f982 : (q_I r961 12 24 a0).toInt = (q_I r507.2 12 24 a0).toInt := congrArg Int32.toInt (u966 12 24 a0 (by decide))
                    have f983 := cb_12_24 i509 k_a0
                    have f984 : (q_I r507.2 12 24 a0).toInt = (q_I r18.2 12 24 a0).toInt := congrArg Int32.toInt (u512 12 24 a0 (by decide))
                    have f985 := cb_12_24 i20 k_a0
                    have f986 : (q_I r18.2 12 24 a0).toInt = (q_I δ 12 24 a0).toInt := congrArg Int32.toInt (u24 12 24 a0 (by decide))
                    have f987 := cb_12_26 i963 k_a0
                    have f988 : (q_I r961 12 26 a0).toInt = (q_I r507.2 12 26 a0).toInt := congrArg Int32.toInt (u966 12 26 a0 (by decide))
                    have f989 := cb_12_26 i509 k_a0
                    have f990 : (q_I r507.2 12 26 a0).toInt = (q_I r18.2 12 26 a0).toInt := congrArg Int32.toInt (u512 12 26 a0 (by decide))
                    have f991 := cb_12_26 i20 k_a0
                    have f992 : (q_I r18.2 12 26 a0).toInt = (q_I δ 12 26 a0).toInt := congrArg Int32.toInt (u24 12 26 a0 (by decide))
                    refine ok_bind (k_X12_emit L hN (a0 := a0) (x1 := (5 : Int32)) (x2 := (0 : Int32)) k_a0 (show (q_I r961 12 24 a0).toInt ≤ 3 by first | assumption | omega) (show (q_I r961 12 5 a0).toInt < 0 → (q_I r961 12 26 a0).toInt < 500 by first | assumption | omega) i963) (fun r979 hr980 => ?_)
                    obtain ⟨i993, ⟨u998, u999, u1000⟩, p994, p995, p996, p997⟩ := hr980
                    have u1001 := kp_t u970 u998
                    have v1002 : q_V r979 = q_V δ := (u999).trans v971
                    have v1003 := kr_t v972 u1000
                    have f1004 := cb_12_26 i993 k_a0
                    have us1005 := US.em us978 p997 (by decide) (by decide)
                    have f1006 := cb_12_4 i993 k_a0
                    have f1007 : (q_I r979 12 4 a0).toInt = (q_I r961 12 4 a0).toInt := congrArg Int32.toInt (u998 12 4 a0 (by decide))
                    have f1008 := cb_12_5 i993 k_a0
                    have f1009 : (q_I r979 12 5 a0).toInt = (q_I r961 12 5 a0).toInt := congrArg Int32.toInt (u998 12 5 a0 (by decide))
                    have f1010 := ti_b (q_I r979 12 7 a0)
                    have f1011 : (q_I r979 12 7 a0).toInt = (q_I r961 12 7 a0).toInt := congrArg Int32.toInt (u998 12 7 a0 (by decide))
                    have f1012 := ti_b (q_I r961 12 7 a0)
                    have f1013 : (q_I r961 12 7 a0).toInt = (q_I r507.2 12 7 a0).toInt := congrArg Int32.toInt (u966 12 7 a0 (by decide))
                    have f1014 := ti_b (q_I r507.2 12 7 a0)
                    have f1015 : (q_I r507.2 12 7 a0).toInt = (q_I r18.2 12 7 a0).toInt := congrArg Int32.toInt (u512 12 7 a0 (by decide))
                    have f1016 := ti_b (q_I r18.2 12 7 a0)
                    have f1017 : (q_I r18.2 12 7 a0).toInt = (q_I δ 12 7 a0).toInt := congrArg Int32.toInt (u24 12 7 a0 (by decide))
                    exact ok_some (show RI ad h.1 δ0 r979 ∧ (kp [(12, 4), (12, 5), (12, 6), (12, 7), (12, 26)] δ r979 ∧ q_V r979 = q_V δ ∧ kr ad [116, 117] δ r979) ∧ (q_I δ 12 4 a0).toInt ≤ (q_I r979 12 4 a0).toInt ∧ (q_I δ 12 5 a0).toInt ≤ (q_I r979 12 5 a0).toInt ∧ (q_I r979 12 7 a0).toInt = (q_I δ 12 7 a0).toInt ∧ (q_I δ 12 26 a0).toInt ≤ (q_I r979 12 26 a0).toInt ∧ (q_I r979 12 26 a0).toInt - (q_I δ 12 26 a0).toInt ≤ (q_I r979 12 4 a0).toInt - (q_I δ 12 4 a0).toInt ∧ US ad a0 δ r979 from ⟨i993, ⟨kp_w (by decide) u1001, v1002, kr_w (by decide) v1003⟩, by first | assumption | omega, by first | assumption | omega, by first | assumption | omega, by first | assumption | omega, by first | assumption | omega, us1005⟩)
                · have c1018 : r507.1.toInt ≠ r922.1.toInt := o_ne h928
                  unfold J_X12_unit_176
                  refine ok_ite (fun h1019 => ?_) (fun h1019 => ?_)
                  · have c1020 : (-1 : Int) = (-1 : Int) := o_eq h1019
                    refine ok_bind (k_X12_wrong L hN (a0 := a0) (x1 := (1 : Int32)) (x2 := (q_I r507.2 12 4 a0)) k_a0 (show 0 ≤ ((q_I r507.2 12 4 a0)).toInt by first | assumption | omega) (show ((q_I r507.2 12 4 a0)).toInt ≤ 500 by first | assumption | omega) i509) (fun r1021 hr1022 => ?_)
                    obtain ⟨i1023, ⟨u1026, u1027, u1028, u1029⟩, p1024, p1025⟩ := hr1022
                    have u1030 := kp_t u516 u1026
                    have v1031 : q_V r1021 = q_V δ := (u1027).trans v517
                    have v1032 := kr_t v518 u1029
                    have f1033 := cb_12_5 i1023 k_a0
                    have us1034 := NU.t us533 (⟨u1029 116 (by decide) (by decide) (by decide), u1026 12 26 _ (by decide), u1026 12 24 _ (by decide), fun z => by omega⟩)
                    have f1035 := cb_12_4 i1023 k_a0
                    have f1036 : (q_I r1021 12 4 a0).toInt = (q_I r507.2 12 4 a0).toInt := congrArg Int32.toInt (u1026 12 4 a0 (by decide))
                    have f1037 := ti_b (q_I r1021 12 7 a0)
                    have f1038 : (q_I r1021 12 7 a0).toInt = (q_I r507.2 12 7 a0).toInt := congrArg Int32.toInt (u1026 12 7 a0 (by decide))
                    have f1039 := ti_b (q_I r507.2 12 7 a0)
                    have f1040 : (q_I r507.2 12 7 a0).toInt = (q_I r18.2 12 7 a0).toInt := congrArg Int32.toInt (u512 12 7 a0 (by decide))
                    have f1041 := ti_b (q_I r18.2 12 7 a0)
                    have f1042 : (q_I r18.2 12 7 a0).toInt = (q_I δ 12 7 a0).toInt := congrArg Int32.toInt (u24 12 7 a0 (by decide))
                    have f1043 := cb_12_26 i1023 k_a0
                    have f1044 : (q_I r1021 12 26 a0).toInt = (q_I r507.2 12 26 a0).toInt := congrArg Int32.toInt (u1026 12 26 a0 (by decide))
                    have f1045 := cb_12_26 i509 k_a0
                    have f1046 : (q_I r507.2 12 26 a0).toInt = (q_I r18.2 12 26 a0).toInt := congrArg Int32.toInt (u512 12 26 a0 (by decide))
                    have f1047 := cb_12_26 i20 k_a0
                    have f1048 : (q_I r18.2 12 26 a0).toInt = (q_I δ 12 26 a0).toInt := congrArg Int32.toInt (u24 12 26 a0 (by decide))
                    exact ok_some (show RI ad h.1 δ0 r1021 ∧ (kp [(12, 4), (12, 5), (12, 6), (12, 7), (12, 26)] δ r1021 ∧ q_V r1021 = q_V δ ∧ kr ad [116, 117] δ r1021) ∧ (q_I δ 12 4 a0).toInt ≤ (q_I r1021 12 4 a0).toInt ∧ (q_I δ 12 5 a0).toInt ≤ (q_I r1021 12 5 a0).toInt ∧ (q_I r1021 12 7 a0).toInt = (q_I δ 12 7 a0).toInt ∧ (q_I δ 12 26 a0).toInt ≤ (q_I r1021 12 26 a0).toInt ∧ (q_I r1021 12 26 a0).toInt - (q_I δ 12 26 a0).toInt ≤ (q_I r1021 12 4 a0).toInt - (q_I δ 12 4 a0).toInt ∧ US ad a0 δ r1021 from ⟨i1023, ⟨kp_w (by decide) u1030, v1031, kr_w (by decide) v1032⟩, by first | assumption | omega, by first | assumption | omega, by first | assumption | omega, by first | assumption | omega, by first | assumption | omega, US.bad us1034 (by omega)⟩)
                  · have c1049 : (-1 : Int) ≠ (-1 : Int) := o_ne h1019
                    refine ok_bind (k_X12_pass L hN (a0 := a0) k_a0 i509) (fun r1050 hr1051 => ?_)
                    obtain ⟨i1052, ⟨u1055, u1056, u1057, u1058⟩, p1053, p1054⟩ := hr1051
                    have u1059 := kp_t u516 u1055
                    have v1060 : q_V r1050 = q_V δ := (u1056).trans v517
                    have v1061 := kr_t v518 u1058
                    have f1062 := cb_12_4 i1052 k_a0
                    have f1063 := cb_12_3 i509 k_a0
                    have f1064 : (q_I r507.2 12 3 a0).toInt = (q_I r18.2 12 3 a0).toInt := congrArg Int32.toInt (u512 12 3 a0 (by decide))
                    have f1065 := cb_12_5 i1052 k_a0
                    have f1066 : (q_I r1050 12 5 a0).toInt = (q_I r507.2 12 5 a0).toInt := congrArg Int32.toInt (u1055 12 5 a0 (by decide))
                    have us1067 := NU.t us533 (⟨u1058 116 (by decide) (by decide) (by decide), u1055 12 26 _ (by decide), u1055 12 24 _ (by decide), fun z => by omega⟩)
                    have f1070 := cb_12_24 i1052 k_a0
                    have f1071 : (q_I r1050 12 24 a0).toInt = (q_I r507.2 12 24 a0).toInt := congrArg Int32.toInt (u1055 12 24 a0 (by decide))
                    have f1072 := cb_12_24 i509 k_a0
                    have f1073 : (q_I r507.2 12 24 a0).toInt = (q_I r18.2 12 24 a0).toInt := congrArg Int32.toInt (u512 12 24 a0 (by decide))
                    have f1074 := cb_12_24 i20 k_a0
                    have f1075 : (q_I r18.2 12 24 a0).toInt = (q_I δ 12 24 a0).toInt := congrArg Int32.toInt (u24 12 24 a0 (by decide))
                    have f1076 := cb_12_26 i1052 k_a0
                    have f1077 : (q_I r1050 12 26 a0).toInt = (q_I r507.2 12 26 a0).toInt := congrArg Int32.toInt (u1055 12 26 a0 (by decide))
                    have f1078 := cb_12_26 i509 k_a0
                    have f1079 : (q_I r507.2 12 26 a0).toInt = (q_I r18.2 12 26 a0).toInt := congrArg Int32.toInt (u512 12 26 a0 (by decide))
                    have f1080 := cb_12_26 i20 k_a0
                    have f1081 : (q_I r18.2 12 26 a0).toInt = (q_I δ 12 26 a0).toInt := congrArg Int32.toInt (u24 12 26 a0 (by decide))
                    refine ok_bind (k_X12_emit L hN (a0 := a0) (x1 := (-1 : Int32)) (x2 := (0 : Int32)) k_a0 (show (q_I r1050 12 24 a0).toInt ≤ 3 by first | assumption | omega) (show (q_I r1050 12 5 a0).toInt < 0 → (q_I r1050 12 26 a0).toInt < 500 by first | assumption | omega) i1052) (fun r1068 hr1069 => ?_)
                    obtain ⟨i1082, ⟨u1087, u1088, u1089⟩, p1083, p1084, p1085, p1086⟩ := hr1069
                    have u1090 := kp_t u1059 u1087
                    have v1091 : q_V r1068 = q_V δ := (u1088).trans v1060
                    have v1092 := kr_t v1061 u1089
                    have f1093 := cb_12_26 i1082 k_a0
                    have us1094 := US.em us1067 p1086 (by decide) (by decide)
                    have f1095 := cb_12_4 i1082 k_a0
                    have f1096 : (q_I r1068 12 4 a0).toInt = (q_I r1050 12 4 a0).toInt := congrArg Int32.toInt (u1087 12 4 a0 (by decide))
                    have f1097 := cb_12_5 i1082 k_a0
                    have f1098 : (q_I r1068 12 5 a0).toInt = (q_I r1050 12 5 a0).toInt := congrArg Int32.toInt (u1087 12 5 a0 (by decide))
                    have f1099 := ti_b (q_I r1068 12 7 a0)
                    have f1100 : (q_I r1068 12 7 a0).toInt = (q_I r1050 12 7 a0).toInt := congrArg Int32.toInt (u1087 12 7 a0 (by decide))
                    have f1101 := ti_b (q_I r1050 12 7 a0)
                    have f1102 : (q_I r1050 12 7 a0).toInt = (q_I r507.2 12 7 a0).toInt := congrArg Int32.toInt (u1055 12 7 a0 (by decide))
                    have f1103 := ti_b (q_I r507.2 12 7 a0)
                    have f1104 : (q_I r507.2 12 7 a0).toInt = (q_I r18.2 12 7 a0).toInt := congrArg Int32.toInt (u512 12 7 a0 (by decide))
                    have f1105 := ti_b (q_I r18.2 12 7 a0)
                    have f1106 : (q_I r18.2 12 7 a0).toInt = (q_I δ 12 7 a0).toInt := congrArg Int32.toInt (u24 12 7 a0 (by decide))
                    exact ok_some (show RI ad h.1 δ0 r1068 ∧ (kp [(12, 4), (12, 5), (12, 6), (12, 7), (12, 26)] δ r1068 ∧ q_V r1068 = q_V δ ∧ kr ad [116, 117] δ r1068) ∧ (q_I δ 12 4 a0).toInt ≤ (q_I r1068 12 4 a0).toInt ∧ (q_I δ 12 5 a0).toInt ≤ (q_I r1068 12 5 a0).toInt ∧ (q_I r1068 12 7 a0).toInt = (q_I δ 12 7 a0).toInt ∧ (q_I δ 12 26 a0).toInt ≤ (q_I r1068 12 26 a0).toInt ∧ (q_I r1068 12 26 a0).toInt - (q_I δ 12 26 a0).toInt ≤ (q_I r1068 12 4 a0).toInt - (q_I δ 12 4 a0).toInt ∧ US ad a0 δ r1068 from ⟨i1082, ⟨kp_w (by decide) u1090, v1091, kr_w (by decide) v1092⟩, by first | assumption | omega, by first | assumption | omega, by first | assumption | omega, by first | assumption | omega, by first | assumption | omega, us1094⟩)
    · have c1107 : r46.1.toInt ≠ (0 : Int) := o_ne h55
      refine ok_bind (k_X12_readNumber L hN (a0 := a0) (x1 := (0 : Int32)) (x2 := (99999 : Int32)) k_a0 i20) (fun r1108 hr1109 => ?_)
      obtain ⟨i1110, ⟨u1117, u1118, u1119, u1120⟩, p1111, p1112, p1113, p1114, p1115, p1116⟩ := hr1109
      have u1121 := kp_t u28 u1117
      have v1122 : q_V r1108.2 = q_V δ := (u1118).trans v29
      have v1123 := kr_t v30 u1120
      have f1124 := cb_12_4 i1110 k_a0
      have f1125 := cb_12_5 i1110 k_a0
      have f1126 := ti_b r1108.1
      replace p1116 : ((q_I r1108.2 12 5 a0).toInt < 0 → (0 : Int) ≤ (r1108.1).toInt ∧ (r1108.1).toInt ≤ (99999 : Int)) := p1116
      have f1127 := ti_b r1108.1
      have us1128 := NU.t us45 (⟨u1120 116 (by decide) (by decide) (by decide), u1117 12 26 _ (by decide), u1117 12 24 _ (by decide), fun z => by omega⟩)
      have f1131 := cb_12_24 i1110 k_a0
      have f1132 : (q_I r1108.2 12 24 a0).toInt = (q_I r18.2 12 24 a0).toInt := congrArg Int32.toInt (u1117 12 24 a0 (by decide))
      have f1133 := cb_12_24 i20 k_a0
      have f1134 : (q_I r18.2 12 24 a0).toInt = (q_I δ 12 24 a0).toInt := congrArg Int32.toInt (u24 12 24 a0 (by decide))
      have f1135 := cb_12_26 i1110 k_a0
      have f1136 : (q_I r1108.2 12 26 a0).toInt = (q_I r18.2 12 26 a0).toInt := congrArg Int32.toInt (u1117 12 26 a0 (by decide))
      have f1137 := cb_12_26 i20 k_a0
      have f1138 : (q_I r18.2 12 26 a0).toInt = (q_I δ 12 26 a0).toInt := congrArg Int32.toInt (u24 12 26 a0 (by decide))
      refine ok_bind (k_X12_emit L hN (a0 := a0) (x1 := (0 : Int32)) (x2 := r1108.1) k_a0 (show (q_I r1108.2 12 24 a0).toInt ≤ 3 by first | assumption | omega) (show (q_I r1108.2 12 5 a0).toInt < 0 → (q_I r1108.2 12 26 a0).toInt < 500 by first | assumption | omega) i1110) (fun r1129 hr1130 => ?_)
      obtain ⟨i1139, ⟨u1144, u1145, u1146⟩, p1140, p1141, p1142, p1143⟩ := hr1130
      have u1147 := kp_t u1121 u1144
      have v1148 : q_V r1129 = q_V δ := (u1145).trans v1122
      have v1149 := kr_t v1123 u1146
      have f1150 := cb_12_26 i1139 k_a0
      have us1151 := US.em us1128 p1143 (by decide) (by decide)
      have f1152 := cb_12_4 i1139 k_a0
      have f1153 : (q_I r1129 12 4 a0).toInt = (q_I r1108.2 12 4 a0).toInt := congrArg Int32.toInt (u1144 12 4 a0 (by decide))
      have f1154 := cb_12_5 i1139 k_a0
      have f1155 : (q_I r1129 12 5 a0).toInt = (q_I r1108.2 12 5 a0).toInt := congrArg Int32.toInt (u1144 12 5 a0 (by decide))
      have f1156 := ti_b (q_I r1129 12 7 a0)
      have f1157 : (q_I r1129 12 7 a0).toInt = (q_I r1108.2 12 7 a0).toInt := congrArg Int32.toInt (u1144 12 7 a0 (by decide))
      have f1158 := ti_b (q_I r1108.2 12 7 a0)
      have f1159 : (q_I r1108.2 12 7 a0).toInt = (q_I r18.2 12 7 a0).toInt := congrArg Int32.toInt (u1117 12 7 a0 (by decide))
      have f1160 := ti_b (q_I r18.2 12 7 a0)
      have f1161 : (q_I r18.2 12 7 a0).toInt = (q_I δ 12 7 a0).toInt := congrArg Int32.toInt (u24 12 7 a0 (by decide))
      exact ok_some (show RI ad h.1 δ0 r1129 ∧ (kp [(12, 4), (12, 5), (12, 6), (12, 7), (12, 26)] δ r1129 ∧ q_V r1129 = q_V δ ∧ kr ad [116, 117] δ r1129) ∧ (q_I δ 12 4 a0).toInt ≤ (q_I r1129 12 4 a0).toInt ∧ (q_I δ 12 5 a0).toInt ≤ (q_I r1129 12 5 a0).toInt ∧ (q_I r1129 12 7 a0).toInt = (q_I δ 12 7 a0).toInt ∧ (q_I δ 12 26 a0).toInt ≤ (q_I r1129 12 26 a0).toInt ∧ (q_I r1129 12 26 a0).toInt - (q_I δ 12 26 a0).toInt ≤ (q_I r1129 12 4 a0).toInt - (q_I δ 12 4 a0).toInt ∧ US ad a0 δ r1129 from ⟨i1139, ⟨kp_w (by decide) u1147, v1148, kr_w (by decide) v1149⟩, by first | assumption | omega, by first | assumption | omega, by first | assumption | omega, by first | assumption | omega, by first | assumption | omega, us1151⟩)
set_option maxHeartbeats 4000000 in
theorem kl_X12_product_4 {ad : List Nat} {h : hp} (L : Lay TLx ad h) {δ0 : dp} {N : Nat} (hN : 10000000 ≤ N) {T : Nat → dp → Option (dp)} {K : Int} (hT : ∀ (a0 : Nat) (δ : dp), q_K h.1 a0 = 12 → (q_I δ 12 24 a0).toInt ≤ 3 → (q_I δ 12 26 a0).toInt ≤ (q_I δ 12 4 a0).toInt → 0 ≤ (q_I δ 12 7 a0).toInt → (q_I δ 12 7 a0).toInt ≤ 7 → ((q_I δ 12 7 a0).toInt = 7 → 0 ≤ (q_I δ 12 5 a0).toInt) → 8 - (q_I δ 12 7 a0).toInt < K → RI ad h.1 δ0 δ → ok (T a0 δ) (fun r => RI ad h.1 δ0 r ∧ (kp [(12, 4), (12, 5), (12, 6), (12, 7), (12, 26)] δ r ∧ q_V r = q_V δ ∧ kr ad [116, 117] δ r) ∧ (q_I δ 12 4 a0).toInt ≤ (q_I r 12 4 a0).toInt ∧ (q_I δ 12 5 a0).toInt ≤ (q_I r 12 5 a0).toInt ∧ (q_I r 12 7 a0).toInt = (q_I δ 12 7 a0).toInt ∧ (q_I δ 12 26 a0).toInt ≤ (q_I r 12 26 a0).toInt ∧ (q_I r 12 26 a0).toInt - (q_I δ 12 26 a0).toInt ≤ (q_I r 12 4 a0).toInt - (q_I δ 12 4 a0).toInt ∧ US ad a0 δ r)) {a0 : Nat} (k_a0 : q_K h.1 a0 = 12) : ∀ (n : Nat) (δ : dp), RI ad h.1 δ0 δ → (q_I δ 12 24 a0).toInt ≤ 3 → (q_I δ 12 26 a0).toInt ≤ (q_I δ 12 4 a0).toInt → 0 ≤ (q_I δ 12 7 a0).toInt → (q_I δ 12 7 a0).toInt ≤ 7 → ((q_I δ 12 7 a0).toInt = 7 → 0 ≤ (q_I δ 12 5 a0).toInt) → 8 - (q_I δ 12 7 a0).toInt ≤ K → 501 - (q_I δ 12 4 a0).toInt < (n : Int) → ok (L_X12_product_4 N h.1 T a0 n δ) (fun r => RI ad h.1 δ0 r ∧ (kp [(12, 4), (12, 5), (12, 6), (12, 7), (12, 26)] δ r ∧ q_V r = q_V δ ∧ kr ad [116, 117] δ r) ∧ (q_I δ 12 4 a0).toInt ≤ (q_I r 12 4 a0).toInt ∧ (q_I δ 12 5 a0).toInt ≤ (q_I r 12 5 a0).toInt ∧ (q_I r 12 7 a0).toInt = (q_I δ 12 7 a0).toInt ∧ (q_I δ 12 26 a0).toInt ≤ (q_I r 12 26 a0).toInt ∧ (q_I r 12 26 a0).toInt - (q_I δ 12 26 a0).toInt ≤ (q_I r 12 4 a0).toInt - (q_I δ 12 4 a0).toInt ∧ LU ad a0 δ r) := by
  intro n
  induction n with
  | zero =>
    intro δ I j0 j1 j2 j3 j4 j5 hm
    have f1 := cb_12_24 I k_a0
    have f2 := cb_12_26 I k_a0
    have f3 := cb_12_4 I k_a0
    have f4 := ti_b (q_I δ 12 7 a0)
    have f5 := cb_12_5 I k_a0
    exfalso; omega
  | succ n ih =>
    intro δ I j0 j1 j2 j3 j4 j5 hm
    unfold L_X12_product_4
    have f1 := cb_12_24 I k_a0
    have f2 := cb_12_26 I k_a0
    have f3 := cb_12_4 I k_a0
    have f4 := ti_b (q_I δ 12 7 a0)
    have f5 := cb_12_5 I k_a0
    refine ok_bind (k_X12_fine L hN (a0 := a0) k_a0 I) (fun r6 hr7 => ?_)
    obtain ⟨i8, p9, p10, p11⟩ := hr7
    try rw [i8]
    have f12 := bo_l p9
    have f13 := ti_b r6.1
    have f14 := ti_b r6.1
    refine ok_ite (fun h15 => ?_) (fun h15 => ?_)
    · have c16 : r6.1.toInt = (0 : Int) := o_eq h15
      unfold J_X12_product_69
      exact ok_some (show RI ad h.1 δ0 δ ∧ (kp [(12, 4), (12, 5), (12, 6), (12, 7), (12, 26)] δ δ ∧ q_V δ = q_V δ ∧ kr ad [116, 117] δ δ) ∧ (q_I δ 12 4 a0).toInt ≤ (q_I δ 12 4 a0).toInt ∧ (q_I δ 12 5 a0).toInt ≤ (q_I δ 12 5 a0).toInt ∧ (q_I δ 12 7 a0).toInt = (q_I δ 12 7 a0).toInt ∧ (q_I δ 12 26 a0).toInt ≤ (q_I δ 12 26 a0).toInt ∧ (q_I δ 12 26 a0).toInt - (q_I δ 12 26 a0).toInt ≤ (q_I δ 12 4 a0).toInt - (q_I δ 12 4 a0).toInt ∧ LU ad a0 δ δ from ⟨I, ⟨kp_w (by decide) kp_r, rfl, kr_w (by decide) (kr_r (ad := ad))⟩, by first | assumption | omega, by first | assumption | omega, by first | assumption | omega, by first | assumption | omega, by first | assumption | omega, LU.n NU.r⟩)
    · have c17 : r6.1.toInt ≠ (0 : Int) := o_ne h15
      refine ok_bind (k_X12_here L hN (a0 := a0) k_a0 I) (fun r18 hr19 => ?_)
      obtain ⟨i20, ⟨u24, u25, u26, u27⟩, p21, p22, p23⟩ := hr19
      have u28 := kp_t kp_r u24
      have v29 : q_V r18.2 = q_V δ := (u25).trans rfl
      have v30 := kr_t (kr_r (ad := ad)) u27
      have f31 := cb_12_4 i20 k_a0
      have f32 : hc ad r18.2 a0 = (q_R r18.2 (Ad ad 101) (q_I r18.2 12 4 a0).toNatClampNeg).toInt := rfl
      have t33 := ti_tn (q_I r18.2 12 4 a0)
      have f34 : (q_R r18.2 (Ad ad 101) (q_I r18.2 12 4 a0).toNatClampNeg).toInt = (q_R δ (Ad ad 101) (q_I r18.2 12 4 a0).toNatClampNeg).toInt := congrArg Int32.toInt (congrFun (u27 101 (by decide) (by decide) (by decide)) _)
      have f35 := ti_b (q_R δ (Ad ad 101) (q_I r18.2 12 4 a0).toNatClampNeg)
      have f36 := ti_b (q_R r18.2 (Ad ad 101) (q_I r18.2 12 4 a0).toNatClampNeg)
      have f37 := ti_b r18.1
      have f38 := cb_12_3 I k_a0
      have f39 : hc ad δ a0 = (q_R δ (Ad ad 101) (q_I δ 12 4 a0).toNatClampNeg).toInt := rfl
      have t40 := ti_tn (q_I δ 12 4 a0)
      have f41 := ti_b (q_R δ (Ad ad 101) (q_I δ 12 4 a0).toNatClampNeg)
      have f42 := ti_b r18.1
      have f43 := cb_12_5 i20 k_a0
      have f44 : (q_I r18.2 12 5 a0).toInt = (q_I δ 12 5 a0).toInt := congrArg Int32.toInt (u24 12 5 a0 (by decide))
      have us45 := NU.t NU.r (⟨u27 116 (by decide) (by decide) (by decide), u24 12 26 _ (by decide), u24 12 24 _ (by decide), fun z => by omega⟩)
      refine ok_ite (fun h46 => ?_) (fun h46 => ?_)
      · have c47 : r18.1.toInt = (42 : Int) := o_eq h46
        unfold J_X12_product_29
        refine ok_bind (k_X12_here L hN (a0 := a0) k_a0 i20) (fun r48 hr49 => ?_)
        obtain ⟨i50, ⟨u54, u55, u56, u57⟩, p51, p52, p53⟩ := hr49
        have u58 := kp_t u28 u54
        have v59 : q_V r48.2 = q_V δ := (u55).trans v29
        have v60 := kr_t v30 u57
        have f61 := cb_12_4 i50 k_a0
        have f62 : hc ad r48.2 a0 = (q_R r48.2 (Ad ad 101) (q_I r48.2 12 4 a0).toNatClampNeg).toInt := rfl
        have t63 := ti_tn (q_I r48.2 12 4 a0)
        have f64 : (q_R r48.2 (Ad ad 101) (q_I r48.2 12 4 a0).toNatClampNeg).toInt = (q_R r18.2 (Ad ad 101) (q_I r48.2 12 4 a0).toNatClampNeg).toInt := congrArg Int32.toInt (congrFun (u57 101 (by decide) (by decide) (by decide)) _)
        have f65 : (q_R r18.2 (Ad ad 101) (q_I r48.2 12 4 a0).toNatClampNeg).toInt = (q_R δ (Ad ad 101) (q_I r48.2 12 4 a0).toNatClampNeg).toInt := congrArg Int32.toInt (congrFun (u27 101 (by decide) (by decide) (by decide)) _)
        have f66 := ti_b (q_R δ (Ad ad 101) (q_I r48.2 12 4 a0).toNatClampNeg)
        have f67 := ti_b (q_R r18.2 (Ad ad 101) (q_I r48.2 12 4 a0).toNatClampNeg)
        have f68 := ti_b (q_R r48.2 (Ad ad 101) (q_I r48.2 12 4 a0).toNatClampNeg)
        have f69 := ti_b r48.1
        have f70 := cb_12_3 i20 k_a0
        have f71 : (q_I r18.2 12 3 a0).toInt = (q_I δ 12 3 a0).toInt := congrArg Int32.toInt (u24 12 3 a0 (by decide))
        have f72 := ti_b r48.1
        have f73 := cb_12_5 i50 k_a0
        have f74 : (q_I r48.2 12 5 a0).toInt = (q_I r18.2 12 5 a0).toInt := congrArg Int32.toInt (u54 12 5 a0 (by decide))
        have us75 := NU.t us45 (⟨u57 116 (by decide) (by decide) (by decide), u54 12 26 _ (by decide), u54 12 24 _ (by decide), fun z => by omega⟩)
        first | (have q80 := te_addc (c := 1) (n := 1) rfl (q_I r48.2 12 4 a0) (by omega) (by omega); obtain ⟨f81, f82, f83⟩ := q80) | (obtain ⟨q80, f81, f82, f83⟩ := ti_addc (c := 1) (n := 1) rfl (q_I r48.2 12 4 a0))
        refine ok_bdv (fun d76 e77 => ?_)
        have i78 : RI ad h.1 δ0 d76 := by rw [e77]; exact cs_12_4 L i50 k_a0 (show 0 ≤ ((q_I r48.2 12 4 a0) + (1 : Int32)).toInt by omega) (show ((q_I r48.2 12 4 a0) + (1 : Int32)).toInt ≤ 500 by omega)
        have u84 := kp_I u58 e77
        have v85 : q_V d76 = q_V δ := ((show q_V d76 = q_V r48.2 by rw [e77]; rfl)).trans v59
        have v86 := kr_N v60 (show q_R d76 = q_R r48.2 by rw [e77]; rfl)
        have us87 := NU.t us75 (NU.w (ad := ad) e77 (by decide))
        have f90 := cb_12_24 i78 k_a0
        have f91 : (q_I d76 12 24 a0).toInt = (q_I r48.2 12 24 a0).toInt := congrArg Int32.toInt (by rw [e77]; exact rI_o (by decide))
        have f92 := cb_12_24 i50 k_a0
        have f93 : (q_I r48.2 12 24 a0).toInt = (q_I r18.2 12 24 a0).toInt := congrArg Int32.toInt (u54 12 24 a0 (by decide))
        have f94 := cb_12_24 i20 k_a0
        have f95 : (q_I r18.2 12 24 a0).toInt = (q_I δ 12 24 a0).toInt := congrArg Int32.toInt (u24 12 24 a0 (by decide))
        have f96 := cb_12_26 i78 k_a0
        have f97 : (q_I d76 12 26 a0).toInt = (q_I r48.2 12 26 a0).toInt := congrArg Int32.toInt (by rw [e77]; exact rI_o (by decide))
        have f98 := cb_12_26 i50 k_a0
        have f99 : (q_I r48.2 12 26 a0).toInt = (q_I r18.2 12 26 a0).toInt := congrArg Int32.toInt (u54 12 26 a0 (by decide))
        have f100 := cb_12_26 i20 k_a0
        have f101 : (q_I r18.2 12 26 a0).toInt = (q_I δ 12 26 a0).toInt := congrArg Int32.toInt (u24 12 26 a0 (by decide))
        have f102 := cb_12_4 i78 k_a0
        have f103 : (q_I d76 12 4 a0).toInt = ((q_I r48.2 12 4 a0) + (1 : Int32)).toInt := congrArg Int32.toInt (show q_I d76 12 4 a0 = ((q_I r48.2 12 4 a0) + (1 : Int32)) by rw [e77]; exact rI_s)
        have f104 := ti_b (q_I d76 12 7 a0)
        have f105 : (q_I d76 12 7 a0).toInt = (q_I r48.2 12 7 a0).toInt := congrArg Int32.toInt (by rw [e77]; exact rI_o (by decide))
        have f106 := ti_b (q_I r48.2 12 7 a0)
        have f107 : (q_I r48.2 12 7 a0).toInt = (q_I r18.2 12 7 a0).toInt := congrArg Int32.toInt (u54 12 7 a0 (by decide))
        have f108 := ti_b (q_I r18.2 12 7 a0)
        have f109 : (q_I r18.2 12 7 a0).toInt = (q_I δ 12 7 a0).toInt := congrArg Int32.toInt (u24 12 7 a0 (by decide))
        have f110 := cb_12_5 i78 k_a0
        have f111 : (q_I d76 12 5 a0).toInt = (q_I r48.2 12 5 a0).toInt := congrArg Int32.toInt (by rw [e77]; exact rI_o (by decide))
        refine ok_bind (k_bX12_unit L hN (a0 := a0) hT k_a0 (show (q_I d76 12 24 a0).toInt ≤ 3 by first | assumption | omega) (show (q_I d76 12 26 a0).toInt ≤ (q_I d76 12 4 a0).toInt by first | assumption | omega) (show 0 ≤ (q_I d76 12 7 a0).toInt by first | assumption | omega) (show (q_I d76 12 7 a0).toInt ≤ 7 by first | assumption | omega) (show (q_I d76 12 7 a0).toInt = 7 → 0 ≤ (q_I d76 12 5 a0).toInt by first | assumption | omega) (show 8 - (q_I d76 12 7 a0).toInt ≤ K by first | assumption | omega) i78) (fun r88 hr89 => ?_)
        obtain ⟨i112, ⟨u119, u120, u121⟩, p113, p114, p115, p116, p117, p118⟩ := hr89
        have u122 := kp_t u84 u119
        have v123 : q_V r88 = q_V δ := (u120).trans v85
        have v124 := kr_t v86 u121
        have f125 := cb_12_4 i112 k_a0
        have f126 := cb_12_5 i112 k_a0
        have f127 := ti_b (q_I r88 12 7 a0)
        have f128 := cb_12_26 i112 k_a0
        have us129 := US.pre us87 p118
        refine ok_ite (fun h130 => ?_) (fun h130 => ?_)
        · have c131 : r48.1.toInt = (42 : Int) := o_eq h130
          unfold J_X12_product_62
          have f134 := cb_12_24 i112 k_a0
          have f135 : (q_I r88 12 24 a0).toInt = (q_I d76 12 24 a0).toInt := congrArg Int32.toInt (u119 12 24 a0 (by decide))
          refine ok_bind (k_X12_emit L hN (a0 := a0) (x1 := (8 : Int32)) (x2 := (0 : Int32)) k_a0 (show (q_I r88 12 24 a0).toInt ≤ 3 by first | assumption | omega) (show (q_I r88 12 5 a0).toInt < 0 → (q_I r88 12 26 a0).toInt < 500 by first | assumption | omega) i112) (fun r132 hr133 => ?_)
          obtain ⟨i136, ⟨u141, u142, u143⟩, p137, p138, p139, p140⟩ := hr133
          have u144 := kp_t u122 u141
          have v145 : q_V r132 = q_V δ := (u142).trans v123
          have v146 := kr_t v124 u143
          have f147 := cb_12_26 i136 k_a0
          have us148 := LU.em us129 p140 (by decide)
          have f149 := cb_12_24 i136 k_a0
          have f150 : (q_I r132 12 24 a0).toInt = (q_I r88 12 24 a0).toInt := congrArg Int32.toInt (u141 12 24 a0 (by decide))
          have f151 := cb_12_4 i136 k_a0
          have f152 : (q_I r132 12 4 a0).toInt = (q_I r88 12 4 a0).toInt := congrArg Int32.toInt (u141 12 4 a0 (by decide))
          have f153 := ti_b (q_I r132 12 7 a0)
          have f154 : (q_I r132 12 7 a0).toInt = (q_I r88 12 7 a0).toInt := congrArg Int32.toInt (u141 12 7 a0 (by decide))
          have f155 := cb_12_5 i136 k_a0
          have f156 : (q_I r132 12 5 a0).toInt = (q_I r88 12 5 a0).toInt := congrArg Int32.toInt (u141 12 5 a0 (by decide))
          refine ok_mono (ih r132 i136 (show (q_I r132 12 24 a0).toInt ≤ 3 by first | assumption | omega) (show (q_I r132 12 26 a0).toInt ≤ (q_I r132 12 4 a0).toInt by first | assumption | omega) (show 0 ≤ (q_I r132 12 7 a0).toInt by first | assumption | omega) (show (q_I r132 12 7 a0).toInt ≤ 7 by first | assumption | omega) (show (q_I r132 12 7 a0).toInt = 7 → 0 ≤ (q_I r132 12 5 a0).toInt by first | assumption | omega) (show 8 - (q_I r132 12 7 a0).toInt ≤ K by first | assumption | omega) (show 501 - (q_I r132 12 4 a0).toInt < _ by omega)) (fun r157 hr158 => ?_)
          obtain ⟨i159, ⟨u166, u167, u168⟩, p160, p161, p162, p163, p164, p165⟩ := hr158
          have u169 := kp_t u144 u166
          have v170 : q_V r157 = q_V δ := (u167).trans v145
          have v171 := kr_t v146 u168
          have f172 := cb_12_4 i159 k_a0
          have f173 := cb_12_5 i159 k_a0
          have f174 := ti_b (q_I r157 12 7 a0)
          have f175 := cb_12_26 i159 k_a0
          have us176 := LU.t us148 p165
          exact ⟨by assumption, ⟨kp_w (by decide) u169, v170, kr_w (by decide) v171⟩, by first | assumption | omega, by first | assumption | omega, by first | assumption | omega, by first | assumption | omega, by first | assumption | omega, us176⟩
        · have c177 : r48.1.toInt ≠ (42 : Int) := o_ne h130
          unfold J_X12_product_62
          have f180 := cb_12_24 i112 k_a0
          have f181 : (q_I r88 12 24 a0).toInt = (q_I d76 12 24 a0).toInt := congrArg Int32.toInt (u119 12 24 a0 (by decide))
          refine ok_bind (k_X12_emit L hN (a0 := a0) (x1 := (9 : Int32)) (x2 := (0 : Int32)) k_a0 (show (q_I r88 12 24 a0).toInt ≤ 3 by first | assumption | omega) (show (q_I r88 12 5 a0).toInt < 0 → (q_I r88 12 26 a0).toInt < 500 by first | assumption | omega) i112) (fun r178 hr179 => ?_)
          obtain ⟨i182, ⟨u187, u188, u189⟩, p183, p184, p185, p186⟩ := hr179
          have u190 := kp_t u122 u187
          have v191 : q_V r178 = q_V δ := (u188).trans v123
          have v192 := kr_t v124 u189
          have f193 := cb_12_26 i182 k_a0
          have us194 := LU.em us129 p186 (by decide)
          have f195 := cb_12_24 i182 k_a0
          have f196 : (q_I r178 12 24 a0).toInt = (q_I r88 12 24 a0).toInt := congrArg Int32.toInt (u187 12 24 a0 (by decide))
          have f197 := cb_12_4 i182 k_a0
          have f198 : (q_I r178 12 4 a0).toInt = (q_I r88 12 4 a0).toInt := congrArg Int32.toInt (u187 12 4 a0 (by decide))
          have f199 := ti_b (q_I r178 12 7 a0)
          have f200 : (q_I r178 12 7 a0).toInt = (q_I r88 12 7 a0).toInt := congrArg Int32.toInt (u187 12 7 a0 (by decide))
          have f201 := cb_12_5 i182 k_a0
          have f202 : (q_I r178 12 5 a0).toInt = (q_I r88 12 5 a0).toInt := congrArg Int32.toInt (u187 12 5 a0 (by decide))
          refine ok_mono (ih r178 i182 (show (q_I r178 12 24 a0).toInt ≤ 3 by first | assumption | omega) (show (q_I r178 12 26 a0).toInt ≤ (q_I r178 12 4 a0).toInt by first | assumption | omega) (show 0 ≤ (q_I r178 12 7 a0).toInt by first | assumption | omega) (show (q_I r178 12 7 a0).toInt ≤ 7 by first | assumption | omega) (show (q_I r178 12 7 a0).toInt = 7 → 0 ≤ (q_I r178 12 5 a0).toInt by first | assumption | omega) (show 8 - (q_I r178 12 7 a0).toInt ≤ K by first | assumption | omega) (show 501 - (q_I r178 12 4 a0).toInt < _ by omega)) (fun r203 hr204 => ?_)
          obtain ⟨i205, ⟨u212, u213, u214⟩, p206, p207, p208, p209, p210, p211⟩ := hr204
          have u215 := kp_t u190 u212
          have v216 : q_V r203 = q_V δ := (u213).trans v191
          have v217 := kr_t v192 u214
          have f218 := cb_12_4 i205 k_a0
          have f219 := cb_12_5 i205 k_a0
          have f220 := ti_b (q_I r203 12 7 a0)
          have f221 := cb_12_26 i205 k_a0
          have us222 := LU.t us194 p211
          exact ⟨by assumption, ⟨kp_w (by decide) u215, v216, kr_w (by decide) v217⟩, by first | assumption | omega, by first | assumption | omega, by first | assumption | omega, by first | assumption | omega, by first | assumption | omega, us222⟩
      · have c223 : r18.1.toInt ≠ (42 : Int) := o_ne h46
        refine ok_bind (k_X12_here L hN (a0 := a0) k_a0 i20) (fun r224 hr225 => ?_)
        obtain ⟨i226, ⟨u230, u231, u232, u233⟩, p227, p228, p229⟩ := hr225
        have u234 := kp_t u28 u230
        have v235 : q_V r224.2 = q_V δ := (u231).trans v29
        have v236 := kr_t v30 u233
        have f237 := cb_12_4 i226 k_a0
        have f238 : hc ad r224.2 a0 = (q_R r224.2 (Ad ad 101) (q_I r224.2 12 4 a0).toNatClampNeg).toInt := rfl
        have t239 := ti_tn (q_I r224.2 12 4 a0)
        have f240 : (q_R r224.2 (Ad ad 101) (q_I r224.2 12 4 a0).toNatClampNeg).toInt = (q_R r18.2 (Ad ad 101) (q_I r224.2 12 4 a0).toNatClampNeg).toInt := congrArg Int32.toInt (congrFun (u233 101 (by decide) (by decide) (by decide)) _)
        have f241 : (q_R r18.2 (Ad ad 101) (q_I r224.2 12 4 a0).toNatClampNeg).toInt = (q_R δ (Ad ad 101) (q_I r224.2 12 4 a0).toNatClampNeg).toInt := congrArg Int32.toInt (congrFun (u27 101 (by decide) (by decide) (by decide)) _)
        have f242 := ti_b (q_R δ (Ad ad 101) (q_I r224.2 12 4 a0).toNatClampNeg)
        have f243 := ti_b (q_R r18.2 (Ad ad 101) (q_I r224.2 12 4 a0).toNatClampNeg)
        have f244 := ti_b (q_R r224.2 (Ad ad 101) (q_I r224.2 12 4 a0).toNatClampNeg)
        have f245 := ti_b r224.1
        have f246 := cb_12_3 i20 k_a0
        have f247 : (q_I r18.2 12 3 a0).toInt = (q_I δ 12 3 a0).toInt := congrArg Int32.toInt (u24 12 3 a0 (by decide))
        have f248 := ti_b r224.1
        have f249 := cb_12_5 i226 k_a0
        have f250 : (q_I r224.2 12 5 a0).toInt = (q_I r18.2 12 5 a0).toInt := congrArg Int32.toInt (u230 12 5 a0 (by decide))
        have us251 := NU.t us45 (⟨u233 116 (by decide) (by decide) (by decide), u230 12 26 _ (by decide), u230 12 24 _ (by decide), fun z => by omega⟩)
        refine ok_ite (fun h252 => ?_) (fun h252 => ?_)
        · have c253 : r224.1.toInt = (37 : Int) := o_eq h252
          unfold J_X12_product_29
          refine ok_bind (k_X12_here L hN (a0 := a0) k_a0 i226) (fun r254 hr255 => ?_)
          obtain ⟨i256, ⟨u260, u261, u262, u263⟩, p257, p258, p259⟩ := hr255
          have u264 := kp_t u234 u260
          have v265 : q_V r254.2 = q_V δ := (u261).trans v235
          have v266 := kr_t v236 u263
          have f267 := cb_12_4 i256 k_a0
          have f268 : hc ad r254.2 a0 = (q_R r254.2 (Ad ad 101) (q_I r254.2 12 4 a0).toNatClampNeg).toInt := rfl
          have t269 := ti_tn (q_I r254.2 12 4 a0)
          have f270 : (q_R r254.2 (Ad ad 101) (q_I r254.2 12 4 a0).toNatClampNeg).toInt = (q_R r224.2 (Ad ad 101) (q_I r254.2 12 4 a0).toNatClampNeg).toInt := congrArg Int32.toInt (congrFun (u263 101 (by decide) (by decide) (by decide)) _)
          have f271 : (q_R r224.2 (Ad ad 101) (q_I r254.2 12 4 a0).toNatClampNeg).toInt = (q_R r18.2 (Ad ad 101) (q_I r254.2 12 4 a0).toNatClampNeg).toInt := congrArg Int32.toInt (congrFun (u233 101 (by decide) (by decide) (by decide)) _)
          have f272 : (q_R r18.2 (Ad ad 101) (q_I r254.2 12 4 a0).toNatClampNeg).toInt = (q_R δ (Ad ad 101) (q_I r254.2 12 4 a0).toNatClampNeg).toInt := congrArg Int32.toInt (congrFun (u27 101 (by decide) (by decide) (by decide)) _)
          have f273 := ti_b (q_R δ (Ad ad 101) (q_I r254.2 12 4 a0).toNatClampNeg)
          have f274 := ti_b (q_R r18.2 (Ad ad 101) (q_I r254.2 12 4 a0).toNatClampNeg)
          have f275 := ti_b (q_R r224.2 (Ad ad 101) (q_I r254.2 12 4 a0).toNatClampNeg)
          have f276 := ti_b (q_R r254.2 (Ad ad 101) (q_I r254.2 12 4 a0).toNatClampNeg)
          have f277 := ti_b r254.1
          have f278 := cb_12_3 i226 k_a0
          have f279 : (q_I r224.2 12 3 a0).toInt = (q_I r18.2 12 3 a0).toInt := congrArg Int32.toInt (u230 12 3 a0 (by decide))
          have f280 := ti_b r254.1
          have f281 := cb_12_5 i256 k_a0
          have f282 : (q_I r254.2 12 5 a0).toInt = (q_I r224.2 12 5 a0).toInt := congrArg Int32.toInt (u260 12 5 a0 (by decide))
          have us283 := NU.t us251 (⟨u263 116 (by decide) (by decide) (by decide), u260 12 26 _ (by decide), u260 12 24 _ (by decide), fun z => by omega⟩)
          first | (have q288 := te_addc (c := 1) (n := 1) rfl (q_I r254.2 12 4 a0) (by omega) (by omega); obtain ⟨f289, f290, f291⟩ := q288) | (obtain ⟨q288, f289, f290, f291⟩ := ti_addc (c := 1) (n := 1) rfl (q_I r254.2 12 4 a0))
          refine ok_bdv (fun d284 e285 => ?_)
          have i286 : RI ad h.1 δ0 d284 := by rw [e285]; exact cs_12_4 L i256 k_a0 (show 0 ≤ ((q_I r254.2 12 4 a0) + (1 : Int32)).toInt by omega) (show ((q_I r254.2 12 4 a0) + (1 : Int32)).toInt ≤ 500 by omega)
          have u292 := kp_I u264 e285
          have v293 : q_V d284 = q_V δ := ((show q_V d284 = q_V r254.2 by rw [e285]; rfl)).trans v265
          have v294 := kr_N v266 (show q_R d284 = q_R r254.2 by rw [e285]; rfl)
          have us295 := NU.t us283 (NU.w (ad := ad) e285 (by decide))
          have f298 := cb_12_24 i286 k_a0
          have f299 : (q_I d284 12 24 a0).toInt = (q_I r254.2 12 24 a0).toInt := congrArg Int32.toInt (by rw [e285]; exact rI_o (by decide))
          have f300 := cb_12_24 i256 k_a0
          have f301 : (q_I r254.2 12 24 a0).toInt = (q_I r224.2 12 24 a0).toInt := congrArg Int32.toInt (u260 12 24 a0 (by decide))
          have f302 := cb_12_24 i226 k_a0
          have f303 : (q_I r224.2 12 24 a0).toInt = (q_I r18.2 12 24 a0).toInt := congrArg Int32.toInt (u230 12 24 a0 (by decide))
          have f304 := cb_12_24 i20 k_a0
          have f305 : (q_I r18.2 12 24 a0).toInt = (q_I δ 12 24 a0).toInt := congrArg Int32.toInt (u24 12 24 a0 (by decide))
          have f306 := cb_12_26 i286 k_a0
          have f307 : (q_I d284 12 26 a0).toInt = (q_I r254.2 12 26 a0).toInt := congrArg Int32.toInt (by rw [e285]; exact rI_o (by decide))
          have f308 := cb_12_26 i256 k_a0
          have f309 : (q_I r254.2 12 26 a0).toInt = (q_I r224.2 12 26 a0).toInt := congrArg Int32.toInt (u260 12 26 a0 (by decide))
          have f310 := cb_12_26 i226 k_a0
          have f311 : (q_I r224.2 12 26 a0).toInt = (q_I r18.2 12 26 a0).toInt := congrArg Int32.toInt (u230 12 26 a0 (by decide))
          have f312 := cb_12_26 i20 k_a0
          have f313 : (q_I r18.2 12 26 a0).toInt = (q_I δ 12 26 a0).toInt := congrArg Int32.toInt (u24 12 26 a0 (by decide))
          have f314 := cb_12_4 i286 k_a0
          have f315 : (q_I d284 12 4 a0).toInt = ((q_I r254.2 12 4 a0) + (1 : Int32)).toInt := congrArg Int32.toInt (show q_I d284 12 4 a0 = ((q_I r254.2 12 4 a0) + (1 : Int32)) by rw [e285]; exact rI_s)
          have f316 := ti_b (q_I d284 12 7 a0)
          have f317 : (q_I d284 12 7 a0).toInt = (q_I r254.2 12 7 a0).toInt := congrArg Int32.toInt (by rw [e285]; exact rI_o (by decide))
          have f318 := ti_b (q_I r254.2 12 7 a0)
          have f319 : (q_I r254.2 12 7 a0).toInt = (q_I r224.2 12 7 a0).toInt := congrArg Int32.toInt (u260 12 7 a0 (by decide))
          have f320 := ti_b (q_I r224.2 12 7 a0)
          have f321 : (q_I r224.2 12 7 a0).toInt = (q_I r18.2 12 7 a0).toInt := congrArg Int32.toInt (u230 12 7 a0 (by decide))
          have f322 := ti_b (q_I r18.2 12 7 a0)
          have f323 : (q_I r18.2 12 7 a0).toInt = (q_I δ 12 7 a0).toInt := congrArg Int32.toInt (u24 12 7 a0 (by decide))
          have f324 := cb_12_5 i286 k_a0
          have f325 : (q_I d284 12 5 a0).toInt = (q_I r254.2 12 5 a0).toInt := congrArg Int32.toInt (by rw [e285]; exact rI_o (by decide))
          refine ok_bind (k_bX12_unit L hN (a0 := a0) hT k_a0 (show (q_I d284 12 24 a0).toInt ≤ 3 by first | assumption | omega) (show (q_I d284 12 26 a0).toInt ≤ (q_I d284 12 4 a0).toInt by first | assumption | omega) (show 0 ≤ (q_I d284 12 7 a0).toInt by first | assumption | omega) (show (q_I d284 12 7 a0).toInt ≤ 7 by first | assumption | omega) (show (q_I d284 12 7 a0).toInt = 7 → 0 ≤ (q_I d284 12 5 a0).toInt by first | assumption | omega) (show 8 - (q_I d284 12 7 a0).toInt ≤ K by first | assumption | omega) i286) (fun r296 hr297 => ?_)
          obtain ⟨i326, ⟨u333, u334, u335⟩, p327, p328, p329, p330, p331, p332⟩ := hr297
          have u336 := kp_t u292 u333
          have v337 : q_V r296 = q_V δ := (u334).trans v293
          have v338 := kr_t v294 u335
          have f339 := cb_12_4 i326 k_a0
          have f340 := cb_12_5 i326 k_a0
          have f341 := ti_b (q_I r296 12 7 a0)
          have f342 := cb_12_26 i326 k_a0
          have us343 := US.pre us295 p332
          refine ok_ite (fun h344 => ?_) (fun h344 => ?_)
          · have c345 : r254.1.toInt = (42 : Int) := o_eq h344
            unfold J_X12_product_62
            have f348 := cb_12_24 i326 k_a0
            have f349 : (q_I r296 12 24 a0).toInt = (q_I d284 12 24 a0).toInt := congrArg Int32.toInt (u333 12 24 a0 (by decide))
            refine ok_bind (k_X12_emit L hN (a0 := a0) (x1 := (8 : Int32)) (x2 := (0 : Int32)) k_a0 (show (q_I r296 12 24 a0).toInt ≤ 3 by first | assumption | omega) (show (q_I r296 12 5 a0).toInt < 0 → (q_I r296 12 26 a0).toInt < 500 by first | assumption | omega) i326) (fun r346 hr347 => ?_)
            obtain ⟨i350, ⟨u355, u356, u357⟩, p351, p352, p353, p354⟩ := hr347
            have u358 := kp_t u336 u355
            have v359 : q_V r346 = q_V δ := (u356).trans v337
            have v360 := kr_t v338 u357
            have f361 := cb_12_26 i350 k_a0
            have us362 := LU.em us343 p354 (by decide)
            have f363 := cb_12_24 i350 k_a0
            have f364 : (q_I r346 12 24 a0).toInt = (q_I r296 12 24 a0).toInt := congrArg Int32.toInt (u355 12 24 a0 (by decide))
            have f365 := cb_12_4 i350 k_a0
            have f366 : (q_I r346 12 4 a0).toInt = (q_I r296 12 4 a0).toInt := congrArg Int32.toInt (u355 12 4 a0 (by decide))
            have f367 := ti_b (q_I r346 12 7 a0)
            have f368 : (q_I r346 12 7 a0).toInt = (q_I r296 12 7 a0).toInt := congrArg Int32.toInt (u355 12 7 a0 (by decide))
            have f369 := cb_12_5 i350 k_a0
            have f370 : (q_I r346 12 5 a0).toInt = (q_I r296 12 5 a0).toInt := congrArg Int32.toInt (u355 12 5 a0 (by decide))
            refine ok_mono (ih r346 i350 (show (q_I r346 12 24 a0).toInt ≤ 3 by first | assumption | omega) (show (q_I r346 12 26 a0).toInt ≤ (q_I r346 12 4 a0).toInt by first | assumption | omega) (show 0 ≤ (q_I r346 12 7 a0).toInt by first | assumption | omega) (show (q_I r346 12 7 a0).toInt ≤ 7 by first | assumption | omega) (show (q_I r346 12 7 a0).toInt = 7 → 0 ≤ (q_I r346 12 5 a0).toInt by first | assumption | omega) (show 8 - (q_I r346 12 7 a0).toInt ≤ K by first | assumption | omega) (show 501 - (q_I r346 12 4 a0).toInt < _ by omega)) (fun r371 hr372 => ?_)
            obtain ⟨i373, ⟨u380, u381, u382⟩, p374, p375, p376, p377, p378, p379⟩ := hr372
            have u383 := kp_t u358 u380
            have v384 : q_V r371 = q_V δ := (u381).trans v359
            have v385 := kr_t v360 u382
            have f386 := cb_12_4 i373 k_a0
            have f387 := cb_12_5 i373 k_a0
            have f388 := ti_b (q_I r371 12 7 a0)
            have f389 := cb_12_26 i373 k_a0
            have us390 := LU.t us362 p379
            exact ⟨by assumption, ⟨kp_w (by decide) u383, v384, kr_w (by decide) v385⟩, by first | assumption | omega, by first | assumption | omega, by first | assumption | omega, by first | assumption | omega, by first | assumption | omega, us390⟩
          · have c391 : r254.1.toInt ≠ (42 : Int) := o_ne h344
            unfold J_X12_product_62
            have f394 := cb_12_24 i326 k_a0
            have f395 : (q_I r296 12 24 a0).toInt = (q_I d284 12 24 a0).toInt := congrArg Int32.toInt (u333 12 24 a0 (by decide))
            refine ok_bind (k_X12_emit L hN (a0 := a0) (x1 := (9 : Int32)) (x2 := (0 : Int32)) k_a0 (show (q_I r296 12 24 a0).toInt ≤ 3 by first | assumption | omega) (show (q_I r296 12 5 a0).toInt < 0 → (q_I r296 12 26 a0).toInt < 500 by first | assumption | omega) i326) (fun r392 hr393 => ?_)
            obtain ⟨i396, ⟨u401, u402, u403⟩, p397, p398, p399, p400⟩ := hr393
            have u404 := kp_t u336 u401
            have v405 : q_V r392 = q_V δ := (u402).trans v337
            have v406 := kr_t v338 u403
            have f407 := cb_12_26 i396 k_a0
            have us408 := LU.em us343 p400 (by decide)
            have f409 := cb_12_24 i396 k_a0
            have f410 : (q_I r392 12 24 a0).toInt = (q_I r296 12 24 a0).toInt := congrArg Int32.toInt (u401 12 24 a0 (by decide))
            have f411 := cb_12_4 i396 k_a0
            have f412 : (q_I r392 12 4 a0).toInt = (q_I r296 12 4 a0).toInt := congrArg Int32.toInt (u401 12 4 a0 (by decide))
            have f413 := ti_b (q_I r392 12 7 a0)
            have f414 : (q_I r392 12 7 a0).toInt = (q_I r296 12 7 a0).toInt := congrArg Int32.toInt (u401 12 7 a0 (by decide))
            have f415 := cb_12_5 i396 k_a0
            have f416 : (q_I r392 12 5 a0).toInt = (q_I r296 12 5 a0).toInt := congrArg Int32.toInt (u401 12 5 a0 (by decide))
            refine ok_mono (ih r392 i396 (show (q_I r392 12 24 a0).toInt ≤ 3 by first | assumption | omega) (show (q_I r392 12 26 a0).toInt ≤ (q_I r392 12 4 a0).toInt by first | assumption | omega) (show 0 ≤ (q_I r392 12 7 a0).toInt by first | assumption | omega) (show (q_I r392 12 7 a0).toInt ≤ 7 by first | assumption | omega) (show (q_I r392 12 7 a0).toInt = 7 → 0 ≤ (q_I r392 12 5 a0).toInt by first | assumption | omega) (show 8 - (q_I r392 12 7 a0).toInt ≤ K by first | assumption | omega) (show 501 - (q_I r392 12 4 a0).toInt < _ by omega)) (fun r417 hr418 => ?_)
            obtain ⟨i419, ⟨u426, u427, u428⟩, p420, p421, p422, p423, p424, p425⟩ := hr418
            have u429 := kp_t u404 u426
            have v430 : q_V r417 = q_V δ := (u427).trans v405
            have v431 := kr_t v406 u428
            have f432 := cb_12_4 i419 k_a0
            have f433 := cb_12_5 i419 k_a0
            have f434 := ti_b (q_I r417 12 7 a0)
            have f435 := cb_12_26 i419 k_a0
            have us436 := LU.t us408 p425
            exact ⟨by assumption, ⟨kp_w (by decide) u429, v430, kr_w (by decide) v431⟩, by first | assumption | omega, by first | assumption | omega, by first | assumption | omega, by first | assumption | omega, by first | assumption | omega, us436⟩
        · have c437 : r224.1.toInt ≠ (37 : Int) := o_ne h252
          unfold J_X12_product_69
          have f438 := ti_b (q_I r224.2 12 7 a0)
          have f439 : (q_I r224.2 12 7 a0).toInt = (q_I r18.2 12 7 a0).toInt := congrArg Int32.toInt (u230 12 7 a0 (by decide))
          have f440 := ti_b (q_I r18.2 12 7 a0)
          have f441 : (q_I r18.2 12 7 a0).toInt = (q_I δ 12 7 a0).toInt := congrArg Int32.toInt (u24 12 7 a0 (by decide))
          have f442 := cb_12_26 i226 k_a0
          have f443 : (q_I r224.2 12 26 a0).toInt = (q_I r18.2 12 26 a0).toInt := congrArg Int32.toInt (u230 12 26 a0 (by decide))
          have f444 := cb_12_26 i20 k_a0
          have f445 : (q_I r18.2 12 26 a0).toInt = (q_I δ 12 26 a0).toInt := congrArg Int32.toInt (u24 12 26 a0 (by decide))
          exact ok_some (show RI ad h.1 δ0 r224.2 ∧ (kp [(12, 4), (12, 5), (12, 6), (12, 7), (12, 26)] δ r224.2 ∧ q_V r224.2 = q_V δ ∧ kr ad [116, 117] δ r224.2) ∧ (q_I δ 12 4 a0).toInt ≤ (q_I r224.2 12 4 a0).toInt ∧ (q_I δ 12 5 a0).toInt ≤ (q_I r224.2 12 5 a0).toInt ∧ (q_I r224.2 12 7 a0).toInt = (q_I δ 12 7 a0).toInt ∧ (q_I δ 12 26 a0).toInt ≤ (q_I r224.2 12 26 a0).toInt ∧ (q_I r224.2 12 26 a0).toInt - (q_I δ 12 26 a0).toInt ≤ (q_I r224.2 12 4 a0).toInt - (q_I δ 12 4 a0).toInt ∧ LU ad a0 δ r224.2 from ⟨i226, ⟨kp_w (by decide) u234, v235, kr_w (by decide) v236⟩, by first | assumption | omega, by first | assumption | omega, by first | assumption | omega, by first | assumption | omega, by first | assumption | omega, LU.n us251⟩)
set_option maxHeartbeats 4000000 in
theorem k_bX12_product {ad : List Nat} {h : hp} (L : Lay TLx ad h) {δ0 : dp} {N : Nat} (hN : 10000000 ≤ N) {T : Nat → dp → Option (dp)} {K : Int} (hT : ∀ (a0 : Nat) (δ : dp), q_K h.1 a0 = 12 → (q_I δ 12 24 a0).toInt ≤ 3 → (q_I δ 12 26 a0).toInt ≤ (q_I δ 12 4 a0).toInt → 0 ≤ (q_I δ 12 7 a0).toInt → (q_I δ 12 7 a0).toInt ≤ 7 → ((q_I δ 12 7 a0).toInt = 7 → 0 ≤ (q_I δ 12 5 a0).toInt) → 8 - (q_I δ 12 7 a0).toInt < K → RI ad h.1 δ0 δ → ok (T a0 δ) (fun r => RI ad h.1 δ0 r ∧ (kp [(12, 4), (12, 5), (12, 6), (12, 7), (12, 26)] δ r ∧ q_V r = q_V δ ∧ kr ad [116, 117] δ r) ∧ (q_I δ 12 4 a0).toInt ≤ (q_I r 12 4 a0).toInt ∧ (q_I δ 12 5 a0).toInt ≤ (q_I r 12 5 a0).toInt ∧ (q_I r 12 7 a0).toInt = (q_I δ 12 7 a0).toInt ∧ (q_I δ 12 26 a0).toInt ≤ (q_I r 12 26 a0).toInt ∧ (q_I r 12 26 a0).toInt - (q_I δ 12 26 a0).toInt ≤ (q_I r 12 4 a0).toInt - (q_I δ 12 4 a0).toInt ∧ US ad a0 δ r)) {a0 : Nat} (k_a0 : q_K h.1 a0 = 12) {δ : dp} (z0 : (q_I δ 12 24 a0).toInt ≤ 3) (z1 : (q_I δ 12 26 a0).toInt ≤ (q_I δ 12 4 a0).toInt) (z2 : 0 ≤ (q_I δ 12 7 a0).toInt) (z3 : (q_I δ 12 7 a0).toInt ≤ 7) (z4 : (q_I δ 12 7 a0).toInt = 7 → 0 ≤ (q_I δ 12 5 a0).toInt) (z5 : 8 - (q_I δ 12 7 a0).toInt ≤ K) (I : RI ad h.1 δ0 δ) : ok (B_X12_product N h.1 T a0 δ) (fun r => RI ad h.1 δ0 r ∧ (kp [(12, 4), (12, 5), (12, 6), (12, 7), (12, 26)] δ r ∧ q_V r = q_V δ ∧ kr ad [116, 117] δ r) ∧ (q_I δ 12 4 a0).toInt ≤ (q_I r 12 4 a0).toInt ∧ (q_I δ 12 5 a0).toInt ≤ (q_I r 12 5 a0).toInt ∧ (q_I r 12 7 a0).toInt = (q_I δ 12 7 a0).toInt ∧ (q_I δ 12 26 a0).toInt ≤ (q_I r 12 26 a0).toInt ∧ (q_I r 12 26 a0).toInt - (q_I δ 12 26 a0).toInt ≤ (q_I r 12 4 a0).toInt - (q_I δ 12 4 a0).toInt ∧ US ad a0 δ r) := by
  unfold B_X12_product
  have f1 := cb_12_24 I k_a0
  have f2 := cb_12_26 I k_a0
  have f3 := cb_12_4 I k_a0
  have f4 := ti_b (q_I δ 12 7 a0)
  have f5 := cb_12_5 I k_a0
  refine ok_bind (k_bX12_unit L hN (a0 := a0) hT k_a0 (show (q_I δ 12 24 a0).toInt ≤ 3 by first | assumption | omega) (show (q_I δ 12 26 a0).toInt ≤ (q_I δ 12 4 a0).toInt by first | assumption | omega) (show 0 ≤ (q_I δ 12 7 a0).toInt by first | assumption | omega) (show (q_I δ 12 7 a0).toInt ≤ 7 by first | assumption | omega) (show (q_I δ 12 7 a0).toInt = 7 → 0 ≤ (q_I δ 12 5 a0).toInt by first | assumption | omega) (show 8 - (q_I δ 12 7 a0).toInt ≤ K by first | assumption | omega) I) (fun r6 hr7 => ?_)
  obtain ⟨i8, ⟨u15, u16, u17⟩, p9, p10, p11, p12, p13, p14⟩ := hr7
  have u18 := kp_t kp_r u15
  have v19 : q_V r6 = q_V δ := (u16).trans rfl
  have v20 := kr_t (kr_r (ad := ad)) u17
  have f21 := cb_12_4 i8 k_a0
  have f22 := cb_12_5 i8 k_a0
  have f23 := ti_b (q_I r6 12 7 a0)
  have f24 := cb_12_26 i8 k_a0
  have us25 := US.pre NU.r p14
  have f26 := cb_12_24 i8 k_a0
  have f27 : (q_I r6 12 24 a0).toInt = (q_I δ 12 24 a0).toInt := congrArg Int32.toInt (u15 12 24 a0 (by decide))
  refine ok_mono (kl_X12_product_4 L hN   hT k_a0 _ r6 i8 (show (q_I r6 12 24 a0).toInt ≤ 3 by first | assumption | omega) (show (q_I r6 12 26 a0).toInt ≤ (q_I r6 12 4 a0).toInt by first | assumption | omega) (show 0 ≤ (q_I r6 12 7 a0).toInt by first | assumption | omega) (show (q_I r6 12 7 a0).toInt ≤ 7 by first | assumption | omega) (show (q_I r6 12 7 a0).toInt = 7 → 0 ≤ (q_I r6 12 5 a0).toInt by first | assumption | omega) (show 8 - (q_I r6 12 7 a0).toInt ≤ K by first | assumption | omega) (show 501 - (q_I r6 12 4 a0).toInt < _ by omega)) (fun r28 hr29 => ?_)
  obtain ⟨i30, ⟨u37, u38, u39⟩, p31, p32, p33, p34, p35, p36⟩ := hr29
  have u40 := kp_t u18 u37
  have v41 : q_V r28 = q_V δ := (u38).trans v19
  have v42 := kr_t v20 u39
  have f43 := cb_12_4 i30 k_a0
  have f44 := cb_12_5 i30 k_a0
  have f45 := ti_b (q_I r28 12 7 a0)
  have f46 := cb_12_26 i30 k_a0
  have us47 := US.l us25 p36
  exact ⟨by assumption, ⟨kp_w (by decide) u40, v41, kr_w (by decide) v42⟩, by first | assumption | omega, by first | assumption | omega, by first | assumption | omega, by first | assumption | omega, by first | assumption | omega, us47⟩
set_option maxHeartbeats 4000000 in
theorem kl_X12_sum_4 {ad : List Nat} {h : hp} (L : Lay TLx ad h) {δ0 : dp} {N : Nat} (hN : 10000000 ≤ N) {T : Nat → dp → Option (dp)} {K : Int} (hT : ∀ (a0 : Nat) (δ : dp), q_K h.1 a0 = 12 → (q_I δ 12 24 a0).toInt ≤ 3 → (q_I δ 12 26 a0).toInt ≤ (q_I δ 12 4 a0).toInt → 0 ≤ (q_I δ 12 7 a0).toInt → (q_I δ 12 7 a0).toInt ≤ 7 → ((q_I δ 12 7 a0).toInt = 7 → 0 ≤ (q_I δ 12 5 a0).toInt) → 8 - (q_I δ 12 7 a0).toInt < K → RI ad h.1 δ0 δ → ok (T a0 δ) (fun r => RI ad h.1 δ0 r ∧ (kp [(12, 4), (12, 5), (12, 6), (12, 7), (12, 26)] δ r ∧ q_V r = q_V δ ∧ kr ad [116, 117] δ r) ∧ (q_I δ 12 4 a0).toInt ≤ (q_I r 12 4 a0).toInt ∧ (q_I δ 12 5 a0).toInt ≤ (q_I r 12 5 a0).toInt ∧ (q_I r 12 7 a0).toInt = (q_I δ 12 7 a0).toInt ∧ (q_I δ 12 26 a0).toInt ≤ (q_I r 12 26 a0).toInt ∧ (q_I r 12 26 a0).toInt - (q_I δ 12 26 a0).toInt ≤ (q_I r 12 4 a0).toInt - (q_I δ 12 4 a0).toInt ∧ US ad a0 δ r)) {a0 : Nat} (k_a0 : q_K h.1 a0 = 12) : ∀ (n : Nat) (δ : dp), RI ad h.1 δ0 δ → (q_I δ 12 24 a0).toInt ≤ 3 → (q_I δ 12 26 a0).toInt ≤ (q_I δ 12 4 a0).toInt → 0 ≤ (q_I δ 12 7 a0).toInt → (q_I δ 12 7 a0).toInt ≤ 7 → ((q_I δ 12 7 a0).toInt = 7 → 0 ≤ (q_I δ 12 5 a0).toInt) → 8 - (q_I δ 12 7 a0).toInt ≤ K → 501 - (q_I δ 12 4 a0).toInt < (n : Int) → ok (L_X12_sum_4 N h.1 T a0 n δ) (fun r => RI ad h.1 δ0 r ∧ (kp [(12, 4), (12, 5), (12, 6), (12, 7), (12, 26)] δ r ∧ q_V r = q_V δ ∧ kr ad [116, 117] δ r) ∧ (q_I δ 12 4 a0).toInt ≤ (q_I r 12 4 a0).toInt ∧ (q_I δ 12 5 a0).toInt ≤ (q_I r 12 5 a0).toInt ∧ (q_I r 12 7 a0).toInt = (q_I δ 12 7 a0).toInt ∧ (q_I δ 12 26 a0).toInt ≤ (q_I r 12 26 a0).toInt ∧ (q_I r 12 26 a0).toInt - (q_I δ 12 26 a0).toInt ≤ (q_I r 12 4 a0).toInt - (q_I δ 12 4 a0).toInt ∧ LU ad a0 δ r) := by
  intro n
  induction n with
  | zero =>
    intro δ I j0 j1 j2 j3 j4 j5 hm
    have f1 := cb_12_24 I k_a0
    have f2 := cb_12_26 I k_a0
    have f3 := cb_12_4 I k_a0
    have f4 := ti_b (q_I δ 12 7 a0)
    have f5 := cb_12_5 I k_a0
    exfalso; omega
  | succ n ih =>
    intro δ I j0 j1 j2 j3 j4 j5 hm
    unfold L_X12_sum_4
    have f1 := cb_12_24 I k_a0
    have f2 := cb_12_26 I k_a0
    have f3 := cb_12_4 I k_a0
    have f4 := ti_b (q_I δ 12 7 a0)
    have f5 := cb_12_5 I k_a0
    refine ok_bind (k_X12_fine L hN (a0 := a0) k_a0 I) (fun r6 hr7 => ?_)
    obtain ⟨i8, p9, p10, p11⟩ := hr7
    try rw [i8]
    have f12 := bo_l p9
    have f13 := ti_b r6.1
    have f14 := ti_b r6.1
    refine ok_ite (fun h15 => ?_) (fun h15 => ?_)
    · have c16 : r6.1.toInt = (0 : Int) := o_eq h15
      unfold J_X12_sum_69
      exact ok_some (show RI ad h.1 δ0 δ ∧ (kp [(12, 4), (12, 5), (12, 6), (12, 7), (12, 26)] δ δ ∧ q_V δ = q_V δ ∧ kr ad [116, 117] δ δ) ∧ (q_I δ 12 4 a0).toInt ≤ (q_I δ 12 4 a0).toInt ∧ (q_I δ 12 5 a0).toInt ≤ (q_I δ 12 5 a0).toInt ∧ (q_I δ 12 7 a0).toInt = (q_I δ 12 7 a0).toInt ∧ (q_I δ 12 26 a0).toInt ≤ (q_I δ 12 26 a0).toInt ∧ (q_I δ 12 26 a0).toInt - (q_I δ 12 26 a0).toInt ≤ (q_I δ 12 4 a0).toInt - (q_I δ 12 4 a0).toInt ∧ LU ad a0 δ δ from ⟨I, ⟨kp_w (by decide) kp_r, rfl, kr_w (by decide) (kr_r (ad := ad))⟩, by first | assumption | omega, by first | assumption | omega, by first | assumption | omega, by first | assumption | omega, by first | assumption | omega, LU.n NU.r⟩)
    · have c17 : r6.1.toInt ≠ (0 : Int) := o_ne h15
      refine ok_bind (k_X12_here L hN (a0 := a0) k_a0 I) (fun r18 hr19 => ?_)
      obtain ⟨i20, ⟨u24, u25, u26, u27⟩, p21, p22, p23⟩ := hr19
      have u28 := kp_t kp_r u24
      have v29 : q_V r18.2 = q_V δ := (u25).trans rfl
      have v30 := kr_t (kr_r (ad := ad)) u27
      have f31 := cb_12_4 i20 k_a0
      have f32 : hc ad r18.2 a0 = (q_R r18.2 (Ad ad 101) (q_I r18.2 12 4 a0).toNatClampNeg).toInt := rfl
      have t33 := ti_tn (q_I r18.2 12 4 a0)
      have f34 : (q_R r18.2 (Ad ad 101) (q_I r18.2 12 4 a0).toNatClampNeg).toInt = (q_R δ (Ad ad 101) (q_I r18.2 12 4 a0).toNatClampNeg).toInt := congrArg Int32.toInt (congrFun (u27 101 (by decide) (by decide) (by decide)) _)
      have f35 := ti_b (q_R δ (Ad ad 101) (q_I r18.2 12 4 a0).toNatClampNeg)
      have f36 := ti_b (q_R r18.2 (Ad ad 101) (q_I r18.2 12 4 a0).toNatClampNeg)
      have f37 := ti_b r18.1
      have f38 := cb_12_3 I k_a0
      have f39 : hc ad δ a0 = (q_R δ (Ad ad 101) (q_I δ 12 4 a0).toNatClampNeg).toInt := rfl
      have t40 := ti_tn (q_I δ 12 4 a0)
      have f41 := ti_b (q_R δ (Ad ad 101) (q_I δ 12 4 a0).toNatClampNeg)
      have f42 := ti_b r18.1
      have f43 := cb_12_5 i20 k_a0
      have f44 : (q_I r18.2 12 5 a0).toInt = (q_I δ 12 5 a0).toInt := congrArg Int32.toInt (u24 12 5 a0 (by decide))
      have us45 := NU.t NU.r (⟨u27 116 (by decide) (by decide) (by decide), u24 12 26 _ (by decide), u24 12 24 _ (by decide), fun z => by omega⟩)
      refine ok_ite (fun h46 => ?_) (fun h46 => ?_)
      · have c47 : r18.1.toInt = (43 : Int) := o_eq h46
        unfold J_X12_sum_29
        refine ok_bind (k_X12_here L hN (a0 := a0) k_a0 i20) (fun r48 hr49 => ?_)
        obtain ⟨i50, ⟨u54, u55, u56, u57⟩, p51, p52, p53⟩ := hr49
        have u58 := kp_t u28 u54
        have v59 : q_V r48.2 = q_V δ := (u55).trans v29
        have v60 := kr_t v30 u57
        have f61 := cb_12_4 i50 k_a0
        have f62 : hc ad r48.2 a0 = (q_R r48.2 (Ad ad 101) (q_I r48.2 12 4 a0).toNatClampNeg).toInt := rfl
        have t63 := ti_tn (q_I r48.2 12 4 a0)
        have f64 : (q_R r48.2 (Ad ad 101) (q_I r48.2 12 4 a0).toNatClampNeg).toInt = (q_R r18.2 (Ad ad 101) (q_I r48.2 12 4 a0).toNatClampNeg).toInt := congrArg Int32.toInt (congrFun (u57 101 (by decide) (by decide) (by decide)) _)
        have f65 : (q_R r18.2 (Ad ad 101) (q_I r48.2 12 4 a0).toNatClampNeg).toInt = (q_R δ (Ad ad 101) (q_I r48.2 12 4 a0).toNatClampNeg).toInt := congrArg Int32.toInt (congrFun (u27 101 (by decide) (by decide) (by decide)) _)
        have f66 := ti_b (q_R δ (Ad ad 101) (q_I r48.2 12 4 a0).toNatClampNeg)
        have f67 := ti_b (q_R r18.2 (Ad ad 101) (q_I r48.2 12 4 a0).toNatClampNeg)
        have f68 := ti_b (q_R r48.2 (Ad ad 101) (q_I r48.2 12 4 a0).toNatClampNeg)
        have f69 := ti_b r48.1
        have f70 := cb_12_3 i20 k_a0
        have f71 : (q_I r18.2 12 3 a0).toInt = (q_I δ 12 3 a0).toInt := congrArg Int32.toInt (u24 12 3 a0 (by decide))
        have f72 := ti_b r48.1
        have f73 := cb_12_5 i50 k_a0
        have f74 : (q_I r48.2 12 5 a0).toInt = (q_I r18.2 12 5 a0).toInt := congrArg Int32.toInt (u54 12 5 a0 (by decide))
        have us75 := NU.t us45 (⟨u57 116 (by decide) (by decide) (by decide), u54 12 26 _ (by decide), u54 12 24 _ (by decide), fun z => by omega⟩)
        first | (have q80 := te_addc (c := 1) (n := 1) rfl (q_I r48.2 12 4 a0) (by omega) (by omega); obtain ⟨f81, f82, f83⟩ := q80) | (obtain ⟨q80, f81, f82, f83⟩ := ti_addc (c := 1) (n := 1) rfl (q_I r48.2 12 4 a0))
        refine ok_bdv (fun d76 e77 => ?_)
        have i78 : RI ad h.1 δ0 d76 := by rw [e77]; exact cs_12_4 L i50 k_a0 (show 0 ≤ ((q_I r48.2 12 4 a0) + (1 : Int32)).toInt by omega) (show ((q_I r48.2 12 4 a0) + (1 : Int32)).toInt ≤ 500 by omega)
        have u84 := kp_I u58 e77
        have v85 : q_V d76 = q_V δ := ((show q_V d76 = q_V r48.2 by rw [e77]; rfl)).trans v59
        have v86 := kr_N v60 (show q_R d76 = q_R r48.2 by rw [e77]; rfl)
        have us87 := NU.t us75 (NU.w (ad := ad) e77 (by decide))
        have f90 := cb_12_24 i78 k_a0
        have f91 : (q_I d76 12 24 a0).toInt = (q_I r48.2 12 24 a0).toInt := congrArg Int32.toInt (by rw [e77]; exact rI_o (by decide))
        have f92 := cb_12_24 i50 k_a0
        have f93 : (q_I r48.2 12 24 a0).toInt = (q_I r18.2 12 24 a0).toInt := congrArg Int32.toInt (u54 12 24 a0 (by decide))
        have f94 := cb_12_24 i20 k_a0
        have f95 : (q_I r18.2 12 24 a0).toInt = (q_I δ 12 24 a0).toInt := congrArg Int32.toInt (u24 12 24 a0 (by decide))
        have f96 := cb_12_26 i78 k_a0
        have f97 : (q_I d76 12 26 a0).toInt = (q_I r48.2 12 26 a0).toInt := congrArg Int32.toInt (by rw [e77]; exact rI_o (by decide))
        have f98 := cb_12_26 i50 k_a0
        have f99 : (q_I r48.2 12 26 a0).toInt = (q_I r18.2 12 26 a0).toInt := congrArg Int32.toInt (u54 12 26 a0 (by decide))
        have f100 := cb_12_26 i20 k_a0
        have f101 : (q_I r18.2 12 26 a0).toInt = (q_I δ 12 26 a0).toInt := congrArg Int32.toInt (u24 12 26 a0 (by decide))
        have f102 := cb_12_4 i78 k_a0
        have f103 : (q_I d76 12 4 a0).toInt = ((q_I r48.2 12 4 a0) + (1 : Int32)).toInt := congrArg Int32.toInt (show q_I d76 12 4 a0 = ((q_I r48.2 12 4 a0) + (1 : Int32)) by rw [e77]; exact rI_s)
        have f104 := ti_b (q_I d76 12 7 a0)
        have f105 : (q_I d76 12 7 a0).toInt = (q_I r48.2 12 7 a0).toInt := congrArg Int32.toInt (by rw [e77]; exact rI_o (by decide))
        have f106 := ti_b (q_I r48.2 12 7 a0)
        have f107 : (q_I r48.2 12 7 a0).toInt = (q_I r18.2 12 7 a0).toInt := congrArg Int32.toInt (u54 12 7 a0 (by decide))
        have f108 := ti_b (q_I r18.2 12 7 a0)
        have f109 : (q_I r18.2 12 7 a0).toInt = (q_I δ 12 7 a0).toInt := congrArg Int32.toInt (u24 12 7 a0 (by decide))
        have f110 := cb_12_5 i78 k_a0
        have f111 : (q_I d76 12 5 a0).toInt = (q_I r48.2 12 5 a0).toInt := congrArg Int32.toInt (by rw [e77]; exact rI_o (by decide))
        refine ok_bind (k_bX12_product L hN (a0 := a0) hT k_a0 (show (q_I d76 12 24 a0).toInt ≤ 3 by first | assumption | omega) (show (q_I d76 12 26 a0).toInt ≤ (q_I d76 12 4 a0).toInt by first | assumption | omega) (show 0 ≤ (q_I d76 12 7 a0).toInt by first | assumption | omega) (show (q_I d76 12 7 a0).toInt ≤ 7 by first | assumption | omega) (show (q_I d76 12 7 a0).toInt = 7 → 0 ≤ (q_I d76 12 5 a0).toInt by first | assumption | omega) (show 8 - (q_I d76 12 7 a0).toInt ≤ K by first | assumption | omega) i78) (fun r88 hr89 => ?_)
        obtain ⟨i112, ⟨u119, u120, u121⟩, p113, p114, p115, p116, p117, p118⟩ := hr89
        have u122 := kp_t u84 u119
        have v123 : q_V r88 = q_V δ := (u120).trans v85
        have v124 := kr_t v86 u121
        have f125 := cb_12_4 i112 k_a0
        have f126 := cb_12_5 i112 k_a0
        have f127 := ti_b (q_I r88 12 7 a0)
        have f128 := cb_12_26 i112 k_a0
        have us129 := US.pre us87 p118
        refine ok_ite (fun h130 => ?_) (fun h130 => ?_)
        · have c131 : r48.1.toInt = (43 : Int) := o_eq h130
          unfold J_X12_sum_62
          have f134 := cb_12_24 i112 k_a0
          have f135 : (q_I r88 12 24 a0).toInt = (q_I d76 12 24 a0).toInt := congrArg Int32.toInt (u119 12 24 a0 (by decide))
          refine ok_bind (k_X12_emit L hN (a0 := a0) (x1 := (6 : Int32)) (x2 := (0 : Int32)) k_a0 (show (q_I r88 12 24 a0).toInt ≤ 3 by first | assumption | omega) (show (q_I r88 12 5 a0).toInt < 0 → (q_I r88 12 26 a0).toInt < 500 by first | assumption | omega) i112) (fun r132 hr133 => ?_)
          obtain ⟨i136, ⟨u141, u142, u143⟩, p137, p138, p139, p140⟩ := hr133
          have u144 := kp_t u122 u141
          have v145 : q_V r132 = q_V δ := (u142).trans v123
          have v146 := kr_t v124 u143
          have f147 := cb_12_26 i136 k_a0
          have us148 := LU.em us129 p140 (by decide)
          have f149 := cb_12_24 i136 k_a0
          have f150 : (q_I r132 12 24 a0).toInt = (q_I r88 12 24 a0).toInt := congrArg Int32.toInt (u141 12 24 a0 (by decide))
          have f151 := cb_12_4 i136 k_a0
          have f152 : (q_I r132 12 4 a0).toInt = (q_I r88 12 4 a0).toInt := congrArg Int32.toInt (u141 12 4 a0 (by decide))
          have f153 := ti_b (q_I r132 12 7 a0)
          have f154 : (q_I r132 12 7 a0).toInt = (q_I r88 12 7 a0).toInt := congrArg Int32.toInt (u141 12 7 a0 (by decide))
          have f155 := cb_12_5 i136 k_a0
          have f156 : (q_I r132 12 5 a0).toInt = (q_I r88 12 5 a0).toInt := congrArg Int32.toInt (u141 12 5 a0 (by decide))
          refine ok_mono (ih r132 i136 (show (q_I r132 12 24 a0).toInt ≤ 3 by first | assumption | omega) (show (q_I r132 12 26 a0).toInt ≤ (q_I r132 12 4 a0).toInt by first | assumption | omega) (show 0 ≤ (q_I r132 12 7 a0).toInt by first | assumption | omega) (show (q_I r132 12 7 a0).toInt ≤ 7 by first | assumption | omega) (show (q_I r132 12 7 a0).toInt = 7 → 0 ≤ (q_I r132 12 5 a0).toInt by first | assumption | omega) (show 8 - (q_I r132 12 7 a0).toInt ≤ K by first | assumption | omega) (show 501 - (q_I r132 12 4 a0).toInt < _ by omega)) (fun r157 hr158 => ?_)
          obtain ⟨i159, ⟨u166, u167, u168⟩, p160, p161, p162, p163, p164, p165⟩ := hr158
          have u169 := kp_t u144 u166
          have v170 : q_V r157 = q_V δ := (u167).trans v145
          have v171 := kr_t v146 u168
          have f172 := cb_12_4 i159 k_a0
          have f173 := cb_12_5 i159 k_a0
          have f174 := ti_b (q_I r157 12 7 a0)
          have f175 := cb_12_26 i159 k_a0
          have us176 := LU.t us148 p165
          exact ⟨by assumption, ⟨kp_w (by decide) u169, v170, kr_w (by decide) v171⟩, by first | assumption | omega, by first | assumption | omega, by first | assumption | omega, by first | assumption | omega, by first | assumption | omega, us176⟩
        · have c177 : r48.1.toInt ≠ (43 : Int) := o_ne h130
          unfold J_X12_sum_62
          have f180 := cb_12_24 i112 k_a0
          have f181 : (q_I r88 12 24 a0).toInt = (q_I d76 12 24 a0).toInt := congrArg Int32.toInt (u119 12 24 a0 (by decide))
          refine ok_bind (k_X12_emit L hN (a0 := a0) (x1 := (7 : Int32)) (x2 := (0 : Int32)) k_a0 (show (q_I r88 12 24 a0).toInt ≤ 3 by first | assumption | omega) (show (q_I r88 12 5 a0).toInt < 0 → (q_I r88 12 26 a0).toInt < 500 by first | assumption | omega) i112) (fun r178 hr179 => ?_)
          obtain ⟨i182, ⟨u187, u188, u189⟩, p183, p184, p185, p186⟩ := hr179
          have u190 := kp_t u122 u187
          have v191 : q_V r178 = q_V δ := (u188).trans v123
          have v192 := kr_t v124 u189
          have f193 := cb_12_26 i182 k_a0
          have us194 := LU.em us129 p186 (by decide)
          have f195 := cb_12_24 i182 k_a0
          have f196 : (q_I r178 12 24 a0).toInt = (q_I r88 12 24 a0).toInt := congrArg Int32.toInt (u187 12 24 a0 (by decide))
          have f197 := cb_12_4 i182 k_a0
          have f198 : (q_I r178 12 4 a0).toInt = (q_I r88 12 4 a0).toInt := congrArg Int32.toInt (u187 12 4 a0 (by decide))
          have f199 := ti_b (q_I r178 12 7 a0)
          have f200 : (q_I r178 12 7 a0).toInt = (q_I r88 12 7 a0).toInt := congrArg Int32.toInt (u187 12 7 a0 (by decide))
          have f201 := cb_12_5 i182 k_a0
          have f202 : (q_I r178 12 5 a0).toInt = (q_I r88 12 5 a0).toInt := congrArg Int32.toInt (u187 12 5 a0 (by decide))
          refine ok_mono (ih r178 i182 (show (q_I r178 12 24 a0).toInt ≤ 3 by first | assumption | omega) (show (q_I r178 12 26 a0).toInt ≤ (q_I r178 12 4 a0).toInt by first | assumption | omega) (show 0 ≤ (q_I r178 12 7 a0).toInt by first | assumption | omega) (show (q_I r178 12 7 a0).toInt ≤ 7 by first | assumption | omega) (show (q_I r178 12 7 a0).toInt = 7 → 0 ≤ (q_I r178 12 5 a0).toInt by first | assumption | omega) (show 8 - (q_I r178 12 7 a0).toInt ≤ K by first | assumption | omega) (show 501 - (q_I r178 12 4 a0).toInt < _ by omega)) (fun r203 hr204 => ?_)
          obtain ⟨i205, ⟨u212, u213, u214⟩, p206, p207, p208, p209, p210, p211⟩ := hr204
          have u215 := kp_t u190 u212
          have v216 : q_V r203 = q_V δ := (u213).trans v191
          have v217 := kr_t v192 u214
          have f218 := cb_12_4 i205 k_a0
          have f219 := cb_12_5 i205 k_a0
          have f220 := ti_b (q_I r203 12 7 a0)
          have f221 := cb_12_26 i205 k_a0
          have us222 := LU.t us194 p211
          exact ⟨by assumption, ⟨kp_w (by decide) u215, v216, kr_w (by decide) v217⟩, by first | assumption | omega, by first | assumption | omega, by first | assumption | omega, by first | assumption | omega, by first | assumption | omega, us222⟩
      · have c223 : r18.1.toInt ≠ (43 : Int) := o_ne h46
        refine ok_bind (k_X12_here L hN (a0 := a0) k_a0 i20) (fun r224 hr225 => ?_)
        obtain ⟨i226, ⟨u230, u231, u232, u233⟩, p227, p228, p229⟩ := hr225
        have u234 := kp_t u28 u230
        have v235 : q_V r224.2 = q_V δ := (u231).trans v29
        have v236 := kr_t v30 u233
        have f237 := cb_12_4 i226 k_a0
        have f238 : hc ad r224.2 a0 = (q_R r224.2 (Ad ad 101) (q_I r224.2 12 4 a0).toNatClampNeg).toInt := rfl
        have t239 := ti_tn (q_I r224.2 12 4 a0)
        have f240 : (q_R r224.2 (Ad ad 101) (q_I r224.2 12 4 a0).toNatClampNeg).toInt = (q_R r18.2 (Ad ad 101) (q_I r224.2 12 4 a0).toNatClampNeg).toInt := congrArg Int32.toInt (congrFun (u233 101 (by decide) (by decide) (by decide)) _)
        have f241 : (q_R r18.2 (Ad ad 101) (q_I r224.2 12 4 a0).toNatClampNeg).toInt = (q_R δ (Ad ad 101) (q_I r224.2 12 4 a0).toNatClampNeg).toInt := congrArg Int32.toInt (congrFun (u27 101 (by decide) (by decide) (by decide)) _)
        have f242 := ti_b (q_R δ (Ad ad 101) (q_I r224.2 12 4 a0).toNatClampNeg)
        have f243 := ti_b (q_R r18.2 (Ad ad 101) (q_I r224.2 12 4 a0).toNatClampNeg)
        have f244 := ti_b (q_R r224.2 (Ad ad 101) (q_I r224.2 12 4 a0).toNatClampNeg)
        have f245 := ti_b r224.1
        have f246 := cb_12_3 i20 k_a0
        have f247 : (q_I r18.2 12 3 a0).toInt = (q_I δ 12 3 a0).toInt := congrArg Int32.toInt (u24 12 3 a0 (by decide))
        have f248 := ti_b r224.1
        have f249 := cb_12_5 i226 k_a0
        have f250 : (q_I r224.2 12 5 a0).toInt = (q_I r18.2 12 5 a0).toInt := congrArg Int32.toInt (u230 12 5 a0 (by decide))
        have us251 := NU.t us45 (⟨u233 116 (by decide) (by decide) (by decide), u230 12 26 _ (by decide), u230 12 24 _ (by decide), fun z => by omega⟩)
        refine ok_ite (fun h252 => ?_) (fun h252 => ?_)
        · have c253 : r224.1.toInt = (45 : Int) := o_eq h252
          unfold J_X12_sum_29
          refine ok_bind (k_X12_here L hN (a0 := a0) k_a0 i226) (fun r254 hr255 => ?_)
          obtain ⟨i256, ⟨u260, u261, u262, u263⟩, p257, p258, p259⟩ := hr255
          have u264 := kp_t u234 u260
          have v265 : q_V r254.2 = q_V δ := (u261).trans v235
          have v266 := kr_t v236 u263
          have f267 := cb_12_4 i256 k_a0
          have f268 : hc ad r254.2 a0 = (q_R r254.2 (Ad ad 101) (q_I r254.2 12 4 a0).toNatClampNeg).toInt := rfl
          have t269 := ti_tn (q_I r254.2 12 4 a0)
          have f270 : (q_R r254.2 (Ad ad 101) (q_I r254.2 12 4 a0).toNatClampNeg).toInt = (q_R r224.2 (Ad ad 101) (q_I r254.2 12 4 a0).toNatClampNeg).toInt := congrArg Int32.toInt (congrFun (u263 101 (by decide) (by decide) (by decide)) _)
          have f271 : (q_R r224.2 (Ad ad 101) (q_I r254.2 12 4 a0).toNatClampNeg).toInt = (q_R r18.2 (Ad ad 101) (q_I r254.2 12 4 a0).toNatClampNeg).toInt := congrArg Int32.toInt (congrFun (u233 101 (by decide) (by decide) (by decide)) _)
          have f272 : (q_R r18.2 (Ad ad 101) (q_I r254.2 12 4 a0).toNatClampNeg).toInt = (q_R δ (Ad ad 101) (q_I r254.2 12 4 a0).toNatClampNeg).toInt := congrArg Int32.toInt (congrFun (u27 101 (by decide) (by decide) (by decide)) _)
          have f273 := ti_b (q_R δ (Ad ad 101) (q_I r254.2 12 4 a0).toNatClampNeg)
          have f274 := ti_b (q_R r18.2 (Ad ad 101) (q_I r254.2 12 4 a0).toNatClampNeg)
          have f275 := ti_b (q_R r224.2 (Ad ad 101) (q_I r254.2 12 4 a0).toNatClampNeg)
          have f276 := ti_b (q_R r254.2 (Ad ad 101) (q_I r254.2 12 4 a0).toNatClampNeg)
          have f277 := ti_b r254.1
          have f278 := cb_12_3 i226 k_a0
          have f279 : (q_I r224.2 12 3 a0).toInt = (q_I r18.2 12 3 a0).toInt := congrArg Int32.toInt (u230 12 3 a0 (by decide))
          have f280 := ti_b r254.1
          have f281 := cb_12_5 i256 k_a0
          have f282 : (q_I r254.2 12 5 a0).toInt = (q_I r224.2 12 5 a0).toInt := congrArg Int32.toInt (u260 12 5 a0 (by decide))
          have us283 := NU.t us251 (⟨u263 116 (by decide) (by decide) (by decide), u260 12 26 _ (by decide), u260 12 24 _ (by decide), fun z => by omega⟩)
          first | (have q288 := te_addc (c := 1) (n := 1) rfl (q_I r254.2 12 4 a0) (by omega) (by omega); obtain ⟨f289, f290, f291⟩ := q288) | (obtain ⟨q288, f289, f290, f291⟩ := ti_addc (c := 1) (n := 1) rfl (q_I r254.2 12 4 a0))
          refine ok_bdv (fun d284 e285 => ?_)
          have i286 : RI ad h.1 δ0 d284 := by rw [e285]; exact cs_12_4 L i256 k_a0 (show 0 ≤ ((q_I r254.2 12 4 a0) + (1 : Int32)).toInt by omega) (show ((q_I r254.2 12 4 a0) + (1 : Int32)).toInt ≤ 500 by omega)
          have u292 := kp_I u264 e285
          have v293 : q_V d284 = q_V δ := ((show q_V d284 = q_V r254.2 by rw [e285]; rfl)).trans v265
          have v294 := kr_N v266 (show q_R d284 = q_R r254.2 by rw [e285]; rfl)
          have us295 := NU.t us283 (NU.w (ad := ad) e285 (by decide))
          have f298 := cb_12_24 i286 k_a0
          have f299 : (q_I d284 12 24 a0).toInt = (q_I r254.2 12 24 a0).toInt := congrArg Int32.toInt (by rw [e285]; exact rI_o (by decide))
          have f300 := cb_12_24 i256 k_a0
          have f301 : (q_I r254.2 12 24 a0).toInt = (q_I r224.2 12 24 a0).toInt := congrArg Int32.toInt (u260 12 24 a0 (by decide))
          have f302 := cb_12_24 i226 k_a0
          have f303 : (q_I r224.2 12 24 a0).toInt = (q_I r18.2 12 24 a0).toInt := congrArg Int32.toInt (u230 12 24 a0 (by decide))
          have f304 := cb_12_24 i20 k_a0
          have f305 : (q_I r18.2 12 24 a0).toInt = (q_I δ 12 24 a0).toInt := congrArg Int32.toInt (u24 12 24 a0 (by decide))
          have f306 := cb_12_26 i286 k_a0
          have f307 : (q_I d284 12 26 a0).toInt = (q_I r254.2 12 26 a0).toInt := congrArg Int32.toInt (by rw [e285]; exact rI_o (by decide))
          have f308 := cb_12_26 i256 k_a0
          have f309 : (q_I r254.2 12 26 a0).toInt = (q_I r224.2 12 26 a0).toInt := congrArg Int32.toInt (u260 12 26 a0 (by decide))
          have f310 := cb_12_26 i226 k_a0
          have f311 : (q_I r224.2 12 26 a0).toInt = (q_I r18.2 12 26 a0).toInt := congrArg Int32.toInt (u230 12 26 a0 (by decide))
          have f312 := cb_12_26 i20 k_a0
          have f313 : (q_I r18.2 12 26 a0).toInt = (q_I δ 12 26 a0).toInt := congrArg Int32.toInt (u24 12 26 a0 (by decide))
          have f314 := cb_12_4 i286 k_a0
          have f315 : (q_I d284 12 4 a0).toInt = ((q_I r254.2 12 4 a0) + (1 : Int32)).toInt := congrArg Int32.toInt (show q_I d284 12 4 a0 = ((q_I r254.2 12 4 a0) + (1 : Int32)) by rw [e285]; exact rI_s)
          have f316 := ti_b (q_I d284 12 7 a0)
          have f317 : (q_I d284 12 7 a0).toInt = (q_I r254.2 12 7 a0).toInt := congrArg Int32.toInt (by rw [e285]; exact rI_o (by decide))
          have f318 := ti_b (q_I r254.2 12 7 a0)
          have f319 : (q_I r254.2 12 7 a0).toInt = (q_I r224.2 12 7 a0).toInt := congrArg Int32.toInt (u260 12 7 a0 (by decide))
          have f320 := ti_b (q_I r224.2 12 7 a0)
          have f321 : (q_I r224.2 12 7 a0).toInt = (q_I r18.2 12 7 a0).toInt := congrArg Int32.toInt (u230 12 7 a0 (by decide))
          have f322 := ti_b (q_I r18.2 12 7 a0)
          have f323 : (q_I r18.2 12 7 a0).toInt = (q_I δ 12 7 a0).toInt := congrArg Int32.toInt (u24 12 7 a0 (by decide))
          have f324 := cb_12_5 i286 k_a0
          have f325 : (q_I d284 12 5 a0).toInt = (q_I r254.2 12 5 a0).toInt := congrArg Int32.toInt (by rw [e285]; exact rI_o (by decide))
          refine ok_bind (k_bX12_product L hN (a0 := a0) hT k_a0 (show (q_I d284 12 24 a0).toInt ≤ 3 by first | assumption | omega) (show (q_I d284 12 26 a0).toInt ≤ (q_I d284 12 4 a0).toInt by first | assumption | omega) (show 0 ≤ (q_I d284 12 7 a0).toInt by first | assumption | omega) (show (q_I d284 12 7 a0).toInt ≤ 7 by first | assumption | omega) (show (q_I d284 12 7 a0).toInt = 7 → 0 ≤ (q_I d284 12 5 a0).toInt by first | assumption | omega) (show 8 - (q_I d284 12 7 a0).toInt ≤ K by first | assumption | omega) i286) (fun r296 hr297 => ?_)
          obtain ⟨i326, ⟨u333, u334, u335⟩, p327, p328, p329, p330, p331, p332⟩ := hr297
          have u336 := kp_t u292 u333
          have v337 : q_V r296 = q_V δ := (u334).trans v293
          have v338 := kr_t v294 u335
          have f339 := cb_12_4 i326 k_a0
          have f340 := cb_12_5 i326 k_a0
          have f341 := ti_b (q_I r296 12 7 a0)
          have f342 := cb_12_26 i326 k_a0
          have us343 := US.pre us295 p332
          refine ok_ite (fun h344 => ?_) (fun h344 => ?_)
          · have c345 : r254.1.toInt = (43 : Int) := o_eq h344
            unfold J_X12_sum_62
            have f348 := cb_12_24 i326 k_a0
            have f349 : (q_I r296 12 24 a0).toInt = (q_I d284 12 24 a0).toInt := congrArg Int32.toInt (u333 12 24 a0 (by decide))
            refine ok_bind (k_X12_emit L hN (a0 := a0) (x1 := (6 : Int32)) (x2 := (0 : Int32)) k_a0 (show (q_I r296 12 24 a0).toInt ≤ 3 by first | assumption | omega) (show (q_I r296 12 5 a0).toInt < 0 → (q_I r296 12 26 a0).toInt < 500 by first | assumption | omega) i326) (fun r346 hr347 => ?_)
            obtain ⟨i350, ⟨u355, u356, u357⟩, p351, p352, p353, p354⟩ := hr347
            have u358 := kp_t u336 u355
            have v359 : q_V r346 = q_V δ := (u356).trans v337
            have v360 := kr_t v338 u357
            have f361 := cb_12_26 i350 k_a0
            have us362 := LU.em us343 p354 (by decide)
            have f363 := cb_12_24 i350 k_a0
            have f364 : (q_I r346 12 24 a0).toInt = (q_I r296 12 24 a0).toInt := congrArg Int32.toInt (u355 12 24 a0 (by decide))
            have f365 := cb_12_4 i350 k_a0
            have f366 : (q_I r346 12 4 a0).toInt = (q_I r296 12 4 a0).toInt := congrArg Int32.toInt (u355 12 4 a0 (by decide))
            have f367 := ti_b (q_I r346 12 7 a0)
            have f368 : (q_I r346 12 7 a0).toInt = (q_I r296 12 7 a0).toInt := congrArg Int32.toInt (u355 12 7 a0 (by decide))
            have f369 := cb_12_5 i350 k_a0
            have f370 : (q_I r346 12 5 a0).toInt = (q_I r296 12 5 a0).toInt := congrArg Int32.toInt (u355 12 5 a0 (by decide))
            refine ok_mono (ih r346 i350 (show (q_I r346 12 24 a0).toInt ≤ 3 by first | assumption | omega) (show (q_I r346 12 26 a0).toInt ≤ (q_I r346 12 4 a0).toInt by first | assumption | omega) (show 0 ≤ (q_I r346 12 7 a0).toInt by first | assumption | omega) (show (q_I r346 12 7 a0).toInt ≤ 7 by first | assumption | omega) (show (q_I r346 12 7 a0).toInt = 7 → 0 ≤ (q_I r346 12 5 a0).toInt by first | assumption | omega) (show 8 - (q_I r346 12 7 a0).toInt ≤ K by first | assumption | omega) (show 501 - (q_I r346 12 4 a0).toInt < _ by omega)) (fun r371 hr372 => ?_)
            obtain ⟨i373, ⟨u380, u381, u382⟩, p374, p375, p376, p377, p378, p379⟩ := hr372
            have u383 := kp_t u358 u380
            have v384 : q_V r371 = q_V δ := (u381).trans v359
            have v385 := kr_t v360 u382
            have f386 := cb_12_4 i373 k_a0
            have f387 := cb_12_5 i373 k_a0
            have f388 := ti_b (q_I r371 12 7 a0)
            have f389 := cb_12_26 i373 k_a0
            have us390 := LU.t us362 p379
            exact ⟨by assumption, ⟨kp_w (by decide) u383, v384, kr_w (by decide) v385⟩, by first | assumption | omega, by first | assumption | omega, by first | assumption | omega, by first | assumption | omega, by first | assumption | omega, us390⟩
          · have c391 : r254.1.toInt ≠ (43 : Int) := o_ne h344
            unfold J_X12_sum_62
            have f394 := cb_12_24 i326 k_a0
            have f395 : (q_I r296 12 24 a0).toInt = (q_I d284 12 24 a0).toInt := congrArg Int32.toInt (u333 12 24 a0 (by decide))
            refine ok_bind (k_X12_emit L hN (a0 := a0) (x1 := (7 : Int32)) (x2 := (0 : Int32)) k_a0 (show (q_I r296 12 24 a0).toInt ≤ 3 by first | assumption | omega) (show (q_I r296 12 5 a0).toInt < 0 → (q_I r296 12 26 a0).toInt < 500 by first | assumption | omega) i326) (fun r392 hr393 => ?_)
            obtain ⟨i396, ⟨u401, u402, u403⟩, p397, p398, p399, p400⟩ := hr393
            have u404 := kp_t u336 u401
            have v405 : q_V r392 = q_V δ := (u402).trans v337
            have v406 := kr_t v338 u403
            have f407 := cb_12_26 i396 k_a0
            have us408 := LU.em us343 p400 (by decide)
            have f409 := cb_12_24 i396 k_a0
            have f410 : (q_I r392 12 24 a0).toInt = (q_I r296 12 24 a0).toInt := congrArg Int32.toInt (u401 12 24 a0 (by decide))
            have f411 := cb_12_4 i396 k_a0
            have f412 : (q_I r392 12 4 a0).toInt = (q_I r296 12 4 a0).toInt := congrArg Int32.toInt (u401 12 4 a0 (by decide))
            have f413 := ti_b (q_I r392 12 7 a0)
            have f414 : (q_I r392 12 7 a0).toInt = (q_I r296 12 7 a0).toInt := congrArg Int32.toInt (u401 12 7 a0 (by decide))
            have f415 := cb_12_5 i396 k_a0
            have f416 : (q_I r392 12 5 a0).toInt = (q_I r296 12 5 a0).toInt := congrArg Int32.toInt (u401 12 5 a0 (by decide))
            refine ok_mono (ih r392 i396 (show (q_I r392 12 24 a0).toInt ≤ 3 by first | assumption | omega) (show (q_I r392 12 26 a0).toInt ≤ (q_I r392 12 4 a0).toInt by first | assumption | omega) (show 0 ≤ (q_I r392 12 7 a0).toInt by first | assumption | omega) (show (q_I r392 12 7 a0).toInt ≤ 7 by first | assumption | omega) (show (q_I r392 12 7 a0).toInt = 7 → 0 ≤ (q_I r392 12 5 a0).toInt by first | assumption | omega) (show 8 - (q_I r392 12 7 a0).toInt ≤ K by first | assumption | omega) (show 501 - (q_I r392 12 4 a0).toInt < _ by omega)) (fun r417 hr418 => ?_)
            obtain ⟨i419, ⟨u426, u427, u428⟩, p420, p421, p422, p423, p424, p425⟩ := hr418
            have u429 := kp_t u404 u426
            have v430 : q_V r417 = q_V δ := (u427).trans v405
            have v431 := kr_t v406 u428
            have f432 := cb_12_4 i419 k_a0
            have f433 := cb_12_5 i419 k_a0
            have f434 := ti_b (q_I r417 12 7 a0)
            have f435 := cb_12_26 i419 k_a0
            have us436 := LU.t us408 p425
            exact ⟨by assumption, ⟨kp_w (by decide) u429, v430, kr_w (by decide) v431⟩, by first | assumption | omega, by first | assumption | omega, by first | assumption | omega, by first | assumption | omega, by first | assumption | omega, us436⟩
        · have c437 : r224.1.toInt ≠ (45 : Int) := o_ne h252
          unfold J_X12_sum_69
          have f438 := ti_b (q_I r224.2 12 7 a0)
          have f439 : (q_I r224.2 12 7 a0).toInt = (q_I r18.2 12 7 a0).toInt := congrArg Int32.toInt (u230 12 7 a0 (by decide))
          have f440 := ti_b (q_I r18.2 12 7 a0)
          have f441 : (q_I r18.2 12 7 a0).toInt = (q_I δ 12 7 a0).toInt := congrArg Int32.toInt (u24 12 7 a0 (by decide))
          have f442 := cb_12_26 i226 k_a0
          have f443 : (q_I r224.2 12 26 a0).toInt = (q_I r18.2 12 26 a0).toInt := congrArg Int32.toInt (u230 12 26 a0 (by decide))
          have f444 := cb_12_26 i20 k_a0
          have f445 : (q_I r18.2 12 26 a0).toInt = (q_I δ 12 26 a0).toInt := congrArg Int32.toInt (u24 12 26 a0 (by decide))
          exact ok_some (show RI ad h.1 δ0 r224.2 ∧ (kp [(12, 4), (12, 5), (12, 6), (12, 7), (12, 26)] δ r224.2 ∧ q_V r224.2 = q_V δ ∧ kr ad [116, 117] δ r224.2) ∧ (q_I δ 12 4 a0).toInt ≤ (q_I r224.2 12 4 a0).toInt ∧ (q_I δ 12 5 a0).toInt ≤ (q_I r224.2 12 5 a0).toInt ∧ (q_I r224.2 12 7 a0).toInt = (q_I δ 12 7 a0).toInt ∧ (q_I δ 12 26 a0).toInt ≤ (q_I r224.2 12 26 a0).toInt ∧ (q_I r224.2 12 26 a0).toInt - (q_I δ 12 26 a0).toInt ≤ (q_I r224.2 12 4 a0).toInt - (q_I δ 12 4 a0).toInt ∧ LU ad a0 δ r224.2 from ⟨i226, ⟨kp_w (by decide) u234, v235, kr_w (by decide) v236⟩, by first | assumption | omega, by first | assumption | omega, by first | assumption | omega, by first | assumption | omega, by first | assumption | omega, LU.n us251⟩)
set_option maxHeartbeats 4000000 in
theorem ke_X12_sum {ad : List Nat} {h : hp} (L : Lay TLx ad h) {δ0 : dp} {N : Nat} (hN : 10000000 ≤ N) : ∀ (k : Nat), ∀ (a0 : Nat) (δ : dp), q_K h.1 a0 = 12 → (q_I δ 12 24 a0).toInt ≤ 3 → (q_I δ 12 26 a0).toInt ≤ (q_I δ 12 4 a0).toInt → 0 ≤ (q_I δ 12 7 a0).toInt → (q_I δ 12 7 a0).toInt ≤ 7 → ((q_I δ 12 7 a0).toInt = 7 → 0 ≤ (q_I δ 12 5 a0).toInt) → 8 - (q_I δ 12 7 a0).toInt < (k : Int) → RI ad h.1 δ0 δ → ok (E_X12_sum N h.1 k a0 δ) (fun r => RI ad h.1 δ0 r ∧ (kp [(12, 4), (12, 5), (12, 6), (12, 7), (12, 26)] δ r ∧ q_V r = q_V δ ∧ kr ad [116, 117] δ r) ∧ (q_I δ 12 4 a0).toInt ≤ (q_I r 12 4 a0).toInt ∧ (q_I δ 12 5 a0).toInt ≤ (q_I r 12 5 a0).toInt ∧ (q_I r 12 7 a0).toInt = (q_I δ 12 7 a0).toInt ∧ (q_I δ 12 26 a0).toInt ≤ (q_I r 12 26 a0).toInt ∧ (q_I r 12 26 a0).toInt - (q_I δ 12 26 a0).toInt ≤ (q_I r 12 4 a0).toInt - (q_I δ 12 4 a0).toInt ∧ US ad a0 δ r) := by
  intro k
  induction k with
  | zero =>
    intro a0 δ k_a0 z0 z1 z2 z3 z4 hd I
    exfalso; omega
  | succ k ih =>
    intro a0 δ k_a0 z0 z1 z2 z3 z4 hd I
    unfold E_X12_sum B_X12_sum
    have f1 := cb_12_24 I k_a0
    have f2 := cb_12_26 I k_a0
    have f3 := cb_12_4 I k_a0
    have f4 := ti_b (q_I δ 12 7 a0)
    have f5 := cb_12_5 I k_a0
    refine ok_bind (k_bX12_product L hN (a0 := a0) ih k_a0 (show (q_I δ 12 24 a0).toInt ≤ 3 by first | assumption | omega) (show (q_I δ 12 26 a0).toInt ≤ (q_I δ 12 4 a0).toInt by first | assumption | omega) (show 0 ≤ (q_I δ 12 7 a0).toInt by first | assumption | omega) (show (q_I δ 12 7 a0).toInt ≤ 7 by first | assumption | omega) (show (q_I δ 12 7 a0).toInt = 7 → 0 ≤ (q_I δ 12 5 a0).toInt by first | assumption | omega) (show 8 - (q_I δ 12 7 a0).toInt ≤ (k : Int) by first | assumption | omega) I) (fun r6 hr7 => ?_)
    obtain ⟨i8, ⟨u15, u16, u17⟩, p9, p10, p11, p12, p13, p14⟩ := hr7
    have u18 := kp_t kp_r u15
    have v19 : q_V r6 = q_V δ := (u16).trans rfl
    have v20 := kr_t (kr_r (ad := ad)) u17
    have f21 := cb_12_4 i8 k_a0
    have f22 := cb_12_5 i8 k_a0
    have f23 := ti_b (q_I r6 12 7 a0)
    have f24 := cb_12_26 i8 k_a0
    have us25 := US.pre NU.r p14
    have f26 := cb_12_24 i8 k_a0
    have f27 : (q_I r6 12 24 a0).toInt = (q_I δ 12 24 a0).toInt := congrArg Int32.toInt (u15 12 24 a0 (by decide))
    refine ok_mono (kl_X12_sum_4 L hN   ih k_a0 _ r6 i8 (show (q_I r6 12 24 a0).toInt ≤ 3 by first | assumption | omega) (show (q_I r6 12 26 a0).toInt ≤ (q_I r6 12 4 a0).toInt by first | assumption | omega) (show 0 ≤ (q_I r6 12 7 a0).toInt by first | assumption | omega) (show (q_I r6 12 7 a0).toInt ≤ 7 by first | assumption | omega) (show (q_I r6 12 7 a0).toInt = 7 → 0 ≤ (q_I r6 12 5 a0).toInt by first | assumption | omega) (show 8 - (q_I r6 12 7 a0).toInt ≤ (k : Int) by first | assumption | omega) (show 501 - (q_I r6 12 4 a0).toInt < _ by omega)) (fun r28 hr29 => ?_)
    obtain ⟨i30, ⟨u37, u38, u39⟩, p31, p32, p33, p34, p35, p36⟩ := hr29
    have u40 := kp_t u18 u37
    have v41 : q_V r28 = q_V δ := (u38).trans v19
    have v42 := kr_t v20 u39
    have f43 := cb_12_4 i30 k_a0
    have f44 := cb_12_5 i30 k_a0
    have f45 := ti_b (q_I r28 12 7 a0)
    have f46 := cb_12_26 i30 k_a0
    have us47 := US.l us25 p36
    exact ⟨by assumption, ⟨kp_w (by decide) u40, v41, kr_w (by decide) v42⟩, by first | assumption | omega, by first | assumption | omega, by first | assumption | omega, by first | assumption | omega, by first | assumption | omega, us47⟩
set_option maxHeartbeats 4000000 in
theorem k_X12_sum {ad : List Nat} {h : hp} (L : Lay TLx ad h) {δ0 : dp} {N : Nat} (hN : 10000000 ≤ N) {a0 : Nat} (k_a0 : q_K h.1 a0 = 12) {δ : dp} (z0 : (q_I δ 12 24 a0).toInt ≤ 3) (z1 : (q_I δ 12 26 a0).toInt ≤ (q_I δ 12 4 a0).toInt) (z2 : 0 ≤ (q_I δ 12 7 a0).toInt) (z3 : (q_I δ 12 7 a0).toInt ≤ 7) (z4 : (q_I δ 12 7 a0).toInt = 7 → 0 ≤ (q_I δ 12 5 a0).toInt) (hd : 8 - (q_I δ 12 7 a0).toInt < 20) (I : RI ad h.1 δ0 δ) : ok (D_X12_sum N h.1 a0 δ) (fun r => RI ad h.1 δ0 r ∧ (kp [(12, 4), (12, 5), (12, 6), (12, 7), (12, 26)] δ r ∧ q_V r = q_V δ ∧ kr ad [116, 117] δ r) ∧ (q_I δ 12 4 a0).toInt ≤ (q_I r 12 4 a0).toInt ∧ (q_I δ 12 5 a0).toInt ≤ (q_I r 12 5 a0).toInt ∧ (q_I r 12 7 a0).toInt = (q_I δ 12 7 a0).toInt ∧ (q_I δ 12 26 a0).toInt ≤ (q_I r 12 26 a0).toInt ∧ (q_I r 12 26 a0).toInt - (q_I δ 12 26 a0).toInt ≤ (q_I r 12 4 a0).toInt - (q_I δ 12 4 a0).toInt ∧ US ad a0 δ r) := ke_X12_sum L hN 20 a0 δ k_a0 z0 z1 z2 z3 z4 hd I
set_option maxHeartbeats 4000000 in
theorem k_X12_stepOf {ad : List Nat} {h : hp} (L : Lay TLx ad h) {δ0 : dp} {N : Nat} (hN : 10000000 ≤ N) {x0 : Int32} {δ : dp} (I : RI ad h.1 δ0 δ) : ok (D_X12_stepOf N h.1 x0 δ) (fun r => r.2 = δ ∧ -1 ≤ (r.1).toInt ∧ (r.1).toInt ≤ 5 ∧ ((r.1).toInt = -1 ∨ (x0).toInt ≠ 0)) := by
  unfold D_X12_stepOf
  refine ok_bind (k_X12_of L hN (a0 := 5) (show 5 < 16 by first | assumption | omega) I) (fun r1 hr2 => ?_)
  obtain ⟨i3, p4⟩ := hr2
  try rw [i3]
  have f5 := ti_b r1.1
  have f6 := ti_b r1.1
  have f7 := ti_b x0
  refine ok_ite (fun h8 => ?_) (fun h8 => ?_)
  · have c9 : x0.toInt = r1.1.toInt := o_eq h8
    unfold J_X12_stepOf_79
    exact ok_some (show δ = δ ∧ -1 ≤ (0 : Int) ∧ (0 : Int) ≤ 5 ∧ ((0 : Int) = -1 ∨ (x0).toInt ≠ 0) from ⟨rfl, by first | assumption | omega, by first | assumption | omega, by first | assumption | omega⟩)
  · have c10 : x0.toInt ≠ r1.1.toInt := o_ne h8
    refine ok_bind (k_X12_of L hN (a0 := 6) (show 6 < 16 by first | assumption | omega) I) (fun r11 hr12 => ?_)
    obtain ⟨i13, p14⟩ := hr12
    try rw [i13]
    have f15 := ti_b r11.1
    have f16 := ti_b r11.1
    refine ok_ite (fun h17 => ?_) (fun h17 => ?_)
    · have c18 : x0.toInt = r11.1.toInt := o_eq h17
      unfold J_X12_stepOf_79
      exact ok_some (show δ = δ ∧ -1 ≤ (1 : Int) ∧ (1 : Int) ≤ 5 ∧ ((1 : Int) = -1 ∨ (x0).toInt ≠ 0) from ⟨rfl, by first | assumption | omega, by first | assumption | omega, by first | assumption | omega⟩)
    · have c19 : x0.toInt ≠ r11.1.toInt := o_ne h17
      refine ok_bind (k_X12_of L hN (a0 := 7) (show 7 < 16 by first | assumption | omega) I) (fun r20 hr21 => ?_)
      obtain ⟨i22, p23⟩ := hr21
      try rw [i22]
      have f24 := ti_b r20.1
      have f25 := ti_b r20.1
      refine ok_ite (fun h26 => ?_) (fun h26 => ?_)
      · have c27 : x0.toInt = r20.1.toInt := o_eq h26
        unfold J_X12_stepOf_79
        exact ok_some (show δ = δ ∧ -1 ≤ (2 : Int) ∧ (2 : Int) ≤ 5 ∧ ((2 : Int) = -1 ∨ (x0).toInt ≠ 0) from ⟨rfl, by first | assumption | omega, by first | assumption | omega, by first | assumption | omega⟩)
      · have c28 : x0.toInt ≠ r20.1.toInt := o_ne h26
        refine ok_bind (k_X12_of L hN (a0 := 8) (show 8 < 16 by first | assumption | omega) I) (fun r29 hr30 => ?_)
        obtain ⟨i31, p32⟩ := hr30
        try rw [i31]
        have f33 := ti_b r29.1
        have f34 := ti_b r29.1
        refine ok_ite (fun h35 => ?_) (fun h35 => ?_)
        · have c36 : x0.toInt = r29.1.toInt := o_eq h35
          unfold J_X12_stepOf_79
          exact ok_some (show δ = δ ∧ -1 ≤ (3 : Int) ∧ (3 : Int) ≤ 5 ∧ ((3 : Int) = -1 ∨ (x0).toInt ≠ 0) from ⟨rfl, by first | assumption | omega, by first | assumption | omega, by first | assumption | omega⟩)
        · have c37 : x0.toInt ≠ r29.1.toInt := o_ne h35
          refine ok_bind (k_X12_of L hN (a0 := 9) (show 9 < 16 by first | assumption | omega) I) (fun r38 hr39 => ?_)
          obtain ⟨i40, p41⟩ := hr39
          try rw [i40]
          have f42 := ti_b r38.1
          have f43 := ti_b r38.1
          refine ok_ite (fun h44 => ?_) (fun h44 => ?_)
          · have c45 : x0.toInt = r38.1.toInt := o_eq h44
            unfold J_X12_stepOf_79
            exact ok_some (show δ = δ ∧ -1 ≤ (4 : Int) ∧ (4 : Int) ≤ 5 ∧ ((4 : Int) = -1 ∨ (x0).toInt ≠ 0) from ⟨rfl, by first | assumption | omega, by first | assumption | omega, by first | assumption | omega⟩)
          · have c46 : x0.toInt ≠ r38.1.toInt := o_ne h44
            refine ok_bind (k_X12_of L hN (a0 := 10) (show 10 < 16 by first | assumption | omega) I) (fun r47 hr48 => ?_)
            obtain ⟨i49, p50⟩ := hr48
            try rw [i49]
            have f51 := ti_b r47.1
            have f52 := ti_b r47.1
            refine ok_ite (fun h53 => ?_) (fun h53 => ?_)
            · have c54 : x0.toInt = r47.1.toInt := o_eq h53
              unfold J_X12_stepOf_79
              exact ok_some (show δ = δ ∧ -1 ≤ (5 : Int) ∧ (5 : Int) ≤ 5 ∧ ((5 : Int) = -1 ∨ (x0).toInt ≠ 0) from ⟨rfl, by first | assumption | omega, by first | assumption | omega, by first | assumption | omega⟩)
            · have c55 : x0.toInt ≠ r47.1.toInt := o_ne h53
              unfold J_X12_stepOf_79
              exact ok_some (show δ = δ ∧ -1 ≤ (-1 : Int) ∧ (-1 : Int) ≤ 5 ∧ ((-1 : Int) = -1 ∨ (x0).toInt ≠ 0) from ⟨rfl, by first | assumption | omega, by first | assumption | omega, by first | assumption | omega⟩)
set_option maxHeartbeats 4000000 in
theorem kl_X12_readSteps_0 {ad : List Nat} {h : hp} (L : Lay TLx ad h) {δ0 : dp} {N : Nat} (hN : 10000000 ≤ N) {T : Nat → dp → Option (dp)} {K : Int} (hT : ∀ (a0 : Nat) (δ : dp), q_K h.1 a0 = 12 → (q_I δ 12 24 a0).toInt ≤ 3 → (q_I δ 12 26 a0).toInt ≤ (q_I δ 12 4 a0).toInt → (q_I δ 12 7 a0).toInt = 0 → 4 - (q_I δ 12 27 a0).toInt < K → RI ad h.1 δ0 δ → ok (T a0 δ) (fun r => RI ad h.1 δ0 r ∧ (kp [(12, 4), (12, 5), (12, 6), (12, 7), (12, 25), (12, 26), (12, 27)] δ r ∧ q_V r = q_V δ ∧ kr ad [113, 114, 115, 116, 117] δ r) ∧ (q_I δ 12 4 a0).toInt ≤ (q_I r 12 4 a0).toInt ∧ (q_I δ 12 5 a0).toInt ≤ (q_I r 12 5 a0).toInt ∧ (q_I r 12 7 a0).toInt = (q_I δ 12 7 a0).toInt ∧ (q_I r 12 27 a0).toInt = (q_I δ 12 27 a0).toInt ∧ (q_I r 12 26 a0).toInt ≤ (q_I r 12 4 a0).toInt)) {a0 : Nat} (k_a0 : q_K h.1 a0 = 12) : ∀ (n : Nat) (δ : dp), RI ad h.1 δ0 δ → (q_I δ 12 24 a0).toInt ≤ 3 → (q_I δ 12 26 a0).toInt ≤ (q_I δ 12 4 a0).toInt → (q_I δ 12 7 a0).toInt = 0 → 4 - (q_I δ 12 27 a0).toInt ≤ K → 501 - (q_I δ 12 4 a0).toInt < (n : Int) → ok (L_X12_readSteps_0 N h.1 T a0 n δ) (fun r => RI ad h.1 δ0 r ∧ (kp [(12, 4), (12, 5), (12, 6), (12, 7), (12, 25), (12, 26), (12, 27)] δ r ∧ q_V r = q_V δ ∧ kr ad [113, 114, 115, 116, 117] δ r) ∧ (q_I δ 12 4 a0).toInt ≤ (q_I r 12 4 a0).toInt ∧ (q_I δ 12 5 a0).toInt ≤ (q_I r 12 5 a0).toInt ∧ (q_I r 12 7 a0).toInt = (q_I δ 12 7 a0).toInt ∧ (q_I r 12 27 a0).toInt = (q_I δ 12 27 a0).toInt ∧ (q_I r 12 26 a0).toInt ≤ (q_I r 12 4 a0).toInt) := by
  intro n
  induction n with
  | zero =>
    intro δ I j0 j1 j2 j3 hm
    have f1 := cb_12_24 I k_a0
    have f2 := cb_12_26 I k_a0
    have f3 := cb_12_4 I k_a0
    have f4 := ti_b (q_I δ 12 7 a0)
    have f5 := cb_12_27 I k_a0
    exfalso; omega
  | succ n ih =>
    intro δ I j0 j1 j2 j3 hm
    unfold L_X12_readSteps_0
    have f1 := cb_12_24 I k_a0
    have f2 := cb_12_26 I k_a0
    have f3 := cb_12_4 I k_a0
    have f4 := ti_b (q_I δ 12 7 a0)
    have f5 := cb_12_27 I k_a0
    refine ok_bind (k_X12_fine L hN (a0 := a0) k_a0 I) (fun r6 hr7 => ?_)
    obtain ⟨i8, p9, p10, p11⟩ := hr7
    try rw [i8]
    have f12 := bo_l p9
    have f13 := cb_12_5 I k_a0
    have f14 := ti_b r6.1
    have f15 := ti_b r6.1
    refine ok_ite (fun h16 => ?_) (fun h16 => ?_)
    · have c17 : r6.1.toInt = (0 : Int) := o_eq h16
      unfold J_X12_readSteps_239
      exact ok_some (show RI ad h.1 δ0 δ ∧ (kp [(12, 4), (12, 5), (12, 6), (12, 7), (12, 25), (12, 26), (12, 27)] δ δ ∧ q_V δ = q_V δ ∧ kr ad [113, 114, 115, 116, 117] δ δ) ∧ (q_I δ 12 4 a0).toInt ≤ (q_I δ 12 4 a0).toInt ∧ (q_I δ 12 5 a0).toInt ≤ (q_I δ 12 5 a0).toInt ∧ (q_I δ 12 7 a0).toInt = (q_I δ 12 7 a0).toInt ∧ (q_I δ 12 27 a0).toInt = (q_I δ 12 27 a0).toInt ∧ (q_I δ 12 26 a0).toInt ≤ (q_I δ 12 4 a0).toInt from ⟨I, ⟨kp_w (by decide) kp_r, rfl, kr_w (by decide) (kr_r (ad := ad))⟩, by first | assumption | omega, by first | assumption | omega, by first | assumption | omega, by first | assumption | omega, by first | assumption | omega⟩)
    · have c18 : r6.1.toInt ≠ (0 : Int) := o_ne h16
      refine ok_bind (k_X12_isMore L hN (a0 := a0) k_a0 I) (fun r19 hr20 => ?_)
      obtain ⟨i21, ⟨u25, u26, u27, u28⟩, p22, p23, p24⟩ := hr20
      have u29 := kp_t kp_r u25
      have v30 : q_V r19.2 = q_V δ := (u26).trans rfl
      have v31 := kr_t (kr_r (ad := ad)) u28
      have f32 := bo_l p22
      have f33 := cb_12_4 i21 k_a0
      have f34 := ti_b r19.1
      have f35 := cb_12_3 I k_a0
      have f36 := ti_b r19.1
      refine ok_ite (fun h37 => ?_) (fun h37 => ?_)
      · have c38 : r19.1.toInt = (0 : Int) := o_eq h37
        unfold J_X12_readSteps_239
        have f39 := cb_12_5 i21 k_a0
        have f40 : (q_I r19.2 12 5 a0).toInt = (q_I δ 12 5 a0).toInt := congrArg Int32.toInt (u25 12 5 a0 (by decide))
        have f41 := ti_b (q_I r19.2 12 7 a0)
        have f42 : (q_I r19.2 12 7 a0).toInt = (q_I δ 12 7 a0).toInt := congrArg Int32.toInt (u25 12 7 a0 (by decide))
        have f43 := cb_12_27 i21 k_a0
        have f44 : (q_I r19.2 12 27 a0).toInt = (q_I δ 12 27 a0).toInt := congrArg Int32.toInt (u25 12 27 a0 (by decide))
        have f45 := cb_12_26 i21 k_a0
        have f46 : (q_I r19.2 12 26 a0).toInt = (q_I δ 12 26 a0).toInt := congrArg Int32.toInt (u25 12 26 a0 (by decide))
        exact ok_some (show RI ad h.1 δ0 r19.2 ∧ (kp [(12, 4), (12, 5), (12, 6), (12, 7), (12, 25), (12, 26), (12, 27)] δ r19.2 ∧ q_V r19.2 = q_V δ ∧ kr ad [113, 114, 115, 116, 117] δ r19.2) ∧ (q_I δ 12 4 a0).toInt ≤ (q_I r19.2 12 4 a0).toInt ∧ (q_I δ 12 5 a0).toInt ≤ (q_I r19.2 12 5 a0).toInt ∧ (q_I r19.2 12 7 a0).toInt = (q_I δ 12 7 a0).toInt ∧ (q_I r19.2 12 27 a0).toInt = (q_I δ 12 27 a0).toInt ∧ (q_I r19.2 12 26 a0).toInt ≤ (q_I r19.2 12 4 a0).toInt from ⟨i21, ⟨kp_w (by decide) u29, v30, kr_w (by decide) v31⟩, by first | assumption | omega, by first | assumption | omega, by first | assumption | omega, by first | assumption | omega, by first | assumption | omega⟩)
      · have c47 : r19.1.toInt ≠ (0 : Int) := o_ne h37
        refine ok_bind (k_X12_here L hN (a0 := a0) k_a0 i21) (fun r48 hr49 => ?_)
        obtain ⟨i50, ⟨u54, u55, u56, u57⟩, p51, p52, p53⟩ := hr49
        have u58 := kp_t u29 u54
        have v59 : q_V r48.2 = q_V δ := (u55).trans v30
        have v60 := kr_t v31 u57
        have f61 := cb_12_4 i50 k_a0
        have f62 : hc ad r48.2 a0 = (q_R r48.2 (Ad ad 101) (q_I r48.2 12 4 a0).toNatClampNeg).toInt := rfl
        have t63 := ti_tn (q_I r48.2 12 4 a0)
        have f64 : (q_R r48.2 (Ad ad 101) (q_I r48.2 12 4 a0).toNatClampNeg).toInt = (q_R r19.2 (Ad ad 101) (q_I r48.2 12 4 a0).toNatClampNeg).toInt := congrArg Int32.toInt (congrFun (u57 101 (by decide) (by decide) (by decide)) _)
        have f65 : (q_R r19.2 (Ad ad 101) (q_I r48.2 12 4 a0).toNatClampNeg).toInt = (q_R δ (Ad ad 101) (q_I r48.2 12 4 a0).toNatClampNeg).toInt := congrArg Int32.toInt (congrFun (u28 101 (by decide) (by decide) (by decide)) _)
        have f66 := ti_b (q_R δ (Ad ad 101) (q_I r48.2 12 4 a0).toNatClampNeg)
        have f67 := ti_b (q_R r19.2 (Ad ad 101) (q_I r48.2 12 4 a0).toNatClampNeg)
        have f68 := ti_b (q_R r48.2 (Ad ad 101) (q_I r48.2 12 4 a0).toNatClampNeg)
        have f69 := ti_b r48.1
        have f70 := cb_12_3 i21 k_a0
        have f71 : (q_I r19.2 12 3 a0).toInt = (q_I δ 12 3 a0).toInt := congrArg Int32.toInt (u25 12 3 a0 (by decide))
        have f72 : hc ad r19.2 a0 = (q_R r19.2 (Ad ad 101) (q_I r19.2 12 4 a0).toNatClampNeg).toInt := rfl
        have t73 := ti_tn (q_I r19.2 12 4 a0)
        have f74 : (q_R r19.2 (Ad ad 101) (q_I r19.2 12 4 a0).toNatClampNeg).toInt = (q_R δ (Ad ad 101) (q_I r19.2 12 4 a0).toNatClampNeg).toInt := congrArg Int32.toInt (congrFun (u28 101 (by decide) (by decide) (by decide)) _)
        have f75 := ti_b (q_R δ (Ad ad 101) (q_I r19.2 12 4 a0).toNatClampNeg)
        have f76 := ti_b (q_R r19.2 (Ad ad 101) (q_I r19.2 12 4 a0).toNatClampNeg)
        have f77 := ti_b r48.1
        refine ok_ite (fun h78 => ?_) (fun h78 => ?_)
        · have c79 : r48.1.toInt = (93 : Int) := o_eq h78
          unfold J_X12_readSteps_239
          have f80 := cb_12_5 i50 k_a0
          have f81 : (q_I r48.2 12 5 a0).toInt = (q_I r19.2 12 5 a0).toInt := congrArg Int32.toInt (u54 12 5 a0 (by decide))
          have f82 := cb_12_5 i21 k_a0
          have f83 : (q_I r19.2 12 5 a0).toInt = (q_I δ 12 5 a0).toInt := congrArg Int32.toInt (u25 12 5 a0 (by decide))
          have f84 := ti_b (q_I r48.2 12 7 a0)
          have f85 : (q_I r48.2 12 7 a0).toInt = (q_I r19.2 12 7 a0).toInt := congrArg Int32.toInt (u54 12 7 a0 (by decide))
          have f86 := ti_b (q_I r19.2 12 7 a0)
          have f87 : (q_I r19.2 12 7 a0).toInt = (q_I δ 12 7 a0).toInt := congrArg Int32.toInt (u25 12 7 a0 (by decide))
          have f88 := cb_12_27 i50 k_a0
          have f89 : (q_I r48.2 12 27 a0).toInt = (q_I r19.2 12 27 a0).toInt := congrArg Int32.toInt (u54 12 27 a0 (by decide))
          have f90 := cb_12_27 i21 k_a0
          have f91 : (q_I r19.2 12 27 a0).toInt = (q_I δ 12 27 a0).toInt := congrArg Int32.toInt (u25 12 27 a0 (by decide))
          have f92 := cb_12_26 i50 k_a0
          have f93 : (q_I r48.2 12 26 a0).toInt = (q_I r19.2 12 26 a0).toInt := congrArg Int32.toInt (u54 12 26 a0 (by decide))
          have f94 := cb_12_26 i21 k_a0
          have f95 : (q_I r19.2 12 26 a0).toInt = (q_I δ 12 26 a0).toInt := congrArg Int32.toInt (u25 12 26 a0 (by decide))
          exact ok_some (show RI ad h.1 δ0 r48.2 ∧ (kp [(12, 4), (12, 5), (12, 6), (12, 7), (12, 25), (12, 26), (12, 27)] δ r48.2 ∧ q_V r48.2 = q_V δ ∧ kr ad [113, 114, 115, 116, 117] δ r48.2) ∧ (q_I δ 12 4 a0).toInt ≤ (q_I r48.2 12 4 a0).toInt ∧ (q_I δ 12 5 a0).toInt ≤ (q_I r48.2 12 5 a0).toInt ∧ (q_I r48.2 12 7 a0).toInt = (q_I δ 12 7 a0).toInt ∧ (q_I r48.2 12 27 a0).toInt = (q_I δ 12 27 a0).toInt ∧ (q_I r48.2 12 26 a0).toInt ≤ (q_I r48.2 12 4 a0).toInt from ⟨i50, ⟨kp_w (by decide) u58, v59, kr_w (by decide) v60⟩, by first | assumption | omega, by first | assumption | omega, by first | assumption | omega, by first | assumption | omega, by first | assumption | omega⟩)
        · have c96 : r48.1.toInt ≠ (93 : Int) := o_ne h78
          refine ok_bind (k_X12_word L hN (a0 := a0) k_a0 i50) (fun r97 hr98 => ?_)
          obtain ⟨i99, ⟨u102, u103, u104, u105⟩, p100, p101⟩ := hr98
          have u106 := kp_t u58 u102
          have v107 : q_V r97.2 = q_V δ := (u103).trans v59
          have v108 := kr_t v60 u105
          have f109 := cb_12_4 i99 k_a0
          have f110 : hc ad r97.2 a0 = (q_R r97.2 (Ad ad 101) (q_I r97.2 12 4 a0).toNatClampNeg).toInt := rfl
          have t111 := ti_tn (q_I r97.2 12 4 a0)
          have f112 : (q_R r97.2 (Ad ad 101) (q_I r97.2 12 4 a0).toNatClampNeg).toInt = (q_R r48.2 (Ad ad 101) (q_I r97.2 12 4 a0).toNatClampNeg).toInt := congrArg Int32.toInt (congrFun (u105 101 (by decide) (by decide) (by decide)) _)
          have f113 : (q_R r48.2 (Ad ad 101) (q_I r97.2 12 4 a0).toNatClampNeg).toInt = (q_R r19.2 (Ad ad 101) (q_I r97.2 12 4 a0).toNatClampNeg).toInt := congrArg Int32.toInt (congrFun (u57 101 (by decide) (by decide) (by decide)) _)
          have f114 : (q_R r19.2 (Ad ad 101) (q_I r97.2 12 4 a0).toNatClampNeg).toInt = (q_R δ (Ad ad 101) (q_I r97.2 12 4 a0).toNatClampNeg).toInt := congrArg Int32.toInt (congrFun (u28 101 (by decide) (by decide) (by decide)) _)
          have f115 := ti_b (q_R δ (Ad ad 101) (q_I r97.2 12 4 a0).toNatClampNeg)
          have f116 := ti_b (q_R r19.2 (Ad ad 101) (q_I r97.2 12 4 a0).toNatClampNeg)
          have f117 := ti_b (q_R r48.2 (Ad ad 101) (q_I r97.2 12 4 a0).toNatClampNeg)
          have f118 := ti_b (q_R r97.2 (Ad ad 101) (q_I r97.2 12 4 a0).toNatClampNeg)
          have f119 := ti_b r97.1
          have f120 := cb_12_3 i50 k_a0
          have f121 : (q_I r48.2 12 3 a0).toInt = (q_I r19.2 12 3 a0).toInt := congrArg Int32.toInt (u54 12 3 a0 (by decide))
          have f122 := ti_b r97.1
          refine ok_bind (k_X12_stepOf L hN (x0 := r97.1)  i99) (fun r123 hr124 => ?_)
          obtain ⟨i125, p126, p127, p128⟩ := hr124
          try rw [i125]
          have f129 := ti_b r123.1
          have f130 := ti_b r123.1
          refine ok_ite (fun h131 => ?_) (fun h131 => ?_)
          · have c132 : r123.1.toInt = (-1 : Int) := o_eq h131
            refine ok_bind (k_X12_wrong L hN (a0 := a0) (x1 := (1 : Int32)) (x2 := (q_I r97.2 12 4 a0)) k_a0 (show 0 ≤ ((q_I r97.2 12 4 a0)).toInt by first | assumption | omega) (show ((q_I r97.2 12 4 a0)).toInt ≤ 500 by first | assumption | omega) i99) (fun r133 hr134 => ?_)
            obtain ⟨i135, ⟨u138, u139, u140, u141⟩, p136, p137⟩ := hr134
            have u142 := kp_t u106 u138
            have v143 : q_V r133 = q_V δ := (u139).trans v107
            have v144 := kr_t v108 u141
            have f145 := cb_12_5 i135 k_a0
            have f146 := cb_12_5 i99 k_a0
            have f147 : (q_I r97.2 12 5 a0).toInt = (q_I r48.2 12 5 a0).toInt := congrArg Int32.toInt (u102 12 5 a0 (by decide))
            have f148 := cb_12_5 i50 k_a0
            have f149 : (q_I r48.2 12 5 a0).toInt = (q_I r19.2 12 5 a0).toInt := congrArg Int32.toInt (u54 12 5 a0 (by decide))
            have f150 := cb_12_5 i21 k_a0
            have f151 : (q_I r19.2 12 5 a0).toInt = (q_I δ 12 5 a0).toInt := congrArg Int32.toInt (u25 12 5 a0 (by decide))
            unfold J_X12_readSteps_79
            refine ok_bind (k_X12_fine L hN (a0 := a0) k_a0 i135) (fun r152 hr153 => ?_)
            obtain ⟨i154, p155, p156, p157⟩ := hr153
            try rw [i154]
            have f158 := bo_l p155
            have f159 := ti_b r152.1
            have f160 := ti_b r152.1
            refine ok_ite (fun h161 => ?_) (fun h161 => ?_)
            · have c162 : r152.1.toInt = (0 : Int) := o_eq h161
              have f163 := cb_12_4 i135 k_a0
              have f164 : (q_I r133 12 4 a0).toInt = (q_I r97.2 12 4 a0).toInt := congrArg Int32.toInt (u138 12 4 a0 (by decide))
              have f165 := ti_b (q_I r133 12 7 a0)
              have f166 : (q_I r133 12 7 a0).toInt = (q_I r97.2 12 7 a0).toInt := congrArg Int32.toInt (u138 12 7 a0 (by decide))
              have f167 := ti_b (q_I r97.2 12 7 a0)
              have f168 : (q_I r97.2 12 7 a0).toInt = (q_I r48.2 12 7 a0).toInt := congrArg Int32.toInt (u102 12 7 a0 (by decide))
              have f169 := ti_b (q_I r48.2 12 7 a0)
              have f170 : (q_I r48.2 12 7 a0).toInt = (q_I r19.2 12 7 a0).toInt := congrArg Int32.toInt (u54 12 7 a0 (by decide))
              have f171 := ti_b (q_I r19.2 12 7 a0)
              have f172 : (q_I r19.2 12 7 a0).toInt = (q_I δ 12 7 a0).toInt := congrArg Int32.toInt (u25 12 7 a0 (by decide))
              have f173 := cb_12_27 i135 k_a0
              have f174 : (q_I r133 12 27 a0).toInt = (q_I r97.2 12 27 a0).toInt := congrArg Int32.toInt (u138 12 27 a0 (by decide))
              have f175 := cb_12_27 i99 k_a0
              have f176 : (q_I r97.2 12 27 a0).toInt = (q_I r48.2 12 27 a0).toInt := congrArg Int32.toInt (u102 12 27 a0 (by decide))
              have f177 := cb_12_27 i50 k_a0
              have f178 : (q_I r48.2 12 27 a0).toInt = (q_I r19.2 12 27 a0).toInt := congrArg Int32.toInt (u54 12 27 a0 (by decide))
              have f179 := cb_12_27 i21 k_a0
              have f180 : (q_I r19.2 12 27 a0).toInt = (q_I δ 12 27 a0).toInt := congrArg Int32.toInt (u25 12 27 a0 (by decide))
              have f181 := cb_12_26 i135 k_a0
              have f182 : (q_I r133 12 26 a0).toInt = (q_I r97.2 12 26 a0).toInt := congrArg Int32.toInt (u138 12 26 a0 (by decide))
              have f183 := cb_12_26 i99 k_a0
              have f184 : (q_I r97.2 12 26 a0).toInt = (q_I r48.2 12 26 a0).toInt := congrArg Int32.toInt (u102 12 26 a0 (by decide))
              have f185 := cb_12_26 i50 k_a0
              have f186 : (q_I r48.2 12 26 a0).toInt = (q_I r19.2 12 26 a0).toInt := congrArg Int32.toInt (u54 12 26 a0 (by decide))
              have f187 := cb_12_26 i21 k_a0
              have f188 : (q_I r19.2 12 26 a0).toInt = (q_I δ 12 26 a0).toInt := congrArg Int32.toInt (u25 12 26 a0 (by decide))
              exact ok_some (show RI ad h.1 δ0 r133 ∧ (kp [(12, 4), (12, 5), (12, 6), (12, 7), (12, 25), (12, 26), (12, 27)] δ r133 ∧ q_V r133 = q_V δ ∧ kr ad [113, 114, 115, 116, 117] δ r133) ∧ (q_I δ 12 4 a0).toInt ≤ (q_I r133 12 4 a0).toInt ∧ (q_I δ 12 5 a0).toInt ≤ (q_I r133 12 5 a0).toInt ∧ (q_I r133 12 7 a0).toInt = (q_I δ 12 7 a0).toInt ∧ (q_I r133 12 27 a0).toInt = (q_I δ 12 27 a0).toInt ∧ (q_I r133 12 26 a0).toInt ≤ (q_I r133 12 4 a0).toInt from ⟨i135, ⟨kp_w (by decide) u142, v143, kr_w (by decide) v144⟩, by first | assumption | omega, by first | assumption | omega, by first | assumption | omega, by first | assumption | omega, by first | assumption | omega⟩)
            · have c189 : r152.1.toInt ≠ (0 : Int) := o_ne h161
              refine ok_bind (k_X12_pass L hN (a0 := a0) k_a0 i135) (fun r190 hr191 => ?_)
              obtain ⟨i192, ⟨u195, u196, u197, u198⟩, p193, p194⟩ := hr191
              have u199 := kp_t u142 u195
              have v200 : q_V r190 = q_V δ := (u196).trans v143
              have v201 := kr_t v144 u198
              have f202 := cb_12_4 i135 k_a0
              have f203 : (q_I r133 12 4 a0).toInt = (q_I r97.2 12 4 a0).toInt := congrArg Int32.toInt (u138 12 4 a0 (by decide))
              have f204 := cb_12_4 i192 k_a0
              have f205 : hc ad r133 a0 = (q_R r133 (Ad ad 101) (q_I r133 12 4 a0).toNatClampNeg).toInt := rfl
              have t206 := ti_tn (q_I r133 12 4 a0)
              have f207 : (q_R r133 (Ad ad 101) (q_I r133 12 4 a0).toNatClampNeg).toInt = (q_R r97.2 (Ad ad 101) (q_I r133 12 4 a0).toNatClampNeg).toInt := congrArg Int32.toInt (congrFun (u141 101 (by decide) (by decide) (by decide)) _)
              have f208 : (q_R r97.2 (Ad ad 101) (q_I r133 12 4 a0).toNatClampNeg).toInt = (q_R r48.2 (Ad ad 101) (q_I r133 12 4 a0).toNatClampNeg).toInt := congrArg Int32.toInt (congrFun (u105 101 (by decide) (by decide) (by decide)) _)
              have f209 : (q_R r48.2 (Ad ad 101) (q_I r133 12 4 a0).toNatClampNeg).toInt = (q_R r19.2 (Ad ad 101) (q_I r133 12 4 a0).toNatClampNeg).toInt := congrArg Int32.toInt (congrFun (u57 101 (by decide) (by decide) (by decide)) _)
              have f210 : (q_R r19.2 (Ad ad 101) (q_I r133 12 4 a0).toNatClampNeg).toInt = (q_R δ (Ad ad 101) (q_I r133 12 4 a0).toNatClampNeg).toInt := congrArg Int32.toInt (congrFun (u28 101 (by decide) (by decide) (by decide)) _)
              have f211 := ti_b (q_R δ (Ad ad 101) (q_I r133 12 4 a0).toNatClampNeg)
              have f212 := ti_b (q_R r19.2 (Ad ad 101) (q_I r133 12 4 a0).toNatClampNeg)
              have f213 := ti_b (q_R r48.2 (Ad ad 101) (q_I r133 12 4 a0).toNatClampNeg)
              have f214 := ti_b (q_R r97.2 (Ad ad 101) (q_I r133 12 4 a0).toNatClampNeg)
              have f215 := ti_b (q_R r133 (Ad ad 101) (q_I r133 12 4 a0).toNatClampNeg)
              have f216 := cb_12_3 i135 k_a0
              have f217 : (q_I r133 12 3 a0).toInt = (q_I r97.2 12 3 a0).toInt := congrArg Int32.toInt (u138 12 3 a0 (by decide))
              have f218 := cb_12_3 i99 k_a0
              have f219 : (q_I r97.2 12 3 a0).toInt = (q_I r48.2 12 3 a0).toInt := congrArg Int32.toInt (u102 12 3 a0 (by decide))
              have f223 := cb_12_24 i192 k_a0
              have f224 : (q_I r190 12 24 a0).toInt = (q_I r133 12 24 a0).toInt := congrArg Int32.toInt (u195 12 24 a0 (by decide))
              have f225 := cb_12_24 i135 k_a0
              have f226 : (q_I r133 12 24 a0).toInt = (q_I r97.2 12 24 a0).toInt := congrArg Int32.toInt (u138 12 24 a0 (by decide))
              have f227 := cb_12_24 i99 k_a0
              have f228 : (q_I r97.2 12 24 a0).toInt = (q_I r48.2 12 24 a0).toInt := congrArg Int32.toInt (u102 12 24 a0 (by decide))
              have f229 := cb_12_24 i50 k_a0
              have f230 : (q_I r48.2 12 24 a0).toInt = (q_I r19.2 12 24 a0).toInt := congrArg Int32.toInt (u54 12 24 a0 (by decide))
              have f231 := cb_12_24 i21 k_a0
              have f232 : (q_I r19.2 12 24 a0).toInt = (q_I δ 12 24 a0).toInt := congrArg Int32.toInt (u25 12 24 a0 (by decide))
              first | (have q233 := te_mulc (c := 60) (n := 60) rfl (q_I r190 12 24 a0) (by omega) (by omega); obtain ⟨f234, f235, f236⟩ := q233) | (obtain ⟨q233, f234, f235, f236⟩ := ti_mulc (c := 60) (n := 60) rfl (q_I r190 12 24 a0))
              have f237 := cb_12_25 i192 k_a0
              have f238 : (q_I r190 12 25 a0).toInt = (q_I r133 12 25 a0).toInt := congrArg Int32.toInt (u195 12 25 a0 (by decide))
              have f239 := cb_12_25 i135 k_a0
              have f240 : (q_I r133 12 25 a0).toInt = (q_I r97.2 12 25 a0).toInt := congrArg Int32.toInt (u138 12 25 a0 (by decide))
              have f241 := cb_12_25 i99 k_a0
              have f242 : (q_I r97.2 12 25 a0).toInt = (q_I r48.2 12 25 a0).toInt := congrArg Int32.toInt (u102 12 25 a0 (by decide))
              have f243 := cb_12_25 i50 k_a0
              have f244 : (q_I r48.2 12 25 a0).toInt = (q_I r19.2 12 25 a0).toInt := congrArg Int32.toInt (u54 12 25 a0 (by decide))
              have f245 := cb_12_25 i21 k_a0
              have f246 : (q_I r19.2 12 25 a0).toInt = (q_I δ 12 25 a0).toInt := congrArg Int32.toInt (u25 12 25 a0 (by decide))
              have f247 := cb_12_25 I k_a0
              refine ok_biv (fun vx220 e221 => ?_)
              first | (have q248 := te_add ((60 : Int32) * (q_I r190 12 24 a0)) (q_I r190 12 25 a0) (by omega) (by omega); rw [← e221] at q248; obtain ⟨f249, f250, f251⟩ := q248) | (obtain ⟨q248, f249, f250, f251⟩ : ∃ q : Int, vx220.toInt = ((60 : Int32) * (q_I r190 12 24 a0)).toInt + (q_I r190 12 25 a0).toInt + 4294967296 * q ∧ -2147483648 ≤ vx220.toInt ∧ vx220.toInt ≤ 2147483647 := by rw [e221]; exact ti_add ((60 : Int32) * (q_I r190 12 24 a0)) (q_I r190 12 25 a0))
              first | (have q256 := te_addc (c := 1) (n := 1) rfl (q_I r190 12 25 a0) (by omega) (by omega); obtain ⟨f257, f258, f259⟩ := q256) | (obtain ⟨q256, f257, f258, f259⟩ := ti_addc (c := 1) (n := 1) rfl (q_I r190 12 25 a0))
              refine ok_bdv (fun d252 e253 => ?_)
              have i254 : RI ad h.1 δ0 d252 := by rw [e253]; exact cs_12_25 L i192 k_a0 (show 0 ≤ ((q_I r190 12 25 a0) + (1 : Int32)).toInt by omega) (show ((q_I r190 12 25 a0) + (1 : Int32)).toInt ≤ 60 by omega)
              have u260 := kp_I u199 e253
              have v261 : q_V d252 = q_V δ := ((show q_V d252 = q_V r190 by rw [e253]; rfl)).trans v200
              have v262 := kr_N v201 (show q_R d252 = q_R r190 by rw [e253]; rfl)
              obtain ⟨b263, o264, k265, n266, w267⟩ := gO_12_29 L k_a0
              obtain rfl := gS_12_29 L k_a0 o264
              refine ok_at o264 ?_
              have t268 := ti_tn vx220
              refine ok_gd (fun hc269 => ?_) ?_
              · rcases hc269 with hc269 | hc269
                · have c270 : vx220.toInt < (0 : Int) := o_lt hc269
                  omega
                · omega
              refine ok_bdv (fun d271 e272 => ?_)
              have i273 : RI ad h.1 δ0 d271 := by rw [e272]; exact RI.sR L i254 w267
              have u274 := kp_N u260 (show q_I d271 = q_I d252 by rw [e272]; rfl)
              have v275 : q_V d271 = q_V δ := ((show q_V d271 = q_V d252 by rw [e272]; rfl)).trans v261
              have v276 := kr_s L (by decide) v262 e272
              refine ok_ite (fun h277 => ?_) (fun h277 => ?_)
              · have c278 : r123.1.toInt = (5 : Int) := o_eq h277
                obtain ⟨b279, o280, k281, n282, w283⟩ := gO_12_30 L k_a0
                obtain rfl := gS_12_30 L k_a0 o280
                refine ok_at o280 ?_
                refine ok_bind (k_X12_readNumber L hN (a0 := a0) (x1 := (1 : Int32)) (x2 := (99 : Int32)) k_a0 i273) (fun r284 hr285 => ?_)
                obtain ⟨i286, ⟨u293, u294, u295, u296⟩, p287, p288, p289, p290, p291, p292⟩ := hr285
                have u297 := kp_t u274 u293
                have v298 : q_V r284.2 = q_V δ := (u294).trans v275
                have v299 := kr_t v276 u296
                have f300 := cb_12_4 i273 k_a0
                have f301 : (q_I d271 12 4 a0).toInt = (q_I d252 12 4 a0).toInt := congrArg Int32.toInt (by rw [e272]; rfl)
                have f302 := cb_12_4 i254 k_a0
                have f303 : (q_I d252 12 4 a0).toInt = (q_I r190 12 4 a0).toInt := congrArg Int32.toInt (by rw [e253]; exact rI_o (by decide))
                have f304 := cb_12_4 i286 k_a0
                have f305 := cb_12_5 i273 k_a0
                have f306 : (q_I d271 12 5 a0).toInt = (q_I d252 12 5 a0).toInt := congrArg Int32.toInt (by rw [e272]; rfl)
                have f307 := cb_12_5 i254 k_a0
                have f308 : (q_I d252 12 5 a0).toInt = (q_I r190 12 5 a0).toInt := congrArg Int32.toInt (by rw [e253]; exact rI_o (by decide))
                have f309 := cb_12_5 i192 k_a0
                have f310 : (q_I r190 12 5 a0).toInt = (q_I r133 12 5 a0).toInt := congrArg Int32.toInt (u195 12 5 a0 (by decide))
                have f311 := cb_12_5 i286 k_a0
                have f312 := ti_b r284.1
                replace p292 : ((q_I r284.2 12 5 a0).toInt < 0 → (1 : Int) ≤ (r284.1).toInt ∧ (r284.1).toInt ≤ (99 : Int)) := p292
                have f313 := ti_b r284.1
                refine ok_gd (fun hc314 => ?_) ?_
                · rcases hc314 with hc314 | hc314
                  · have c315 : vx220.toInt < (0 : Int) := o_lt hc314
                    omega
                  · omega
                refine ok_bdv (fun d316 e317 => ?_)
                have i318 : RI ad h.1 δ0 d316 := by rw [e317]; exact RI.sR L i286 w283
                have u319 := kp_N u297 (show q_I d316 = q_I r284.2 by rw [e317]; rfl)
                have v320 : q_V d316 = q_V δ := ((show q_V d316 = q_V r284.2 by rw [e317]; rfl)).trans v298
                have v321 := kr_s L (by decide) v299 e317
                refine ok_bind (k_X12_sign L hN (a0 := a0) (x1 := (91 : Int32)) k_a0 (show (91 : Int) ≠ 0 by first | assumption | omega) i318) (fun r322 hr323 => ?_)
                obtain ⟨i324, ⟨u328, u329, u330, u331⟩, p325, p326, p327⟩ := hr323
                have u332 := kp_t u319 u328
                have v333 : q_V r322 = q_V δ := (u329).trans v320
                have v334 := kr_t v321 u331
                have f335 := cb_12_4 i318 k_a0
                have f336 : (q_I d316 12 4 a0).toInt = (q_I r284.2 12 4 a0).toInt := congrArg Int32.toInt (by rw [e317]; rfl)
                have f337 := cb_12_4 i324 k_a0
                have f338 := cb_12_5 i318 k_a0
                have f339 : (q_I d316 12 5 a0).toInt = (q_I r284.2 12 5 a0).toInt := congrArg Int32.toInt (by rw [e317]; rfl)
                have f340 := cb_12_5 i324 k_a0
                have f344 := cb_12_27 i324 k_a0
                have f345 : (q_I r322 12 27 a0).toInt = (q_I d316 12 27 a0).toInt := congrArg Int32.toInt (u328 12 27 a0 (by decide))
                have f346 := cb_12_27 i318 k_a0
                have f347 : (q_I d316 12 27 a0).toInt = (q_I r284.2 12 27 a0).toInt := congrArg Int32.toInt (by rw [e317]; rfl)
                have f348 := cb_12_27 i286 k_a0
                have f349 : (q_I r284.2 12 27 a0).toInt = (q_I d271 12 27 a0).toInt := congrArg Int32.toInt (u293 12 27 a0 (by decide))
                have f350 := cb_12_27 i273 k_a0
                have f351 : (q_I d271 12 27 a0).toInt = (q_I d252 12 27 a0).toInt := congrArg Int32.toInt (by rw [e272]; rfl)
                have f352 := cb_12_27 i254 k_a0
                have f353 : (q_I d252 12 27 a0).toInt = (q_I r190 12 27 a0).toInt := congrArg Int32.toInt (by rw [e253]; exact rI_o (by decide))
                have f354 := cb_12_27 i192 k_a0
                have f355 : (q_I r190 12 27 a0).toInt = (q_I r133 12 27 a0).toInt := congrArg Int32.toInt (u195 12 27 a0 (by decide))
                have f356 := cb_12_27 i135 k_a0
                have f357 : (q_I r133 12 27 a0).toInt = (q_I r97.2 12 27 a0).toInt := congrArg Int32.toInt (u138 12 27 a0 (by decide))
                have f358 := cb_12_27 i99 k_a0
                have f359 : (q_I r97.2 12 27 a0).toInt = (q_I r48.2 12 27 a0).toInt := congrArg Int32.toInt (u102 12 27 a0 (by decide))
                have f360 := cb_12_27 i50 k_a0
                have f361 : (q_I r48.2 12 27 a0).toInt = (q_I r19.2 12 27 a0).toInt := congrArg Int32.toInt (u54 12 27 a0 (by decide))
                have f362 := cb_12_27 i21 k_a0
                have f363 : (q_I r19.2 12 27 a0).toInt = (q_I δ 12 27 a0).toInt := congrArg Int32.toInt (u25 12 27 a0 (by decide))
                first | (have q365 := te_addc (c := 1) (n := 1) rfl (q_I r322 12 27 a0) (by omega) (by omega); obtain ⟨f366, f367, f368⟩ := q365) | (obtain ⟨q365, f366, f367, f368⟩ := ti_addc (c := 1) (n := 1) rfl (q_I r322 12 27 a0))
                refine ok_bdv (fun d341 e342 => ?_)
                have i343 : RI ad h.1 δ0 d341 := by rw [e342]; exact cs_12_27 L i324 k_a0 (show 0 ≤ ((q_I r322 12 27 a0) + (1 : Int32)).toInt by omega) (show ((q_I r322 12 27 a0) + (1 : Int32)).toInt ≤ 3 by omega)
                have u369 := kp_I u332 e342
                have v370 : q_V d341 = q_V δ := ((show q_V d341 = q_V r322 by rw [e342]; rfl)).trans v333
                have v371 := kr_N v334 (show q_R d341 = q_R r322 by rw [e342]; rfl)
                have f374 := cb_12_24 i343 k_a0
                have f375 : (q_I d341 12 24 a0).toInt = (q_I r322 12 24 a0).toInt := congrArg Int32.toInt (by rw [e342]; exact rI_o (by decide))
                have f376 := cb_12_24 i324 k_a0
                have f377 : (q_I r322 12 24 a0).toInt = (q_I d316 12 24 a0).toInt := congrArg Int32.toInt (u328 12 24 a0 (by decide))
                have f378 := cb_12_24 i318 k_a0
                have f379 : (q_I d316 12 24 a0).toInt = (q_I r284.2 12 24 a0).toInt := congrArg Int32.toInt (by rw [e317]; rfl)
                have f380 := cb_12_24 i286 k_a0
                have f381 : (q_I r284.2 12 24 a0).toInt = (q_I d271 12 24 a0).toInt := congrArg Int32.toInt (u293 12 24 a0 (by decide))
                have f382 := cb_12_24 i273 k_a0
                have f383 : (q_I d271 12 24 a0).toInt = (q_I d252 12 24 a0).toInt := congrArg Int32.toInt (by rw [e272]; rfl)
                have f384 := cb_12_24 i254 k_a0
                have f385 : (q_I d252 12 24 a0).toInt = (q_I r190 12 24 a0).toInt := congrArg Int32.toInt (by rw [e253]; exact rI_o (by decide))
                have f386 := cb_12_26 i343 k_a0
                have f387 : (q_I d341 12 26 a0).toInt = (q_I r322 12 26 a0).toInt := congrArg Int32.toInt (by rw [e342]; exact rI_o (by decide))
                have f388 := cb_12_26 i324 k_a0
                have f389 : (q_I r322 12 26 a0).toInt = (q_I d316 12 26 a0).toInt := congrArg Int32.toInt (u328 12 26 a0 (by decide))
                have f390 := cb_12_26 i318 k_a0
                have f391 : (q_I d316 12 26 a0).toInt = (q_I r284.2 12 26 a0).toInt := congrArg Int32.toInt (by rw [e317]; rfl)
                have f392 := cb_12_26 i286 k_a0
                have f393 : (q_I r284.2 12 26 a0).toInt = (q_I d271 12 26 a0).toInt := congrArg Int32.toInt (u293 12 26 a0 (by decide))
                have f394 := cb_12_26 i273 k_a0
                have f395 : (q_I d271 12 26 a0).toInt = (q_I d252 12 26 a0).toInt := congrArg Int32.toInt (by rw [e272]; rfl)
                have f396 := cb_12_26 i254 k_a0
                have f397 : (q_I d252 12 26 a0).toInt = (q_I r190 12 26 a0).toInt := congrArg Int32.toInt (by rw [e253]; exact rI_o (by decide))
                have f398 := cb_12_26 i192 k_a0
                have f399 : (q_I r190 12 26 a0).toInt = (q_I r133 12 26 a0).toInt := congrArg Int32.toInt (u195 12 26 a0 (by decide))
                have f400 := cb_12_26 i135 k_a0
                have f401 : (q_I r133 12 26 a0).toInt = (q_I r97.2 12 26 a0).toInt := congrArg Int32.toInt (u138 12 26 a0 (by decide))
                have f402 := cb_12_26 i99 k_a0
                have f403 : (q_I r97.2 12 26 a0).toInt = (q_I r48.2 12 26 a0).toInt := congrArg Int32.toInt (u102 12 26 a0 (by decide))
                have f404 := cb_12_26 i50 k_a0
                have f405 : (q_I r48.2 12 26 a0).toInt = (q_I r19.2 12 26 a0).toInt := congrArg Int32.toInt (u54 12 26 a0 (by decide))
                have f406 := cb_12_26 i21 k_a0
                have f407 : (q_I r19.2 12 26 a0).toInt = (q_I δ 12 26 a0).toInt := congrArg Int32.toInt (u25 12 26 a0 (by decide))
                have f408 := cb_12_4 i343 k_a0
                have f409 : (q_I d341 12 4 a0).toInt = (q_I r322 12 4 a0).toInt := congrArg Int32.toInt (by rw [e342]; exact rI_o (by decide))
                have f410 := ti_b (q_I d341 12 7 a0)
                have f411 : (q_I d341 12 7 a0).toInt = (q_I r322 12 7 a0).toInt := congrArg Int32.toInt (by rw [e342]; exact rI_o (by decide))
                have f412 := ti_b (q_I r322 12 7 a0)
                have f413 : (q_I r322 12 7 a0).toInt = (q_I d316 12 7 a0).toInt := congrArg Int32.toInt (u328 12 7 a0 (by decide))
                have f414 := ti_b (q_I d316 12 7 a0)
                have f415 : (q_I d316 12 7 a0).toInt = (q_I r284.2 12 7 a0).toInt := congrArg Int32.toInt (by rw [e317]; rfl)
                have f416 := ti_b (q_I r284.2 12 7 a0)
                have f417 : (q_I r284.2 12 7 a0).toInt = (q_I d271 12 7 a0).toInt := congrArg Int32.toInt (u293 12 7 a0 (by decide))
                have f418 := ti_b (q_I d271 12 7 a0)
                have f419 : (q_I d271 12 7 a0).toInt = (q_I d252 12 7 a0).toInt := congrArg Int32.toInt (by rw [e272]; rfl)
                have f420 := ti_b (q_I d252 12 7 a0)
                have f421 : (q_I d252 12 7 a0).toInt = (q_I r190 12 7 a0).toInt := congrArg Int32.toInt (by rw [e253]; exact rI_o (by decide))
                have f422 := ti_b (q_I r190 12 7 a0)
                have f423 : (q_I r190 12 7 a0).toInt = (q_I r133 12 7 a0).toInt := congrArg Int32.toInt (u195 12 7 a0 (by decide))
                have f424 := ti_b (q_I r133 12 7 a0)
                have f425 : (q_I r133 12 7 a0).toInt = (q_I r97.2 12 7 a0).toInt := congrArg Int32.toInt (u138 12 7 a0 (by decide))
                have f426 := ti_b (q_I r97.2 12 7 a0)
                have f427 : (q_I r97.2 12 7 a0).toInt = (q_I r48.2 12 7 a0).toInt := congrArg Int32.toInt (u102 12 7 a0 (by decide))
                have f428 := ti_b (q_I r48.2 12 7 a0)
                have f429 : (q_I r48.2 12 7 a0).toInt = (q_I r19.2 12 7 a0).toInt := congrArg Int32.toInt (u54 12 7 a0 (by decide))
                have f430 := ti_b (q_I r19.2 12 7 a0)
                have f431 : (q_I r19.2 12 7 a0).toInt = (q_I δ 12 7 a0).toInt := congrArg Int32.toInt (u25 12 7 a0 (by decide))
                have f432 := cb_12_27 i343 k_a0
                have f433 : (q_I d341 12 27 a0).toInt = ((q_I r322 12 27 a0) + (1 : Int32)).toInt := congrArg Int32.toInt (show q_I d341 12 27 a0 = ((q_I r322 12 27 a0) + (1 : Int32)) by rw [e342]; exact rI_s)
                refine ok_bind (hT a0 d341 k_a0 (show (q_I d341 12 24 a0).toInt ≤ 3 by first | assumption | omega) (show (q_I d341 12 26 a0).toInt ≤ (q_I d341 12 4 a0).toInt by first | assumption | omega) (show (q_I d341 12 7 a0).toInt = 0 by first | assumption | omega) (show 4 - (q_I d341 12 27 a0).toInt < _ by first | assumption | omega) i343) (fun r372 hr373 => ?_)
                obtain ⟨i434, ⟨u440, u441, u442⟩, p435, p436, p437, p438, p439⟩ := hr373
                have u443 := kp_t u369 u440
                have v444 : q_V r372 = q_V δ := (u441).trans v370
                have v445 := kr_t v371 u442
                have f446 := cb_12_4 i434 k_a0
                have f447 := cb_12_5 i343 k_a0
                have f448 : (q_I d341 12 5 a0).toInt = (q_I r322 12 5 a0).toInt := congrArg Int32.toInt (by rw [e342]; exact rI_o (by decide))
                have f449 := cb_12_5 i434 k_a0
                have f450 := ti_b (q_I r372 12 7 a0)
                have f451 := cb_12_27 i434 k_a0
                have f452 := cb_12_26 i434 k_a0
                first | (have q457 := te_subc (c := 1) (n := 1) rfl (q_I r372 12 27 a0) (by omega) (by omega); obtain ⟨f458, f459, f460⟩ := q457) | (obtain ⟨q457, f458, f459, f460⟩ := ti_subc (c := 1) (n := 1) rfl (q_I r372 12 27 a0))
                refine ok_bdv (fun d453 e454 => ?_)
                have i455 : RI ad h.1 δ0 d453 := by rw [e454]; exact cs_12_27 L i434 k_a0 (show 0 ≤ ((q_I r372 12 27 a0) - (1 : Int32)).toInt by omega) (show ((q_I r372 12 27 a0) - (1 : Int32)).toInt ≤ 3 by omega)
                have u461 := kp_I u443 e454
                have v462 : q_V d453 = q_V δ := ((show q_V d453 = q_V r372 by rw [e454]; rfl)).trans v444
                have v463 := kr_N v445 (show q_R d453 = q_R r372 by rw [e454]; rfl)
                refine ok_bind (k_X12_sign L hN (a0 := a0) (x1 := (93 : Int32)) k_a0 (show (93 : Int) ≠ 0 by first | assumption | omega) i455) (fun r464 hr465 => ?_)
                obtain ⟨i466, ⟨u470, u471, u472, u473⟩, p467, p468, p469⟩ := hr465
                have u474 := kp_t u461 u470
                have v475 : q_V r464 = q_V δ := (u471).trans v462
                have v476 := kr_t v463 u473
                have f477 := cb_12_4 i455 k_a0
                have f478 : (q_I d453 12 4 a0).toInt = (q_I r372 12 4 a0).toInt := congrArg Int32.toInt (by rw [e454]; exact rI_o (by decide))
                have f479 := cb_12_4 i466 k_a0
                have f480 := cb_12_5 i455 k_a0
                have f481 : (q_I d453 12 5 a0).toInt = (q_I r372 12 5 a0).toInt := congrArg Int32.toInt (by rw [e454]; exact rI_o (by decide))
                have f482 := cb_12_5 i466 k_a0
                obtain ⟨b483, o484, k485, n486, w487⟩ := gO_12_31 L k_a0
                obtain rfl := gS_12_31 L k_a0 o484
                refine ok_at o484 ?_
                refine ok_gd (fun hc488 => ?_) ?_
                · rcases hc488 with hc488 | hc488
                  · have c489 : vx220.toInt < (0 : Int) := o_lt hc488
                    omega
                  · omega
                refine ok_bdv (fun d490 e491 => ?_)
                have i492 : RI ad h.1 δ0 d490 := by rw [e491]; exact RI.sR L i466 w487
                have u493 := kp_N u474 (show q_I d490 = q_I r464 by rw [e491]; rfl)
                have v494 : q_V d490 = q_V δ := ((show q_V d490 = q_V r464 by rw [e491]; rfl)).trans v475
                have v495 := kr_s L (by decide) v476 e491
                unfold J_X12_readSteps_236
                have f496 := cb_12_24 i492 k_a0
                have f497 : (q_I d490 12 24 a0).toInt = (q_I r464 12 24 a0).toInt := congrArg Int32.toInt (by rw [e491]; rfl)
                have f498 := cb_12_24 i466 k_a0
                have f499 : (q_I r464 12 24 a0).toInt = (q_I d453 12 24 a0).toInt := congrArg Int32.toInt (u470 12 24 a0 (by decide))
                have f500 := cb_12_24 i455 k_a0
                have f501 : (q_I d453 12 24 a0).toInt = (q_I r372 12 24 a0).toInt := congrArg Int32.toInt (by rw [e454]; exact rI_o (by decide))
                have f502 := cb_12_24 i434 k_a0
                have f503 : (q_I r372 12 24 a0).toInt = (q_I d341 12 24 a0).toInt := congrArg Int32.toInt (u440 12 24 a0 (by decide))
                have f504 := cb_12_26 i492 k_a0
                have f505 : (q_I d490 12 26 a0).toInt = (q_I r464 12 26 a0).toInt := congrArg Int32.toInt (by rw [e491]; rfl)
                have f506 := cb_12_26 i466 k_a0
                have f507 : (q_I r464 12 26 a0).toInt = (q_I d453 12 26 a0).toInt := congrArg Int32.toInt (u470 12 26 a0 (by decide))
                have f508 := cb_12_26 i455 k_a0
                have f509 : (q_I d453 12 26 a0).toInt = (q_I r372 12 26 a0).toInt := congrArg Int32.toInt (by rw [e454]; exact rI_o (by decide))
                have f510 := cb_12_4 i492 k_a0
                have f511 : (q_I d490 12 4 a0).toInt = (q_I r464 12 4 a0).toInt := congrArg Int32.toInt (by rw [e491]; rfl)
                have f512 := ti_b (q_I d490 12 7 a0)
                have f513 : (q_I d490 12 7 a0).toInt = (q_I r464 12 7 a0).toInt := congrArg Int32.toInt (by rw [e491]; rfl)
                have f514 := ti_b (q_I r464 12 7 a0)
                have f515 : (q_I r464 12 7 a0).toInt = (q_I d453 12 7 a0).toInt := congrArg Int32.toInt (u470 12 7 a0 (by decide))
                have f516 := ti_b (q_I d453 12 7 a0)
                have f517 : (q_I d453 12 7 a0).toInt = (q_I r372 12 7 a0).toInt := congrArg Int32.toInt (by rw [e454]; exact rI_o (by decide))
                have f518 := cb_12_27 i492 k_a0
                have f519 : (q_I d490 12 27 a0).toInt = (q_I r464 12 27 a0).toInt := congrArg Int32.toInt (by rw [e491]; rfl)
                have f520 := cb_12_27 i466 k_a0
                have f521 : (q_I r464 12 27 a0).toInt = (q_I d453 12 27 a0).toInt := congrArg Int32.toInt (u470 12 27 a0 (by decide))
                have f522 := cb_12_27 i455 k_a0
                have f523 : (q_I d453 12 27 a0).toInt = ((q_I r372 12 27 a0) - (1 : Int32)).toInt := congrArg Int32.toInt (show q_I d453 12 27 a0 = ((q_I r372 12 27 a0) - (1 : Int32)) by rw [e454]; exact rI_s)
                refine ok_mono (ih d490 i492 (show (q_I d490 12 24 a0).toInt ≤ 3 by first | assumption | omega) (show (q_I d490 12 26 a0).toInt ≤ (q_I d490 12 4 a0).toInt by first | assumption | omega) (show (q_I d490 12 7 a0).toInt = 0 by first | assumption | omega) (show 4 - (q_I d490 12 27 a0).toInt ≤ K by first | assumption | omega) (show 501 - (q_I d490 12 4 a0).toInt < _ by omega)) (fun r524 hr525 => ?_)
                obtain ⟨i526, ⟨u532, u533, u534⟩, p527, p528, p529, p530, p531⟩ := hr525
                have u535 := kp_t u493 u532
                have v536 : q_V r524 = q_V δ := (u533).trans v494
                have v537 := kr_t v495 u534
                have f538 := cb_12_4 i526 k_a0
                have f539 := cb_12_5 i492 k_a0
                have f540 : (q_I d490 12 5 a0).toInt = (q_I r464 12 5 a0).toInt := congrArg Int32.toInt (by rw [e491]; rfl)
                have f541 := cb_12_5 i526 k_a0
                have f542 := ti_b (q_I r524 12 7 a0)
                have f543 := cb_12_27 i526 k_a0
                have f544 := cb_12_26 i526 k_a0
                exact ⟨by assumption, ⟨kp_w (by decide) u535, v536, kr_w (by decide) v537⟩, by first | assumption | omega, by first | assumption | omega, by first | assumption | omega, by first | assumption | omega, by first | assumption | omega⟩
              · have c545 : r123.1.toInt ≠ (5 : Int) := o_ne h277
                obtain ⟨b546, o547, k548, n549, w550⟩ := gO_12_30 L k_a0
                obtain rfl := gS_12_30 L k_a0 o547
                refine ok_at o547 ?_
                refine ok_gd (fun hc551 => ?_) ?_
                · rcases hc551 with hc551 | hc551
                  · have c552 : vx220.toInt < (0 : Int) := o_lt hc551
                    omega
                  · omega
                refine ok_bdv (fun d553 e554 => ?_)
                have i555 : RI ad h.1 δ0 d553 := by rw [e554]; exact RI.sR L i273 w550
                have u556 := kp_N u274 (show q_I d553 = q_I d271 by rw [e554]; rfl)
                have v557 : q_V d553 = q_V δ := ((show q_V d553 = q_V d271 by rw [e554]; rfl)).trans v275
                have v558 := kr_s L (by decide) v276 e554
                have f561 := cb_12_24 i555 k_a0
                have f562 : (q_I d553 12 24 a0).toInt = (q_I d271 12 24 a0).toInt := congrArg Int32.toInt (by rw [e554]; rfl)
                have f563 := cb_12_24 i273 k_a0
                have f564 : (q_I d271 12 24 a0).toInt = (q_I d252 12 24 a0).toInt := congrArg Int32.toInt (by rw [e272]; rfl)
                have f565 := cb_12_24 i254 k_a0
                have f566 : (q_I d252 12 24 a0).toInt = (q_I r190 12 24 a0).toInt := congrArg Int32.toInt (by rw [e253]; exact rI_o (by decide))
                have f567 := cb_12_26 i555 k_a0
                have f568 : (q_I d553 12 26 a0).toInt = (q_I d271 12 26 a0).toInt := congrArg Int32.toInt (by rw [e554]; rfl)
                have f569 := cb_12_26 i273 k_a0
                have f570 : (q_I d271 12 26 a0).toInt = (q_I d252 12 26 a0).toInt := congrArg Int32.toInt (by rw [e272]; rfl)
                have f571 := cb_12_26 i254 k_a0
                have f572 : (q_I d252 12 26 a0).toInt = (q_I r190 12 26 a0).toInt := congrArg Int32.toInt (by rw [e253]; exact rI_o (by decide))
                have f573 := cb_12_26 i192 k_a0
                have f574 : (q_I r190 12 26 a0).toInt = (q_I r133 12 26 a0).toInt := congrArg Int32.toInt (u195 12 26 a0 (by decide))
                have f575 := cb_12_26 i135 k_a0
                have f576 : (q_I r133 12 26 a0).toInt = (q_I r97.2 12 26 a0).toInt := congrArg Int32.toInt (u138 12 26 a0 (by decide))
                have f577 := cb_12_26 i99 k_a0
                have f578 : (q_I r97.2 12 26 a0).toInt = (q_I r48.2 12 26 a0).toInt := congrArg Int32.toInt (u102 12 26 a0 (by decide))
                have f579 := cb_12_26 i50 k_a0
                have f580 : (q_I r48.2 12 26 a0).toInt = (q_I r19.2 12 26 a0).toInt := congrArg Int32.toInt (u54 12 26 a0 (by decide))
                have f581 := cb_12_26 i21 k_a0
                have f582 : (q_I r19.2 12 26 a0).toInt = (q_I δ 12 26 a0).toInt := congrArg Int32.toInt (u25 12 26 a0 (by decide))
                have f583 := cb_12_4 i555 k_a0
                have f584 : (q_I d553 12 4 a0).toInt = (q_I d271 12 4 a0).toInt := congrArg Int32.toInt (by rw [e554]; rfl)
                have f585 := cb_12_4 i273 k_a0
                have f586 : (q_I d271 12 4 a0).toInt = (q_I d252 12 4 a0).toInt := congrArg Int32.toInt (by rw [e272]; rfl)
                have f587 := cb_12_4 i254 k_a0
                have f588 : (q_I d252 12 4 a0).toInt = (q_I r190 12 4 a0).toInt := congrArg Int32.toInt (by rw [e253]; exact rI_o (by decide))
                have f589 := ti_b (q_I d553 12 7 a0)
                have f590 : (q_I d553 12 7 a0).toInt = (q_I d271 12 7 a0).toInt := congrArg Int32.toInt (by rw [e554]; rfl)
                have f591 := ti_b (q_I d271 12 7 a0)
                have f592 : (q_I d271 12 7 a0).toInt = (q_I d252 12 7 a0).toInt := congrArg Int32.toInt (by rw [e272]; rfl)
                have f593 := ti_b (q_I d252 12 7 a0)
                have f594 : (q_I d252 12 7 a0).toInt = (q_I r190 12 7 a0).toInt := congrArg Int32.toInt (by rw [e253]; exact rI_o (by decide))
                have f595 := ti_b (q_I r190 12 7 a0)
                have f596 : (q_I r190 12 7 a0).toInt = (q_I r133 12 7 a0).toInt := congrArg Int32.toInt (u195 12 7 a0 (by decide))
                have f597 := ti_b (q_I r133 12 7 a0)
                have f598 : (q_I r133 12 7 a0).toInt = (q_I r97.2 12 7 a0).toInt := congrArg Int32.toInt (u138 12 7 a0 (by decide))
                have f599 := ti_b (q_I r97.2 12 7 a0)
                have f600 : (q_I r97.2 12 7 a0).toInt = (q_I r48.2 12 7 a0).toInt := congrArg Int32.toInt (u102 12 7 a0 (by decide))
                have f601 := ti_b (q_I r48.2 12 7 a0)
                have f602 : (q_I r48.2 12 7 a0).toInt = (q_I r19.2 12 7 a0).toInt := congrArg Int32.toInt (u54 12 7 a0 (by decide))
                have f603 := ti_b (q_I r19.2 12 7 a0)
                have f604 : (q_I r19.2 12 7 a0).toInt = (q_I δ 12 7 a0).toInt := congrArg Int32.toInt (u25 12 7 a0 (by decide))
                have f605 := cb_12_5 i555 k_a0
                have f606 : (q_I d553 12 5 a0).toInt = (q_I d271 12 5 a0).toInt := congrArg Int32.toInt (by rw [e554]; rfl)
                have f607 := cb_12_5 i273 k_a0
                have f608 : (q_I d271 12 5 a0).toInt = (q_I d252 12 5 a0).toInt := congrArg Int32.toInt (by rw [e272]; rfl)
                have f609 := cb_12_5 i254 k_a0
                have f610 : (q_I d252 12 5 a0).toInt = (q_I r190 12 5 a0).toInt := congrArg Int32.toInt (by rw [e253]; exact rI_o (by decide))
                have f611 := cb_12_5 i192 k_a0
                have f612 : (q_I r190 12 5 a0).toInt = (q_I r133 12 5 a0).toInt := congrArg Int32.toInt (u195 12 5 a0 (by decide))
                refine ok_bind (k_X12_sum L hN (a0 := a0) k_a0 (show (q_I d553 12 24 a0).toInt ≤ 3 by first | assumption | omega) (show (q_I d553 12 26 a0).toInt ≤ (q_I d553 12 4 a0).toInt by first | assumption | omega) (show 0 ≤ (q_I d553 12 7 a0).toInt by first | assumption | omega) (show (q_I d553 12 7 a0).toInt ≤ 7 by first | assumption | omega) (show (q_I d553 12 7 a0).toInt = 7 → 0 ≤ (q_I d553 12 5 a0).toInt by first | assumption | omega) (show 8 - (q_I d553 12 7 a0).toInt < 20 by first | assumption | omega) i555) (fun r559 hr560 => ?_)
                obtain ⟨i613, ⟨u620, u621, u622⟩, p614, p615, p616, p617, p618, p619⟩ := hr560
                have u623 := kp_t u556 u620
                have v624 : q_V r559 = q_V δ := (u621).trans v557
                have v625 := kr_t v558 u622
                have f626 := cb_12_4 i613 k_a0
                have f627 := cb_12_5 i613 k_a0
                have f628 := ti_b (q_I r559 12 7 a0)
                have f629 := cb_12_26 i613 k_a0
                obtain ⟨b630, o631, k632, n633, w634⟩ := gO_12_31 L k_a0
                obtain rfl := gS_12_31 L k_a0 o631
                refine ok_at o631 ?_
                refine ok_gd (fun hc635 => ?_) ?_
                · rcases hc635 with hc635 | hc635
                  · have c636 : vx220.toInt < (0 : Int) := o_lt hc635
                    omega
                  · omega
                refine ok_bdv (fun d637 e638 => ?_)
                have i639 : RI ad h.1 δ0 d637 := by rw [e638]; exact RI.sR L i613 w634
                have u640 := kp_N u623 (show q_I d637 = q_I r559 by rw [e638]; rfl)
                have v641 : q_V d637 = q_V δ := ((show q_V d637 = q_V r559 by rw [e638]; rfl)).trans v624
                have v642 := kr_s L (by decide) v625 e638
                refine ok_bind (k_X12_sign L hN (a0 := a0) (x1 := (59 : Int32)) k_a0 (show (59 : Int) ≠ 0 by first | assumption | omega) i639) (fun r643 hr644 => ?_)
                obtain ⟨i645, ⟨u649, u650, u651, u652⟩, p646, p647, p648⟩ := hr644
                have u653 := kp_t u640 u649
                have v654 : q_V r643 = q_V δ := (u650).trans v641
                have v655 := kr_t v642 u652
                have f656 := cb_12_4 i639 k_a0
                have f657 : (q_I d637 12 4 a0).toInt = (q_I r559 12 4 a0).toInt := congrArg Int32.toInt (by rw [e638]; rfl)
                have f658 := cb_12_4 i645 k_a0
                have f659 := cb_12_5 i639 k_a0
                have f660 : (q_I d637 12 5 a0).toInt = (q_I r559 12 5 a0).toInt := congrArg Int32.toInt (by rw [e638]; rfl)
                have f661 := cb_12_5 i645 k_a0
                unfold J_X12_readSteps_236
                have f662 := cb_12_24 i645 k_a0
                have f663 : (q_I r643 12 24 a0).toInt = (q_I d637 12 24 a0).toInt := congrArg Int32.toInt (u649 12 24 a0 (by decide))
                have f664 := cb_12_24 i639 k_a0
                have f665 : (q_I d637 12 24 a0).toInt = (q_I r559 12 24 a0).toInt := congrArg Int32.toInt (by rw [e638]; rfl)
                have f666 := cb_12_24 i613 k_a0
                have f667 : (q_I r559 12 24 a0).toInt = (q_I d553 12 24 a0).toInt := congrArg Int32.toInt (u620 12 24 a0 (by decide))
                have f668 := cb_12_26 i645 k_a0
                have f669 : (q_I r643 12 26 a0).toInt = (q_I d637 12 26 a0).toInt := congrArg Int32.toInt (u649 12 26 a0 (by decide))
                have f670 := cb_12_26 i639 k_a0
                have f671 : (q_I d637 12 26 a0).toInt = (q_I r559 12 26 a0).toInt := congrArg Int32.toInt (by rw [e638]; rfl)
                have f672 := ti_b (q_I r643 12 7 a0)
                have f673 : (q_I r643 12 7 a0).toInt = (q_I d637 12 7 a0).toInt := congrArg Int32.toInt (u649 12 7 a0 (by decide))
                have f674 := ti_b (q_I d637 12 7 a0)
                have f675 : (q_I d637 12 7 a0).toInt = (q_I r559 12 7 a0).toInt := congrArg Int32.toInt (by rw [e638]; rfl)
                have f676 := cb_12_27 i645 k_a0
                have f677 : (q_I r643 12 27 a0).toInt = (q_I d637 12 27 a0).toInt := congrArg Int32.toInt (u649 12 27 a0 (by decide))
                have f678 := cb_12_27 i639 k_a0
                have f679 : (q_I d637 12 27 a0).toInt = (q_I r559 12 27 a0).toInt := congrArg Int32.toInt (by rw [e638]; rfl)
                have f680 := cb_12_27 i613 k_a0
                have f681 : (q_I r559 12 27 a0).toInt = (q_I d553 12 27 a0).toInt := congrArg Int32.toInt (u620 12 27 a0 (by decide))
                have f682 := cb_12_27 i555 k_a0
                have f683 : (q_I d553 12 27 a0).toInt = (q_I d271 12 27 a0).toInt := congrArg Int32.toInt (by rw [e554]; rfl)
                have f684 := cb_12_27 i273 k_a0
                have f685 : (q_I d271 12 27 a0).toInt = (q_I d252 12 27 a0).toInt := congrArg Int32.toInt (by rw [e272]; rfl)
                have f686 := cb_12_27 i254 k_a0
                have f687 : (q_I d252 12 27 a0).toInt = (q_I r190 12 27 a0).toInt := congrArg Int32.toInt (by rw [e253]; exact rI_o (by decide))
                have f688 := cb_12_27 i192 k_a0
                have f689 : (q_I r190 12 27 a0).toInt = (q_I r133 12 27 a0).toInt := congrArg Int32.toInt (u195 12 27 a0 (by decide))
                have f690 := cb_12_27 i135 k_a0
                have f691 : (q_I r133 12 27 a0).toInt = (q_I r97.2 12 27 a0).toInt := congrArg Int32.toInt (u138 12 27 a0 (by decide))
                have f692 := cb_12_27 i99 k_a0
                have f693 : (q_I r97.2 12 27 a0).toInt = (q_I r48.2 12 27 a0).toInt := congrArg Int32.toInt (u102 12 27 a0 (by decide))
                have f694 := cb_12_27 i50 k_a0
                have f695 : (q_I r48.2 12 27 a0).toInt = (q_I r19.2 12 27 a0).toInt := congrArg Int32.toInt (u54 12 27 a0 (by decide))
                have f696 := cb_12_27 i21 k_a0
                have f697 : (q_I r19.2 12 27 a0).toInt = (q_I δ 12 27 a0).toInt := congrArg Int32.toInt (u25 12 27 a0 (by decide))
                refine ok_mono (ih r643 i645 (show (q_I r643 12 24 a0).toInt ≤ 3 by first | assumption | omega) (show (q_I r643 12 26 a0).toInt ≤ (q_I r643 12 4 a0).toInt by first | assumption | omega) (show (q_I r643 12 7 a0).toInt = 0 by first | assumption | omega) (show 4 - (q_I r643 12 27 a0).toInt ≤ K by first | assumption | omega) (show 501 - (q_I r643 12 4 a0).toInt < _ by omega)) (fun r698 hr699 => ?_)
                obtain ⟨i700, ⟨u706, u707, u708⟩, p701, p702, p703, p704, p705⟩ := hr699
                have u709 := kp_t u653 u706
                have v710 : q_V r698 = q_V δ := (u707).trans v654
                have v711 := kr_t v655 u708
                have f712 := cb_12_4 i700 k_a0
                have f713 := cb_12_5 i700 k_a0
                have f714 := ti_b (q_I r698 12 7 a0)
                have f715 := cb_12_27 i700 k_a0
                have f716 := cb_12_26 i700 k_a0
                exact ⟨by assumption, ⟨kp_w (by decide) u709, v710, kr_w (by decide) v711⟩, by first | assumption | omega, by first | assumption | omega, by first | assumption | omega, by first | assumption | omega, by first | assumption | omega⟩
          · have c717 : r123.1.toInt ≠ (-1 : Int) := o_ne h131
            have f718 := cb_12_25 i99 k_a0
            have f719 : (q_I r97.2 12 25 a0).toInt = (q_I r48.2 12 25 a0).toInt := congrArg Int32.toInt (u102 12 25 a0 (by decide))
            have f720 := cb_12_25 i50 k_a0
            have f721 : (q_I r48.2 12 25 a0).toInt = (q_I r19.2 12 25 a0).toInt := congrArg Int32.toInt (u54 12 25 a0 (by decide))
            have f722 := cb_12_25 i21 k_a0
            have f723 : (q_I r19.2 12 25 a0).toInt = (q_I δ 12 25 a0).toInt := congrArg Int32.toInt (u25 12 25 a0 (by decide))
            have f724 := cb_12_25 I k_a0
            refine ok_ite (fun h725 => ?_) (fun h725 => ?_)
            · have c726 : (q_I r97.2 12 25 a0).toInt = (60 : Int) := o_eq h725
              unfold J_X12_readSteps_70
              refine ok_bind (k_X12_wrong L hN (a0 := a0) (x1 := (3 : Int32)) (x2 := (q_I r97.2 12 4 a0)) k_a0 (show 0 ≤ ((q_I r97.2 12 4 a0)).toInt by first | assumption | omega) (show ((q_I r97.2 12 4 a0)).toInt ≤ 500 by first | assumption | omega) i99) (fun r727 hr728 => ?_)
              obtain ⟨i729, ⟨u732, u733, u734, u735⟩, p730, p731⟩ := hr728
              have u736 := kp_t u106 u732
              have v737 : q_V r727 = q_V δ := (u733).trans v107
              have v738 := kr_t v108 u735
              have f739 := cb_12_5 i729 k_a0
              have f740 := cb_12_5 i99 k_a0
              have f741 : (q_I r97.2 12 5 a0).toInt = (q_I r48.2 12 5 a0).toInt := congrArg Int32.toInt (u102 12 5 a0 (by decide))
              have f742 := cb_12_5 i50 k_a0
              have f743 : (q_I r48.2 12 5 a0).toInt = (q_I r19.2 12 5 a0).toInt := congrArg Int32.toInt (u54 12 5 a0 (by decide))
              have f744 := cb_12_5 i21 k_a0
              have f745 : (q_I r19.2 12 5 a0).toInt = (q_I δ 12 5 a0).toInt := congrArg Int32.toInt (u25 12 5 a0 (by decide))
              unfold J_X12_readSteps_79
              refine ok_bind (k_X12_fine L hN (a0 := a0) k_a0 i729) (fun r746 hr747 => ?_)
              obtain ⟨i748, p749, p750, p751⟩ := hr747
              try rw [i748]
              have f752 := bo_l p749
              have f753 := ti_b r746.1
              have f754 := ti_b r746.1
              refine ok_ite (fun h755 => ?_) (fun h755 => ?_)
              · have c756 : r746.1.toInt = (0 : Int) := o_eq h755
                have f757 := cb_12_4 i729 k_a0
                have f758 : (q_I r727 12 4 a0).toInt = (q_I r97.2 12 4 a0).toInt := congrArg Int32.toInt (u732 12 4 a0 (by decide))
                have f759 := ti_b (q_I r727 12 7 a0)
                have f760 : (q_I r727 12 7 a0).toInt = (q_I r97.2 12 7 a0).toInt := congrArg Int32.toInt (u732 12 7 a0 (by decide))
                have f761 := ti_b (q_I r97.2 12 7 a0)
                have f762 : (q_I r97.2 12 7 a0).toInt = (q_I r48.2 12 7 a0).toInt := congrArg Int32.toInt (u102 12 7 a0 (by decide))
                have f763 := ti_b (q_I r48.2 12 7 a0)
                have f764 : (q_I r48.2 12 7 a0).toInt = (q_I r19.2 12 7 a0).toInt := congrArg Int32.toInt (u54 12 7 a0 (by decide))
                have f765 := ti_b (q_I r19.2 12 7 a0)
                have f766 : (q_I r19.2 12 7 a0).toInt = (q_I δ 12 7 a0).toInt := congrArg Int32.toInt (u25 12 7 a0 (by decide))
                have f767 := cb_12_27 i729 k_a0
                have f768 : (q_I r727 12 27 a0).toInt = (q_I r97.2 12 27 a0).toInt := congrArg Int32.toInt (u732 12 27 a0 (by decide))
                have f769 := cb_12_27 i99 k_a0
                have f770 : (q_I r97.2 12 27 a0).toInt = (q_I r48.2 12 27 a0).toInt := congrArg Int32.toInt (u102 12 27 a0 (by decide))
                have f771 := cb_12_27 i50 k_a0
                have f772 : (q_I r48.2 12 27 a0).toInt = (q_I r19.2 12 27 a0).toInt := congrArg Int32.toInt (u54 12 27 a0 (by decide))
                have f773 := cb_12_27 i21 k_a0
                have f774 : (q_I r19.2 12 27 a0).toInt = (q_I δ 12 27 a0).toInt := congrArg Int32.toInt (u25 12 27 a0 (by decide))
                have f775 := cb_12_26 i729 k_a0
                have f776 : (q_I r727 12 26 a0).toInt = (q_I r97.2 12 26 a0).toInt := congrArg Int32.toInt (u732 12 26 a0 (by decide))
                have f777 := cb_12_26 i99 k_a0
                have f778 : (q_I r97.2 12 26 a0).toInt = (q_I r48.2 12 26 a0).toInt := congrArg Int32.toInt (u102 12 26 a0 (by decide))
                have f779 := cb_12_26 i50 k_a0
                have f780 : (q_I r48.2 12 26 a0).toInt = (q_I r19.2 12 26 a0).toInt := congrArg Int32.toInt (u54 12 26 a0 (by decide))
                have f781 := cb_12_26 i21 k_a0
                have f782 : (q_I r19.2 12 26 a0).toInt = (q_I δ 12 26 a0).toInt := congrArg Int32.toInt (u25 12 26 a0 (by decide))
                exact ok_some (show RI ad h.1 δ0 r727 ∧ (kp [(12, 4), (12, 5), (12, 6), (12, 7), (12, 25), (12, 26), (12, 27)] δ r727 ∧ q_V r727 = q_V δ ∧ kr ad [113, 114, 115, 116, 117] δ r727) ∧ (q_I δ 12 4 a0).toInt ≤ (q_I r727 12 4 a0).toInt ∧ (q_I δ 12 5 a0).toInt ≤ (q_I r727 12 5 a0).toInt ∧ (q_I r727 12 7 a0).toInt = (q_I δ 12 7 a0).toInt ∧ (q_I r727 12 27 a0).toInt = (q_I δ 12 27 a0).toInt ∧ (q_I r727 12 26 a0).toInt ≤ (q_I r727 12 4 a0).toInt from ⟨i729, ⟨kp_w (by decide) u736, v737, kr_w (by decide) v738⟩, by first | assumption | omega, by first | assumption | omega, by first | assumption | omega, by first | assumption | omega, by first | assumption | omega⟩)
              · have c783 : r746.1.toInt ≠ (0 : Int) := o_ne h755
                refine ok_bind (k_X12_pass L hN (a0 := a0) k_a0 i729) (fun r784 hr785 => ?_)
                obtain ⟨i786, ⟨u789, u790, u791, u792⟩, p787, p788⟩ := hr785
                have u793 := kp_t u736 u789
                have v794 : q_V r784 = q_V δ := (u790).trans v737
                have v795 := kr_t v738 u792
                have f796 := cb_12_4 i729 k_a0
                have f797 : (q_I r727 12 4 a0).toInt = (q_I r97.2 12 4 a0).toInt := congrArg Int32.toInt (u732 12 4 a0 (by decide))
                have f798 := cb_12_4 i786 k_a0
                have f799 : hc ad r727 a0 = (q_R r727 (Ad ad 101) (q_I r727 12 4 a0).toNatClampNeg).toInt := rfl
                have t800 := ti_tn (q_I r727 12 4 a0)
                have f801 : (q_R r727 (Ad ad 101) (q_I r727 12 4 a0).toNatClampNeg).toInt = (q_R r97.2 (Ad ad 101) (q_I r727 12 4 a0).toNatClampNeg).toInt := congrArg Int32.toInt (congrFun (u735 101 (by decide) (by decide) (by decide)) _)
                have f802 : (q_R r97.2 (Ad ad 101) (q_I r727 12 4 a0).toNatClampNeg).toInt = (q_R r48.2 (Ad ad 101) (q_I r727 12 4 a0).toNatClampNeg).toInt := congrArg Int32.toInt (congrFun (u105 101 (by decide) (by decide) (by decide)) _)
                have f803 : (q_R r48.2 (Ad ad 101) (q_I r727 12 4 a0).toNatClampNeg).toInt = (q_R r19.2 (Ad ad 101) (q_I r727 12 4 a0).toNatClampNeg).toInt := congrArg Int32.toInt (congrFun (u57 101 (by decide) (by decide) (by decide)) _)
                have f804 : (q_R r19.2 (Ad ad 101) (q_I r727 12 4 a0).toNatClampNeg).toInt = (q_R δ (Ad ad 101) (q_I r727 12 4 a0).toNatClampNeg).toInt := congrArg Int32.toInt (congrFun (u28 101 (by decide) (by decide) (by decide)) _)
                have f805 := ti_b (q_R δ (Ad ad 101) (q_I r727 12 4 a0).toNatClampNeg)
                have f806 := ti_b (q_R r19.2 (Ad ad 101) (q_I r727 12 4 a0).toNatClampNeg)
                have f807 := ti_b (q_R r48.2 (Ad ad 101) (q_I r727 12 4 a0).toNatClampNeg)
                have f808 := ti_b (q_R r97.2 (Ad ad 101) (q_I r727 12 4 a0).toNatClampNeg)
                have f809 := ti_b (q_R r727 (Ad ad 101) (q_I r727 12 4 a0).toNatClampNeg)
                have f810 := cb_12_3 i729 k_a0
                have f811 : (q_I r727 12 3 a0).toInt = (q_I r97.2 12 3 a0).toInt := congrArg Int32.toInt (u732 12 3 a0 (by decide))
                have f812 := cb_12_3 i99 k_a0
                have f813 : (q_I r97.2 12 3 a0).toInt = (q_I r48.2 12 3 a0).toInt := congrArg Int32.toInt (u102 12 3 a0 (by decide))
                have f817 := cb_12_24 i786 k_a0
                have f818 : (q_I r784 12 24 a0).toInt = (q_I r727 12 24 a0).toInt := congrArg Int32.toInt (u789 12 24 a0 (by decide))
                have f819 := cb_12_24 i729 k_a0
                have f820 : (q_I r727 12 24 a0).toInt = (q_I r97.2 12 24 a0).toInt := congrArg Int32.toInt (u732 12 24 a0 (by decide))
                have f821 := cb_12_24 i99 k_a0
                have f822 : (q_I r97.2 12 24 a0).toInt = (q_I r48.2 12 24 a0).toInt := congrArg Int32.toInt (u102 12 24 a0 (by decide))
                have f823 := cb_12_24 i50 k_a0
                have f824 : (q_I r48.2 12 24 a0).toInt = (q_I r19.2 12 24 a0).toInt := congrArg Int32.toInt (u54 12 24 a0 (by decide))
                have f825 := cb_12_24 i21 k_a0
                have f826 : (q_I r19.2 12 24 a0).toInt = (q_I δ 12 24 a0).toInt := congrArg Int32.toInt (u25 12 24 a0 (by decide))
                first | (have q827 := te_mulc (c := 60) (n := 60) rfl (q_I r784 12 24 a0) (by omega) (by omega); obtain ⟨f828, f829, f830⟩ := q827) | (obtain ⟨q827, f828, f829, f830⟩ := ti_mulc (c := 60) (n := 60) rfl (q_I r784 12 24 a0))
                have f831 := cb_12_25 i786 k_a0
                have f832 : (q_I r784 12 25 a0).toInt = (q_I r727 12 25 a0).toInt := congrArg Int32.toInt (u789 12 25 a0 (by decide))
                have f833 := cb_12_25 i729 k_a0
                have f834 : (q_I r727 12 25 a0).toInt = (q_I r97.2 12 25 a0).toInt := congrArg Int32.toInt (u732 12 25 a0 (by decide))
                refine ok_biv (fun vx814 e815 => ?_)
                first | (have q835 := te_add ((60 : Int32) * (q_I r784 12 24 a0)) (q_I r784 12 25 a0) (by omega) (by omega); rw [← e815] at q835; obtain ⟨f836, f837, f838⟩ := q835) | (obtain ⟨q835, f836, f837, f838⟩ : ∃ q : Int, vx814.toInt = ((60 : Int32) * (q_I r784 12 24 a0)).toInt + (q_I r784 12 25 a0).toInt + 4294967296 * q ∧ -2147483648 ≤ vx814.toInt ∧ vx814.toInt ≤ 2147483647 := by rw [e815]; exact ti_add ((60 : Int32) * (q_I r784 12 24 a0)) (q_I r784 12 25 a0))
                first | (have q843 := te_addc (c := 1) (n := 1) rfl (q_I r784 12 25 a0) (by omega) (by omega); obtain ⟨f844, f845, f846⟩ := q843) | (obtain ⟨q843, f844, f845, f846⟩ := ti_addc (c := 1) (n := 1) rfl (q_I r784 12 25 a0))
                refine ok_bdv (fun d839 e840 => ?_)
                have i841 : RI ad h.1 δ0 d839 := by rw [e840]; exact cs_12_25 L i786 k_a0 (show 0 ≤ ((q_I r784 12 25 a0) + (1 : Int32)).toInt by omega) (show ((q_I r784 12 25 a0) + (1 : Int32)).toInt ≤ 60 by omega)
                have u847 := kp_I u793 e840
                have v848 : q_V d839 = q_V δ := ((show q_V d839 = q_V r784 by rw [e840]; rfl)).trans v794
                have v849 := kr_N v795 (show q_R d839 = q_R r784 by rw [e840]; rfl)
                obtain ⟨b850, o851, k852, n853, w854⟩ := gO_12_29 L k_a0
                obtain rfl := gS_12_29 L k_a0 o851
                refine ok_at o851 ?_
                have t855 := ti_tn vx814
                refine ok_gd (fun hc856 => ?_) ?_
                · rcases hc856 with hc856 | hc856
                  · have c857 : vx814.toInt < (0 : Int) := o_lt hc856
                    omega
                  · omega
                refine ok_bdv (fun d858 e859 => ?_)
                have i860 : RI ad h.1 δ0 d858 := by rw [e859]; exact RI.sR L i841 w854
                have u861 := kp_N u847 (show q_I d858 = q_I d839 by rw [e859]; rfl)
                have v862 : q_V d858 = q_V δ := ((show q_V d858 = q_V d839 by rw [e859]; rfl)).trans v848
                have v863 := kr_s L (by decide) v849 e859
                refine ok_ite (fun h864 => ?_) (fun h864 => ?_)
                · have c865 : r123.1.toInt = (5 : Int) := o_eq h864
                  obtain ⟨b866, o867, k868, n869, w870⟩ := gO_12_30 L k_a0
                  obtain rfl := gS_12_30 L k_a0 o867
                  refine ok_at o867 ?_
                  refine ok_bind (k_X12_readNumber L hN (a0 := a0) (x1 := (1 : Int32)) (x2 := (99 : Int32)) k_a0 i860) (fun r871 hr872 => ?_)
                  obtain ⟨i873, ⟨u880, u881, u882, u883⟩, p874, p875, p876, p877, p878, p879⟩ := hr872
                  have u884 := kp_t u861 u880
                  have v885 : q_V r871.2 = q_V δ := (u881).trans v862
                  have v886 := kr_t v863 u883
                  have f887 := cb_12_4 i860 k_a0
                  have f888 : (q_I d858 12 4 a0).toInt = (q_I d839 12 4 a0).toInt := congrArg Int32.toInt (by rw [e859]; rfl)
                  have f889 := cb_12_4 i841 k_a0
                  have f890 : (q_I d839 12 4 a0).toInt = (q_I r784 12 4 a0).toInt := congrArg Int32.toInt (by rw [e840]; exact rI_o (by decide))
                  have f891 := cb_12_4 i873 k_a0
                  have f892 := cb_12_5 i860 k_a0
                  have f893 : (q_I d858 12 5 a0).toInt = (q_I d839 12 5 a0).toInt := congrArg Int32.toInt (by rw [e859]; rfl)
                  have f894 := cb_12_5 i841 k_a0
                  have f895 : (q_I d839 12 5 a0).toInt = (q_I r784 12 5 a0).toInt := congrArg Int32.toInt (by rw [e840]; exact rI_o (by decide))
                  have f896 := cb_12_5 i786 k_a0
                  have f897 : (q_I r784 12 5 a0).toInt = (q_I r727 12 5 a0).toInt := congrArg Int32.toInt (u789 12 5 a0 (by decide))
                  have f898 := cb_12_5 i873 k_a0
                  have f899 := ti_b r871.1
                  replace p879 : ((q_I r871.2 12 5 a0).toInt < 0 → (1 : Int) ≤ (r871.1).toInt ∧ (r871.1).toInt ≤ (99 : Int)) := p879
                  have f900 := ti_b r871.1
                  refine ok_gd (fun hc901 => ?_) ?_
                  · rcases hc901 with hc901 | hc901
                    · have c902 : vx814.toInt < (0 : Int) := o_lt hc901
                      omega
                    · omega
                  refine ok_bdv (fun d903 e904 => ?_)
                  have i905 : RI ad h.1 δ0 d903 := by rw [e904]; exact RI.sR L i873 w870
                  have u906 := kp_N u884 (show q_I d903 = q_I r871.2 by rw [e904]; rfl)
                  have v907 : q_V d903 = q_V δ := ((show q_V d903 = q_V r871.2 by rw [e904]; rfl)).trans v885
                  have v908 := kr_s L (by decide) v886 e904
                  refine ok_bind (k_X12_sign L hN (a0 := a0) (x1 := (91 : Int32)) k_a0 (show (91 : Int) ≠ 0 by first | assumption | omega) i905) (fun r909 hr910 => ?_)
                  obtain ⟨i911, ⟨u915, u916, u917, u918⟩, p912, p913, p914⟩ := hr910
                  have u919 := kp_t u906 u915
                  have v920 : q_V r909 = q_V δ := (u916).trans v907
                  have v921 := kr_t v908 u918
                  have f922 := cb_12_4 i905 k_a0
                  have f923 : (q_I d903 12 4 a0).toInt = (q_I r871.2 12 4 a0).toInt := congrArg Int32.toInt (by rw [e904]; rfl)
                  have f924 := cb_12_4 i911 k_a0
                  have f925 := cb_12_5 i905 k_a0
                  have f926 : (q_I d903 12 5 a0).toInt = (q_I r871.2 12 5 a0).toInt := congrArg Int32.toInt (by rw [e904]; rfl)
                  have f927 := cb_12_5 i911 k_a0
                  have f931 := cb_12_27 i911 k_a0
                  have f932 : (q_I r909 12 27 a0).toInt = (q_I d903 12 27 a0).toInt := congrArg Int32.toInt (u915 12 27 a0 (by decide))
                  have f933 := cb_12_27 i905 k_a0
                  have f934 : (q_I d903 12 27 a0).toInt = (q_I r871.2 12 27 a0).toInt := congrArg Int32.toInt (by rw [e904]; rfl)
                  have f935 := cb_12_27 i873 k_a0
                  have f936 : (q_I r871.2 12 27 a0).toInt = (q_I d858 12 27 a0).toInt := congrArg Int32.toInt (u880 12 27 a0 (by decide))
                  have f937 := cb_12_27 i860 k_a0
                  have f938 : (q_I d858 12 27 a0).toInt = (q_I d839 12 27 a0).toInt := congrArg Int32.toInt (by rw [e859]; rfl)
                  have f939 := cb_12_27 i841 k_a0
                  have f940 : (q_I d839 12 27 a0).toInt = (q_I r784 12 27 a0).toInt := congrArg Int32.toInt (by rw [e840]; exact rI_o (by decide))
                  have f941 := cb_12_27 i786 k_a0
                  have f942 : (q_I r784 12 27 a0).toInt = (q_I r727 12 27 a0).toInt := congrArg Int32.toInt (u789 12 27 a0 (by decide))
                  have f943 := cb_12_27 i729 k_a0
                  have f944 : (q_I r727 12 27 a0).toInt = (q_I r97.2 12 27 a0).toInt := congrArg Int32.toInt (u732 12 27 a0 (by decide))
                  have f945 := cb_12_27 i99 k_a0
                  have f946 : (q_I r97.2 12 27 a0).toInt = (q_I r48.2 12 27 a0).toInt := congrArg Int32.toInt (u102 12 27 a0 (by decide))
                  have f947 := cb_12_27 i50 k_a0
                  have f948 : (q_I r48.2 12 27 a0).toInt = (q_I r19.2 12 27 a0).toInt := congrArg Int32.toInt (u54 12 27 a0 (by decide))
                  have f949 := cb_12_27 i21 k_a0
                  have f950 : (q_I r19.2 12 27 a0).toInt = (q_I δ 12 27 a0).toInt := congrArg Int32.toInt (u25 12 27 a0 (by decide))
                  first | (have q952 := te_addc (c := 1) (n := 1) rfl (q_I r909 12 27 a0) (by omega) (by omega); obtain ⟨f953, f954, f955⟩ := q952) | (obtain ⟨q952, f953, f954, f955⟩ := ti_addc (c := 1) (n := 1) rfl (q_I r909 12 27 a0))
                  refine ok_bdv (fun d928 e929 => ?_)
                  have i930 : RI ad h.1 δ0 d928 := by rw [e929]; exact cs_12_27 L i911 k_a0 (show 0 ≤ ((q_I r909 12 27 a0) + (1 : Int32)).toInt by omega) (show ((q_I r909 12 27 a0) + (1 : Int32)).toInt ≤ 3 by omega)
                  have u956 := kp_I u919 e929
                  have v957 : q_V d928 = q_V δ := ((show q_V d928 = q_V r909 by rw [e929]; rfl)).trans v920
                  have v958 := kr_N v921 (show q_R d928 = q_R r909 by rw [e929]; rfl)
                  have f961 := cb_12_24 i930 k_a0
                  have f962 : (q_I d928 12 24 a0).toInt = (q_I r909 12 24 a0).toInt := congrArg Int32.toInt (by rw [e929]; exact rI_o (by decide))
                  have f963 := cb_12_24 i911 k_a0
                  have f964 : (q_I r909 12 24 a0).toInt = (q_I d903 12 24 a0).toInt := congrArg Int32.toInt (u915 12 24 a0 (by decide))
                  have f965 := cb_12_24 i905 k_a0
                  have f966 : (q_I d903 12 24 a0).toInt = (q_I r871.2 12 24 a0).toInt := congrArg Int32.toInt (by rw [e904]; rfl)
                  have f967 := cb_12_24 i873 k_a0
                  have f968 : (q_I r871.2 12 24 a0).toInt = (q_I d858 12 24 a0).toInt := congrArg Int32.toInt (u880 12 24 a0 (by decide))
                  have f969 := cb_12_24 i860 k_a0
                  have f970 : (q_I d858 12 24 a0).toInt = (q_I d839 12 24 a0).toInt := congrArg Int32.toInt (by rw [e859]; rfl)
                  have f971 := cb_12_24 i841 k_a0
                  have f972 : (q_I d839 12 24 a0).toInt = (q_I r784 12 24 a0).toInt := congrArg Int32.toInt (by rw [e840]; exact rI_o (by decide))
                  have f973 := cb_12_26 i930 k_a0
                  have f974 : (q_I d928 12 26 a0).toInt = (q_I r909 12 26 a0).toInt := congrArg Int32.toInt (by rw [e929]; exact rI_o (by decide))
                  have f975 := cb_12_26 i911 k_a0
                  have f976 : (q_I r909 12 26 a0).toInt = (q_I d903 12 26 a0).toInt := congrArg Int32.toInt (u915 12 26 a0 (by decide))
                  have f977 := cb_12_26 i905 k_a0
                  have f978 : (q_I d903 12 26 a0).toInt = (q_I r871.2 12 26 a0).toInt := congrArg Int32.toInt (by rw [e904]; rfl)
                  have f979 := cb_12_26 i873 k_a0
                  have f980 : (q_I r871.2 12 26 a0).toInt = (q_I d858 12 26 a0).toInt := congrArg Int32.toInt (u880 12 26 a0 (by decide))
                  have f981 := cb_12_26 i860 k_a0
                  have f982 : (q_I d858 12 26 a0).toInt = (q_I d839 12 26 a0).toInt := congrArg Int32.toInt (by rw [e859]; rfl)
                  have f983 := cb_12_26 i841 k_a0
                  have f984 : (q_I d839 12 26 a0).toInt = (q_I r784 12 26 a0).toInt := congrArg Int32.toInt (by rw [e840]; exact rI_o (by decide))
                  have f985 := cb_12_26 i786 k_a0
                  have f986 : (q_I r784 12 26 a0).toInt = (q_I r727 12 26 a0).toInt := congrArg Int32.toInt (u789 12 26 a0 (by decide))
                  have f987 := cb_12_26 i729 k_a0
                  have f988 : (q_I r727 12 26 a0).toInt = (q_I r97.2 12 26 a0).toInt := congrArg Int32.toInt (u732 12 26 a0 (by decide))
                  have f989 := cb_12_26 i99 k_a0
                  have f990 : (q_I r97.2 12 26 a0).toInt = (q_I r48.2 12 26 a0).toInt := congrArg Int32.toInt (u102 12 26 a0 (by decide))
                  have f991 := cb_12_26 i50 k_a0
                  have f992 : (q_I r48.2 12 26 a0).toInt = (q_I r19.2 12 26 a0).toInt := congrArg Int32.toInt (u54 12 26 a0 (by decide))
                  have f993 := cb_12_26 i21 k_a0
                  have f994 : (q_I r19.2 12 26 a0).toInt = (q_I δ 12 26 a0).toInt := congrArg Int32.toInt (u25 12 26 a0 (by decide))
                  have f995 := cb_12_4 i930 k_a0
                  have f996 : (q_I d928 12 4 a0).toInt = (q_I r909 12 4 a0).toInt := congrArg Int32.toInt (by rw [e929]; exact rI_o (by decide))
                  have f997 := ti_b (q_I d928 12 7 a0)
                  have f998 : (q_I d928 12 7 a0).toInt = (q_I r909 12 7 a0).toInt := congrArg Int32.toInt (by rw [e929]; exact rI_o (by decide))
                  have f999 := ti_b (q_I r909 12 7 a0)
                  have f1000 : (q_I r909 12 7 a0).toInt = (q_I d903 12 7 a0).toInt := congrArg Int32.toInt (u915 12 7 a0 (by decide))
                  have f1001 := ti_b (q_I d903 12 7 a0)
                  have f1002 : (q_I d903 12 7 a0).toInt = (q_I r871.2 12 7 a0).toInt := congrArg Int32.toInt (by rw [e904]; rfl)
                  have f1003 := ti_b (q_I r871.2 12 7 a0)
                  have f1004 : (q_I r871.2 12 7 a0).toInt = (q_I d858 12 7 a0).toInt := congrArg Int32.toInt (u880 12 7 a0 (by decide))
                  have f1005 := ti_b (q_I d858 12 7 a0)
                  have f1006 : (q_I d858 12 7 a0).toInt = (q_I d839 12 7 a0).toInt := congrArg Int32.toInt (by rw [e859]; rfl)
                  have f1007 := ti_b (q_I d839 12 7 a0)
                  have f1008 : (q_I d839 12 7 a0).toInt = (q_I r784 12 7 a0).toInt := congrArg Int32.toInt (by rw [e840]; exact rI_o (by decide))
                  have f1009 := ti_b (q_I r784 12 7 a0)
                  have f1010 : (q_I r784 12 7 a0).toInt = (q_I r727 12 7 a0).toInt := congrArg Int32.toInt (u789 12 7 a0 (by decide))
                  have f1011 := ti_b (q_I r727 12 7 a0)
                  have f1012 : (q_I r727 12 7 a0).toInt = (q_I r97.2 12 7 a0).toInt := congrArg Int32.toInt (u732 12 7 a0 (by decide))
                  have f1013 := ti_b (q_I r97.2 12 7 a0)
                  have f1014 : (q_I r97.2 12 7 a0).toInt = (q_I r48.2 12 7 a0).toInt := congrArg Int32.toInt (u102 12 7 a0 (by decide))
                  have f1015 := ti_b (q_I r48.2 12 7 a0)
                  have f1016 : (q_I r48.2 12 7 a0).toInt = (q_I r19.2 12 7 a0).toInt := congrArg Int32.toInt (u54 12 7 a0 (by decide))
                  have f1017 := ti_b (q_I r19.2 12 7 a0)
                  have f1018 : (q_I r19.2 12 7 a0).toInt = (q_I δ 12 7 a0).toInt := congrArg Int32.toInt (u25 12 7 a0 (by decide))
                  have f1019 := cb_12_27 i930 k_a0
                  have f1020 : (q_I d928 12 27 a0).toInt = ((q_I r909 12 27 a0) + (1 : Int32)).toInt := congrArg Int32.toInt (show q_I d928 12 27 a0 = ((q_I r909 12 27 a0) + (1 : Int32)) by rw [e929]; exact rI_s)
                  refine ok_bind (hT a0 d928 k_a0 (show (q_I d928 12 24 a0).toInt ≤ 3 by first | assumption | omega) (show (q_I d928 12 26 a0).toInt ≤ (q_I d928 12 4 a0).toInt by first | assumption | omega) (show (q_I d928 12 7 a0).toInt = 0 by first | assumption | omega) (show 4 - (q_I d928 12 27 a0).toInt < _ by first | assumption | omega) i930) (fun r959 hr960 => ?_)
                  obtain ⟨i1021, ⟨u1027, u1028, u1029⟩, p1022, p1023, p1024, p1025, p1026⟩ := hr960
                  have u1030 := kp_t u956 u1027
                  have v1031 : q_V r959 = q_V δ := (u1028).trans v957
                  have v1032 := kr_t v958 u1029
                  have f1033 := cb_12_4 i1021 k_a0
                  have f1034 := cb_12_5 i930 k_a0
                  have f1035 : (q_I d928 12 5 a0).toInt = (q_I r909 12 5 a0).toInt := congrArg Int32.toInt (by rw [e929]; exact rI_o (by decide))
                  have f1036 := cb_12_5 i1021 k_a0
                  have f1037 := ti_b (q_I r959 12 7 a0)
                  have f1038 := cb_12_27 i1021 k_a0
                  have f1039 := cb_12_26 i1021 k_a0
                  first | (have q1044 := te_subc (c := 1) (n := 1) rfl (q_I r959 12 27 a0) (by omega) (by omega); obtain ⟨f1045, f1046, f1047⟩ := q1044) | (obtain ⟨q1044, f1045, f1046, f1047⟩ := ti_subc (c := 1) (n := 1) rfl (q_I r959 12 27 a0))
                  refine ok_bdv (fun d1040 e1041 => ?_)
                  have i1042 : RI ad h.1 δ0 d1040 := by rw [e1041]; exact cs_12_27 L i1021 k_a0 (show 0 ≤ ((q_I r959 12 27 a0) - (1 : Int32)).toInt by omega) (show ((q_I r959 12 27 a0) - (1 : Int32)).toInt ≤ 3 by omega)
                  have u1048 := kp_I u1030 e1041
                  have v1049 : q_V d1040 = q_V δ := ((show q_V d1040 = q_V r959 by rw [e1041]; rfl)).trans v1031
                  have v1050 := kr_N v1032 (show q_R d1040 = q_R r959 by rw [e1041]; rfl)
                  refine ok_bind (k_X12_sign L hN (a0 := a0) (x1 := (93 : Int32)) k_a0 (show (93 : Int) ≠ 0 by first | assumption | omega) i1042) (fun r1051 hr1052 => ?_)
                  obtain ⟨i1053, ⟨u1057, u1058, u1059, u1060⟩, p1054, p1055, p1056⟩ := hr1052
                  have u1061 := kp_t u1048 u1057
                  have v1062 : q_V r1051 = q_V δ := (u1058).trans v1049
                  have v1063 := kr_t v1050 u1060
                  have f1064 := cb_12_4 i1042 k_a0
                  have f1065 : (q_I d1040 12 4 a0).toInt = (q_I r959 12 4 a0).toInt := congrArg Int32.toInt (by rw [e1041]; exact rI_o (by decide))
                  have f1066 := cb_12_4 i1053 k_a0
                  have f1067 := cb_12_5 i1042 k_a0
                  have f1068 : (q_I d1040 12 5 a0).toInt = (q_I r959 12 5 a0).toInt := congrArg Int32.toInt (by rw [e1041]; exact rI_o (by decide))
                  have f1069 := cb_12_5 i1053 k_a0
                  obtain ⟨b1070, o1071, k1072, n1073, w1074⟩ := gO_12_31 L k_a0
                  obtain rfl := gS_12_31 L k_a0 o1071
                  refine ok_at o1071 ?_
                  refine ok_gd (fun hc1075 => ?_) ?_
                  · rcases hc1075 with hc1075 | hc1075
                    · have c1076 : vx814.toInt < (0 : Int) := o_lt hc1075
                      omega
                    · omega
                  refine ok_bdv (fun d1077 e1078 => ?_)
                  have i1079 : RI ad h.1 δ0 d1077 := by rw [e1078]; exact RI.sR L i1053 w1074
                  have u1080 := kp_N u1061 (show q_I d1077 = q_I r1051 by rw [e1078]; rfl)
                  have v1081 : q_V d1077 = q_V δ := ((show q_V d1077 = q_V r1051 by rw [e1078]; rfl)).trans v1062
                  have v1082 := kr_s L (by decide) v1063 e1078
                  unfold J_X12_readSteps_236
                  have f1083 := cb_12_24 i1079 k_a0
                  have f1084 : (q_I d1077 12 24 a0).toInt = (q_I r1051 12 24 a0).toInt := congrArg Int32.toInt (by rw [e1078]; rfl)
                  have f1085 := cb_12_24 i1053 k_a0
                  have f1086 : (q_I r1051 12 24 a0).toInt = (q_I d1040 12 24 a0).toInt := congrArg Int32.toInt (u1057 12 24 a0 (by decide))
                  have f1087 := cb_12_24 i1042 k_a0
                  have f1088 : (q_I d1040 12 24 a0).toInt = (q_I r959 12 24 a0).toInt := congrArg Int32.toInt (by rw [e1041]; exact rI_o (by decide))
                  have f1089 := cb_12_24 i1021 k_a0
                  have f1090 : (q_I r959 12 24 a0).toInt = (q_I d928 12 24 a0).toInt := congrArg Int32.toInt (u1027 12 24 a0 (by decide))
                  have f1091 := cb_12_26 i1079 k_a0
                  have f1092 : (q_I d1077 12 26 a0).toInt = (q_I r1051 12 26 a0).toInt := congrArg Int32.toInt (by rw [e1078]; rfl)
                  have f1093 := cb_12_26 i1053 k_a0
                  have f1094 : (q_I r1051 12 26 a0).toInt = (q_I d1040 12 26 a0).toInt := congrArg Int32.toInt (u1057 12 26 a0 (by decide))
                  have f1095 := cb_12_26 i1042 k_a0
                  have f1096 : (q_I d1040 12 26 a0).toInt = (q_I r959 12 26 a0).toInt := congrArg Int32.toInt (by rw [e1041]; exact rI_o (by decide))
                  have f1097 := cb_12_4 i1079 k_a0
                  have f1098 : (q_I d1077 12 4 a0).toInt = (q_I r1051 12 4 a0).toInt := congrArg Int32.toInt (by rw [e1078]; rfl)
                  have f1099 := ti_b (q_I d1077 12 7 a0)
                  have f1100 : (q_I d1077 12 7 a0).toInt = (q_I r1051 12 7 a0).toInt := congrArg Int32.toInt (by rw [e1078]; rfl)
                  have f1101 := ti_b (q_I r1051 12 7 a0)
                  have f1102 : (q_I r1051 12 7 a0).toInt = (q_I d1040 12 7 a0).toInt := congrArg Int32.toInt (u1057 12 7 a0 (by decide))
                  have f1103 := ti_b (q_I d1040 12 7 a0)
                  have f1104 : (q_I d1040 12 7 a0).toInt = (q_I r959 12 7 a0).toInt := congrArg Int32.toInt (by rw [e1041]; exact rI_o (by decide))
                  have f1105 := cb_12_27 i1079 k_a0
                  have f1106 : (q_I d1077 12 27 a0).toInt = (q_I r1051 12 27 a0).toInt := congrArg Int32.toInt (by rw [e1078]; rfl)
                  have f1107 := cb_12_27 i1053 k_a0
                  have f1108 : (q_I r1051 12 27 a0).toInt = (q_I d1040 12 27 a0).toInt := congrArg Int32.toInt (u1057 12 27 a0 (by decide))
                  have f1109 := cb_12_27 i1042 k_a0
                  have f1110 : (q_I d1040 12 27 a0).toInt = ((q_I r959 12 27 a0) - (1 : Int32)).toInt := congrArg Int32.toInt (show q_I d1040 12 27 a0 = ((q_I r959 12 27 a0) - (1 : Int32)) by rw [e1041]; exact rI_s)
                  refine ok_mono (ih d1077 i1079 (show (q_I d1077 12 24 a0).toInt ≤ 3 by first | assumption | omega) (show (q_I d1077 12 26 a0).toInt ≤ (q_I d1077 12 4 a0).toInt by first | assumption | omega) (show (q_I d1077 12 7 a0).toInt = 0 by first | assumption | omega) (show 4 - (q_I d1077 12 27 a0).toInt ≤ K by first | assumption | omega) (show 501 - (q_I d1077 12 4 a0).toInt < _ by omega)) (fun r1111 hr1112 => ?_)
                  obtain ⟨i1113, ⟨u1119, u1120, u1121⟩, p1114, p1115, p1116, p1117, p1118⟩ := hr1112
                  have u1122 := kp_t u1080 u1119
                  have v1123 : q_V r1111 = q_V δ := (u1120).trans v1081
                  have v1124 := kr_t v1082 u1121
                  have f1125 := cb_12_4 i1113 k_a0
                  have f1126 := cb_12_5 i1079 k_a0
                  have f1127 : (q_I d1077 12 5 a0).toInt = (q_I r1051 12 5 a0).toInt := congrArg Int32.toInt (by rw [e1078]; rfl)
                  have f1128 := cb_12_5 i1113 k_a0
                  have f1129 := ti_b (q_I r1111 12 7 a0)
                  have f1130 := cb_12_27 i1113 k_a0
                  have f1131 := cb_12_26 i1113 k_a0
                  exact ⟨by assumption, ⟨kp_w (by decide) u1122, v1123, kr_w (by decide) v1124⟩, by first | assumption | omega, by first | assumption | omega, by first | assumption | omega, by first | assumption | omega, by first | assumption | omega⟩
                · have c1132 : r123.1.toInt ≠ (5 : Int) := o_ne h864
                  obtain ⟨b1133, o1134, k1135, n1136, w1137⟩ := gO_12_30 L k_a0
                  obtain rfl := gS_12_30 L k_a0 o1134
                  refine ok_at o1134 ?_
                  refine ok_gd (fun hc1138 => ?_) ?_
                  · rcases hc1138 with hc1138 | hc1138
                    · have c1139 : vx814.toInt < (0 : Int) := o_lt hc1138
                      omega
                    · omega
                  refine ok_bdv (fun d1140 e1141 => ?_)
                  have i1142 : RI ad h.1 δ0 d1140 := by rw [e1141]; exact RI.sR L i860 w1137
                  have u1143 := kp_N u861 (show q_I d1140 = q_I d858 by rw [e1141]; rfl)
                  have v1144 : q_V d1140 = q_V δ := ((show q_V d1140 = q_V d858 by rw [e1141]; rfl)).trans v862
                  have v1145 := kr_s L (by decide) v863 e1141
                  have f1148 := cb_12_24 i1142 k_a0
                  have f1149 : (q_I d1140 12 24 a0).toInt = (q_I d858 12 24 a0).toInt := congrArg Int32.toInt (by rw [e1141]; rfl)
                  have f1150 := cb_12_24 i860 k_a0
                  have f1151 : (q_I d858 12 24 a0).toInt = (q_I d839 12 24 a0).toInt := congrArg Int32.toInt (by rw [e859]; rfl)
                  have f1152 := cb_12_24 i841 k_a0
                  have f1153 : (q_I d839 12 24 a0).toInt = (q_I r784 12 24 a0).toInt := congrArg Int32.toInt (by rw [e840]; exact rI_o (by decide))
                  have f1154 := cb_12_26 i1142 k_a0
                  have f1155 : (q_I d1140 12 26 a0).toInt = (q_I d858 12 26 a0).toInt := congrArg Int32.toInt (by rw [e1141]; rfl)
                  have f1156 := cb_12_26 i860 k_a0
                  have f1157 : (q_I d858 12 26 a0).toInt = (q_I d839 12 26 a0).toInt := congrArg Int32.toInt (by rw [e859]; rfl)
                  have f1158 := cb_12_26 i841 k_a0
                  have f1159 : (q_I d839 12 26 a0).toInt = (q_I r784 12 26 a0).toInt := congrArg Int32.toInt (by rw [e840]; exact rI_o (by decide))
                  have f1160 := cb_12_26 i786 k_a0
                  have f1161 : (q_I r784 12 26 a0).toInt = (q_I r727 12 26 a0).toInt := congrArg Int32.toInt (u789 12 26 a0 (by decide))
                  have f1162 := cb_12_26 i729 k_a0
                  have f1163 : (q_I r727 12 26 a0).toInt = (q_I r97.2 12 26 a0).toInt := congrArg Int32.toInt (u732 12 26 a0 (by decide))
                  have f1164 := cb_12_26 i99 k_a0
                  have f1165 : (q_I r97.2 12 26 a0).toInt = (q_I r48.2 12 26 a0).toInt := congrArg Int32.toInt (u102 12 26 a0 (by decide))
                  have f1166 := cb_12_26 i50 k_a0
                  have f1167 : (q_I r48.2 12 26 a0).toInt = (q_I r19.2 12 26 a0).toInt := congrArg Int32.toInt (u54 12 26 a0 (by decide))
                  have f1168 := cb_12_26 i21 k_a0
                  have f1169 : (q_I r19.2 12 26 a0).toInt = (q_I δ 12 26 a0).toInt := congrArg Int32.toInt (u25 12 26 a0 (by decide))
                  have f1170 := cb_12_4 i1142 k_a0
                  have f1171 : (q_I d1140 12 4 a0).toInt = (q_I d858 12 4 a0).toInt := congrArg Int32.toInt (by rw [e1141]; rfl)
                  have f1172 := cb_12_4 i860 k_a0
                  have f1173 : (q_I d858 12 4 a0).toInt = (q_I d839 12 4 a0).toInt := congrArg Int32.toInt (by rw [e859]; rfl)
                  have f1174 := cb_12_4 i841 k_a0
                  have f1175 : (q_I d839 12 4 a0).toInt = (q_I r784 12 4 a0).toInt := congrArg Int32.toInt (by rw [e840]; exact rI_o (by decide))
                  have f1176 := ti_b (q_I d1140 12 7 a0)
                  have f1177 : (q_I d1140 12 7 a0).toInt = (q_I d858 12 7 a0).toInt := congrArg Int32.toInt (by rw [e1141]; rfl)
                  have f1178 := ti_b (q_I d858 12 7 a0)
                  have f1179 : (q_I d858 12 7 a0).toInt = (q_I d839 12 7 a0).toInt := congrArg Int32.toInt (by rw [e859]; rfl)
                  have f1180 := ti_b (q_I d839 12 7 a0)
                  have f1181 : (q_I d839 12 7 a0).toInt = (q_I r784 12 7 a0).toInt := congrArg Int32.toInt (by rw [e840]; exact rI_o (by decide))
                  have f1182 := ti_b (q_I r784 12 7 a0)
                  have f1183 : (q_I r784 12 7 a0).toInt = (q_I r727 12 7 a0).toInt := congrArg Int32.toInt (u789 12 7 a0 (by decide))
                  have f1184 := ti_b (q_I r727 12 7 a0)
                  have f1185 : (q_I r727 12 7 a0).toInt = (q_I r97.2 12 7 a0).toInt := congrArg Int32.toInt (u732 12 7 a0 (by decide))
                  have f1186 := ti_b (q_I r97.2 12 7 a0)
                  have f1187 : (q_I r97.2 12 7 a0).toInt = (q_I r48.2 12 7 a0).toInt := congrArg Int32.toInt (u102 12 7 a0 (by decide))
                  have f1188 := ti_b (q_I r48.2 12 7 a0)
                  have f1189 : (q_I r48.2 12 7 a0).toInt = (q_I r19.2 12 7 a0).toInt := congrArg Int32.toInt (u54 12 7 a0 (by decide))
                  have f1190 := ti_b (q_I r19.2 12 7 a0)
                  have f1191 : (q_I r19.2 12 7 a0).toInt = (q_I δ 12 7 a0).toInt := congrArg Int32.toInt (u25 12 7 a0 (by decide))
                  have f1192 := cb_12_5 i1142 k_a0
                  have f1193 : (q_I d1140 12 5 a0).toInt = (q_I d858 12 5 a0).toInt := congrArg Int32.toInt (by rw [e1141]; rfl)
                  have f1194 := cb_12_5 i860 k_a0
                  have f1195 : (q_I d858 12 5 a0).toInt = (q_I d839 12 5 a0).toInt := congrArg Int32.toInt (by rw [e859]; rfl)
                  have f1196 := cb_12_5 i841 k_a0
                  have f1197 : (q_I d839 12 5 a0).toInt = (q_I r784 12 5 a0).toInt := congrArg Int32.toInt (by rw [e840]; exact rI_o (by decide))
                  have f1198 := cb_12_5 i786 k_a0
                  have f1199 : (q_I r784 12 5 a0).toInt = (q_I r727 12 5 a0).toInt := congrArg Int32.toInt (u789 12 5 a0 (by decide))
                  refine ok_bind (k_X12_sum L hN (a0 := a0) k_a0 (show (q_I d1140 12 24 a0).toInt ≤ 3 by first | assumption | omega) (show (q_I d1140 12 26 a0).toInt ≤ (q_I d1140 12 4 a0).toInt by first | assumption | omega) (show 0 ≤ (q_I d1140 12 7 a0).toInt by first | assumption | omega) (show (q_I d1140 12 7 a0).toInt ≤ 7 by first | assumption | omega) (show (q_I d1140 12 7 a0).toInt = 7 → 0 ≤ (q_I d1140 12 5 a0).toInt by first | assumption | omega) (show 8 - (q_I d1140 12 7 a0).toInt < 20 by first | assumption | omega) i1142) (fun r1146 hr1147 => ?_)
                  obtain ⟨i1200, ⟨u1207, u1208, u1209⟩, p1201, p1202, p1203, p1204, p1205, p1206⟩ := hr1147
                  have u1210 := kp_t u1143 u1207
                  have v1211 : q_V r1146 = q_V δ := (u1208).trans v1144
                  have v1212 := kr_t v1145 u1209
                  have f1213 := cb_12_4 i1200 k_a0
                  have f1214 := cb_12_5 i1200 k_a0
                  have f1215 := ti_b (q_I r1146 12 7 a0)
                  have f1216 := cb_12_26 i1200 k_a0
                  obtain ⟨b1217, o1218, k1219, n1220, w1221⟩ := gO_12_31 L k_a0
                  obtain rfl := gS_12_31 L k_a0 o1218
                  refine ok_at o1218 ?_
                  refine ok_gd (fun hc1222 => ?_) ?_
                  · rcases hc1222 with hc1222 | hc1222
                    · have c1223 : vx814.toInt < (0 : Int) := o_lt hc1222
                      omega
                    · omega
                  refine ok_bdv (fun d1224 e1225 => ?_)
                  have i1226 : RI ad h.1 δ0 d1224 := by rw [e1225]; exact RI.sR L i1200 w1221
                  have u1227 := kp_N u1210 (show q_I d1224 = q_I r1146 by rw [e1225]; rfl)
                  have v1228 : q_V d1224 = q_V δ := ((show q_V d1224 = q_V r1146 by rw [e1225]; rfl)).trans v1211
                  have v1229 := kr_s L (by decide) v1212 e1225
                  refine ok_bind (k_X12_sign L hN (a0 := a0) (x1 := (59 : Int32)) k_a0 (show (59 : Int) ≠ 0 by first | assumption | omega) i1226) (fun r1230 hr1231 => ?_)
                  obtain ⟨i1232, ⟨u1236, u1237, u1238, u1239⟩, p1233, p1234, p1235⟩ := hr1231
                  have u1240 := kp_t u1227 u1236
                  have v1241 : q_V r1230 = q_V δ := (u1237).trans v1228
                  have v1242 := kr_t v1229 u1239
                  have f1243 := cb_12_4 i1226 k_a0
                  have f1244 : (q_I d1224 12 4 a0).toInt = (q_I r1146 12 4 a0).toInt := congrArg Int32.toInt (by rw [e1225]; rfl)
                  have f1245 := cb_12_4 i1232 k_a0
                  have f1246 := cb_12_5 i1226 k_a0
                  have f1247 : (q_I d1224 12 5 a0).toInt = (q_I r1146 12 5 a0).toInt := congrArg Int32.toInt (by rw [e1225]; rfl)
                  have f1248 := cb_12_5 i1232 k_a0
                  unfold J_X12_readSteps_236
                  have f1249 := cb_12_24 i1232 k_a0
                  have f1250 : (q_I r1230 12 24 a0).toInt = (q_I d1224 12 24 a0).toInt := congrArg Int32.toInt (u1236 12 24 a0 (by decide))
                  have f1251 := cb_12_24 i1226 k_a0
                  have f1252 : (q_I d1224 12 24 a0).toInt = (q_I r1146 12 24 a0).toInt := congrArg Int32.toInt (by rw [e1225]; rfl)
                  have f1253 := cb_12_24 i1200 k_a0
                  have f1254 : (q_I r1146 12 24 a0).toInt = (q_I d1140 12 24 a0).toInt := congrArg Int32.toInt (u1207 12 24 a0 (by decide))
                  have f1255 := cb_12_26 i1232 k_a0
                  have f1256 : (q_I r1230 12 26 a0).toInt = (q_I d1224 12 26 a0).toInt := congrArg Int32.toInt (u1236 12 26 a0 (by decide))
                  have f1257 := cb_12_26 i1226 k_a0
                  have f1258 : (q_I d1224 12 26 a0).toInt = (q_I r1146 12 26 a0).toInt := congrArg Int32.toInt (by rw [e1225]; rfl)
                  have f1259 := ti_b (q_I r1230 12 7 a0)
                  have f1260 : (q_I r1230 12 7 a0).toInt = (q_I d1224 12 7 a0).toInt := congrArg Int32.toInt (u1236 12 7 a0 (by decide))
                  have f1261 := ti_b (q_I d1224 12 7 a0)
                  have f1262 : (q_I d1224 12 7 a0).toInt = (q_I r1146 12 7 a0).toInt := congrArg Int32.toInt (by rw [e1225]; rfl)
                  have f1263 := cb_12_27 i1232 k_a0
                  have f1264 : (q_I r1230 12 27 a0).toInt = (q_I d1224 12 27 a0).toInt := congrArg Int32.toInt (u1236 12 27 a0 (by decide))
                  have f1265 := cb_12_27 i1226 k_a0
                  have f1266 : (q_I d1224 12 27 a0).toInt = (q_I r1146 12 27 a0).toInt := congrArg Int32.toInt (by rw [e1225]; rfl)
                  have f1267 := cb_12_27 i1200 k_a0
                  have f1268 : (q_I r1146 12 27 a0).toInt = (q_I d1140 12 27 a0).toInt := congrArg Int32.toInt (u1207 12 27 a0 (by decide))
                  have f1269 := cb_12_27 i1142 k_a0
                  have f1270 : (q_I d1140 12 27 a0).toInt = (q_I d858 12 27 a0).toInt := congrArg Int32.toInt (by rw [e1141]; rfl)
                  have f1271 := cb_12_27 i860 k_a0
                  have f1272 : (q_I d858 12 27 a0).toInt = (q_I d839 12 27 a0).toInt := congrArg Int32.toInt (by rw [e859]; rfl)
                  have f1273 := cb_12_27 i841 k_a0
                  have f1274 : (q_I d839 12 27 a0).toInt = (q_I r784 12 27 a0).toInt := congrArg Int32.toInt (by rw [e840]; exact rI_o (by decide))
                  have f1275 := cb_12_27 i786 k_a0
                  have f1276 : (q_I r784 12 27 a0).toInt = (q_I r727 12 27 a0).toInt := congrArg Int32.toInt (u789 12 27 a0 (by decide))
                  have f1277 := cb_12_27 i729 k_a0
                  have f1278 : (q_I r727 12 27 a0).toInt = (q_I r97.2 12 27 a0).toInt := congrArg Int32.toInt (u732 12 27 a0 (by decide))
                  have f1279 := cb_12_27 i99 k_a0
                  have f1280 : (q_I r97.2 12 27 a0).toInt = (q_I r48.2 12 27 a0).toInt := congrArg Int32.toInt (u102 12 27 a0 (by decide))
                  have f1281 := cb_12_27 i50 k_a0
                  have f1282 : (q_I r48.2 12 27 a0).toInt = (q_I r19.2 12 27 a0).toInt := congrArg Int32.toInt (u54 12 27 a0 (by decide))
                  have f1283 := cb_12_27 i21 k_a0
                  have f1284 : (q_I r19.2 12 27 a0).toInt = (q_I δ 12 27 a0).toInt := congrArg Int32.toInt (u25 12 27 a0 (by decide))
                  refine ok_mono (ih r1230 i1232 (show (q_I r1230 12 24 a0).toInt ≤ 3 by first | assumption | omega) (show (q_I r1230 12 26 a0).toInt ≤ (q_I r1230 12 4 a0).toInt by first | assumption | omega) (show (q_I r1230 12 7 a0).toInt = 0 by first | assumption | omega) (show 4 - (q_I r1230 12 27 a0).toInt ≤ K by first | assumption | omega) (show 501 - (q_I r1230 12 4 a0).toInt < _ by omega)) (fun r1285 hr1286 => ?_)
                  obtain ⟨i1287, ⟨u1293, u1294, u1295⟩, p1288, p1289, p1290, p1291, p1292⟩ := hr1286
                  have u1296 := kp_t u1240 u1293
                  have v1297 : q_V r1285 = q_V δ := (u1294).trans v1241
                  have v1298 := kr_t v1242 u1295
                  have f1299 := cb_12_4 i1287 k_a0
                  have f1300 := cb_12_5 i1287 k_a0
                  have f1301 := ti_b (q_I r1285 12 7 a0)
                  have f1302 := cb_12_27 i1287 k_a0
                  have f1303 := cb_12_26 i1287 k_a0
                  exact ⟨by assumption, ⟨kp_w (by decide) u1296, v1297, kr_w (by decide) v1298⟩, by first | assumption | omega, by first | assumption | omega, by first | assumption | omega, by first | assumption | omega, by first | assumption | omega⟩
            · have c1304 : (q_I r97.2 12 25 a0).toInt ≠ (60 : Int) := o_ne h725
              refine ok_ite (fun h1305 => ?_) (fun h1305 => ?_)
              · have c1306 : r123.1.toInt = (5 : Int) := o_eq h1305
                have f1307 := cb_12_27 i99 k_a0
                have f1308 : (q_I r97.2 12 27 a0).toInt = (q_I r48.2 12 27 a0).toInt := congrArg Int32.toInt (u102 12 27 a0 (by decide))
                have f1309 := cb_12_27 i50 k_a0
                have f1310 : (q_I r48.2 12 27 a0).toInt = (q_I r19.2 12 27 a0).toInt := congrArg Int32.toInt (u54 12 27 a0 (by decide))
                have f1311 := cb_12_27 i21 k_a0
                have f1312 : (q_I r19.2 12 27 a0).toInt = (q_I δ 12 27 a0).toInt := congrArg Int32.toInt (u25 12 27 a0 (by decide))
                refine ok_ite (fun h1313 => ?_) (fun h1313 => ?_)
                · have c1314 : (q_I r97.2 12 27 a0).toInt = (3 : Int) := o_eq h1313
                  unfold J_X12_readSteps_70
                  refine ok_bind (k_X12_wrong L hN (a0 := a0) (x1 := (3 : Int32)) (x2 := (q_I r97.2 12 4 a0)) k_a0 (show 0 ≤ ((q_I r97.2 12 4 a0)).toInt by first | assumption | omega) (show ((q_I r97.2 12 4 a0)).toInt ≤ 500 by first | assumption | omega) i99) (fun r1315 hr1316 => ?_)
                  obtain ⟨i1317, ⟨u1320, u1321, u1322, u1323⟩, p1318, p1319⟩ := hr1316
                  have u1324 := kp_t u106 u1320
                  have v1325 : q_V r1315 = q_V δ := (u1321).trans v107
                  have v1326 := kr_t v108 u1323
                  have f1327 := cb_12_5 i1317 k_a0
                  have f1328 := cb_12_5 i99 k_a0
                  have f1329 : (q_I r97.2 12 5 a0).toInt = (q_I r48.2 12 5 a0).toInt := congrArg Int32.toInt (u102 12 5 a0 (by decide))
                  have f1330 := cb_12_5 i50 k_a0
                  have f1331 : (q_I r48.2 12 5 a0).toInt = (q_I r19.2 12 5 a0).toInt := congrArg Int32.toInt (u54 12 5 a0 (by decide))
                  have f1332 := cb_12_5 i21 k_a0
                  have f1333 : (q_I r19.2 12 5 a0).toInt = (q_I δ 12 5 a0).toInt := congrArg Int32.toInt (u25 12 5 a0 (by decide))
                  unfold J_X12_readSteps_79
                  refine ok_bind (k_X12_fine L hN (a0 := a0) k_a0 i1317) (fun r1334 hr1335 => ?_)
                  obtain ⟨i1336, p1337, p1338, p1339⟩ := hr1335
                  try rw [i1336]
                  have f1340 := bo_l p1337
                  have f1341 := ti_b r1334.1
                  have f1342 := ti_b r1334.1
                  refine ok_ite (fun h1343 => ?_) (fun h1343 => ?_)
                  · have c1344 : r1334.1.toInt = (0 : Int) := o_eq h1343
                    have f1345 := cb_12_4 i1317 k_a0
                    have f1346 : (q_I r1315 12 4 a0).toInt = (q_I r97.2 12 4 a0).toInt := congrArg Int32.toInt (u1320 12 4 a0 (by decide))
                    have f1347 := ti_b (q_I r1315 12 7 a0)
                    have f1348 : (q_I r1315 12 7 a0).toInt = (q_I r97.2 12 7 a0).toInt := congrArg Int32.toInt (u1320 12 7 a0 (by decide))
                    have f1349 := ti_b (q_I r97.2 12 7 a0)
                    have f1350 : (q_I r97.2 12 7 a0).toInt = (q_I r48.2 12 7 a0).toInt := congrArg Int32.toInt (u102 12 7 a0 (by decide))
                    have f1351 := ti_b (q_I r48.2 12 7 a0)
                    have f1352 : (q_I r48.2 12 7 a0).toInt = (q_I r19.2 12 7 a0).toInt := congrArg Int32.toInt (u54 12 7 a0 (by decide))
                    have f1353 := ti_b (q_I r19.2 12 7 a0)
                    have f1354 : (q_I r19.2 12 7 a0).toInt = (q_I δ 12 7 a0).toInt := congrArg Int32.toInt (u25 12 7 a0 (by decide))
                    have f1355 := cb_12_27 i1317 k_a0
                    have f1356 : (q_I r1315 12 27 a0).toInt = (q_I r97.2 12 27 a0).toInt := congrArg Int32.toInt (u1320 12 27 a0 (by decide))
                    have f1357 := cb_12_26 i1317 k_a0
                    have f1358 : (q_I r1315 12 26 a0).toInt = (q_I r97.2 12 26 a0).toInt := congrArg Int32.toInt (u1320 12 26 a0 (by decide))
                    have f1359 := cb_12_26 i99 k_a0
                    have f1360 : (q_I r97.2 12 26 a0).toInt = (q_I r48.2 12 26 a0).toInt := congrArg Int32.toInt (u102 12 26 a0 (by decide))
                    have f1361 := cb_12_26 i50 k_a0
                    have f1362 : (q_I r48.2 12 26 a0).toInt = (q_I r19.2 12 26 a0).toInt := congrArg Int32.toInt (u54 12 26 a0 (by decide))
                    have f1363 := cb_12_26 i21 k_a0
                    have f1364 : (q_I r19.2 12 26 a0).toInt = (q_I δ 12 26 a0).toInt := congrArg Int32.toInt (u25 12 26 a0 (by decide))
                    exact ok_some (show RI ad h.1 δ0 r1315 ∧ (kp [(12, 4), (12, 5), (12, 6), (12, 7), (12, 25), (12, 26), (12, 27)] δ r1315 ∧ q_V r1315 = q_V δ ∧ kr ad [113, 114, 115, 116, 117] δ r1315) ∧ (q_I δ 12 4 a0).toInt ≤ (q_I r1315 12 4 a0).toInt ∧ (q_I δ 12 5 a0).toInt ≤ (q_I r1315 12 5 a0).toInt ∧ (q_I r1315 12 7 a0).toInt = (q_I δ 12 7 a0).toInt ∧ (q_I r1315 12 27 a0).toInt = (q_I δ 12 27 a0).toInt ∧ (q_I r1315 12 26 a0).toInt ≤ (q_I r1315 12 4 a0).toInt from ⟨i1317, ⟨kp_w (by decide) u1324, v1325, kr_w (by decide) v1326⟩, by first | assumption | omega, by first | assumption | omega, by first | assumption | omega, by first | assumption | omega, by first | assumption | omega⟩)
                  · have c1365 : r1334.1.toInt ≠ (0 : Int) := o_ne h1343
                    refine ok_bind (k_X12_pass L hN (a0 := a0) k_a0 i1317) (fun r1366 hr1367 => ?_)
                    obtain ⟨i1368, ⟨u1371, u1372, u1373, u1374⟩, p1369, p1370⟩ := hr1367
                    have u1375 := kp_t u1324 u1371
                    have v1376 : q_V r1366 = q_V δ := (u1372).trans v1325
                    have v1377 := kr_t v1326 u1374
                    have f1378 := cb_12_4 i1317 k_a0
                    have f1379 : (q_I r1315 12 4 a0).toInt = (q_I r97.2 12 4 a0).toInt := congrArg Int32.toInt (u1320 12 4 a0 (by decide))
                    have f1380 := cb_12_4 i1368 k_a0
                    have f1381 : hc ad r1315 a0 = (q_R r1315 (Ad ad 101) (q_I r1315 12 4 a0).toNatClampNeg).toInt := rfl
                    have t1382 := ti_tn (q_I r1315 12 4 a0)
                    have f1383 : (q_R r1315 (Ad ad 101) (q_I r1315 12 4 a0).toNatClampNeg).toInt = (q_R r97.2 (Ad ad 101) (q_I r1315 12 4 a0).toNatClampNeg).toInt := congrArg Int32.toInt (congrFun (u1323 101 (by decide) (by decide) (by decide)) _)
                    have f1384 : (q_R r97.2 (Ad ad 101) (q_I r1315 12 4 a0).toNatClampNeg).toInt = (q_R r48.2 (Ad ad 101) (q_I r1315 12 4 a0).toNatClampNeg).toInt := congrArg Int32.toInt (congrFun (u105 101 (by decide) (by decide) (by decide)) _)
                    have f1385 : (q_R r48.2 (Ad ad 101) (q_I r1315 12 4 a0).toNatClampNeg).toInt = (q_R r19.2 (Ad ad 101) (q_I r1315 12 4 a0).toNatClampNeg).toInt := congrArg Int32.toInt (congrFun (u57 101 (by decide) (by decide) (by decide)) _)
                    have f1386 : (q_R r19.2 (Ad ad 101) (q_I r1315 12 4 a0).toNatClampNeg).toInt = (q_R δ (Ad ad 101) (q_I r1315 12 4 a0).toNatClampNeg).toInt := congrArg Int32.toInt (congrFun (u28 101 (by decide) (by decide) (by decide)) _)
                    have f1387 := ti_b (q_R δ (Ad ad 101) (q_I r1315 12 4 a0).toNatClampNeg)
                    have f1388 := ti_b (q_R r19.2 (Ad ad 101) (q_I r1315 12 4 a0).toNatClampNeg)
                    have f1389 := ti_b (q_R r48.2 (Ad ad 101) (q_I r1315 12 4 a0).toNatClampNeg)
                    have f1390 := ti_b (q_R r97.2 (Ad ad 101) (q_I r1315 12 4 a0).toNatClampNeg)
                    have f1391 := ti_b (q_R r1315 (Ad ad 101) (q_I r1315 12 4 a0).toNatClampNeg)
                    have f1392 := cb_12_3 i1317 k_a0
                    have f1393 : (q_I r1315 12 3 a0).toInt = (q_I r97.2 12 3 a0).toInt := congrArg Int32.toInt (u1320 12 3 a0 (by decide))
                    have f1394 := cb_12_3 i99 k_a0
                    have f1395 : (q_I r97.2 12 3 a0).toInt = (q_I r48.2 12 3 a0).toInt := congrArg Int32.toInt (u102 12 3 a0 (by decide))
                    have f1399 := cb_12_24 i1368 k_a0
                    have f1400 : (q_I r1366 12 24 a0).toInt = (q_I r1315 12 24 a0).toInt := congrArg Int32.toInt (u1371 12 24 a0 (by decide))
                    have f1401 := cb_12_24 i1317 k_a0
                    have f1402 : (q_I r1315 12 24 a0).toInt = (q_I r97.2 12 24 a0).toInt := congrArg Int32.toInt (u1320 12 24 a0 (by decide))
                    have f1403 := cb_12_24 i99 k_a0
                    have f1404 : (q_I r97.2 12 24 a0).toInt = (q_I r48.2 12 24 a0).toInt := congrArg Int32.toInt (u102 12 24 a0 (by decide))
                    have f1405 := cb_12_24 i50 k_a0
                    have f1406 : (q_I r48.2 12 24 a0).toInt = (q_I r19.2 12 24 a0).toInt := congrArg Int32.toInt (u54 12 24 a0 (by decide))
                    have f1407 := cb_12_24 i21 k_a0
                    have f1408 : (q_I r19.2 12 24 a0).toInt = (q_I δ 12 24 a0).toInt := congrArg Int32.toInt (u25 12 24 a0 (by decide))
                    first | (have q1409 := te_mulc (c := 60) (n := 60) rfl (q_I r1366 12 24 a0) (by omega) (by omega); obtain ⟨f1410, f1411, f1412⟩ := q1409) | (obtain ⟨q1409, f1410, f1411, f1412⟩ := ti_mulc (c := 60) (n := 60) rfl (q_I r1366 12 24 a0))
                    have f1413 := cb_12_25 i1368 k_a0
                    have f1414 : (q_I r1366 12 25 a0).toInt = (q_I r1315 12 25 a0).toInt := congrArg Int32.toInt (u1371 12 25 a0 (by decide))
                    have f1415 := cb_12_25 i1317 k_a0
                    have f1416 : (q_I r1315 12 25 a0).toInt = (q_I r97.2 12 25 a0).toInt := congrArg Int32.toInt (u1320 12 25 a0 (by decide))
                    refine ok_biv (fun vx1396 e1397 => ?_)
                    first | (have q1417 := te_add ((60 : Int32) * (q_I r1366 12 24 a0)) (q_I r1366 12 25 a0) (by omega) (by omega); rw [← e1397] at q1417; obtain ⟨f1418, f1419, f1420⟩ := q1417) | (obtain ⟨q1417, f1418, f1419, f1420⟩ : ∃ q : Int, vx1396.toInt = ((60 : Int32) * (q_I r1366 12 24 a0)).toInt + (q_I r1366 12 25 a0).toInt + 4294967296 * q ∧ -2147483648 ≤ vx1396.toInt ∧ vx1396.toInt ≤ 2147483647 := by rw [e1397]; exact ti_add ((60 : Int32) * (q_I r1366 12 24 a0)) (q_I r1366 12 25 a0))
                    first | (have q1425 := te_addc (c := 1) (n := 1) rfl (q_I r1366 12 25 a0) (by omega) (by omega); obtain ⟨f1426, f1427, f1428⟩ := q1425) | (obtain ⟨q1425, f1426, f1427, f1428⟩ := ti_addc (c := 1) (n := 1) rfl (q_I r1366 12 25 a0))
                    refine ok_bdv (fun d1421 e1422 => ?_)
                    have i1423 : RI ad h.1 δ0 d1421 := by rw [e1422]; exact cs_12_25 L i1368 k_a0 (show 0 ≤ ((q_I r1366 12 25 a0) + (1 : Int32)).toInt by omega) (show ((q_I r1366 12 25 a0) + (1 : Int32)).toInt ≤ 60 by omega)
                    have u1429 := kp_I u1375 e1422
                    have v1430 : q_V d1421 = q_V δ := ((show q_V d1421 = q_V r1366 by rw [e1422]; rfl)).trans v1376
                    have v1431 := kr_N v1377 (show q_R d1421 = q_R r1366 by rw [e1422]; rfl)
                    obtain ⟨b1432, o1433, k1434, n1435, w1436⟩ := gO_12_29 L k_a0
                    obtain rfl := gS_12_29 L k_a0 o1433
                    refine ok_at o1433 ?_
                    have t1437 := ti_tn vx1396
                    refine ok_gd (fun hc1438 => ?_) ?_
                    · rcases hc1438 with hc1438 | hc1438
                      · have c1439 : vx1396.toInt < (0 : Int) := o_lt hc1438
                        omega
                      · omega
                    refine ok_bdv (fun d1440 e1441 => ?_)
                    have i1442 : RI ad h.1 δ0 d1440 := by rw [e1441]; exact RI.sR L i1423 w1436
                    have u1443 := kp_N u1429 (show q_I d1440 = q_I d1421 by rw [e1441]; rfl)
                    have v1444 : q_V d1440 = q_V δ := ((show q_V d1440 = q_V d1421 by rw [e1441]; rfl)).trans v1430
                    have v1445 := kr_s L (by decide) v1431 e1441
                    refine ok_ite (fun h1446 => ?_) (fun h1446 => ?_)
                    · have c1447 : r123.1.toInt = (5 : Int) := o_eq h1446
                      obtain ⟨b1448, o1449, k1450, n1451, w1452⟩ := gO_12_30 L k_a0
                      obtain rfl := gS_12_30 L k_a0 o1449
                      refine ok_at o1449 ?_
                      refine ok_bind (k_X12_readNumber L hN (a0 := a0) (x1 := (1 : Int32)) (x2 := (99 : Int32)) k_a0 i1442) (fun r1453 hr1454 => ?_)
                      obtain ⟨i1455, ⟨u1462, u1463, u1464, u1465⟩, p1456, p1457, p1458, p1459, p1460, p1461⟩ := hr1454
                      have u1466 := kp_t u1443 u1462
                      have v1467 : q_V r1453.2 = q_V δ := (u1463).trans v1444
                      have v1468 := kr_t v1445 u1465
                      have f1469 := cb_12_4 i1442 k_a0
                      have f1470 : (q_I d1440 12 4 a0).toInt = (q_I d1421 12 4 a0).toInt := congrArg Int32.toInt (by rw [e1441]; rfl)
                      have f1471 := cb_12_4 i1423 k_a0
                      have f1472 : (q_I d1421 12 4 a0).toInt = (q_I r1366 12 4 a0).toInt := congrArg Int32.toInt (by rw [e1422]; exact rI_o (by decide))
                      have f1473 := cb_12_4 i1455 k_a0
                      have f1474 := cb_12_5 i1442 k_a0
                      have f1475 : (q_I d1440 12 5 a0).toInt = (q_I d1421 12 5 a0).toInt := congrArg Int32.toInt (by rw [e1441]; rfl)
                      have f1476 := cb_12_5 i1423 k_a0
                      have f1477 : (q_I d1421 12 5 a0).toInt = (q_I r1366 12 5 a0).toInt := congrArg Int32.toInt (by rw [e1422]; exact rI_o (by decide))
                      have f1478 := cb_12_5 i1368 k_a0
                      have f1479 : (q_I r1366 12 5 a0).toInt = (q_I r1315 12 5 a0).toInt := congrArg Int32.toInt (u1371 12 5 a0 (by decide))
                      have f1480 := cb_12_5 i1455 k_a0
                      have f1481 := ti_b r1453.1
                      replace p1461 : ((q_I r1453.2 12 5 a0).toInt < 0 → (1 : Int) ≤ (r1453.1).toInt ∧ (r1453.1).toInt ≤ (99 : Int)) := p1461
                      have f1482 := ti_b r1453.1
                      refine ok_gd (fun hc1483 => ?_) ?_
                      · rcases hc1483 with hc1483 | hc1483
                        · have c1484 : vx1396.toInt < (0 : Int) := o_lt hc1483
                          omega
                        · omega
                      refine ok_bdv (fun d1485 e1486 => ?_)
                      have i1487 : RI ad h.1 δ0 d1485 := by rw [e1486]; exact RI.sR L i1455 w1452
                      have u1488 := kp_N u1466 (show q_I d1485 = q_I r1453.2 by rw [e1486]; rfl)
                      have v1489 : q_V d1485 = q_V δ := ((show q_V d1485 = q_V r1453.2 by rw [e1486]; rfl)).trans v1467
                      have v1490 := kr_s L (by decide) v1468 e1486
                      refine ok_bind (k_X12_sign L hN (a0 := a0) (x1 := (91 : Int32)) k_a0 (show (91 : Int) ≠ 0 by first | assumption | omega) i1487) (fun r1491 hr1492 => ?_)
                      obtain ⟨i1493, ⟨u1497, u1498, u1499, u1500⟩, p1494, p1495, p1496⟩ := hr1492
                      have u1501 := kp_t u1488 u1497
                      have v1502 : q_V r1491 = q_V δ := (u1498).trans v1489
                      have v1503 := kr_t v1490 u1500
                      have f1504 := cb_12_4 i1487 k_a0
                      have f1505 : (q_I d1485 12 4 a0).toInt = (q_I r1453.2 12 4 a0).toInt := congrArg Int32.toInt (by rw [e1486]; rfl)
                      have f1506 := cb_12_4 i1493 k_a0
                      have f1507 := cb_12_5 i1487 k_a0
                      have f1508 : (q_I d1485 12 5 a0).toInt = (q_I r1453.2 12 5 a0).toInt := congrArg Int32.toInt (by rw [e1486]; rfl)
                      have f1509 := cb_12_5 i1493 k_a0
                      have f1513 := cb_12_27 i1493 k_a0
                      have f1514 : (q_I r1491 12 27 a0).toInt = (q_I d1485 12 27 a0).toInt := congrArg Int32.toInt (u1497 12 27 a0 (by decide))
                      have f1515 := cb_12_27 i1487 k_a0
                      have f1516 : (q_I d1485 12 27 a0).toInt = (q_I r1453.2 12 27 a0).toInt := congrArg Int32.toInt (by rw [e1486]; rfl)
                      have f1517 := cb_12_27 i1455 k_a0
                      have f1518 : (q_I r1453.2 12 27 a0).toInt = (q_I d1440 12 27 a0).toInt := congrArg Int32.toInt (u1462 12 27 a0 (by decide))
                      have f1519 := cb_12_27 i1442 k_a0
                      have f1520 : (q_I d1440 12 27 a0).toInt = (q_I d1421 12 27 a0).toInt := congrArg Int32.toInt (by rw [e1441]; rfl)
                      have f1521 := cb_12_27 i1423 k_a0
                      have f1522 : (q_I d1421 12 27 a0).toInt = (q_I r1366 12 27 a0).toInt := congrArg Int32.toInt (by rw [e1422]; exact rI_o (by decide))
                      have f1523 := cb_12_27 i1368 k_a0
                      have f1524 : (q_I r1366 12 27 a0).toInt = (q_I r1315 12 27 a0).toInt := congrArg Int32.toInt (u1371 12 27 a0 (by decide))
                      have f1525 := cb_12_27 i1317 k_a0
                      have f1526 : (q_I r1315 12 27 a0).toInt = (q_I r97.2 12 27 a0).toInt := congrArg Int32.toInt (u1320 12 27 a0 (by decide))
                      first | (have q1528 := te_addc (c := 1) (n := 1) rfl (q_I r1491 12 27 a0) (by omega) (by omega); obtain ⟨f1529, f1530, f1531⟩ := q1528) | (obtain ⟨q1528, f1529, f1530, f1531⟩ := ti_addc (c := 1) (n := 1) rfl (q_I r1491 12 27 a0))
                      refine ok_bdv (fun d1510 e1511 => ?_)
                      have i1512 : RI ad h.1 δ0 d1510 := by rw [e1511]; exact cs_12_27 L i1493 k_a0 (show 0 ≤ ((q_I r1491 12 27 a0) + (1 : Int32)).toInt by omega) (show ((q_I r1491 12 27 a0) + (1 : Int32)).toInt ≤ 3 by omega)
                      have u1532 := kp_I u1501 e1511
                      have v1533 : q_V d1510 = q_V δ := ((show q_V d1510 = q_V r1491 by rw [e1511]; rfl)).trans v1502
                      have v1534 := kr_N v1503 (show q_R d1510 = q_R r1491 by rw [e1511]; rfl)
                      have f1537 := cb_12_24 i1512 k_a0
                      have f1538 : (q_I d1510 12 24 a0).toInt = (q_I r1491 12 24 a0).toInt := congrArg Int32.toInt (by rw [e1511]; exact rI_o (by decide))
                      have f1539 := cb_12_24 i1493 k_a0
                      have f1540 : (q_I r1491 12 24 a0).toInt = (q_I d1485 12 24 a0).toInt := congrArg Int32.toInt (u1497 12 24 a0 (by decide))
                      have f1541 := cb_12_24 i1487 k_a0
                      have f1542 : (q_I d1485 12 24 a0).toInt = (q_I r1453.2 12 24 a0).toInt := congrArg Int32.toInt (by rw [e1486]; rfl)
                      have f1543 := cb_12_24 i1455 k_a0
                      have f1544 : (q_I r1453.2 12 24 a0).toInt = (q_I d1440 12 24 a0).toInt := congrArg Int32.toInt (u1462 12 24 a0 (by decide))
                      have f1545 := cb_12_24 i1442 k_a0
                      have f1546 : (q_I d1440 12 24 a0).toInt = (q_I d1421 12 24 a0).toInt := congrArg Int32.toInt (by rw [e1441]; rfl)
                      have f1547 := cb_12_24 i1423 k_a0
                      have f1548 : (q_I d1421 12 24 a0).toInt = (q_I r1366 12 24 a0).toInt := congrArg Int32.toInt (by rw [e1422]; exact rI_o (by decide))
                      have f1549 := cb_12_26 i1512 k_a0
                      have f1550 : (q_I d1510 12 26 a0).toInt = (q_I r1491 12 26 a0).toInt := congrArg Int32.toInt (by rw [e1511]; exact rI_o (by decide))
                      have f1551 := cb_12_26 i1493 k_a0
                      have f1552 : (q_I r1491 12 26 a0).toInt = (q_I d1485 12 26 a0).toInt := congrArg Int32.toInt (u1497 12 26 a0 (by decide))
                      have f1553 := cb_12_26 i1487 k_a0
                      have f1554 : (q_I d1485 12 26 a0).toInt = (q_I r1453.2 12 26 a0).toInt := congrArg Int32.toInt (by rw [e1486]; rfl)
                      have f1555 := cb_12_26 i1455 k_a0
                      have f1556 : (q_I r1453.2 12 26 a0).toInt = (q_I d1440 12 26 a0).toInt := congrArg Int32.toInt (u1462 12 26 a0 (by decide))
                      have f1557 := cb_12_26 i1442 k_a0
                      have f1558 : (q_I d1440 12 26 a0).toInt = (q_I d1421 12 26 a0).toInt := congrArg Int32.toInt (by rw [e1441]; rfl)
                      have f1559 := cb_12_26 i1423 k_a0
                      have f1560 : (q_I d1421 12 26 a0).toInt = (q_I r1366 12 26 a0).toInt := congrArg Int32.toInt (by rw [e1422]; exact rI_o (by decide))
                      have f1561 := cb_12_26 i1368 k_a0
                      have f1562 : (q_I r1366 12 26 a0).toInt = (q_I r1315 12 26 a0).toInt := congrArg Int32.toInt (u1371 12 26 a0 (by decide))
                      have f1563 := cb_12_26 i1317 k_a0
                      have f1564 : (q_I r1315 12 26 a0).toInt = (q_I r97.2 12 26 a0).toInt := congrArg Int32.toInt (u1320 12 26 a0 (by decide))
                      have f1565 := cb_12_26 i99 k_a0
                      have f1566 : (q_I r97.2 12 26 a0).toInt = (q_I r48.2 12 26 a0).toInt := congrArg Int32.toInt (u102 12 26 a0 (by decide))
                      have f1567 := cb_12_26 i50 k_a0
                      have f1568 : (q_I r48.2 12 26 a0).toInt = (q_I r19.2 12 26 a0).toInt := congrArg Int32.toInt (u54 12 26 a0 (by decide))
                      have f1569 := cb_12_26 i21 k_a0
                      have f1570 : (q_I r19.2 12 26 a0).toInt = (q_I δ 12 26 a0).toInt := congrArg Int32.toInt (u25 12 26 a0 (by decide))
                      have f1571 := cb_12_4 i1512 k_a0
                      have f1572 : (q_I d1510 12 4 a0).toInt = (q_I r1491 12 4 a0).toInt := congrArg Int32.toInt (by rw [e1511]; exact rI_o (by decide))
                      have f1573 := ti_b (q_I d1510 12 7 a0)
                      have f1574 : (q_I d1510 12 7 a0).toInt = (q_I r1491 12 7 a0).toInt := congrArg Int32.toInt (by rw [e1511]; exact rI_o (by decide))
                      have f1575 := ti_b (q_I r1491 12 7 a0)
                      have f1576 : (q_I r1491 12 7 a0).toInt = (q_I d1485 12 7 a0).toInt := congrArg Int32.toInt (u1497 12 7 a0 (by decide))
                      have f1577 := ti_b (q_I d1485 12 7 a0)
                      have f1578 : (q_I d1485 12 7 a0).toInt = (q_I r1453.2 12 7 a0).toInt := congrArg Int32.toInt (by rw [e1486]; rfl)
                      have f1579 := ti_b (q_I r1453.2 12 7 a0)
                      have f1580 : (q_I r1453.2 12 7 a0).toInt = (q_I d1440 12 7 a0).toInt := congrArg Int32.toInt (u1462 12 7 a0 (by decide))
                      have f1581 := ti_b (q_I d1440 12 7 a0)
                      have f1582 : (q_I d1440 12 7 a0).toInt = (q_I d1421 12 7 a0).toInt := congrArg Int32.toInt (by rw [e1441]; rfl)
                      have f1583 := ti_b (q_I d1421 12 7 a0)
                      have f1584 : (q_I d1421 12 7 a0).toInt = (q_I r1366 12 7 a0).toInt := congrArg Int32.toInt (by rw [e1422]; exact rI_o (by decide))
                      have f1585 := ti_b (q_I r1366 12 7 a0)
                      have f1586 : (q_I r1366 12 7 a0).toInt = (q_I r1315 12 7 a0).toInt := congrArg Int32.toInt (u1371 12 7 a0 (by decide))
                      have f1587 := ti_b (q_I r1315 12 7 a0)
                      have f1588 : (q_I r1315 12 7 a0).toInt = (q_I r97.2 12 7 a0).toInt := congrArg Int32.toInt (u1320 12 7 a0 (by decide))
                      have f1589 := ti_b (q_I r97.2 12 7 a0)
                      have f1590 : (q_I r97.2 12 7 a0).toInt = (q_I r48.2 12 7 a0).toInt := congrArg Int32.toInt (u102 12 7 a0 (by decide))
                      have f1591 := ti_b (q_I r48.2 12 7 a0)
                      have f1592 : (q_I r48.2 12 7 a0).toInt = (q_I r19.2 12 7 a0).toInt := congrArg Int32.toInt (u54 12 7 a0 (by decide))
                      have f1593 := ti_b (q_I r19.2 12 7 a0)
                      have f1594 : (q_I r19.2 12 7 a0).toInt = (q_I δ 12 7 a0).toInt := congrArg Int32.toInt (u25 12 7 a0 (by decide))
                      have f1595 := cb_12_27 i1512 k_a0
                      have f1596 : (q_I d1510 12 27 a0).toInt = ((q_I r1491 12 27 a0) + (1 : Int32)).toInt := congrArg Int32.toInt (show q_I d1510 12 27 a0 = ((q_I r1491 12 27 a0) + (1 : Int32)) by rw [e1511]; exact rI_s)
                      refine ok_bind (hT a0 d1510 k_a0 (show (q_I d1510 12 24 a0).toInt ≤ 3 by first | assumption | omega) (show (q_I d1510 12 26 a0).toInt ≤ (q_I d1510 12 4 a0).toInt by first | assumption | omega) (show (q_I d1510 12 7 a0).toInt = 0 by first | assumption | omega) (show 4 - (q_I d1510 12 27 a0).toInt < _ by first | assumption | omega) i1512) (fun r1535 hr1536 => ?_)
                      obtain ⟨i1597, ⟨u1603, u1604, u1605⟩, p1598, p1599, p1600, p1601, p1602⟩ := hr1536
                      have u1606 := kp_t u1532 u1603
                      have v1607 : q_V r1535 = q_V δ := (u1604).trans v1533
                      have v1608 := kr_t v1534 u1605
                      have f1609 := cb_12_4 i1597 k_a0
                      have f1610 := cb_12_5 i1512 k_a0
                      have f1611 : (q_I d1510 12 5 a0).toInt = (q_I r1491 12 5 a0).toInt := congrArg Int32.toInt (by rw [e1511]; exact rI_o (by decide))
                      have f1612 := cb_12_5 i1597 k_a0
                      have f1613 := ti_b (q_I r1535 12 7 a0)
                      have f1614 := cb_12_27 i1597 k_a0
                      have f1615 := cb_12_26 i1597 k_a0
                      first | (have q1620 := te_subc (c := 1) (n := 1) rfl (q_I r1535 12 27 a0) (by omega) (by omega); obtain ⟨f1621, f1622, f1623⟩ := q1620) | (obtain ⟨q1620, f1621, f1622, f1623⟩ := ti_subc (c := 1) (n := 1) rfl (q_I r1535 12 27 a0))
                      refine ok_bdv (fun d1616 e1617 => ?_)
                      have i1618 : RI ad h.1 δ0 d1616 := by rw [e1617]; exact cs_12_27 L i1597 k_a0 (show 0 ≤ ((q_I r1535 12 27 a0) - (1 : Int32)).toInt by omega) (show ((q_I r1535 12 27 a0) - (1 : Int32)).toInt ≤ 3 by omega)
                      have u1624 := kp_I u1606 e1617
                      have v1625 : q_V d1616 = q_V δ := ((show q_V d1616 = q_V r1535 by rw [e1617]; rfl)).trans v1607
                      have v1626 := kr_N v1608 (show q_R d1616 = q_R r1535 by rw [e1617]; rfl)
                      refine ok_bind (k_X12_sign L hN (a0 := a0) (x1 := (93 : Int32)) k_a0 (show (93 : Int) ≠ 0 by first | assumption | omega) i1618) (fun r1627 hr1628 => ?_)
                      obtain ⟨i1629, ⟨u1633, u1634, u1635, u1636⟩, p1630, p1631, p1632⟩ := hr1628
                      have u1637 := kp_t u1624 u1633
                      have v1638 : q_V r1627 = q_V δ := (u1634).trans v1625
                      have v1639 := kr_t v1626 u1636
                      have f1640 := cb_12_4 i1618 k_a0
                      have f1641 : (q_I d1616 12 4 a0).toInt = (q_I r1535 12 4 a0).toInt := congrArg Int32.toInt (by rw [e1617]; exact rI_o (by decide))
                      have f1642 := cb_12_4 i1629 k_a0
                      have f1643 := cb_12_5 i1618 k_a0
                      have f1644 : (q_I d1616 12 5 a0).toInt = (q_I r1535 12 5 a0).toInt := congrArg Int32.toInt (by rw [e1617]; exact rI_o (by decide))
                      have f1645 := cb_12_5 i1629 k_a0
                      obtain ⟨b1646, o1647, k1648, n1649, w1650⟩ := gO_12_31 L k_a0
                      obtain rfl := gS_12_31 L k_a0 o1647
                      refine ok_at o1647 ?_
                      refine ok_gd (fun hc1651 => ?_) ?_
                      · rcases hc1651 with hc1651 | hc1651
                        · have c1652 : vx1396.toInt < (0 : Int) := o_lt hc1651
                          omega
                        · omega
                      refine ok_bdv (fun d1653 e1654 => ?_)
                      have i1655 : RI ad h.1 δ0 d1653 := by rw [e1654]; exact RI.sR L i1629 w1650
                      have u1656 := kp_N u1637 (show q_I d1653 = q_I r1627 by rw [e1654]; rfl)
                      have v1657 : q_V d1653 = q_V δ := ((show q_V d1653 = q_V r1627 by rw [e1654]; rfl)).trans v1638
                      have v1658 := kr_s L (by decide) v1639 e1654
                      unfold J_X12_readSteps_236
                      have f1659 := cb_12_24 i1655 k_a0
                      have f1660 : (q_I d1653 12 24 a0).toInt = (q_I r1627 12 24 a0).toInt := congrArg Int32.toInt (by rw [e1654]; rfl)
                      have f1661 := cb_12_24 i1629 k_a0
                      have f1662 : (q_I r1627 12 24 a0).toInt = (q_I d1616 12 24 a0).toInt := congrArg Int32.toInt (u1633 12 24 a0 (by decide))
                      have f1663 := cb_12_24 i1618 k_a0
                      have f1664 : (q_I d1616 12 24 a0).toInt = (q_I r1535 12 24 a0).toInt := congrArg Int32.toInt (by rw [e1617]; exact rI_o (by decide))
                      have f1665 := cb_12_24 i1597 k_a0
                      have f1666 : (q_I r1535 12 24 a0).toInt = (q_I d1510 12 24 a0).toInt := congrArg Int32.toInt (u1603 12 24 a0 (by decide))
                      have f1667 := cb_12_26 i1655 k_a0
                      have f1668 : (q_I d1653 12 26 a0).toInt = (q_I r1627 12 26 a0).toInt := congrArg Int32.toInt (by rw [e1654]; rfl)
                      have f1669 := cb_12_26 i1629 k_a0
                      have f1670 : (q_I r1627 12 26 a0).toInt = (q_I d1616 12 26 a0).toInt := congrArg Int32.toInt (u1633 12 26 a0 (by decide))
                      have f1671 := cb_12_26 i1618 k_a0
                      have f1672 : (q_I d1616 12 26 a0).toInt = (q_I r1535 12 26 a0).toInt := congrArg Int32.toInt (by rw [e1617]; exact rI_o (by decide))
                      have f1673 := cb_12_4 i1655 k_a0
                      have f1674 : (q_I d1653 12 4 a0).toInt = (q_I r1627 12 4 a0).toInt := congrArg Int32.toInt (by rw [e1654]; rfl)
                      have f1675 := ti_b (q_I d1653 12 7 a0)
                      have f1676 : (q_I d1653 12 7 a0).toInt = (q_I r1627 12 7 a0).toInt := congrArg Int32.toInt (by rw [e1654]; rfl)
                      have f1677 := ti_b (q_I r1627 12 7 a0)
                      have f1678 : (q_I r1627 12 7 a0).toInt = (q_I d1616 12 7 a0).toInt := congrArg Int32.toInt (u1633 12 7 a0 (by decide))
                      have f1679 := ti_b (q_I d1616 12 7 a0)
                      have f1680 : (q_I d1616 12 7 a0).toInt = (q_I r1535 12 7 a0).toInt := congrArg Int32.toInt (by rw [e1617]; exact rI_o (by decide))
                      have f1681 := cb_12_27 i1655 k_a0
                      have f1682 : (q_I d1653 12 27 a0).toInt = (q_I r1627 12 27 a0).toInt := congrArg Int32.toInt (by rw [e1654]; rfl)
                      have f1683 := cb_12_27 i1629 k_a0
                      have f1684 : (q_I r1627 12 27 a0).toInt = (q_I d1616 12 27 a0).toInt := congrArg Int32.toInt (u1633 12 27 a0 (by decide))
                      have f1685 := cb_12_27 i1618 k_a0
                      have f1686 : (q_I d1616 12 27 a0).toInt = ((q_I r1535 12 27 a0) - (1 : Int32)).toInt := congrArg Int32.toInt (show q_I d1616 12 27 a0 = ((q_I r1535 12 27 a0) - (1 : Int32)) by rw [e1617]; exact rI_s)
                      refine ok_mono (ih d1653 i1655 (show (q_I d1653 12 24 a0).toInt ≤ 3 by first | assumption | omega) (show (q_I d1653 12 26 a0).toInt ≤ (q_I d1653 12 4 a0).toInt by first | assumption | omega) (show (q_I d1653 12 7 a0).toInt = 0 by first | assumption | omega) (show 4 - (q_I d1653 12 27 a0).toInt ≤ K by first | assumption | omega) (show 501 - (q_I d1653 12 4 a0).toInt < _ by omega)) (fun r1687 hr1688 => ?_)
                      obtain ⟨i1689, ⟨u1695, u1696, u1697⟩, p1690, p1691, p1692, p1693, p1694⟩ := hr1688
                      have u1698 := kp_t u1656 u1695
                      have v1699 : q_V r1687 = q_V δ := (u1696).trans v1657
                      have v1700 := kr_t v1658 u1697
                      have f1701 := cb_12_4 i1689 k_a0
                      have f1702 := cb_12_5 i1655 k_a0
                      have f1703 : (q_I d1653 12 5 a0).toInt = (q_I r1627 12 5 a0).toInt := congrArg Int32.toInt (by rw [e1654]; rfl)
                      have f1704 := cb_12_5 i1689 k_a0
                      have f1705 := ti_b (q_I r1687 12 7 a0)
                      have f1706 := cb_12_27 i1689 k_a0
                      have f1707 := cb_12_26 i1689 k_a0
                      exact ⟨by assumption, ⟨kp_w (by decide) u1698, v1699, kr_w (by decide) v1700⟩, by first | assumption | omega, by first | assumption | omega, by first | assumption | omega, by first | assumption | omega, by first | assumption | omega⟩
                    · have c1708 : r123.1.toInt ≠ (5 : Int) := o_ne h1446
                      obtain ⟨b1709, o1710, k1711, n1712, w1713⟩ := gO_12_30 L k_a0
                      obtain rfl := gS_12_30 L k_a0 o1710
                      refine ok_at o1710 ?_
                      refine ok_gd (fun hc1714 => ?_) ?_
                      · rcases hc1714 with hc1714 | hc1714
                        · have c1715 : vx1396.toInt < (0 : Int) := o_lt hc1714
                          omega
                        · omega
                      refine ok_bdv (fun d1716 e1717 => ?_)
                      have i1718 : RI ad h.1 δ0 d1716 := by rw [e1717]; exact RI.sR L i1442 w1713
                      have u1719 := kp_N u1443 (show q_I d1716 = q_I d1440 by rw [e1717]; rfl)
                      have v1720 : q_V d1716 = q_V δ := ((show q_V d1716 = q_V d1440 by rw [e1717]; rfl)).trans v1444
                      have v1721 := kr_s L (by decide) v1445 e1717
                      have f1724 := cb_12_24 i1718 k_a0
                      have f1725 : (q_I d1716 12 24 a0).toInt = (q_I d1440 12 24 a0).toInt := congrArg Int32.toInt (by rw [e1717]; rfl)
                      have f1726 := cb_12_24 i1442 k_a0
                      have f1727 : (q_I d1440 12 24 a0).toInt = (q_I d1421 12 24 a0).toInt := congrArg Int32.toInt (by rw [e1441]; rfl)
                      have f1728 := cb_12_24 i1423 k_a0
                      have f1729 : (q_I d1421 12 24 a0).toInt = (q_I r1366 12 24 a0).toInt := congrArg Int32.toInt (by rw [e1422]; exact rI_o (by decide))
                      have f1730 := cb_12_26 i1718 k_a0
                      have f1731 : (q_I d1716 12 26 a0).toInt = (q_I d1440 12 26 a0).toInt := congrArg Int32.toInt (by rw [e1717]; rfl)
                      have f1732 := cb_12_26 i1442 k_a0
                      have f1733 : (q_I d1440 12 26 a0).toInt = (q_I d1421 12 26 a0).toInt := congrArg Int32.toInt (by rw [e1441]; rfl)
                      have f1734 := cb_12_26 i1423 k_a0
                      have f1735 : (q_I d1421 12 26 a0).toInt = (q_I r1366 12 26 a0).toInt := congrArg Int32.toInt (by rw [e1422]; exact rI_o (by decide))
                      have f1736 := cb_12_26 i1368 k_a0
                      have f1737 : (q_I r1366 12 26 a0).toInt = (q_I r1315 12 26 a0).toInt := congrArg Int32.toInt (u1371 12 26 a0 (by decide))
                      have f1738 := cb_12_26 i1317 k_a0
                      have f1739 : (q_I r1315 12 26 a0).toInt = (q_I r97.2 12 26 a0).toInt := congrArg Int32.toInt (u1320 12 26 a0 (by decide))
                      have f1740 := cb_12_26 i99 k_a0
                      have f1741 : (q_I r97.2 12 26 a0).toInt = (q_I r48.2 12 26 a0).toInt := congrArg Int32.toInt (u102 12 26 a0 (by decide))
                      have f1742 := cb_12_26 i50 k_a0
                      have f1743 : (q_I r48.2 12 26 a0).toInt = (q_I r19.2 12 26 a0).toInt := congrArg Int32.toInt (u54 12 26 a0 (by decide))
                      have f1744 := cb_12_26 i21 k_a0
                      have f1745 : (q_I r19.2 12 26 a0).toInt = (q_I δ 12 26 a0).toInt := congrArg Int32.toInt (u25 12 26 a0 (by decide))
                      have f1746 := cb_12_4 i1718 k_a0
                      have f1747 : (q_I d1716 12 4 a0).toInt = (q_I d1440 12 4 a0).toInt := congrArg Int32.toInt (by rw [e1717]; rfl)
                      have f1748 := cb_12_4 i1442 k_a0
                      have f1749 : (q_I d1440 12 4 a0).toInt = (q_I d1421 12 4 a0).toInt := congrArg Int32.toInt (by rw [e1441]; rfl)
                      have f1750 := cb_12_4 i1423 k_a0
                      have f1751 : (q_I d1421 12 4 a0).toInt = (q_I r1366 12 4 a0).toInt := congrArg Int32.toInt (by rw [e1422]; exact rI_o (by decide))
                      have f1752 := ti_b (q_I d1716 12 7 a0)
                      have f1753 : (q_I d1716 12 7 a0).toInt = (q_I d1440 12 7 a0).toInt := congrArg Int32.toInt (by rw [e1717]; rfl)
                      have f1754 := ti_b (q_I d1440 12 7 a0)
                      have f1755 : (q_I d1440 12 7 a0).toInt = (q_I d1421 12 7 a0).toInt := congrArg Int32.toInt (by rw [e1441]; rfl)
                      have f1756 := ti_b (q_I d1421 12 7 a0)
                      have f1757 : (q_I d1421 12 7 a0).toInt = (q_I r1366 12 7 a0).toInt := congrArg Int32.toInt (by rw [e1422]; exact rI_o (by decide))
                      have f1758 := ti_b (q_I r1366 12 7 a0)
                      have f1759 : (q_I r1366 12 7 a0).toInt = (q_I r1315 12 7 a0).toInt := congrArg Int32.toInt (u1371 12 7 a0 (by decide))
                      have f1760 := ti_b (q_I r1315 12 7 a0)
                      have f1761 : (q_I r1315 12 7 a0).toInt = (q_I r97.2 12 7 a0).toInt := congrArg Int32.toInt (u1320 12 7 a0 (by decide))
                      have f1762 := ti_b (q_I r97.2 12 7 a0)
                      have f1763 : (q_I r97.2 12 7 a0).toInt = (q_I r48.2 12 7 a0).toInt := congrArg Int32.toInt (u102 12 7 a0 (by decide))
                      have f1764 := ti_b (q_I r48.2 12 7 a0)
                      have f1765 : (q_I r48.2 12 7 a0).toInt = (q_I r19.2 12 7 a0).toInt := congrArg Int32.toInt (u54 12 7 a0 (by decide))
                      have f1766 := ti_b (q_I r19.2 12 7 a0)
                      have f1767 : (q_I r19.2 12 7 a0).toInt = (q_I δ 12 7 a0).toInt := congrArg Int32.toInt (u25 12 7 a0 (by decide))
                      have f1768 := cb_12_5 i1718 k_a0
                      have f1769 : (q_I d1716 12 5 a0).toInt = (q_I d1440 12 5 a0).toInt := congrArg Int32.toInt (by rw [e1717]; rfl)
                      have f1770 := cb_12_5 i1442 k_a0
                      have f1771 : (q_I d1440 12 5 a0).toInt = (q_I d1421 12 5 a0).toInt := congrArg Int32.toInt (by rw [e1441]; rfl)
                      have f1772 := cb_12_5 i1423 k_a0
                      have f1773 : (q_I d1421 12 5 a0).toInt = (q_I r1366 12 5 a0).toInt := congrArg Int32.toInt (by rw [e1422]; exact rI_o (by decide))
                      have f1774 := cb_12_5 i1368 k_a0
                      have f1775 : (q_I r1366 12 5 a0).toInt = (q_I r1315 12 5 a0).toInt := congrArg Int32.toInt (u1371 12 5 a0 (by decide))
                      refine ok_bind (k_X12_sum L hN (a0 := a0) k_a0 (show (q_I d1716 12 24 a0).toInt ≤ 3 by first | assumption | omega) (show (q_I d1716 12 26 a0).toInt ≤ (q_I d1716 12 4 a0).toInt by first | assumption | omega) (show 0 ≤ (q_I d1716 12 7 a0).toInt by first | assumption | omega) (show (q_I d1716 12 7 a0).toInt ≤ 7 by first | assumption | omega) (show (q_I d1716 12 7 a0).toInt = 7 → 0 ≤ (q_I d1716 12 5 a0).toInt by first | assumption | omega) (show 8 - (q_I d1716 12 7 a0).toInt < 20 by first | assumption | omega) i1718) (fun r1722 hr1723 => ?_)
                      obtain ⟨i1776, ⟨u1783, u1784, u1785⟩, p1777, p1778, p1779, p1780, p1781, p1782⟩ := hr1723
                      have u1786 := kp_t u1719 u1783
                      have v1787 : q_V r1722 = q_V δ := (u1784).trans v1720
                      have v1788 := kr_t v1721 u1785
                      have f1789 := cb_12_4 i1776 k_a0
                      have f1790 := cb_12_5 i1776 k_a0
                      have f1791 := ti_b (q_I r1722 12 7 a0)
                      have f1792 := cb_12_26 i1776 k_a0
                      obtain ⟨b1793, o1794, k1795, n1796, w1797⟩ := gO_12_31 L k_a0
                      obtain rfl := gS_12_31 L k_a0 o1794
                      refine ok_at o1794 ?_
                      refine ok_gd (fun hc1798 => ?_) ?_
                      · rcases hc1798 with hc1798 | hc1798
                        · have c1799 : vx1396.toInt < (0 : Int) := o_lt hc1798
                          omega
                        · omega
                      refine ok_bdv (fun d1800 e1801 => ?_)
                      have i1802 : RI ad h.1 δ0 d1800 := by rw [e1801]; exact RI.sR L i1776 w1797
                      have u1803 := kp_N u1786 (show q_I d1800 = q_I r1722 by rw [e1801]; rfl)
                      have v1804 : q_V d1800 = q_V δ := ((show q_V d1800 = q_V r1722 by rw [e1801]; rfl)).trans v1787
                      have v1805 := kr_s L (by decide) v1788 e1801
                      refine ok_bind (k_X12_sign L hN (a0 := a0) (x1 := (59 : Int32)) k_a0 (show (59 : Int) ≠ 0 by first | assumption | omega) i1802) (fun r1806 hr1807 => ?_)
                      obtain ⟨i1808, ⟨u1812, u1813, u1814, u1815⟩, p1809, p1810, p1811⟩ := hr1807
                      have u1816 := kp_t u1803 u1812
                      have v1817 : q_V r1806 = q_V δ := (u1813).trans v1804
                      have v1818 := kr_t v1805 u1815
                      have f1819 := cb_12_4 i1802 k_a0
                      have f1820 : (q_I d1800 12 4 a0).toInt = (q_I r1722 12 4 a0).toInt := congrArg Int32.toInt (by rw [e1801]; rfl)
                      have f1821 := cb_12_4 i1808 k_a0
                      have f1822 := cb_12_5 i1802 k_a0
                      have f1823 : (q_I d1800 12 5 a0).toInt = (q_I r1722 12 5 a0).toInt := congrArg Int32.toInt (by rw [e1801]; rfl)
                      have f1824 := cb_12_5 i1808 k_a0
                      unfold J_X12_readSteps_236
                      have f1825 := cb_12_24 i1808 k_a0
                      have f1826 : (q_I r1806 12 24 a0).toInt = (q_I d1800 12 24 a0).toInt := congrArg Int32.toInt (u1812 12 24 a0 (by decide))
                      have f1827 := cb_12_24 i1802 k_a0
                      have f1828 : (q_I d1800 12 24 a0).toInt = (q_I r1722 12 24 a0).toInt := congrArg Int32.toInt (by rw [e1801]; rfl)
                      have f1829 := cb_12_24 i1776 k_a0
                      have f1830 : (q_I r1722 12 24 a0).toInt = (q_I d1716 12 24 a0).toInt := congrArg Int32.toInt (u1783 12 24 a0 (by decide))
                      have f1831 := cb_12_26 i1808 k_a0
                      have f1832 : (q_I r1806 12 26 a0).toInt = (q_I d1800 12 26 a0).toInt := congrArg Int32.toInt (u1812 12 26 a0 (by decide))
                      have f1833 := cb_12_26 i1802 k_a0
                      have f1834 : (q_I d1800 12 26 a0).toInt = (q_I r1722 12 26 a0).toInt := congrArg Int32.toInt (by rw [e1801]; rfl)
                      have f1835 := ti_b (q_I r1806 12 7 a0)
                      have f1836 : (q_I r1806 12 7 a0).toInt = (q_I d1800 12 7 a0).toInt := congrArg Int32.toInt (u1812 12 7 a0 (by decide))
                      have f1837 := ti_b (q_I d1800 12 7 a0)
                      have f1838 : (q_I d1800 12 7 a0).toInt = (q_I r1722 12 7 a0).toInt := congrArg Int32.toInt (by rw [e1801]; rfl)
                      have f1839 := cb_12_27 i1808 k_a0
                      have f1840 : (q_I r1806 12 27 a0).toInt = (q_I d1800 12 27 a0).toInt := congrArg Int32.toInt (u1812 12 27 a0 (by decide))
                      have f1841 := cb_12_27 i1802 k_a0
                      have f1842 : (q_I d1800 12 27 a0).toInt = (q_I r1722 12 27 a0).toInt := congrArg Int32.toInt (by rw [e1801]; rfl)
                      have f1843 := cb_12_27 i1776 k_a0
                      have f1844 : (q_I r1722 12 27 a0).toInt = (q_I d1716 12 27 a0).toInt := congrArg Int32.toInt (u1783 12 27 a0 (by decide))
                      have f1845 := cb_12_27 i1718 k_a0
                      have f1846 : (q_I d1716 12 27 a0).toInt = (q_I d1440 12 27 a0).toInt := congrArg Int32.toInt (by rw [e1717]; rfl)
                      have f1847 := cb_12_27 i1442 k_a0
                      have f1848 : (q_I d1440 12 27 a0).toInt = (q_I d1421 12 27 a0).toInt := congrArg Int32.toInt (by rw [e1441]; rfl)
                      have f1849 := cb_12_27 i1423 k_a0
                      have f1850 : (q_I d1421 12 27 a0).toInt = (q_I r1366 12 27 a0).toInt := congrArg Int32.toInt (by rw [e1422]; exact rI_o (by decide))
                      have f1851 := cb_12_27 i1368 k_a0
                      have f1852 : (q_I r1366 12 27 a0).toInt = (q_I r1315 12 27 a0).toInt := congrArg Int32.toInt (u1371 12 27 a0 (by decide))
                      have f1853 := cb_12_27 i1317 k_a0
                      have f1854 : (q_I r1315 12 27 a0).toInt = (q_I r97.2 12 27 a0).toInt := congrArg Int32.toInt (u1320 12 27 a0 (by decide))
                      refine ok_mono (ih r1806 i1808 (show (q_I r1806 12 24 a0).toInt ≤ 3 by first | assumption | omega) (show (q_I r1806 12 26 a0).toInt ≤ (q_I r1806 12 4 a0).toInt by first | assumption | omega) (show (q_I r1806 12 7 a0).toInt = 0 by first | assumption | omega) (show 4 - (q_I r1806 12 27 a0).toInt ≤ K by first | assumption | omega) (show 501 - (q_I r1806 12 4 a0).toInt < _ by omega)) (fun r1855 hr1856 => ?_)
                      obtain ⟨i1857, ⟨u1863, u1864, u1865⟩, p1858, p1859, p1860, p1861, p1862⟩ := hr1856
                      have u1866 := kp_t u1816 u1863
                      have v1867 : q_V r1855 = q_V δ := (u1864).trans v1817
                      have v1868 := kr_t v1818 u1865
                      have f1869 := cb_12_4 i1857 k_a0
                      have f1870 := cb_12_5 i1857 k_a0
                      have f1871 := ti_b (q_I r1855 12 7 a0)
                      have f1872 := cb_12_27 i1857 k_a0
                      have f1873 := cb_12_26 i1857 k_a0
                      exact ⟨by assumption, ⟨kp_w (by decide) u1866, v1867, kr_w (by decide) v1868⟩, by first | assumption | omega, by first | assumption | omega, by first | assumption | omega, by first | assumption | omega, by first | assumption | omega⟩
                · have c1874 : (q_I r97.2 12 27 a0).toInt ≠ (3 : Int) := o_ne h1313
                  unfold J_X12_readSteps_79
                  refine ok_bind (k_X12_fine L hN (a0 := a0) k_a0 i99) (fun r1875 hr1876 => ?_)
                  obtain ⟨i1877, p1878, p1879, p1880⟩ := hr1876
                  try rw [i1877]
                  have f1881 := bo_l p1878
                  have f1882 := cb_12_5 i99 k_a0
                  have f1883 : (q_I r97.2 12 5 a0).toInt = (q_I r48.2 12 5 a0).toInt := congrArg Int32.toInt (u102 12 5 a0 (by decide))
                  have f1884 := cb_12_5 i50 k_a0
                  have f1885 : (q_I r48.2 12 5 a0).toInt = (q_I r19.2 12 5 a0).toInt := congrArg Int32.toInt (u54 12 5 a0 (by decide))
                  have f1886 := cb_12_5 i21 k_a0
                  have f1887 : (q_I r19.2 12 5 a0).toInt = (q_I δ 12 5 a0).toInt := congrArg Int32.toInt (u25 12 5 a0 (by decide))
                  have f1888 := ti_b r1875.1
                  have f1889 := ti_b r1875.1
                  refine ok_ite (fun h1890 => ?_) (fun h1890 => ?_)
                  · have c1891 : r1875.1.toInt = (0 : Int) := o_eq h1890
                    have f1892 := ti_b (q_I r97.2 12 7 a0)
                    have f1893 : (q_I r97.2 12 7 a0).toInt = (q_I r48.2 12 7 a0).toInt := congrArg Int32.toInt (u102 12 7 a0 (by decide))
                    have f1894 := ti_b (q_I r48.2 12 7 a0)
                    have f1895 : (q_I r48.2 12 7 a0).toInt = (q_I r19.2 12 7 a0).toInt := congrArg Int32.toInt (u54 12 7 a0 (by decide))
                    have f1896 := ti_b (q_I r19.2 12 7 a0)
                    have f1897 : (q_I r19.2 12 7 a0).toInt = (q_I δ 12 7 a0).toInt := congrArg Int32.toInt (u25 12 7 a0 (by decide))
                    have f1898 := cb_12_26 i99 k_a0
                    have f1899 : (q_I r97.2 12 26 a0).toInt = (q_I r48.2 12 26 a0).toInt := congrArg Int32.toInt (u102 12 26 a0 (by decide))
                    have f1900 := cb_12_26 i50 k_a0
                    have f1901 : (q_I r48.2 12 26 a0).toInt = (q_I r19.2 12 26 a0).toInt := congrArg Int32.toInt (u54 12 26 a0 (by decide))
                    have f1902 := cb_12_26 i21 k_a0
                    have f1903 : (q_I r19.2 12 26 a0).toInt = (q_I δ 12 26 a0).toInt := congrArg Int32.toInt (u25 12 26 a0 (by decide))
                    exact ok_some (show RI ad h.1 δ0 r97.2 ∧ (kp [(12, 4), (12, 5), (12, 6), (12, 7), (12, 25), (12, 26), (12, 27)] δ r97.2 ∧ q_V r97.2 = q_V δ ∧ kr ad [113, 114, 115, 116, 117] δ r97.2) ∧ (q_I δ 12 4 a0).toInt ≤ (q_I r97.2 12 4 a0).toInt ∧ (q_I δ 12 5 a0).toInt ≤ (q_I r97.2 12 5 a0).toInt ∧ (q_I r97.2 12 7 a0).toInt = (q_I δ 12 7 a0).toInt ∧ (q_I r97.2 12 27 a0).toInt = (q_I δ 12 27 a0).toInt ∧ (q_I r97.2 12 26 a0).toInt ≤ (q_I r97.2 12 4 a0).toInt from ⟨i99, ⟨kp_w (by decide) u106, v107, kr_w (by decide) v108⟩, by first | assumption | omega, by first | assumption | omega, by first | assumption | omega, by first | assumption | omega, by first | assumption | omega⟩)
                  · have c1904 : r1875.1.toInt ≠ (0 : Int) := o_ne h1890
                    refine ok_bind (k_X12_pass L hN (a0 := a0) k_a0 i99) (fun r1905 hr1906 => ?_)
                    obtain ⟨i1907, ⟨u1910, u1911, u1912, u1913⟩, p1908, p1909⟩ := hr1906
                    have u1914 := kp_t u106 u1910
                    have v1915 : q_V r1905 = q_V δ := (u1911).trans v107
                    have v1916 := kr_t v108 u1913
                    have f1917 := cb_12_4 i1907 k_a0
                    have f1918 := cb_12_3 i99 k_a0
                    have f1919 : (q_I r97.2 12 3 a0).toInt = (q_I r48.2 12 3 a0).toInt := congrArg Int32.toInt (u102 12 3 a0 (by decide))
                    have f1923 := cb_12_24 i1907 k_a0
                    have f1924 : (q_I r1905 12 24 a0).toInt = (q_I r97.2 12 24 a0).toInt := congrArg Int32.toInt (u1910 12 24 a0 (by decide))
                    have f1925 := cb_12_24 i99 k_a0
                    have f1926 : (q_I r97.2 12 24 a0).toInt = (q_I r48.2 12 24 a0).toInt := congrArg Int32.toInt (u102 12 24 a0 (by decide))
                    have f1927 := cb_12_24 i50 k_a0
                    have f1928 : (q_I r48.2 12 24 a0).toInt = (q_I r19.2 12 24 a0).toInt := congrArg Int32.toInt (u54 12 24 a0 (by decide))
                    have f1929 := cb_12_24 i21 k_a0
                    have f1930 : (q_I r19.2 12 24 a0).toInt = (q_I δ 12 24 a0).toInt := congrArg Int32.toInt (u25 12 24 a0 (by decide))
                    first | (have q1931 := te_mulc (c := 60) (n := 60) rfl (q_I r1905 12 24 a0) (by omega) (by omega); obtain ⟨f1932, f1933, f1934⟩ := q1931) | (obtain ⟨q1931, f1932, f1933, f1934⟩ := ti_mulc (c := 60) (n := 60) rfl (q_I r1905 12 24 a0))
                    have f1935 := cb_12_25 i1907 k_a0
                    have f1936 : (q_I r1905 12 25 a0).toInt = (q_I r97.2 12 25 a0).toInt := congrArg Int32.toInt (u1910 12 25 a0 (by decide))
                    refine ok_biv (fun vx1920 e1921 => ?_)
                    first | (have q1937 := te_add ((60 : Int32) * (q_I r1905 12 24 a0)) (q_I r1905 12 25 a0) (by omega) (by omega); rw [← e1921] at q1937; obtain ⟨f1938, f1939, f1940⟩ := q1937) | (obtain ⟨q1937, f1938, f1939, f1940⟩ : ∃ q : Int, vx1920.toInt = ((60 : Int32) * (q_I r1905 12 24 a0)).toInt + (q_I r1905 12 25 a0).toInt + 4294967296 * q ∧ -2147483648 ≤ vx1920.toInt ∧ vx1920.toInt ≤ 2147483647 := by rw [e1921]; exact ti_add ((60 : Int32) * (q_I r1905 12 24 a0)) (q_I r1905 12 25 a0))
                    first | (have q1945 := te_addc (c := 1) (n := 1) rfl (q_I r1905 12 25 a0) (by omega) (by omega); obtain ⟨f1946, f1947, f1948⟩ := q1945) | (obtain ⟨q1945, f1946, f1947, f1948⟩ := ti_addc (c := 1) (n := 1) rfl (q_I r1905 12 25 a0))
                    refine ok_bdv (fun d1941 e1942 => ?_)
                    have i1943 : RI ad h.1 δ0 d1941 := by rw [e1942]; exact cs_12_25 L i1907 k_a0 (show 0 ≤ ((q_I r1905 12 25 a0) + (1 : Int32)).toInt by omega) (show ((q_I r1905 12 25 a0) + (1 : Int32)).toInt ≤ 60 by omega)
                    have u1949 := kp_I u1914 e1942
                    have v1950 : q_V d1941 = q_V δ := ((show q_V d1941 = q_V r1905 by rw [e1942]; rfl)).trans v1915
                    have v1951 := kr_N v1916 (show q_R d1941 = q_R r1905 by rw [e1942]; rfl)
                    obtain ⟨b1952, o1953, k1954, n1955, w1956⟩ := gO_12_29 L k_a0
                    obtain rfl := gS_12_29 L k_a0 o1953
                    refine ok_at o1953 ?_
                    have t1957 := ti_tn vx1920
                    refine ok_gd (fun hc1958 => ?_) ?_
                    · rcases hc1958 with hc1958 | hc1958
                      · have c1959 : vx1920.toInt < (0 : Int) := o_lt hc1958
                        omega
                      · omega
                    refine ok_bdv (fun d1960 e1961 => ?_)
                    have i1962 : RI ad h.1 δ0 d1960 := by rw [e1961]; exact RI.sR L i1943 w1956
                    have u1963 := kp_N u1949 (show q_I d1960 = q_I d1941 by rw [e1961]; rfl)
                    have v1964 : q_V d1960 = q_V δ := ((show q_V d1960 = q_V d1941 by rw [e1961]; rfl)).trans v1950
                    have v1965 := kr_s L (by decide) v1951 e1961
                    refine ok_ite (fun h1966 => ?_) (fun h1966 => ?_)
                    · have c1967 : r123.1.toInt = (5 : Int) := o_eq h1966
                      obtain ⟨b1968, o1969, k1970, n1971, w1972⟩ := gO_12_30 L k_a0
                      obtain rfl := gS_12_30 L k_a0 o1969
                      refine ok_at o1969 ?_
                      refine ok_bind (k_X12_readNumber L hN (a0 := a0) (x1 := (1 : Int32)) (x2 := (99 : Int32)) k_a0 i1962) (fun r1973 hr1974 => ?_)
                      obtain ⟨i1975, ⟨u1982, u1983, u1984, u1985⟩, p1976, p1977, p1978, p1979, p1980, p1981⟩ := hr1974
                      have u1986 := kp_t u1963 u1982
                      have v1987 : q_V r1973.2 = q_V δ := (u1983).trans v1964
                      have v1988 := kr_t v1965 u1985
                      have f1989 := cb_12_4 i1962 k_a0
                      have f1990 : (q_I d1960 12 4 a0).toInt = (q_I d1941 12 4 a0).toInt := congrArg Int32.toInt (by rw [e1961]; rfl)
                      have f1991 := cb_12_4 i1943 k_a0
                      have f1992 : (q_I d1941 12 4 a0).toInt = (q_I r1905 12 4 a0).toInt := congrArg Int32.toInt (by rw [e1942]; exact rI_o (by decide))
                      have f1993 := cb_12_4 i1975 k_a0
                      have f1994 := cb_12_5 i1962 k_a0
                      have f1995 : (q_I d1960 12 5 a0).toInt = (q_I d1941 12 5 a0).toInt := congrArg Int32.toInt (by rw [e1961]; rfl)
                      have f1996 := cb_12_5 i1943 k_a0
                      have f1997 : (q_I d1941 12 5 a0).toInt = (q_I r1905 12 5 a0).toInt := congrArg Int32.toInt (by rw [e1942]; exact rI_o (by decide))
                      have f1998 := cb_12_5 i1907 k_a0
                      have f1999 : (q_I r1905 12 5 a0).toInt = (q_I r97.2 12 5 a0).toInt := congrArg Int32.toInt (u1910 12 5 a0 (by decide))
                      have f2000 := cb_12_5 i1975 k_a0
                      have f2001 := ti_b r1973.1
                      replace p1981 : ((q_I r1973.2 12 5 a0).toInt < 0 → (1 : Int) ≤ (r1973.1).toInt ∧ (r1973.1).toInt ≤ (99 : Int)) := p1981
                      have f2002 := ti_b r1973.1
                      refine ok_gd (fun hc2003 => ?_) ?_
                      · rcases hc2003 with hc2003 | hc2003
                        · have c2004 : vx1920.toInt < (0 : Int) := o_lt hc2003
                          omega
                        · omega
                      refine ok_bdv (fun d2005 e2006 => ?_)
                      have i2007 : RI ad h.1 δ0 d2005 := by rw [e2006]; exact RI.sR L i1975 w1972
                      have u2008 := kp_N u1986 (show q_I d2005 = q_I r1973.2 by rw [e2006]; rfl)
                      have v2009 : q_V d2005 = q_V δ := ((show q_V d2005 = q_V r1973.2 by rw [e2006]; rfl)).trans v1987
                      have v2010 := kr_s L (by decide) v1988 e2006
                      refine ok_bind (k_X12_sign L hN (a0 := a0) (x1 := (91 : Int32)) k_a0 (show (91 : Int) ≠ 0 by first | assumption | omega) i2007) (fun r2011 hr2012 => ?_)
                      obtain ⟨i2013, ⟨u2017, u2018, u2019, u2020⟩, p2014, p2015, p2016⟩ := hr2012
                      have u2021 := kp_t u2008 u2017
                      have v2022 : q_V r2011 = q_V δ := (u2018).trans v2009
                      have v2023 := kr_t v2010 u2020
                      have f2024 := cb_12_4 i2007 k_a0
                      have f2025 : (q_I d2005 12 4 a0).toInt = (q_I r1973.2 12 4 a0).toInt := congrArg Int32.toInt (by rw [e2006]; rfl)
                      have f2026 := cb_12_4 i2013 k_a0
                      have f2027 := cb_12_5 i2007 k_a0
                      have f2028 : (q_I d2005 12 5 a0).toInt = (q_I r1973.2 12 5 a0).toInt := congrArg Int32.toInt (by rw [e2006]; rfl)
                      have f2029 := cb_12_5 i2013 k_a0
                      have f2033 := cb_12_27 i2013 k_a0
                      have f2034 : (q_I r2011 12 27 a0).toInt = (q_I d2005 12 27 a0).toInt := congrArg Int32.toInt (u2017 12 27 a0 (by decide))
                      have f2035 := cb_12_27 i2007 k_a0
                      have f2036 : (q_I d2005 12 27 a0).toInt = (q_I r1973.2 12 27 a0).toInt := congrArg Int32.toInt (by rw [e2006]; rfl)
                      have f2037 := cb_12_27 i1975 k_a0
                      have f2038 : (q_I r1973.2 12 27 a0).toInt = (q_I d1960 12 27 a0).toInt := congrArg Int32.toInt (u1982 12 27 a0 (by decide))
                      have f2039 := cb_12_27 i1962 k_a0
                      have f2040 : (q_I d1960 12 27 a0).toInt = (q_I d1941 12 27 a0).toInt := congrArg Int32.toInt (by rw [e1961]; rfl)
                      have f2041 := cb_12_27 i1943 k_a0
                      have f2042 : (q_I d1941 12 27 a0).toInt = (q_I r1905 12 27 a0).toInt := congrArg Int32.toInt (by rw [e1942]; exact rI_o (by decide))
                      have f2043 := cb_12_27 i1907 k_a0
                      have f2044 : (q_I r1905 12 27 a0).toInt = (q_I r97.2 12 27 a0).toInt := congrArg Int32.toInt (u1910 12 27 a0 (by decide))
                      first | (have q2046 := te_addc (c := 1) (n := 1) rfl (q_I r2011 12 27 a0) (by omega) (by omega); obtain ⟨f2047, f2048, f2049⟩ := q2046) | (obtain ⟨q2046, f2047, f2048, f2049⟩ := ti_addc (c := 1) (n := 1) rfl (q_I r2011 12 27 a0))
                      refine ok_bdv (fun d2030 e2031 => ?_)
                      have i2032 : RI ad h.1 δ0 d2030 := by rw [e2031]; exact cs_12_27 L i2013 k_a0 (show 0 ≤ ((q_I r2011 12 27 a0) + (1 : Int32)).toInt by omega) (show ((q_I r2011 12 27 a0) + (1 : Int32)).toInt ≤ 3 by omega)
                      have u2050 := kp_I u2021 e2031
                      have v2051 : q_V d2030 = q_V δ := ((show q_V d2030 = q_V r2011 by rw [e2031]; rfl)).trans v2022
                      have v2052 := kr_N v2023 (show q_R d2030 = q_R r2011 by rw [e2031]; rfl)
                      have f2055 := cb_12_24 i2032 k_a0
                      have f2056 : (q_I d2030 12 24 a0).toInt = (q_I r2011 12 24 a0).toInt := congrArg Int32.toInt (by rw [e2031]; exact rI_o (by decide))
                      have f2057 := cb_12_24 i2013 k_a0
                      have f2058 : (q_I r2011 12 24 a0).toInt = (q_I d2005 12 24 a0).toInt := congrArg Int32.toInt (u2017 12 24 a0 (by decide))
                      have f2059 := cb_12_24 i2007 k_a0
                      have f2060 : (q_I d2005 12 24 a0).toInt = (q_I r1973.2 12 24 a0).toInt := congrArg Int32.toInt (by rw [e2006]; rfl)
                      have f2061 := cb_12_24 i1975 k_a0
                      have f2062 : (q_I r1973.2 12 24 a0).toInt = (q_I d1960 12 24 a0).toInt := congrArg Int32.toInt (u1982 12 24 a0 (by decide))
                      have f2063 := cb_12_24 i1962 k_a0
                      have f2064 : (q_I d1960 12 24 a0).toInt = (q_I d1941 12 24 a0).toInt := congrArg Int32.toInt (by rw [e1961]; rfl)
                      have f2065 := cb_12_24 i1943 k_a0
                      have f2066 : (q_I d1941 12 24 a0).toInt = (q_I r1905 12 24 a0).toInt := congrArg Int32.toInt (by rw [e1942]; exact rI_o (by decide))
                      have f2067 := cb_12_26 i2032 k_a0
                      have f2068 : (q_I d2030 12 26 a0).toInt = (q_I r2011 12 26 a0).toInt := congrArg Int32.toInt (by rw [e2031]; exact rI_o (by decide))
                      have f2069 := cb_12_26 i2013 k_a0
                      have f2070 : (q_I r2011 12 26 a0).toInt = (q_I d2005 12 26 a0).toInt := congrArg Int32.toInt (u2017 12 26 a0 (by decide))
                      have f2071 := cb_12_26 i2007 k_a0
                      have f2072 : (q_I d2005 12 26 a0).toInt = (q_I r1973.2 12 26 a0).toInt := congrArg Int32.toInt (by rw [e2006]; rfl)
                      have f2073 := cb_12_26 i1975 k_a0
                      have f2074 : (q_I r1973.2 12 26 a0).toInt = (q_I d1960 12 26 a0).toInt := congrArg Int32.toInt (u1982 12 26 a0 (by decide))
                      have f2075 := cb_12_26 i1962 k_a0
                      have f2076 : (q_I d1960 12 26 a0).toInt = (q_I d1941 12 26 a0).toInt := congrArg Int32.toInt (by rw [e1961]; rfl)
                      have f2077 := cb_12_26 i1943 k_a0
                      have f2078 : (q_I d1941 12 26 a0).toInt = (q_I r1905 12 26 a0).toInt := congrArg Int32.toInt (by rw [e1942]; exact rI_o (by decide))
                      have f2079 := cb_12_26 i1907 k_a0
                      have f2080 : (q_I r1905 12 26 a0).toInt = (q_I r97.2 12 26 a0).toInt := congrArg Int32.toInt (u1910 12 26 a0 (by decide))
                      have f2081 := cb_12_26 i99 k_a0
                      have f2082 : (q_I r97.2 12 26 a0).toInt = (q_I r48.2 12 26 a0).toInt := congrArg Int32.toInt (u102 12 26 a0 (by decide))
                      have f2083 := cb_12_26 i50 k_a0
                      have f2084 : (q_I r48.2 12 26 a0).toInt = (q_I r19.2 12 26 a0).toInt := congrArg Int32.toInt (u54 12 26 a0 (by decide))
                      have f2085 := cb_12_26 i21 k_a0
                      have f2086 : (q_I r19.2 12 26 a0).toInt = (q_I δ 12 26 a0).toInt := congrArg Int32.toInt (u25 12 26 a0 (by decide))
                      have f2087 := cb_12_4 i2032 k_a0
                      have f2088 : (q_I d2030 12 4 a0).toInt = (q_I r2011 12 4 a0).toInt := congrArg Int32.toInt (by rw [e2031]; exact rI_o (by decide))
                      have f2089 := ti_b (q_I d2030 12 7 a0)
                      have f2090 : (q_I d2030 12 7 a0).toInt = (q_I r2011 12 7 a0).toInt := congrArg Int32.toInt (by rw [e2031]; exact rI_o (by decide))
                      have f2091 := ti_b (q_I r2011 12 7 a0)
                      have f2092 : (q_I r2011 12 7 a0).toInt = (q_I d2005 12 7 a0).toInt := congrArg Int32.toInt (u2017 12 7 a0 (by decide))
                      have f2093 := ti_b (q_I d2005 12 7 a0)
                      have f2094 : (q_I d2005 12 7 a0).toInt = (q_I r1973.2 12 7 a0).toInt := congrArg Int32.toInt (by rw [e2006]; rfl)
                      have f2095 := ti_b (q_I r1973.2 12 7 a0)
                      have f2096 : (q_I r1973.2 12 7 a0).toInt = (q_I d1960 12 7 a0).toInt := congrArg Int32.toInt (u1982 12 7 a0 (by decide))
                      have f2097 := ti_b (q_I d1960 12 7 a0)
                      have f2098 : (q_I d1960 12 7 a0).toInt = (q_I d1941 12 7 a0).toInt := congrArg Int32.toInt (by rw [e1961]; rfl)
                      have f2099 := ti_b (q_I d1941 12 7 a0)
                      have f2100 : (q_I d1941 12 7 a0).toInt = (q_I r1905 12 7 a0).toInt := congrArg Int32.toInt (by rw [e1942]; exact rI_o (by decide))
                      have f2101 := ti_b (q_I r1905 12 7 a0)
                      have f2102 : (q_I r1905 12 7 a0).toInt = (q_I r97.2 12 7 a0).toInt := congrArg Int32.toInt (u1910 12 7 a0 (by decide))
                      have f2103 := ti_b (q_I r97.2 12 7 a0)
                      have f2104 : (q_I r97.2 12 7 a0).toInt = (q_I r48.2 12 7 a0).toInt := congrArg Int32.toInt (u102 12 7 a0 (by decide))
                      have f2105 := ti_b (q_I r48.2 12 7 a0)
                      have f2106 : (q_I r48.2 12 7 a0).toInt = (q_I r19.2 12 7 a0).toInt := congrArg Int32.toInt (u54 12 7 a0 (by decide))
                      have f2107 := ti_b (q_I r19.2 12 7 a0)
                      have f2108 : (q_I r19.2 12 7 a0).toInt = (q_I δ 12 7 a0).toInt := congrArg Int32.toInt (u25 12 7 a0 (by decide))
                      have f2109 := cb_12_27 i2032 k_a0
                      have f2110 : (q_I d2030 12 27 a0).toInt = ((q_I r2011 12 27 a0) + (1 : Int32)).toInt := congrArg Int32.toInt (show q_I d2030 12 27 a0 = ((q_I r2011 12 27 a0) + (1 : Int32)) by rw [e2031]; exact rI_s)
                      refine ok_bind (hT a0 d2030 k_a0 (show (q_I d2030 12 24 a0).toInt ≤ 3 by first | assumption | omega) (show (q_I d2030 12 26 a0).toInt ≤ (q_I d2030 12 4 a0).toInt by first | assumption | omega) (show (q_I d2030 12 7 a0).toInt = 0 by first | assumption | omega) (show 4 - (q_I d2030 12 27 a0).toInt < _ by first | assumption | omega) i2032) (fun r2053 hr2054 => ?_)
                      obtain ⟨i2111, ⟨u2117, u2118, u2119⟩, p2112, p2113, p2114, p2115, p2116⟩ := hr2054
                      have u2120 := kp_t u2050 u2117
                      have v2121 : q_V r2053 = q_V δ := (u2118).trans v2051
                      have v2122 := kr_t v2052 u2119
                      have f2123 := cb_12_4 i2111 k_a0
                      have f2124 := cb_12_5 i2032 k_a0
                      have f2125 : (q_I d2030 12 5 a0).toInt = (q_I r2011 12 5 a0).toInt := congrArg Int32.toInt (by rw [e2031]; exact rI_o (by decide))
                      have f2126 := cb_12_5 i2111 k_a0
                      have f2127 := ti_b (q_I r2053 12 7 a0)
                      have f2128 := cb_12_27 i2111 k_a0
                      have f2129 := cb_12_26 i2111 k_a0
                      first | (have q2134 := te_subc (c := 1) (n := 1) rfl (q_I r2053 12 27 a0) (by omega) (by omega); obtain ⟨f2135, f2136, f2137⟩ := q2134) | (obtain ⟨q2134, f2135, f2136, f2137⟩ := ti_subc (c := 1) (n := 1) rfl (q_I r2053 12 27 a0))
                      refine ok_bdv (fun d2130 e2131 => ?_)
                      have i2132 : RI ad h.1 δ0 d2130 := by rw [e2131]; exact cs_12_27 L i2111 k_a0 (show 0 ≤ ((q_I r2053 12 27 a0) - (1 : Int32)).toInt by omega) (show ((q_I r2053 12 27 a0) - (1 : Int32)).toInt ≤ 3 by omega)
                      have u2138 := kp_I u2120 e2131
                      have v2139 : q_V d2130 = q_V δ := ((show q_V d2130 = q_V r2053 by rw [e2131]; rfl)).trans v2121
                      have v2140 := kr_N v2122 (show q_R d2130 = q_R r2053 by rw [e2131]; rfl)
                      refine ok_bind (k_X12_sign L hN (a0 := a0) (x1 := (93 : Int32)) k_a0 (show (93 : Int) ≠ 0 by first | assumption | omega) i2132) (fun r2141 hr2142 => ?_)
                      obtain ⟨i2143, ⟨u2147, u2148, u2149, u2150⟩, p2144, p2145, p2146⟩ := hr2142
                      have u2151 := kp_t u2138 u2147
                      have v2152 : q_V r2141 = q_V δ := (u2148).trans v2139
                      have v2153 := kr_t v2140 u2150
                      have f2154 := cb_12_4 i2132 k_a0
                      have f2155 : (q_I d2130 12 4 a0).toInt = (q_I r2053 12 4 a0).toInt := congrArg Int32.toInt (by rw [e2131]; exact rI_o (by decide))
                      have f2156 := cb_12_4 i2143 k_a0
                      have f2157 := cb_12_5 i2132 k_a0
                      have f2158 : (q_I d2130 12 5 a0).toInt = (q_I r2053 12 5 a0).toInt := congrArg Int32.toInt (by rw [e2131]; exact rI_o (by decide))
                      have f2159 := cb_12_5 i2143 k_a0
                      obtain ⟨b2160, o2161, k2162, n2163, w2164⟩ := gO_12_31 L k_a0
                      obtain rfl := gS_12_31 L k_a0 o2161
                      refine ok_at o2161 ?_
                      refine ok_gd (fun hc2165 => ?_) ?_
                      · rcases hc2165 with hc2165 | hc2165
                        · have c2166 : vx1920.toInt < (0 : Int) := o_lt hc2165
                          omega
                        · omega
                      refine ok_bdv (fun d2167 e2168 => ?_)
                      have i2169 : RI ad h.1 δ0 d2167 := by rw [e2168]; exact RI.sR L i2143 w2164
                      have u2170 := kp_N u2151 (show q_I d2167 = q_I r2141 by rw [e2168]; rfl)
                      have v2171 : q_V d2167 = q_V δ := ((show q_V d2167 = q_V r2141 by rw [e2168]; rfl)).trans v2152
                      have v2172 := kr_s L (by decide) v2153 e2168
                      unfold J_X12_readSteps_236
                      have f2173 := cb_12_24 i2169 k_a0
                      have f2174 : (q_I d2167 12 24 a0).toInt = (q_I r2141 12 24 a0).toInt := congrArg Int32.toInt (by rw [e2168]; rfl)
                      have f2175 := cb_12_24 i2143 k_a0
                      have f2176 : (q_I r2141 12 24 a0).toInt = (q_I d2130 12 24 a0).toInt := congrArg Int32.toInt (u2147 12 24 a0 (by decide))
                      have f2177 := cb_12_24 i2132 k_a0
                      have f2178 : (q_I d2130 12 24 a0).toInt = (q_I r2053 12 24 a0).toInt := congrArg Int32.toInt (by rw [e2131]; exact rI_o (by decide))
                      have f2179 := cb_12_24 i2111 k_a0
                      have f2180 : (q_I r2053 12 24 a0).toInt = (q_I d2030 12 24 a0).toInt := congrArg Int32.toInt (u2117 12 24 a0 (by decide))
                      have f2181 := cb_12_26 i2169 k_a0
                      have f2182 : (q_I d2167 12 26 a0).toInt = (q_I r2141 12 26 a0).toInt := congrArg Int32.toInt (by rw [e2168]; rfl)
                      have f2183 := cb_12_26 i2143 k_a0
                      have f2184 : (q_I r2141 12 26 a0).toInt = (q_I d2130 12 26 a0).toInt := congrArg Int32.toInt (u2147 12 26 a0 (by decide))
                      have f2185 := cb_12_26 i2132 k_a0
                      have f2186 : (q_I d2130 12 26 a0).toInt = (q_I r2053 12 26 a0).toInt := congrArg Int32.toInt (by rw [e2131]; exact rI_o (by decide))
                      have f2187 := cb_12_4 i2169 k_a0
                      have f2188 : (q_I d2167 12 4 a0).toInt = (q_I r2141 12 4 a0).toInt := congrArg Int32.toInt (by rw [e2168]; rfl)
                      have f2189 := ti_b (q_I d2167 12 7 a0)
                      have f2190 : (q_I d2167 12 7 a0).toInt = (q_I r2141 12 7 a0).toInt := congrArg Int32.toInt (by rw [e2168]; rfl)
                      have f2191 := ti_b (q_I r2141 12 7 a0)
                      have f2192 : (q_I r2141 12 7 a0).toInt = (q_I d2130 12 7 a0).toInt := congrArg Int32.toInt (u2147 12 7 a0 (by decide))
                      have f2193 := ti_b (q_I d2130 12 7 a0)
                      have f2194 : (q_I d2130 12 7 a0).toInt = (q_I r2053 12 7 a0).toInt := congrArg Int32.toInt (by rw [e2131]; exact rI_o (by decide))
                      have f2195 := cb_12_27 i2169 k_a0
                      have f2196 : (q_I d2167 12 27 a0).toInt = (q_I r2141 12 27 a0).toInt := congrArg Int32.toInt (by rw [e2168]; rfl)
                      have f2197 := cb_12_27 i2143 k_a0
                      have f2198 : (q_I r2141 12 27 a0).toInt = (q_I d2130 12 27 a0).toInt := congrArg Int32.toInt (u2147 12 27 a0 (by decide))
                      have f2199 := cb_12_27 i2132 k_a0
                      have f2200 : (q_I d2130 12 27 a0).toInt = ((q_I r2053 12 27 a0) - (1 : Int32)).toInt := congrArg Int32.toInt (show q_I d2130 12 27 a0 = ((q_I r2053 12 27 a0) - (1 : Int32)) by rw [e2131]; exact rI_s)
                      refine ok_mono (ih d2167 i2169 (show (q_I d2167 12 24 a0).toInt ≤ 3 by first | assumption | omega) (show (q_I d2167 12 26 a0).toInt ≤ (q_I d2167 12 4 a0).toInt by first | assumption | omega) (show (q_I d2167 12 7 a0).toInt = 0 by first | assumption | omega) (show 4 - (q_I d2167 12 27 a0).toInt ≤ K by first | assumption | omega) (show 501 - (q_I d2167 12 4 a0).toInt < _ by omega)) (fun r2201 hr2202 => ?_)
                      obtain ⟨i2203, ⟨u2209, u2210, u2211⟩, p2204, p2205, p2206, p2207, p2208⟩ := hr2202
                      have u2212 := kp_t u2170 u2209
                      have v2213 : q_V r2201 = q_V δ := (u2210).trans v2171
                      have v2214 := kr_t v2172 u2211
                      have f2215 := cb_12_4 i2203 k_a0
                      have f2216 := cb_12_5 i2169 k_a0
                      have f2217 : (q_I d2167 12 5 a0).toInt = (q_I r2141 12 5 a0).toInt := congrArg Int32.toInt (by rw [e2168]; rfl)
                      have f2218 := cb_12_5 i2203 k_a0
                      have f2219 := ti_b (q_I r2201 12 7 a0)
                      have f2220 := cb_12_27 i2203 k_a0
                      have f2221 := cb_12_26 i2203 k_a0
                      exact ⟨by assumption, ⟨kp_w (by decide) u2212, v2213, kr_w (by decide) v2214⟩, by first | assumption | omega, by first | assumption | omega, by first | assumption | omega, by first | assumption | omega, by first | assumption | omega⟩
                    · have c2222 : r123.1.toInt ≠ (5 : Int) := o_ne h1966
                      obtain ⟨b2223, o2224, k2225, n2226, w2227⟩ := gO_12_30 L k_a0
                      obtain rfl := gS_12_30 L k_a0 o2224
                      refine ok_at o2224 ?_
                      refine ok_gd (fun hc2228 => ?_) ?_
                      · rcases hc2228 with hc2228 | hc2228
                        · have c2229 : vx1920.toInt < (0 : Int) := o_lt hc2228
                          omega
                        · omega
                      refine ok_bdv (fun d2230 e2231 => ?_)
                      have i2232 : RI ad h.1 δ0 d2230 := by rw [e2231]; exact RI.sR L i1962 w2227
                      have u2233 := kp_N u1963 (show q_I d2230 = q_I d1960 by rw [e2231]; rfl)
                      have v2234 : q_V d2230 = q_V δ := ((show q_V d2230 = q_V d1960 by rw [e2231]; rfl)).trans v1964
                      have v2235 := kr_s L (by decide) v1965 e2231
                      have f2238 := cb_12_24 i2232 k_a0
                      have f2239 : (q_I d2230 12 24 a0).toInt = (q_I d1960 12 24 a0).toInt := congrArg Int32.toInt (by rw [e2231]; rfl)
                      have f2240 := cb_12_24 i1962 k_a0
                      have f2241 : (q_I d1960 12 24 a0).toInt = (q_I d1941 12 24 a0).toInt := congrArg Int32.toInt (by rw [e1961]; rfl)
                      have f2242 := cb_12_24 i1943 k_a0
                      have f2243 : (q_I d1941 12 24 a0).toInt = (q_I r1905 12 24 a0).toInt := congrArg Int32.toInt (by rw [e1942]; exact rI_o (by decide))
                      have f2244 := cb_12_26 i2232 k_a0
                      have f2245 : (q_I d2230 12 26 a0).toInt = (q_I d1960 12 26 a0).toInt := congrArg Int32.toInt (by rw [e2231]; rfl)
                      have f2246 := cb_12_26 i1962 k_a0
                      have f2247 : (q_I d1960 12 26 a0).toInt = (q_I d1941 12 26 a0).toInt := congrArg Int32.toInt (by rw [e1961]; rfl)
                      have f2248 := cb_12_26 i1943 k_a0
                      have f2249 : (q_I d1941 12 26 a0).toInt = (q_I r1905 12 26 a0).toInt := congrArg Int32.toInt (by rw [e1942]; exact rI_o (by decide))
                      have f2250 := cb_12_26 i1907 k_a0
                      have f2251 : (q_I r1905 12 26 a0).toInt = (q_I r97.2 12 26 a0).toInt := congrArg Int32.toInt (u1910 12 26 a0 (by decide))
                      have f2252 := cb_12_26 i99 k_a0
                      have f2253 : (q_I r97.2 12 26 a0).toInt = (q_I r48.2 12 26 a0).toInt := congrArg Int32.toInt (u102 12 26 a0 (by decide))
                      have f2254 := cb_12_26 i50 k_a0
                      have f2255 : (q_I r48.2 12 26 a0).toInt = (q_I r19.2 12 26 a0).toInt := congrArg Int32.toInt (u54 12 26 a0 (by decide))
                      have f2256 := cb_12_26 i21 k_a0
                      have f2257 : (q_I r19.2 12 26 a0).toInt = (q_I δ 12 26 a0).toInt := congrArg Int32.toInt (u25 12 26 a0 (by decide))
                      have f2258 := cb_12_4 i2232 k_a0
                      have f2259 : (q_I d2230 12 4 a0).toInt = (q_I d1960 12 4 a0).toInt := congrArg Int32.toInt (by rw [e2231]; rfl)
                      have f2260 := cb_12_4 i1962 k_a0
                      have f2261 : (q_I d1960 12 4 a0).toInt = (q_I d1941 12 4 a0).toInt := congrArg Int32.toInt (by rw [e1961]; rfl)
                      have f2262 := cb_12_4 i1943 k_a0
                      have f2263 : (q_I d1941 12 4 a0).toInt = (q_I r1905 12 4 a0).toInt := congrArg Int32.toInt (by rw [e1942]; exact rI_o (by decide))
                      have f2264 := ti_b (q_I d2230 12 7 a0)
                      have f2265 : (q_I d2230 12 7 a0).toInt = (q_I d1960 12 7 a0).toInt := congrArg Int32.toInt (by rw [e2231]; rfl)
                      have f2266 := ti_b (q_I d1960 12 7 a0)
                      have f2267 : (q_I d1960 12 7 a0).toInt = (q_I d1941 12 7 a0).toInt := congrArg Int32.toInt (by rw [e1961]; rfl)
                      have f2268 := ti_b (q_I d1941 12 7 a0)
                      have f2269 : (q_I d1941 12 7 a0).toInt = (q_I r1905 12 7 a0).toInt := congrArg Int32.toInt (by rw [e1942]; exact rI_o (by decide))
                      have f2270 := ti_b (q_I r1905 12 7 a0)
                      have f2271 : (q_I r1905 12 7 a0).toInt = (q_I r97.2 12 7 a0).toInt := congrArg Int32.toInt (u1910 12 7 a0 (by decide))
                      have f2272 := ti_b (q_I r97.2 12 7 a0)
                      have f2273 : (q_I r97.2 12 7 a0).toInt = (q_I r48.2 12 7 a0).toInt := congrArg Int32.toInt (u102 12 7 a0 (by decide))
                      have f2274 := ti_b (q_I r48.2 12 7 a0)
                      have f2275 : (q_I r48.2 12 7 a0).toInt = (q_I r19.2 12 7 a0).toInt := congrArg Int32.toInt (u54 12 7 a0 (by decide))
                      have f2276 := ti_b (q_I r19.2 12 7 a0)
                      have f2277 : (q_I r19.2 12 7 a0).toInt = (q_I δ 12 7 a0).toInt := congrArg Int32.toInt (u25 12 7 a0 (by decide))
                      have f2278 := cb_12_5 i2232 k_a0
                      have f2279 : (q_I d2230 12 5 a0).toInt = (q_I d1960 12 5 a0).toInt := congrArg Int32.toInt (by rw [e2231]; rfl)
                      have f2280 := cb_12_5 i1962 k_a0
                      have f2281 : (q_I d1960 12 5 a0).toInt = (q_I d1941 12 5 a0).toInt := congrArg Int32.toInt (by rw [e1961]; rfl)
                      have f2282 := cb_12_5 i1943 k_a0
                      have f2283 : (q_I d1941 12 5 a0).toInt = (q_I r1905 12 5 a0).toInt := congrArg Int32.toInt (by rw [e1942]; exact rI_o (by decide))
                      have f2284 := cb_12_5 i1907 k_a0
                      have f2285 : (q_I r1905 12 5 a0).toInt = (q_I r97.2 12 5 a0).toInt := congrArg Int32.toInt (u1910 12 5 a0 (by decide))
                      refine ok_bind (k_X12_sum L hN (a0 := a0) k_a0 (show (q_I d2230 12 24 a0).toInt ≤ 3 by first | assumption | omega) (show (q_I d2230 12 26 a0).toInt ≤ (q_I d2230 12 4 a0).toInt by first | assumption | omega) (show 0 ≤ (q_I d2230 12 7 a0).toInt by first | assumption | omega) (show (q_I d2230 12 7 a0).toInt ≤ 7 by first | assumption | omega) (show (q_I d2230 12 7 a0).toInt = 7 → 0 ≤ (q_I d2230 12 5 a0).toInt by first | assumption | omega) (show 8 - (q_I d2230 12 7 a0).toInt < 20 by first | assumption | omega) i2232) (fun r2236 hr2237 => ?_)
                      obtain ⟨i2286, ⟨u2293, u2294, u2295⟩, p2287, p2288, p2289, p2290, p2291, p2292⟩ := hr2237
                      have u2296 := kp_t u2233 u2293
                      have v2297 : q_V r2236 = q_V δ := (u2294).trans v2234
                      have v2298 := kr_t v2235 u2295
                      have f2299 := cb_12_4 i2286 k_a0
                      have f2300 := cb_12_5 i2286 k_a0
                      have f2301 := ti_b (q_I r2236 12 7 a0)
                      have f2302 := cb_12_26 i2286 k_a0
                      obtain ⟨b2303, o2304, k2305, n2306, w2307⟩ := gO_12_31 L k_a0
                      obtain rfl := gS_12_31 L k_a0 o2304
                      refine ok_at o2304 ?_
                      refine ok_gd (fun hc2308 => ?_) ?_
                      · rcases hc2308 with hc2308 | hc2308
                        · have c2309 : vx1920.toInt < (0 : Int) := o_lt hc2308
                          omega
                        · omega
                      refine ok_bdv (fun d2310 e2311 => ?_)
                      have i2312 : RI ad h.1 δ0 d2310 := by rw [e2311]; exact RI.sR L i2286 w2307
                      have u2313 := kp_N u2296 (show q_I d2310 = q_I r2236 by rw [e2311]; rfl)
                      have v2314 : q_V d2310 = q_V δ := ((show q_V d2310 = q_V r2236 by rw [e2311]; rfl)).trans v2297
                      have v2315 := kr_s L (by decide) v2298 e2311
                      refine ok_bind (k_X12_sign L hN (a0 := a0) (x1 := (59 : Int32)) k_a0 (show (59 : Int) ≠ 0 by first | assumption | omega) i2312) (fun r2316 hr2317 => ?_)
                      obtain ⟨i2318, ⟨u2322, u2323, u2324, u2325⟩, p2319, p2320, p2321⟩ := hr2317
                      have u2326 := kp_t u2313 u2322
                      have v2327 : q_V r2316 = q_V δ := (u2323).trans v2314
                      have v2328 := kr_t v2315 u2325
                      have f2329 := cb_12_4 i2312 k_a0
                      have f2330 : (q_I d2310 12 4 a0).toInt = (q_I r2236 12 4 a0).toInt := congrArg Int32.toInt (by rw [e2311]; rfl)
                      have f2331 := cb_12_4 i2318 k_a0
                      have f2332 := cb_12_5 i2312 k_a0
                      have f2333 : (q_I d2310 12 5 a0).toInt = (q_I r2236 12 5 a0).toInt := congrArg Int32.toInt (by rw [e2311]; rfl)
                      have f2334 := cb_12_5 i2318 k_a0
                      unfold J_X12_readSteps_236
                      have f2335 := cb_12_24 i2318 k_a0
                      have f2336 : (q_I r2316 12 24 a0).toInt = (q_I d2310 12 24 a0).toInt := congrArg Int32.toInt (u2322 12 24 a0 (by decide))
                      have f2337 := cb_12_24 i2312 k_a0
                      have f2338 : (q_I d2310 12 24 a0).toInt = (q_I r2236 12 24 a0).toInt := congrArg Int32.toInt (by rw [e2311]; rfl)
                      have f2339 := cb_12_24 i2286 k_a0
                      have f2340 : (q_I r2236 12 24 a0).toInt = (q_I d2230 12 24 a0).toInt := congrArg Int32.toInt (u2293 12 24 a0 (by decide))
                      have f2341 := cb_12_26 i2318 k_a0
                      have f2342 : (q_I r2316 12 26 a0).toInt = (q_I d2310 12 26 a0).toInt := congrArg Int32.toInt (u2322 12 26 a0 (by decide))
                      have f2343 := cb_12_26 i2312 k_a0
                      have f2344 : (q_I d2310 12 26 a0).toInt = (q_I r2236 12 26 a0).toInt := congrArg Int32.toInt (by rw [e2311]; rfl)
                      have f2345 := ti_b (q_I r2316 12 7 a0)
                      have f2346 : (q_I r2316 12 7 a0).toInt = (q_I d2310 12 7 a0).toInt := congrArg Int32.toInt (u2322 12 7 a0 (by decide))
                      have f2347 := ti_b (q_I d2310 12 7 a0)
                      have f2348 : (q_I d2310 12 7 a0).toInt = (q_I r2236 12 7 a0).toInt := congrArg Int32.toInt (by rw [e2311]; rfl)
                      have f2349 := cb_12_27 i2318 k_a0
                      have f2350 : (q_I r2316 12 27 a0).toInt = (q_I d2310 12 27 a0).toInt := congrArg Int32.toInt (u2322 12 27 a0 (by decide))
                      have f2351 := cb_12_27 i2312 k_a0
                      have f2352 : (q_I d2310 12 27 a0).toInt = (q_I r2236 12 27 a0).toInt := congrArg Int32.toInt (by rw [e2311]; rfl)
                      have f2353 := cb_12_27 i2286 k_a0
                      have f2354 : (q_I r2236 12 27 a0).toInt = (q_I d2230 12 27 a0).toInt := congrArg Int32.toInt (u2293 12 27 a0 (by decide))
                      have f2355 := cb_12_27 i2232 k_a0
                      have f2356 : (q_I d2230 12 27 a0).toInt = (q_I d1960 12 27 a0).toInt := congrArg Int32.toInt (by rw [e2231]; rfl)
                      have f2357 := cb_12_27 i1962 k_a0
                      have f2358 : (q_I d1960 12 27 a0).toInt = (q_I d1941 12 27 a0).toInt := congrArg Int32.toInt (by rw [e1961]; rfl)
                      have f2359 := cb_12_27 i1943 k_a0
                      have f2360 : (q_I d1941 12 27 a0).toInt = (q_I r1905 12 27 a0).toInt := congrArg Int32.toInt (by rw [e1942]; exact rI_o (by decide))
                      have f2361 := cb_12_27 i1907 k_a0
                      have f2362 : (q_I r1905 12 27 a0).toInt = (q_I r97.2 12 27 a0).toInt := congrArg Int32.toInt (u1910 12 27 a0 (by decide))
                      refine ok_mono (ih r2316 i2318 (show (q_I r2316 12 24 a0).toInt ≤ 3 by first | assumption | omega) (show (q_I r2316 12 26 a0).toInt ≤ (q_I r2316 12 4 a0).toInt by first | assumption | omega) (show (q_I r2316 12 7 a0).toInt = 0 by first | assumption | omega) (show 4 - (q_I r2316 12 27 a0).toInt ≤ K by first | assumption | omega) (show 501 - (q_I r2316 12 4 a0).toInt < _ by omega)) (fun r2363 hr2364 => ?_)
                      obtain ⟨i2365, ⟨u2371, u2372, u2373⟩, p2366, p2367, p2368, p2369, p2370⟩ := hr2364
                      have u2374 := kp_t u2326 u2371
                      have v2375 : q_V r2363 = q_V δ := (u2372).trans v2327
                      have v2376 := kr_t v2328 u2373
                      have f2377 := cb_12_4 i2365 k_a0
                      have f2378 := cb_12_5 i2365 k_a0
                      have f2379 := ti_b (q_I r2363 12 7 a0)
                      have f2380 := cb_12_27 i2365 k_a0
                      have f2381 := cb_12_26 i2365 k_a0
                      exact ⟨by assumption, ⟨kp_w (by decide) u2374, v2375, kr_w (by decide) v2376⟩, by first | assumption | omega, by first | assumption | omega, by first | assumption | omega, by first | assumption | omega, by first | assumption | omega⟩
              · have c2382 : r123.1.toInt ≠ (5 : Int) := o_ne h1305
                unfold J_X12_readSteps_79
                refine ok_bind (k_X12_fine L hN (a0 := a0) k_a0 i99) (fun r2383 hr2384 => ?_)
                obtain ⟨i2385, p2386, p2387, p2388⟩ := hr2384
                try rw [i2385]
                have f2389 := bo_l p2386
                have f2390 := cb_12_5 i99 k_a0
                have f2391 : (q_I r97.2 12 5 a0).toInt = (q_I r48.2 12 5 a0).toInt := congrArg Int32.toInt (u102 12 5 a0 (by decide))
                have f2392 := cb_12_5 i50 k_a0
                have f2393 : (q_I r48.2 12 5 a0).toInt = (q_I r19.2 12 5 a0).toInt := congrArg Int32.toInt (u54 12 5 a0 (by decide))
                have f2394 := cb_12_5 i21 k_a0
                have f2395 : (q_I r19.2 12 5 a0).toInt = (q_I δ 12 5 a0).toInt := congrArg Int32.toInt (u25 12 5 a0 (by decide))
                have f2396 := ti_b r2383.1
                have f2397 := ti_b r2383.1
                refine ok_ite (fun h2398 => ?_) (fun h2398 => ?_)
                · have c2399 : r2383.1.toInt = (0 : Int) := o_eq h2398
                  have f2400 := ti_b (q_I r97.2 12 7 a0)
                  have f2401 : (q_I r97.2 12 7 a0).toInt = (q_I r48.2 12 7 a0).toInt := congrArg Int32.toInt (u102 12 7 a0 (by decide))
                  have f2402 := ti_b (q_I r48.2 12 7 a0)
                  have f2403 : (q_I r48.2 12 7 a0).toInt = (q_I r19.2 12 7 a0).toInt := congrArg Int32.toInt (u54 12 7 a0 (by decide))
                  have f2404 := ti_b (q_I r19.2 12 7 a0)
                  have f2405 : (q_I r19.2 12 7 a0).toInt = (q_I δ 12 7 a0).toInt := congrArg Int32.toInt (u25 12 7 a0 (by decide))
                  have f2406 := cb_12_27 i99 k_a0
                  have f2407 : (q_I r97.2 12 27 a0).toInt = (q_I r48.2 12 27 a0).toInt := congrArg Int32.toInt (u102 12 27 a0 (by decide))
                  have f2408 := cb_12_27 i50 k_a0
                  have f2409 : (q_I r48.2 12 27 a0).toInt = (q_I r19.2 12 27 a0).toInt := congrArg Int32.toInt (u54 12 27 a0 (by decide))
                  have f2410 := cb_12_27 i21 k_a0
                  have f2411 : (q_I r19.2 12 27 a0).toInt = (q_I δ 12 27 a0).toInt := congrArg Int32.toInt (u25 12 27 a0 (by decide))
                  have f2412 := cb_12_26 i99 k_a0
                  have f2413 : (q_I r97.2 12 26 a0).toInt = (q_I r48.2 12 26 a0).toInt := congrArg Int32.toInt (u102 12 26 a0 (by decide))
                  have f2414 := cb_12_26 i50 k_a0
                  have f2415 : (q_I r48.2 12 26 a0).toInt = (q_I r19.2 12 26 a0).toInt := congrArg Int32.toInt (u54 12 26 a0 (by decide))
                  have f2416 := cb_12_26 i21 k_a0
                  have f2417 : (q_I r19.2 12 26 a0).toInt = (q_I δ 12 26 a0).toInt := congrArg Int32.toInt (u25 12 26 a0 (by decide))
                  exact ok_some (show RI ad h.1 δ0 r97.2 ∧ (kp [(12, 4), (12, 5), (12, 6), (12, 7), (12, 25), (12, 26), (12, 27)] δ r97.2 ∧ q_V r97.2 = q_V δ ∧ kr ad [113, 114, 115, 116, 117] δ r97.2) ∧ (q_I δ 12 4 a0).toInt ≤ (q_I r97.2 12 4 a0).toInt ∧ (q_I δ 12 5 a0).toInt ≤ (q_I r97.2 12 5 a0).toInt ∧ (q_I r97.2 12 7 a0).toInt = (q_I δ 12 7 a0).toInt ∧ (q_I r97.2 12 27 a0).toInt = (q_I δ 12 27 a0).toInt ∧ (q_I r97.2 12 26 a0).toInt ≤ (q_I r97.2 12 4 a0).toInt from ⟨i99, ⟨kp_w (by decide) u106, v107, kr_w (by decide) v108⟩, by first | assumption | omega, by first | assumption | omega, by first | assumption | omega, by first | assumption | omega, by first | assumption | omega⟩)
                · have c2418 : r2383.1.toInt ≠ (0 : Int) := o_ne h2398
                  refine ok_bind (k_X12_pass L hN (a0 := a0) k_a0 i99) (fun r2419 hr2420 => ?_)
                  obtain ⟨i2421, ⟨u2424, u2425, u2426, u2427⟩, p2422, p2423⟩ := hr2420
                  have u2428 := kp_t u106 u2424
                  have v2429 : q_V r2419 = q_V δ := (u2425).trans v107
                  have v2430 := kr_t v108 u2427
                  have f2431 := cb_12_4 i2421 k_a0
                  have f2432 := cb_12_3 i99 k_a0
                  have f2433 : (q_I r97.2 12 3 a0).toInt = (q_I r48.2 12 3 a0).toInt := congrArg Int32.toInt (u102 12 3 a0 (by decide))
                  have f2437 := cb_12_24 i2421 k_a0
                  have f2438 : (q_I r2419 12 24 a0).toInt = (q_I r97.2 12 24 a0).toInt := congrArg Int32.toInt (u2424 12 24 a0 (by decide))
                  have f2439 := cb_12_24 i99 k_a0
                  have f2440 : (q_I r97.2 12 24 a0).toInt = (q_I r48.2 12 24 a0).toInt := congrArg Int32.toInt (u102 12 24 a0 (by decide))
                  have f2441 := cb_12_24 i50 k_a0
                  have f2442 : (q_I r48.2 12 24 a0).toInt = (q_I r19.2 12 24 a0).toInt := congrArg Int32.toInt (u54 12 24 a0 (by decide))
                  have f2443 := cb_12_24 i21 k_a0
                  have f2444 : (q_I r19.2 12 24 a0).toInt = (q_I δ 12 24 a0).toInt := congrArg Int32.toInt (u25 12 24 a0 (by decide))
                  first | (have q2445 := te_mulc (c := 60) (n := 60) rfl (q_I r2419 12 24 a0) (by omega) (by omega); obtain ⟨f2446, f2447, f2448⟩ := q2445) | (obtain ⟨q2445, f2446, f2447, f2448⟩ := ti_mulc (c := 60) (n := 60) rfl (q_I r2419 12 24 a0))
                  have f2449 := cb_12_25 i2421 k_a0
                  have f2450 : (q_I r2419 12 25 a0).toInt = (q_I r97.2 12 25 a0).toInt := congrArg Int32.toInt (u2424 12 25 a0 (by decide))
                  refine ok_biv (fun vx2434 e2435 => ?_)
                  first | (have q2451 := te_add ((60 : Int32) * (q_I r2419 12 24 a0)) (q_I r2419 12 25 a0) (by omega) (by omega); rw [← e2435] at q2451; obtain ⟨f2452, f2453, f2454⟩ := q2451) | (obtain ⟨q2451, f2452, f2453, f2454⟩ : ∃ q : Int, vx2434.toInt = ((60 : Int32) * (q_I r2419 12 24 a0)).toInt + (q_I r2419 12 25 a0).toInt + 4294967296 * q ∧ -2147483648 ≤ vx2434.toInt ∧ vx2434.toInt ≤ 2147483647 := by rw [e2435]; exact ti_add ((60 : Int32) * (q_I r2419 12 24 a0)) (q_I r2419 12 25 a0))
                  first | (have q2459 := te_addc (c := 1) (n := 1) rfl (q_I r2419 12 25 a0) (by omega) (by omega); obtain ⟨f2460, f2461, f2462⟩ := q2459) | (obtain ⟨q2459, f2460, f2461, f2462⟩ := ti_addc (c := 1) (n := 1) rfl (q_I r2419 12 25 a0))
                  refine ok_bdv (fun d2455 e2456 => ?_)
                  have i2457 : RI ad h.1 δ0 d2455 := by rw [e2456]; exact cs_12_25 L i2421 k_a0 (show 0 ≤ ((q_I r2419 12 25 a0) + (1 : Int32)).toInt by omega) (show ((q_I r2419 12 25 a0) + (1 : Int32)).toInt ≤ 60 by omega)
                  have u2463 := kp_I u2428 e2456
                  have v2464 : q_V d2455 = q_V δ := ((show q_V d2455 = q_V r2419 by rw [e2456]; rfl)).trans v2429
                  have v2465 := kr_N v2430 (show q_R d2455 = q_R r2419 by rw [e2456]; rfl)
                  obtain ⟨b2466, o2467, k2468, n2469, w2470⟩ := gO_12_29 L k_a0
                  obtain rfl := gS_12_29 L k_a0 o2467
                  refine ok_at o2467 ?_
                  have t2471 := ti_tn vx2434
                  refine ok_gd (fun hc2472 => ?_) ?_
                  · rcases hc2472 with hc2472 | hc2472
                    · have c2473 : vx2434.toInt < (0 : Int) := o_lt hc2472
                      omega
                    · omega
                  refine ok_bdv (fun d2474 e2475 => ?_)
                  have i2476 : RI ad h.1 δ0 d2474 := by rw [e2475]; exact RI.sR L i2457 w2470
                  have u2477 := kp_N u2463 (show q_I d2474 = q_I d2455 by rw [e2475]; rfl)
                  have v2478 : q_V d2474 = q_V δ := ((show q_V d2474 = q_V d2455 by rw [e2475]; rfl)).trans v2464
                  have v2479 := kr_s L (by decide) v2465 e2475
                  refine ok_ite (fun h2480 => ?_) (fun h2480 => ?_)
                  · have c2481 : r123.1.toInt = (5 : Int) := o_eq h2480
                    obtain ⟨b2482, o2483, k2484, n2485, w2486⟩ := gO_12_30 L k_a0
                    obtain rfl := gS_12_30 L k_a0 o2483
                    refine ok_at o2483 ?_
                    refine ok_bind (k_X12_readNumber L hN (a0 := a0) (x1 := (1 : Int32)) (x2 := (99 : Int32)) k_a0 i2476) (fun r2487 hr2488 => ?_)
                    obtain ⟨i2489, ⟨u2496, u2497, u2498, u2499⟩, p2490, p2491, p2492, p2493, p2494, p2495⟩ := hr2488
                    have u2500 := kp_t u2477 u2496
                    have v2501 : q_V r2487.2 = q_V δ := (u2497).trans v2478
                    have v2502 := kr_t v2479 u2499
                    have f2503 := cb_12_4 i2476 k_a0
                    have f2504 : (q_I d2474 12 4 a0).toInt = (q_I d2455 12 4 a0).toInt := congrArg Int32.toInt (by rw [e2475]; rfl)
                    have f2505 := cb_12_4 i2457 k_a0
                    have f2506 : (q_I d2455 12 4 a0).toInt = (q_I r2419 12 4 a0).toInt := congrArg Int32.toInt (by rw [e2456]; exact rI_o (by decide))
                    have f2507 := cb_12_4 i2489 k_a0
                    have f2508 := cb_12_5 i2476 k_a0
                    have f2509 : (q_I d2474 12 5 a0).toInt = (q_I d2455 12 5 a0).toInt := congrArg Int32.toInt (by rw [e2475]; rfl)
                    have f2510 := cb_12_5 i2457 k_a0
                    have f2511 : (q_I d2455 12 5 a0).toInt = (q_I r2419 12 5 a0).toInt := congrArg Int32.toInt (by rw [e2456]; exact rI_o (by decide))
                    have f2512 := cb_12_5 i2421 k_a0
                    have f2513 : (q_I r2419 12 5 a0).toInt = (q_I r97.2 12 5 a0).toInt := congrArg Int32.toInt (u2424 12 5 a0 (by decide))
                    have f2514 := cb_12_5 i2489 k_a0
                    have f2515 := ti_b r2487.1
                    replace p2495 : ((q_I r2487.2 12 5 a0).toInt < 0 → (1 : Int) ≤ (r2487.1).toInt ∧ (r2487.1).toInt ≤ (99 : Int)) := p2495
                    have f2516 := ti_b r2487.1
                    refine ok_gd (fun hc2517 => ?_) ?_
                    · rcases hc2517 with hc2517 | hc2517
                      · have c2518 : vx2434.toInt < (0 : Int) := o_lt hc2517
                        omega
                      · omega
                    refine ok_bdv (fun d2519 e2520 => ?_)
                    have i2521 : RI ad h.1 δ0 d2519 := by rw [e2520]; exact RI.sR L i2489 w2486
                    have u2522 := kp_N u2500 (show q_I d2519 = q_I r2487.2 by rw [e2520]; rfl)
                    have v2523 : q_V d2519 = q_V δ := ((show q_V d2519 = q_V r2487.2 by rw [e2520]; rfl)).trans v2501
                    have v2524 := kr_s L (by decide) v2502 e2520
                    refine ok_bind (k_X12_sign L hN (a0 := a0) (x1 := (91 : Int32)) k_a0 (show (91 : Int) ≠ 0 by first | assumption | omega) i2521) (fun r2525 hr2526 => ?_)
                    obtain ⟨i2527, ⟨u2531, u2532, u2533, u2534⟩, p2528, p2529, p2530⟩ := hr2526
                    have u2535 := kp_t u2522 u2531
                    have v2536 : q_V r2525 = q_V δ := (u2532).trans v2523
                    have v2537 := kr_t v2524 u2534
                    have f2538 := cb_12_4 i2521 k_a0
                    have f2539 : (q_I d2519 12 4 a0).toInt = (q_I r2487.2 12 4 a0).toInt := congrArg Int32.toInt (by rw [e2520]; rfl)
                    have f2540 := cb_12_4 i2527 k_a0
                    have f2541 := cb_12_5 i2521 k_a0
                    have f2542 : (q_I d2519 12 5 a0).toInt = (q_I r2487.2 12 5 a0).toInt := congrArg Int32.toInt (by rw [e2520]; rfl)
                    have f2543 := cb_12_5 i2527 k_a0
                    have f2547 := cb_12_27 i2527 k_a0
                    have f2548 : (q_I r2525 12 27 a0).toInt = (q_I d2519 12 27 a0).toInt := congrArg Int32.toInt (u2531 12 27 a0 (by decide))
                    have f2549 := cb_12_27 i2521 k_a0
                    have f2550 : (q_I d2519 12 27 a0).toInt = (q_I r2487.2 12 27 a0).toInt := congrArg Int32.toInt (by rw [e2520]; rfl)
                    have f2551 := cb_12_27 i2489 k_a0
                    have f2552 : (q_I r2487.2 12 27 a0).toInt = (q_I d2474 12 27 a0).toInt := congrArg Int32.toInt (u2496 12 27 a0 (by decide))
                    have f2553 := cb_12_27 i2476 k_a0
                    have f2554 : (q_I d2474 12 27 a0).toInt = (q_I d2455 12 27 a0).toInt := congrArg Int32.toInt (by rw [e2475]; rfl)
                    have f2555 := cb_12_27 i2457 k_a0
                    have f2556 : (q_I d2455 12 27 a0).toInt = (q_I r2419 12 27 a0).toInt := congrArg Int32.toInt (by rw [e2456]; exact rI_o (by decide))
                    have f2557 := cb_12_27 i2421 k_a0
                    have f2558 : (q_I r2419 12 27 a0).toInt = (q_I r97.2 12 27 a0).toInt := congrArg Int32.toInt (u2424 12 27 a0 (by decide))
                    have f2559 := cb_12_27 i99 k_a0
                    have f2560 : (q_I r97.2 12 27 a0).toInt = (q_I r48.2 12 27 a0).toInt := congrArg Int32.toInt (u102 12 27 a0 (by decide))
                    have f2561 := cb_12_27 i50 k_a0
                    have f2562 : (q_I r48.2 12 27 a0).toInt = (q_I r19.2 12 27 a0).toInt := congrArg Int32.toInt (u54 12 27 a0 (by decide))
                    have f2563 := cb_12_27 i21 k_a0
                    have f2564 : (q_I r19.2 12 27 a0).toInt = (q_I δ 12 27 a0).toInt := congrArg Int32.toInt (u25 12 27 a0 (by decide))
                    first | (have q2566 := te_addc (c := 1) (n := 1) rfl (q_I r2525 12 27 a0) (by omega) (by omega); obtain ⟨f2567, f2568, f2569⟩ := q2566) | (obtain ⟨q2566, f2567, f2568, f2569⟩ := ti_addc (c := 1) (n := 1) rfl (q_I r2525 12 27 a0))
                    refine ok_bdv (fun d2544 e2545 => ?_)
                    have i2546 : RI ad h.1 δ0 d2544 := by rw [e2545]; exact cs_12_27 L i2527 k_a0 (show 0 ≤ ((q_I r2525 12 27 a0) + (1 : Int32)).toInt by omega) (show ((q_I r2525 12 27 a0) + (1 : Int32)).toInt ≤ 3 by omega)
                    have u2570 := kp_I u2535 e2545
                    have v2571 : q_V d2544 = q_V δ := ((show q_V d2544 = q_V r2525 by rw [e2545]; rfl)).trans v2536
                    have v2572 := kr_N v2537 (show q_R d2544 = q_R r2525 by rw [e2545]; rfl)
                    have f2575 := cb_12_24 i2546 k_a0
                    have f2576 : (q_I d2544 12 24 a0).toInt = (q_I r2525 12 24 a0).toInt := congrArg Int32.toInt (by rw [e2545]; exact rI_o (by decide))
                    have f2577 := cb_12_24 i2527 k_a0
                    have f2578 : (q_I r2525 12 24 a0).toInt = (q_I d2519 12 24 a0).toInt := congrArg Int32.toInt (u2531 12 24 a0 (by decide))
                    have f2579 := cb_12_24 i2521 k_a0
                    have f2580 : (q_I d2519 12 24 a0).toInt = (q_I r2487.2 12 24 a0).toInt := congrArg Int32.toInt (by rw [e2520]; rfl)
                    have f2581 := cb_12_24 i2489 k_a0
                    have f2582 : (q_I r2487.2 12 24 a0).toInt = (q_I d2474 12 24 a0).toInt := congrArg Int32.toInt (u2496 12 24 a0 (by decide))
                    have f2583 := cb_12_24 i2476 k_a0
                    have f2584 : (q_I d2474 12 24 a0).toInt = (q_I d2455 12 24 a0).toInt := congrArg Int32.toInt (by rw [e2475]; rfl)
                    have f2585 := cb_12_24 i2457 k_a0
                    have f2586 : (q_I d2455 12 24 a0).toInt = (q_I r2419 12 24 a0).toInt := congrArg Int32.toInt (by rw [e2456]; exact rI_o (by decide))
                    have f2587 := cb_12_26 i2546 k_a0
                    have f2588 : (q_I d2544 12 26 a0).toInt = (q_I r2525 12 26 a0).toInt := congrArg Int32.toInt (by rw [e2545]; exact rI_o (by decide))
                    have f2589 := cb_12_26 i2527 k_a0
                    have f2590 : (q_I r2525 12 26 a0).toInt = (q_I d2519 12 26 a0).toInt := congrArg Int32.toInt (u2531 12 26 a0 (by decide))
                    have f2591 := cb_12_26 i2521 k_a0
                    have f2592 : (q_I d2519 12 26 a0).toInt = (q_I r2487.2 12 26 a0).toInt := congrArg Int32.toInt (by rw [e2520]; rfl)
                    have f2593 := cb_12_26 i2489 k_a0
                    have f2594 : (q_I r2487.2 12 26 a0).toInt = (q_I d2474 12 26 a0).toInt := congrArg Int32.toInt (u2496 12 26 a0 (by decide))
                    have f2595 := cb_12_26 i2476 k_a0
                    have f2596 : (q_I d2474 12 26 a0).toInt = (q_I d2455 12 26 a0).toInt := congrArg Int32.toInt (by rw [e2475]; rfl)
                    have f2597 := cb_12_26 i2457 k_a0
                    have f2598 : (q_I d2455 12 26 a0).toInt = (q_I r2419 12 26 a0).toInt := congrArg Int32.toInt (by rw [e2456]; exact rI_o (by decide))
                    have f2599 := cb_12_26 i2421 k_a0
                    have f2600 : (q_I r2419 12 26 a0).toInt = (q_I r97.2 12 26 a0).toInt := congrArg Int32.toInt (u2424 12 26 a0 (by decide))
                    have f2601 := cb_12_26 i99 k_a0
                    have f2602 : (q_I r97.2 12 26 a0).toInt = (q_I r48.2 12 26 a0).toInt := congrArg Int32.toInt (u102 12 26 a0 (by decide))
                    have f2603 := cb_12_26 i50 k_a0
                    have f2604 : (q_I r48.2 12 26 a0).toInt = (q_I r19.2 12 26 a0).toInt := congrArg Int32.toInt (u54 12 26 a0 (by decide))
                    have f2605 := cb_12_26 i21 k_a0
                    have f2606 : (q_I r19.2 12 26 a0).toInt = (q_I δ 12 26 a0).toInt := congrArg Int32.toInt (u25 12 26 a0 (by decide))
                    have f2607 := cb_12_4 i2546 k_a0
                    have f2608 : (q_I d2544 12 4 a0).toInt = (q_I r2525 12 4 a0).toInt := congrArg Int32.toInt (by rw [e2545]; exact rI_o (by decide))
                    have f2609 := ti_b (q_I d2544 12 7 a0)
                    have f2610 : (q_I d2544 12 7 a0).toInt = (q_I r2525 12 7 a0).toInt := congrArg Int32.toInt (by rw [e2545]; exact rI_o (by decide))
                    have f2611 := ti_b (q_I r2525 12 7 a0)
                    have f2612 : (q_I r2525 12 7 a0).toInt = (q_I d2519 12 7 a0).toInt := congrArg Int32.toInt (u2531 12 7 a0 (by decide))
                    have f2613 := ti_b (q_I d2519 12 7 a0)
                    have f2614 : (q_I d2519 12 7 a0).toInt = (q_I r2487.2 12 7 a0).toInt := congrArg Int32.toInt (by rw [e2520]; rfl)
                    have f2615 := ti_b (q_I r2487.2 12 7 a0)
                    have f2616 : (q_I r2487.2 12 7 a0).toInt = (q_I d2474 12 7 a0).toInt := congrArg Int32.toInt (u2496 12 7 a0 (by decide))
                    have f2617 := ti_b (q_I d2474 12 7 a0)
                    have f2618 : (q_I d2474 12 7 a0).toInt = (q_I d2455 12 7 a0).toInt := congrArg Int32.toInt (by rw [e2475]; rfl)
                    have f2619 := ti_b (q_I d2455 12 7 a0)
                    have f2620 : (q_I d2455 12 7 a0).toInt = (q_I r2419 12 7 a0).toInt := congrArg Int32.toInt (by rw [e2456]; exact rI_o (by decide))
                    have f2621 := ti_b (q_I r2419 12 7 a0)
                    have f2622 : (q_I r2419 12 7 a0).toInt = (q_I r97.2 12 7 a0).toInt := congrArg Int32.toInt (u2424 12 7 a0 (by decide))
                    have f2623 := ti_b (q_I r97.2 12 7 a0)
                    have f2624 : (q_I r97.2 12 7 a0).toInt = (q_I r48.2 12 7 a0).toInt := congrArg Int32.toInt (u102 12 7 a0 (by decide))
                    have f2625 := ti_b (q_I r48.2 12 7 a0)
                    have f2626 : (q_I r48.2 12 7 a0).toInt = (q_I r19.2 12 7 a0).toInt := congrArg Int32.toInt (u54 12 7 a0 (by decide))
                    have f2627 := ti_b (q_I r19.2 12 7 a0)
                    have f2628 : (q_I r19.2 12 7 a0).toInt = (q_I δ 12 7 a0).toInt := congrArg Int32.toInt (u25 12 7 a0 (by decide))
                    have f2629 := cb_12_27 i2546 k_a0
                    have f2630 : (q_I d2544 12 27 a0).toInt = ((q_I r2525 12 27 a0) + (1 : Int32)).toInt := congrArg Int32.toInt (show q_I d2544 12 27 a0 = ((q_I r2525 12 27 a0) + (1 : Int32)) by rw [e2545]; exact rI_s)
                    refine ok_bind (hT a0 d2544 k_a0 (show (q_I d2544 12 24 a0).toInt ≤ 3 by first | assumption | omega) (show (q_I d2544 12 26 a0).toInt ≤ (q_I d2544 12 4 a0).toInt by first | assumption | omega) (show (q_I d2544 12 7 a0).toInt = 0 by first | assumption | omega) (show 4 - (q_I d2544 12 27 a0).toInt < _ by first | assumption | omega) i2546) (fun r2573 hr2574 => ?_)
                    obtain ⟨i2631, ⟨u2637, u2638, u2639⟩, p2632, p2633, p2634, p2635, p2636⟩ := hr2574
                    have u2640 := kp_t u2570 u2637
                    have v2641 : q_V r2573 = q_V δ := (u2638).trans v2571
                    have v2642 := kr_t v2572 u2639
                    have f2643 := cb_12_4 i2631 k_a0
                    have f2644 := cb_12_5 i2546 k_a0
                    have f2645 : (q_I d2544 12 5 a0).toInt = (q_I r2525 12 5 a0).toInt := congrArg Int32.toInt (by rw [e2545]; exact rI_o (by decide))
                    have f2646 := cb_12_5 i2631 k_a0
                    have f2647 := ti_b (q_I r2573 12 7 a0)
                    have f2648 := cb_12_27 i2631 k_a0
                    have f2649 := cb_12_26 i2631 k_a0
                    first | (have q2654 := te_subc (c := 1) (n := 1) rfl (q_I r2573 12 27 a0) (by omega) (by omega); obtain ⟨f2655, f2656, f2657⟩ := q2654) | (obtain ⟨q2654, f2655, f2656, f2657⟩ := ti_subc (c := 1) (n := 1) rfl (q_I r2573 12 27 a0))
                    refine ok_bdv (fun d2650 e2651 => ?_)
                    have i2652 : RI ad h.1 δ0 d2650 := by rw [e2651]; exact cs_12_27 L i2631 k_a0 (show 0 ≤ ((q_I r2573 12 27 a0) - (1 : Int32)).toInt by omega) (show ((q_I r2573 12 27 a0) - (1 : Int32)).toInt ≤ 3 by omega)
                    have u2658 := kp_I u2640 e2651
                    have v2659 : q_V d2650 = q_V δ := ((show q_V d2650 = q_V r2573 by rw [e2651]; rfl)).trans v2641
                    have v2660 := kr_N v2642 (show q_R d2650 = q_R r2573 by rw [e2651]; rfl)
                    refine ok_bind (k_X12_sign L hN (a0 := a0) (x1 := (93 : Int32)) k_a0 (show (93 : Int) ≠ 0 by first | assumption | omega) i2652) (fun r2661 hr2662 => ?_)
                    obtain ⟨i2663, ⟨u2667, u2668, u2669, u2670⟩, p2664, p2665, p2666⟩ := hr2662
                    have u2671 := kp_t u2658 u2667
                    have v2672 : q_V r2661 = q_V δ := (u2668).trans v2659
                    have v2673 := kr_t v2660 u2670
                    have f2674 := cb_12_4 i2652 k_a0
                    have f2675 : (q_I d2650 12 4 a0).toInt = (q_I r2573 12 4 a0).toInt := congrArg Int32.toInt (by rw [e2651]; exact rI_o (by decide))
                    have f2676 := cb_12_4 i2663 k_a0
                    have f2677 := cb_12_5 i2652 k_a0
                    have f2678 : (q_I d2650 12 5 a0).toInt = (q_I r2573 12 5 a0).toInt := congrArg Int32.toInt (by rw [e2651]; exact rI_o (by decide))
                    have f2679 := cb_12_5 i2663 k_a0
                    obtain ⟨b2680, o2681, k2682, n2683, w2684⟩ := gO_12_31 L k_a0
                    obtain rfl := gS_12_31 L k_a0 o2681
                    refine ok_at o2681 ?_
                    refine ok_gd (fun hc2685 => ?_) ?_
                    · rcases hc2685 with hc2685 | hc2685
                      · have c2686 : vx2434.toInt < (0 : Int) := o_lt hc2685
                        omega
                      · omega
                    refine ok_bdv (fun d2687 e2688 => ?_)
                    have i2689 : RI ad h.1 δ0 d2687 := by rw [e2688]; exact RI.sR L i2663 w2684
                    have u2690 := kp_N u2671 (show q_I d2687 = q_I r2661 by rw [e2688]; rfl)
                    have v2691 : q_V d2687 = q_V δ := ((show q_V d2687 = q_V r2661 by rw [e2688]; rfl)).trans v2672
                    have v2692 := kr_s L (by decide) v2673 e2688
                    unfold J_X12_readSteps_236
                    have f2693 := cb_12_24 i2689 k_a0
                    have f2694 : (q_I d2687 12 24 a0).toInt = (q_I r2661 12 24 a0).toInt := congrArg Int32.toInt (by rw [e2688]; rfl)
                    have f2695 := cb_12_24 i2663 k_a0
                    have f2696 : (q_I r2661 12 24 a0).toInt = (q_I d2650 12 24 a0).toInt := congrArg Int32.toInt (u2667 12 24 a0 (by decide))
                    have f2697 := cb_12_24 i2652 k_a0
                    have f2698 : (q_I d2650 12 24 a0).toInt = (q_I r2573 12 24 a0).toInt := congrArg Int32.toInt (by rw [e2651]; exact rI_o (by decide))
                    have f2699 := cb_12_24 i2631 k_a0
                    have f2700 : (q_I r2573 12 24 a0).toInt = (q_I d2544 12 24 a0).toInt := congrArg Int32.toInt (u2637 12 24 a0 (by decide))
                    have f2701 := cb_12_26 i2689 k_a0
                    have f2702 : (q_I d2687 12 26 a0).toInt = (q_I r2661 12 26 a0).toInt := congrArg Int32.toInt (by rw [e2688]; rfl)
                    have f2703 := cb_12_26 i2663 k_a0
                    have f2704 : (q_I r2661 12 26 a0).toInt = (q_I d2650 12 26 a0).toInt := congrArg Int32.toInt (u2667 12 26 a0 (by decide))
                    have f2705 := cb_12_26 i2652 k_a0
                    have f2706 : (q_I d2650 12 26 a0).toInt = (q_I r2573 12 26 a0).toInt := congrArg Int32.toInt (by rw [e2651]; exact rI_o (by decide))
                    have f2707 := cb_12_4 i2689 k_a0
                    have f2708 : (q_I d2687 12 4 a0).toInt = (q_I r2661 12 4 a0).toInt := congrArg Int32.toInt (by rw [e2688]; rfl)
                    have f2709 := ti_b (q_I d2687 12 7 a0)
                    have f2710 : (q_I d2687 12 7 a0).toInt = (q_I r2661 12 7 a0).toInt := congrArg Int32.toInt (by rw [e2688]; rfl)
                    have f2711 := ti_b (q_I r2661 12 7 a0)
                    have f2712 : (q_I r2661 12 7 a0).toInt = (q_I d2650 12 7 a0).toInt := congrArg Int32.toInt (u2667 12 7 a0 (by decide))
                    have f2713 := ti_b (q_I d2650 12 7 a0)
                    have f2714 : (q_I d2650 12 7 a0).toInt = (q_I r2573 12 7 a0).toInt := congrArg Int32.toInt (by rw [e2651]; exact rI_o (by decide))
                    have f2715 := cb_12_27 i2689 k_a0
                    have f2716 : (q_I d2687 12 27 a0).toInt = (q_I r2661 12 27 a0).toInt := congrArg Int32.toInt (by rw [e2688]; rfl)
                    have f2717 := cb_12_27 i2663 k_a0
                    have f2718 : (q_I r2661 12 27 a0).toInt = (q_I d2650 12 27 a0).toInt := congrArg Int32.toInt (u2667 12 27 a0 (by decide))
                    have f2719 := cb_12_27 i2652 k_a0
                    have f2720 : (q_I d2650 12 27 a0).toInt = ((q_I r2573 12 27 a0) - (1 : Int32)).toInt := congrArg Int32.toInt (show q_I d2650 12 27 a0 = ((q_I r2573 12 27 a0) - (1 : Int32)) by rw [e2651]; exact rI_s)
                    refine ok_mono (ih d2687 i2689 (show (q_I d2687 12 24 a0).toInt ≤ 3 by first | assumption | omega) (show (q_I d2687 12 26 a0).toInt ≤ (q_I d2687 12 4 a0).toInt by first | assumption | omega) (show (q_I d2687 12 7 a0).toInt = 0 by first | assumption | omega) (show 4 - (q_I d2687 12 27 a0).toInt ≤ K by first | assumption | omega) (show 501 - (q_I d2687 12 4 a0).toInt < _ by omega)) (fun r2721 hr2722 => ?_)
                    obtain ⟨i2723, ⟨u2729, u2730, u2731⟩, p2724, p2725, p2726, p2727, p2728⟩ := hr2722
                    have u2732 := kp_t u2690 u2729
                    have v2733 : q_V r2721 = q_V δ := (u2730).trans v2691
                    have v2734 := kr_t v2692 u2731
                    have f2735 := cb_12_4 i2723 k_a0
                    have f2736 := cb_12_5 i2689 k_a0
                    have f2737 : (q_I d2687 12 5 a0).toInt = (q_I r2661 12 5 a0).toInt := congrArg Int32.toInt (by rw [e2688]; rfl)
                    have f2738 := cb_12_5 i2723 k_a0
                    have f2739 := ti_b (q_I r2721 12 7 a0)
                    have f2740 := cb_12_27 i2723 k_a0
                    have f2741 := cb_12_26 i2723 k_a0
                    exact ⟨by assumption, ⟨kp_w (by decide) u2732, v2733, kr_w (by decide) v2734⟩, by first | assumption | omega, by first | assumption | omega, by first | assumption | omega, by first | assumption | omega, by first | assumption | omega⟩
                  · have c2742 : r123.1.toInt ≠ (5 : Int) := o_ne h2480
                    obtain ⟨b2743, o2744, k2745, n2746, w2747⟩ := gO_12_30 L k_a0
                    obtain rfl := gS_12_30 L k_a0 o2744
                    refine ok_at o2744 ?_
                    refine ok_gd (fun hc2748 => ?_) ?_
                    · rcases hc2748 with hc2748 | hc2748
                      · have c2749 : vx2434.toInt < (0 : Int) := o_lt hc2748
                        omega
                      · omega
                    refine ok_bdv (fun d2750 e2751 => ?_)
                    have i2752 : RI ad h.1 δ0 d2750 := by rw [e2751]; exact RI.sR L i2476 w2747
                    have u2753 := kp_N u2477 (show q_I d2750 = q_I d2474 by rw [e2751]; rfl)
                    have v2754 : q_V d2750 = q_V δ := ((show q_V d2750 = q_V d2474 by rw [e2751]; rfl)).trans v2478
                    have v2755 := kr_s L (by decide) v2479 e2751
                    have f2758 := cb_12_24 i2752 k_a0
                    have f2759 : (q_I d2750 12 24 a0).toInt = (q_I d2474 12 24 a0).toInt := congrArg Int32.toInt (by rw [e2751]; rfl)
                    have f2760 := cb_12_24 i2476 k_a0
                    have f2761 : (q_I d2474 12 24 a0).toInt = (q_I d2455 12 24 a0).toInt := congrArg Int32.toInt (by rw [e2475]; rfl)
                    have f2762 := cb_12_24 i2457 k_a0
                    have f2763 : (q_I d2455 12 24 a0).toInt = (q_I r2419 12 24 a0).toInt := congrArg Int32.toInt (by rw [e2456]; exact rI_o (by decide))
                    have f2764 := cb_12_26 i2752 k_a0
                    have f2765 : (q_I d2750 12 26 a0).toInt = (q_I d2474 12 26 a0).toInt := congrArg Int32.toInt (by rw [e2751]; rfl)
                    have f2766 := cb_12_26 i2476 k_a0
                    have f2767 : (q_I d2474 12 26 a0).toInt = (q_I d2455 12 26 a0).toInt := congrArg Int32.toInt (by rw [e2475]; rfl)
                    have f2768 := cb_12_26 i2457 k_a0
                    have f2769 : (q_I d2455 12 26 a0).toInt = (q_I r2419 12 26 a0).toInt := congrArg Int32.toInt (by rw [e2456]; exact rI_o (by decide))
                    have f2770 := cb_12_26 i2421 k_a0
                    have f2771 : (q_I r2419 12 26 a0).toInt = (q_I r97.2 12 26 a0).toInt := congrArg Int32.toInt (u2424 12 26 a0 (by decide))
                    have f2772 := cb_12_26 i99 k_a0
                    have f2773 : (q_I r97.2 12 26 a0).toInt = (q_I r48.2 12 26 a0).toInt := congrArg Int32.toInt (u102 12 26 a0 (by decide))
                    have f2774 := cb_12_26 i50 k_a0
                    have f2775 : (q_I r48.2 12 26 a0).toInt = (q_I r19.2 12 26 a0).toInt := congrArg Int32.toInt (u54 12 26 a0 (by decide))
                    have f2776 := cb_12_26 i21 k_a0
                    have f2777 : (q_I r19.2 12 26 a0).toInt = (q_I δ 12 26 a0).toInt := congrArg Int32.toInt (u25 12 26 a0 (by decide))
                    have f2778 := cb_12_4 i2752 k_a0
                    have f2779 : (q_I d2750 12 4 a0).toInt = (q_I d2474 12 4 a0).toInt := congrArg Int32.toInt (by rw [e2751]; rfl)
                    have f2780 := cb_12_4 i2476 k_a0
                    have f2781 : (q_I d2474 12 4 a0).toInt = (q_I d2455 12 4 a0).toInt := congrArg Int32.toInt (by rw [e2475]; rfl)
                    have f2782 := cb_12_4 i2457 k_a0
                    have f2783 : (q_I d2455 12 4 a0).toInt = (q_I r2419 12 4 a0).toInt := congrArg Int32.toInt (by rw [e2456]; exact rI_o (by decide))
                    have f2784 := ti_b (q_I d2750 12 7 a0)
                    have f2785 : (q_I d2750 12 7 a0).toInt = (q_I d2474 12 7 a0).toInt := congrArg Int32.toInt (by rw [e2751]; rfl)
                    have f2786 := ti_b (q_I d2474 12 7 a0)
                    have f2787 : (q_I d2474 12 7 a0).toInt = (q_I d2455 12 7 a0).toInt := congrArg Int32.toInt (by rw [e2475]; rfl)
                    have f2788 := ti_b (q_I d2455 12 7 a0)
                    have f2789 : (q_I d2455 12 7 a0).toInt = (q_I r2419 12 7 a0).toInt := congrArg Int32.toInt (by rw [e2456]; exact rI_o (by decide))
                    have f2790 := ti_b (q_I r2419 12 7 a0)
                    have f2791 : (q_I r2419 12 7 a0).toInt = (q_I r97.2 12 7 a0).toInt := congrArg Int32.toInt (u2424 12 7 a0 (by decide))
                    have f2792 := ti_b (q_I r97.2 12 7 a0)
                    have f2793 : (q_I r97.2 12 7 a0).toInt = (q_I r48.2 12 7 a0).toInt := congrArg Int32.toInt (u102 12 7 a0 (by decide))
                    have f2794 := ti_b (q_I r48.2 12 7 a0)
                    have f2795 : (q_I r48.2 12 7 a0).toInt = (q_I r19.2 12 7 a0).toInt := congrArg Int32.toInt (u54 12 7 a0 (by decide))
                    have f2796 := ti_b (q_I r19.2 12 7 a0)
                    have f2797 : (q_I r19.2 12 7 a0).toInt = (q_I δ 12 7 a0).toInt := congrArg Int32.toInt (u25 12 7 a0 (by decide))
                    have f2798 := cb_12_5 i2752 k_a0
                    have f2799 : (q_I d2750 12 5 a0).toInt = (q_I d2474 12 5 a0).toInt := congrArg Int32.toInt (by rw [e2751]; rfl)
                    have f2800 := cb_12_5 i2476 k_a0
                    have f2801 : (q_I d2474 12 5 a0).toInt = (q_I d2455 12 5 a0).toInt := congrArg Int32.toInt (by rw [e2475]; rfl)
                    have f2802 := cb_12_5 i2457 k_a0
                    have f2803 : (q_I d2455 12 5 a0).toInt = (q_I r2419 12 5 a0).toInt := congrArg Int32.toInt (by rw [e2456]; exact rI_o (by decide))
                    have f2804 := cb_12_5 i2421 k_a0
                    have f2805 : (q_I r2419 12 5 a0).toInt = (q_I r97.2 12 5 a0).toInt := congrArg Int32.toInt (u2424 12 5 a0 (by decide))
                    refine ok_bind (k_X12_sum L hN (a0 := a0) k_a0 (show (q_I d2750 12 24 a0).toInt ≤ 3 by first | assumption | omega) (show (q_I d2750 12 26 a0).toInt ≤ (q_I d2750 12 4 a0).toInt by first | assumption | omega) (show 0 ≤ (q_I d2750 12 7 a0).toInt by first | assumption | omega) (show (q_I d2750 12 7 a0).toInt ≤ 7 by first | assumption | omega) (show (q_I d2750 12 7 a0).toInt = 7 → 0 ≤ (q_I d2750 12 5 a0).toInt by first | assumption | omega) (show 8 - (q_I d2750 12 7 a0).toInt < 20 by first | assumption | omega) i2752) (fun r2756 hr2757 => ?_)
                    obtain ⟨i2806, ⟨u2813, u2814, u2815⟩, p2807, p2808, p2809, p2810, p2811, p2812⟩ := hr2757
                    have u2816 := kp_t u2753 u2813
                    have v2817 : q_V r2756 = q_V δ := (u2814).trans v2754
                    have v2818 := kr_t v2755 u2815
                    have f2819 := cb_12_4 i2806 k_a0
                    have f2820 := cb_12_5 i2806 k_a0
                    have f2821 := ti_b (q_I r2756 12 7 a0)
                    have f2822 := cb_12_26 i2806 k_a0
                    obtain ⟨b2823, o2824, k2825, n2826, w2827⟩ := gO_12_31 L k_a0
                    obtain rfl := gS_12_31 L k_a0 o2824
                    refine ok_at o2824 ?_
                    refine ok_gd (fun hc2828 => ?_) ?_
                    · rcases hc2828 with hc2828 | hc2828
                      · have c2829 : vx2434.toInt < (0 : Int) := o_lt hc2828
                        omega
                      · omega
                    refine ok_bdv (fun d2830 e2831 => ?_)
                    have i2832 : RI ad h.1 δ0 d2830 := by rw [e2831]; exact RI.sR L i2806 w2827
                    have u2833 := kp_N u2816 (show q_I d2830 = q_I r2756 by rw [e2831]; rfl)
                    have v2834 : q_V d2830 = q_V δ := ((show q_V d2830 = q_V r2756 by rw [e2831]; rfl)).trans v2817
                    have v2835 := kr_s L (by decide) v2818 e2831
                    refine ok_bind (k_X12_sign L hN (a0 := a0) (x1 := (59 : Int32)) k_a0 (show (59 : Int) ≠ 0 by first | assumption | omega) i2832) (fun r2836 hr2837 => ?_)
                    obtain ⟨i2838, ⟨u2842, u2843, u2844, u2845⟩, p2839, p2840, p2841⟩ := hr2837
                    have u2846 := kp_t u2833 u2842
                    have v2847 : q_V r2836 = q_V δ := (u2843).trans v2834
                    have v2848 := kr_t v2835 u2845
                    have f2849 := cb_12_4 i2832 k_a0
                    have f2850 : (q_I d2830 12 4 a0).toInt = (q_I r2756 12 4 a0).toInt := congrArg Int32.toInt (by rw [e2831]; rfl)
                    have f2851 := cb_12_4 i2838 k_a0
                    have f2852 := cb_12_5 i2832 k_a0
                    have f2853 : (q_I d2830 12 5 a0).toInt = (q_I r2756 12 5 a0).toInt := congrArg Int32.toInt (by rw [e2831]; rfl)
                    have f2854 := cb_12_5 i2838 k_a0
                    unfold J_X12_readSteps_236
                    have f2855 := cb_12_24 i2838 k_a0
                    have f2856 : (q_I r2836 12 24 a0).toInt = (q_I d2830 12 24 a0).toInt := congrArg Int32.toInt (u2842 12 24 a0 (by decide))
                    have f2857 := cb_12_24 i2832 k_a0
                    have f2858 : (q_I d2830 12 24 a0).toInt = (q_I r2756 12 24 a0).toInt := congrArg Int32.toInt (by rw [e2831]; rfl)
                    have f2859 := cb_12_24 i2806 k_a0
                    have f2860 : (q_I r2756 12 24 a0).toInt = (q_I d2750 12 24 a0).toInt := congrArg Int32.toInt (u2813 12 24 a0 (by decide))
                    have f2861 := cb_12_26 i2838 k_a0
                    have f2862 : (q_I r2836 12 26 a0).toInt = (q_I d2830 12 26 a0).toInt := congrArg Int32.toInt (u2842 12 26 a0 (by decide))
                    have f2863 := cb_12_26 i2832 k_a0
                    have f2864 : (q_I d2830 12 26 a0).toInt = (q_I r2756 12 26 a0).toInt := congrArg Int32.toInt (by rw [e2831]; rfl)
                    have f2865 := ti_b (q_I r2836 12 7 a0)
                    have f2866 : (q_I r2836 12 7 a0).toInt = (q_I d2830 12 7 a0).toInt := congrArg Int32.toInt (u2842 12 7 a0 (by decide))
                    have f2867 := ti_b (q_I d2830 12 7 a0)
                    have f2868 : (q_I d2830 12 7 a0).toInt = (q_I r2756 12 7 a0).toInt := congrArg Int32.toInt (by rw [e2831]; rfl)
                    have f2869 := cb_12_27 i2838 k_a0
                    have f2870 : (q_I r2836 12 27 a0).toInt = (q_I d2830 12 27 a0).toInt := congrArg Int32.toInt (u2842 12 27 a0 (by decide))
                    have f2871 := cb_12_27 i2832 k_a0
                    have f2872 : (q_I d2830 12 27 a0).toInt = (q_I r2756 12 27 a0).toInt := congrArg Int32.toInt (by rw [e2831]; rfl)
                    have f2873 := cb_12_27 i2806 k_a0
                    have f2874 : (q_I r2756 12 27 a0).toInt = (q_I d2750 12 27 a0).toInt := congrArg Int32.toInt (u2813 12 27 a0 (by decide))
                    have f2875 := cb_12_27 i2752 k_a0
                    have f2876 : (q_I d2750 12 27 a0).toInt = (q_I d2474 12 27 a0).toInt := congrArg Int32.toInt (by rw [e2751]; rfl)
                    have f2877 := cb_12_27 i2476 k_a0
                    have f2878 : (q_I d2474 12 27 a0).toInt = (q_I d2455 12 27 a0).toInt := congrArg Int32.toInt (by rw [e2475]; rfl)
                    have f2879 := cb_12_27 i2457 k_a0
                    have f2880 : (q_I d2455 12 27 a0).toInt = (q_I r2419 12 27 a0).toInt := congrArg Int32.toInt (by rw [e2456]; exact rI_o (by decide))
                    have f2881 := cb_12_27 i2421 k_a0
                    have f2882 : (q_I r2419 12 27 a0).toInt = (q_I r97.2 12 27 a0).toInt := congrArg Int32.toInt (u2424 12 27 a0 (by decide))
                    have f2883 := cb_12_27 i99 k_a0
                    have f2884 : (q_I r97.2 12 27 a0).toInt = (q_I r48.2 12 27 a0).toInt := congrArg Int32.toInt (u102 12 27 a0 (by decide))
                    have f2885 := cb_12_27 i50 k_a0
                    have f2886 : (q_I r48.2 12 27 a0).toInt = (q_I r19.2 12 27 a0).toInt := congrArg Int32.toInt (u54 12 27 a0 (by decide))
                    have f2887 := cb_12_27 i21 k_a0
                    have f2888 : (q_I r19.2 12 27 a0).toInt = (q_I δ 12 27 a0).toInt := congrArg Int32.toInt (u25 12 27 a0 (by decide))
                    refine ok_mono (ih r2836 i2838 (show (q_I r2836 12 24 a0).toInt ≤ 3 by first | assumption | omega) (show (q_I r2836 12 26 a0).toInt ≤ (q_I r2836 12 4 a0).toInt by first | assumption | omega) (show (q_I r2836 12 7 a0).toInt = 0 by first | assumption | omega) (show 4 - (q_I r2836 12 27 a0).toInt ≤ K by first | assumption | omega) (show 501 - (q_I r2836 12 4 a0).toInt < _ by omega)) (fun r2889 hr2890 => ?_)
                    obtain ⟨i2891, ⟨u2897, u2898, u2899⟩, p2892, p2893, p2894, p2895, p2896⟩ := hr2890
                    have u2900 := kp_t u2846 u2897
                    have v2901 : q_V r2889 = q_V δ := (u2898).trans v2847
                    have v2902 := kr_t v2848 u2899
                    have f2903 := cb_12_4 i2891 k_a0
                    have f2904 := cb_12_5 i2891 k_a0
                    have f2905 := ti_b (q_I r2889 12 7 a0)
                    have f2906 := cb_12_27 i2891 k_a0
                    have f2907 := cb_12_26 i2891 k_a0
                    exact ⟨by assumption, ⟨kp_w (by decide) u2900, v2901, kr_w (by decide) v2902⟩, by first | assumption | omega, by first | assumption | omega, by first | assumption | omega, by first | assumption | omega, by first | assumption | omega⟩
set_option maxHeartbeats 4000000 in
theorem ke_X12_readSteps {ad : List Nat} {h : hp} (L : Lay TLx ad h) {δ0 : dp} {N : Nat} (hN : 10000000 ≤ N) : ∀ (k : Nat), ∀ (a0 : Nat) (δ : dp), q_K h.1 a0 = 12 → (q_I δ 12 24 a0).toInt ≤ 3 → (q_I δ 12 26 a0).toInt ≤ (q_I δ 12 4 a0).toInt → (q_I δ 12 7 a0).toInt = 0 → 4 - (q_I δ 12 27 a0).toInt < (k : Int) → RI ad h.1 δ0 δ → ok (E_X12_readSteps N h.1 k a0 δ) (fun r => RI ad h.1 δ0 r ∧ (kp [(12, 4), (12, 5), (12, 6), (12, 7), (12, 25), (12, 26), (12, 27)] δ r ∧ q_V r = q_V δ ∧ kr ad [113, 114, 115, 116, 117] δ r) ∧ (q_I δ 12 4 a0).toInt ≤ (q_I r 12 4 a0).toInt ∧ (q_I δ 12 5 a0).toInt ≤ (q_I r 12 5 a0).toInt ∧ (q_I r 12 7 a0).toInt = (q_I δ 12 7 a0).toInt ∧ (q_I r 12 27 a0).toInt = (q_I δ 12 27 a0).toInt ∧ (q_I r 12 26 a0).toInt ≤ (q_I r 12 4 a0).toInt) := by
  intro k
  induction k with
  | zero =>
    intro a0 δ k_a0 z0 z1 z2 hd I
    exfalso; omega
  | succ k ih =>
    intro a0 δ k_a0 z0 z1 z2 hd I
    unfold E_X12_readSteps B_X12_readSteps
    have f1 := cb_12_24 I k_a0
    have f2 := cb_12_26 I k_a0
    have f3 := cb_12_4 I k_a0
    have f4 := ti_b (q_I δ 12 7 a0)
    have f5 := cb_12_27 I k_a0
    refine ok_mono (kl_X12_readSteps_0 L hN   ih k_a0 _ δ I (show (q_I δ 12 24 a0).toInt ≤ 3 by first | assumption | omega) (show (q_I δ 12 26 a0).toInt ≤ (q_I δ 12 4 a0).toInt by first | assumption | omega) (show (q_I δ 12 7 a0).toInt = 0 by first | assumption | omega) (show 4 - (q_I δ 12 27 a0).toInt ≤ (k : Int) by first | assumption | omega) (show 501 - (q_I δ 12 4 a0).toInt < _ by omega)) (fun r6 hr7 => ?_)
    obtain ⟨i8, ⟨u14, u15, u16⟩, p9, p10, p11, p12, p13⟩ := hr7
    have u17 := kp_t kp_r u14
    have v18 : q_V r6 = q_V δ := (u15).trans rfl
    have v19 := kr_t (kr_r (ad := ad)) u16
    have f20 := cb_12_4 i8 k_a0
    have f21 := cb_12_5 I k_a0
    have f22 := cb_12_5 i8 k_a0
    have f23 := ti_b (q_I r6 12 7 a0)
    have f24 := cb_12_27 i8 k_a0
    have f25 := cb_12_26 i8 k_a0
    exact ⟨by assumption, ⟨kp_w (by decide) u17, v18, kr_w (by decide) v19⟩, by first | assumption | omega, by first | assumption | omega, by first | assumption | omega, by first | assumption | omega, by first | assumption | omega⟩
set_option maxHeartbeats 4000000 in
theorem k_X12_readSteps {ad : List Nat} {h : hp} (L : Lay TLx ad h) {δ0 : dp} {N : Nat} (hN : 10000000 ≤ N) {a0 : Nat} (k_a0 : q_K h.1 a0 = 12) {δ : dp} (z0 : (q_I δ 12 24 a0).toInt ≤ 3) (z1 : (q_I δ 12 26 a0).toInt ≤ (q_I δ 12 4 a0).toInt) (z2 : (q_I δ 12 7 a0).toInt = 0) (hd : 4 - (q_I δ 12 27 a0).toInt < 20) (I : RI ad h.1 δ0 δ) : ok (D_X12_readSteps N h.1 a0 δ) (fun r => RI ad h.1 δ0 r ∧ (kp [(12, 4), (12, 5), (12, 6), (12, 7), (12, 25), (12, 26), (12, 27)] δ r ∧ q_V r = q_V δ ∧ kr ad [113, 114, 115, 116, 117] δ r) ∧ (q_I δ 12 4 a0).toInt ≤ (q_I r 12 4 a0).toInt ∧ (q_I δ 12 5 a0).toInt ≤ (q_I r 12 5 a0).toInt ∧ (q_I r 12 7 a0).toInt = (q_I δ 12 7 a0).toInt ∧ (q_I r 12 27 a0).toInt = (q_I δ 12 27 a0).toInt ∧ (q_I r 12 26 a0).toInt ≤ (q_I r 12 4 a0).toInt) := ke_X12_readSteps L hN 20 a0 δ k_a0 z0 z1 z2 hd I
set_option maxHeartbeats 4000000 in
theorem k_X12_thief {ad : List Nat} {h : hp} (L : Lay TLx ad h) {δ0 : dp} {N : Nat} (hN : 10000000 ≤ N) {a0 : Nat} {x1 : Int32} (k_a0 : q_K h.1 a0 = 12) {δ : dp} (I : RI ad h.1 δ0 δ) : ok (D_X12_thief N h.1 a0 x1 δ) (fun r => RI ad h.1 δ0 r.2 ∧ (kp [(12, 0), (12, 2), (12, 3), (12, 4), (12, 5), (12, 6), (12, 7), (12, 8), (12, 24), (12, 25), (12, 26), (12, 27)] δ r.2 ∧ q_V r.2 = q_V δ ∧ kr ad [100, 112, 113, 114, 115, 116, 117] δ r.2) ∧ (0 ≤ (x1).toInt ∧ (x1).toInt ≤ (q_I δ 12 2 a0).toInt → (q_I r.2 12 2 a0).toInt = 0) ∧ ((x1).toInt < 0 ∨ (q_I δ 12 2 a0).toInt < (x1).toInt → (q_I r.2 12 2 a0).toInt = (q_I δ 12 2 a0).toInt)) := by
  unfold D_X12_thief
  refine ok_bdv (fun d1 e2 => ?_)
  have i3 : RI ad h.1 δ0 d1 := by rw [e2]; exact cs_12_0 L I
  have u4 := kp_I kp_r e2
  have v5 : q_V d1 = q_V δ := ((show q_V d1 = q_V δ by rw [e2]; rfl)).trans rfl
  have v6 := kr_N (kr_r (ad := ad)) (show q_R d1 = q_R δ by rw [e2]; rfl)
  have f7 := ti_b x1
  refine ok_ite (fun h8 => ?_) (fun h8 => ?_)
  · have c9 : x1.toInt < (0 : Int) := o_lt h8
    unfold J_X12_thief_22
    unfold J_X12_thief_23
    refine ok_bind (k_X12_may L hN (a0 := a0) (x1 := (0 : Int32)) (x2 := (1 : Int32)) (x3 := (2 : Int32)) k_a0 (show (1 : Int) ≠ 0 by first | assumption | omega) (show 0 ≤ (2 : Int) by first | assumption | omega) (show (2 : Int) ≤ 2 by first | assumption | omega) i3) (fun r10 hr11 => ?_)
    obtain ⟨i12, ⟨u16, u17, u18⟩, p13, p14, p15⟩ := hr11
    have u19 := kp_t u4 u16
    have v20 : q_V r10.2 = q_V δ := (u17).trans v5
    have v21 := kr_t v6 u18
    have f22 := bo_l p13
    have f23 := ti_b r10.1
    replace p14 : ((r10.1).toInt = 1 → (0 : Int) ≠ 0) := p14
    have f24 := ti_b (q_I d1 12 0 a0)
    have f25 : (q_I d1 12 0 a0).toInt = (0 : Int) := congrArg Int32.toInt (show q_I d1 12 0 a0 = (0 : Int32) by rw [e2]; exact rI_s)
    replace p15 : ((q_I d1 12 0 a0).toInt = 0 → (r10.1).toInt = 0 → (0 : Int) = 0) := p15
    have f26 := ti_b r10.1
    refine ok_ite (fun h27 => ?_) (fun h27 => ?_)
    · have c28 : r10.1.toInt = (0 : Int) := o_eq h27
      have f29 := cb_12_2 I k_a0
      have f30 := cb_12_2 i12 k_a0
      have f31 : (q_I r10.2 12 2 a0).toInt = (q_I d1 12 2 a0).toInt := congrArg Int32.toInt (u16 12 2 a0 (by decide))
      have f32 := cb_12_2 i3 k_a0
      have f33 : (q_I d1 12 2 a0).toInt = (q_I δ 12 2 a0).toInt := congrArg Int32.toInt (by rw [e2]; exact rI_o (by decide))
      exact ok_some (show RI ad h.1 δ0 r10.2 ∧ (kp [(12, 0), (12, 2), (12, 3), (12, 4), (12, 5), (12, 6), (12, 7), (12, 8), (12, 24), (12, 25), (12, 26), (12, 27)] δ r10.2 ∧ q_V r10.2 = q_V δ ∧ kr ad [100, 112, 113, 114, 115, 116, 117] δ r10.2) ∧ (0 ≤ (x1).toInt ∧ (x1).toInt ≤ (q_I δ 12 2 a0).toInt → (q_I r10.2 12 2 a0).toInt = 0) ∧ ((x1).toInt < 0 ∨ (q_I δ 12 2 a0).toInt < (x1).toInt → (q_I r10.2 12 2 a0).toInt = (q_I δ 12 2 a0).toInt) from ⟨i12, ⟨kp_w (by decide) u19, v20, kr_w (by decide) v21⟩, by first | assumption | omega, by first | assumption | omega⟩)
    · have c34 : r10.1.toInt ≠ (0 : Int) := o_ne h27
      refine ok_bind (k_X12_begins L hN (a0 := a0) (x1 := x1) k_a0 (show 0 ≤ (x1).toInt by first | assumption | omega) (show (x1).toInt ≤ 500 by first | assumption | omega) i12) (fun r35 hr36 => ?_)
      obtain ⟨i37, ⟨u43, u44, u45, u46⟩, p38, p39, p40, p41, p42⟩ := hr36
      have u47 := kp_t u19 u43
      have v48 : q_V r35 = q_V δ := (u44).trans v20
      have v49 := kr_t v21 u46
      have f50 := cb_12_2 i37 k_a0
      have f51 := cb_12_4 i37 k_a0
      have f52 := cb_12_3 i37 k_a0
      have f53 := cb_12_5 i37 k_a0
      have f54 := ti_b (q_I r35 12 7 a0)
      have f55 := cb_12_24 i37 k_a0
      have f56 : (q_I r35 12 24 a0).toInt = (q_I r10.2 12 24 a0).toInt := congrArg Int32.toInt (u43 12 24 a0 (by decide))
      have f57 := cb_12_24 i12 k_a0
      have f58 : (q_I r10.2 12 24 a0).toInt = (q_I d1 12 24 a0).toInt := congrArg Int32.toInt (u16 12 24 a0 (by decide))
      have f59 := cb_12_24 i3 k_a0
      have f60 : (q_I d1 12 24 a0).toInt = (q_I δ 12 24 a0).toInt := congrArg Int32.toInt (by rw [e2]; exact rI_o (by decide))
      have f61 := cb_12_24 I k_a0
      refine ok_ite (fun h62 => ?_) (fun h62 => ?_)
      · have c63 : (q_I r35 12 24 a0).toInt = (4 : Int) := o_eq h62
        have f64 := cb_12_2 I k_a0
        exact ok_some (show RI ad h.1 δ0 r35 ∧ (kp [(12, 0), (12, 2), (12, 3), (12, 4), (12, 5), (12, 6), (12, 7), (12, 8), (12, 24), (12, 25), (12, 26), (12, 27)] δ r35 ∧ q_V r35 = q_V δ ∧ kr ad [100, 112, 113, 114, 115, 116, 117] δ r35) ∧ (0 ≤ (x1).toInt ∧ (x1).toInt ≤ (q_I δ 12 2 a0).toInt → (q_I r35 12 2 a0).toInt = 0) ∧ ((x1).toInt < 0 ∨ (q_I δ 12 2 a0).toInt < (x1).toInt → (q_I r35 12 2 a0).toInt = (q_I δ 12 2 a0).toInt) from ⟨i37, ⟨kp_w (by decide) u47, v48, kr_w (by decide) v49⟩, by first | assumption | omega, by first | assumption | omega⟩)
      · have c65 : (q_I r35 12 24 a0).toInt ≠ (4 : Int) := o_ne h62
        refine ok_bdv (fun d66 e67 => ?_)
        have i68 : RI ad h.1 δ0 d66 := by rw [e67]; exact cs_12_25 L i37 k_a0 (show 0 ≤ (0 : Int) by omega) (show (0 : Int) ≤ 60 by omega)
        have u69 := kp_I u47 e67
        have v70 : q_V d66 = q_V δ := ((show q_V d66 = q_V r35 by rw [e67]; rfl)).trans v48
        have v71 := kr_N v49 (show q_R d66 = q_R r35 by rw [e67]; rfl)
        refine ok_bdv (fun d72 e73 => ?_)
        have i74 : RI ad h.1 δ0 d72 := by rw [e73]; exact cs_12_26 L i68 k_a0 (show 0 ≤ (0 : Int) by omega) (show (0 : Int) ≤ 500 by omega)
        have u75 := kp_I u69 e73
        have v76 : q_V d72 = q_V δ := ((show q_V d72 = q_V d66 by rw [e73]; rfl)).trans v70
        have v77 := kr_N v71 (show q_R d72 = q_R d66 by rw [e73]; rfl)
        refine ok_bdv (fun d78 e79 => ?_)
        have i80 : RI ad h.1 δ0 d78 := by rw [e79]; exact cs_12_27 L i74 k_a0 (show 0 ≤ (0 : Int) by omega) (show (0 : Int) ≤ 3 by omega)
        have u81 := kp_I u75 e79
        have v82 : q_V d78 = q_V δ := ((show q_V d78 = q_V d72 by rw [e79]; rfl)).trans v76
        have v83 := kr_N v77 (show q_R d78 = q_R d72 by rw [e79]; rfl)
        refine ok_bind (k_X12_isMore L hN (a0 := a0) k_a0 i80) (fun r84 hr85 => ?_)
        obtain ⟨i86, ⟨u90, u91, u92, u93⟩, p87, p88, p89⟩ := hr85
        have u94 := kp_t u81 u90
        have v95 : q_V r84.2 = q_V δ := (u91).trans v82
        have v96 := kr_t v83 u93
        have f97 := bo_l p87
        have f98 := cb_12_4 i80 k_a0
        have f99 : (q_I d78 12 4 a0).toInt = (q_I d72 12 4 a0).toInt := congrArg Int32.toInt (by rw [e79]; exact rI_o (by decide))
        have f100 := cb_12_4 i74 k_a0
        have f101 : (q_I d72 12 4 a0).toInt = (q_I d66 12 4 a0).toInt := congrArg Int32.toInt (by rw [e73]; exact rI_o (by decide))
        have f102 := cb_12_4 i68 k_a0
        have f103 : (q_I d66 12 4 a0).toInt = (q_I r35 12 4 a0).toInt := congrArg Int32.toInt (by rw [e67]; exact rI_o (by decide))
        have f104 := cb_12_4 i86 k_a0
        have f105 := ti_b r84.1
        have f106 := cb_12_3 i80 k_a0
        have f107 : (q_I d78 12 3 a0).toInt = (q_I d72 12 3 a0).toInt := congrArg Int32.toInt (by rw [e79]; exact rI_o (by decide))
        have f108 := cb_12_3 i74 k_a0
        have f109 : (q_I d72 12 3 a0).toInt = (q_I d66 12 3 a0).toInt := congrArg Int32.toInt (by rw [e73]; exact rI_o (by decide))
        have f110 := cb_12_3 i68 k_a0
        have f111 : (q_I d66 12 3 a0).toInt = (q_I r35 12 3 a0).toInt := congrArg Int32.toInt (by rw [e67]; exact rI_o (by decide))
        have f112 := ti_b r84.1
        refine ok_ite (fun h113 => ?_) (fun h113 => ?_)
        · have c114 : r84.1.toInt = (0 : Int) := o_eq h113
          have f117 := cb_12_3 i86 k_a0
          have f118 : (q_I r84.2 12 3 a0).toInt = (q_I d78 12 3 a0).toInt := congrArg Int32.toInt (u90 12 3 a0 (by decide))
          refine ok_bind (k_X12_wrong L hN (a0 := a0) (x1 := (1 : Int32)) (x2 := (q_I r84.2 12 3 a0)) k_a0 (show 0 ≤ ((q_I r84.2 12 3 a0)).toInt by first | assumption | omega) (show ((q_I r84.2 12 3 a0)).toInt ≤ 500 by first | assumption | omega) i86) (fun r115 hr116 => ?_)
          obtain ⟨i119, ⟨u122, u123, u124, u125⟩, p120, p121⟩ := hr116
          have u126 := kp_t u94 u122
          have v127 : q_V r115 = q_V δ := (u123).trans v95
          have v128 := kr_t v96 u125
          have f129 := cb_12_5 i119 k_a0
          have f130 := cb_12_5 i86 k_a0
          have f131 : (q_I r84.2 12 5 a0).toInt = (q_I d78 12 5 a0).toInt := congrArg Int32.toInt (u90 12 5 a0 (by decide))
          have f132 := cb_12_5 i80 k_a0
          have f133 : (q_I d78 12 5 a0).toInt = (q_I d72 12 5 a0).toInt := congrArg Int32.toInt (by rw [e79]; exact rI_o (by decide))
          have f134 := cb_12_5 i74 k_a0
          have f135 : (q_I d72 12 5 a0).toInt = (q_I d66 12 5 a0).toInt := congrArg Int32.toInt (by rw [e73]; exact rI_o (by decide))
          have f136 := cb_12_5 i68 k_a0
          have f137 : (q_I d66 12 5 a0).toInt = (q_I r35 12 5 a0).toInt := congrArg Int32.toInt (by rw [e67]; exact rI_o (by decide))
          unfold J_X12_thief_79
          have f140 := cb_12_24 i119 k_a0
          have f141 : (q_I r115 12 24 a0).toInt = (q_I r84.2 12 24 a0).toInt := congrArg Int32.toInt (u122 12 24 a0 (by decide))
          have f142 := cb_12_24 i86 k_a0
          have f143 : (q_I r84.2 12 24 a0).toInt = (q_I d78 12 24 a0).toInt := congrArg Int32.toInt (u90 12 24 a0 (by decide))
          have f144 := cb_12_24 i80 k_a0
          have f145 : (q_I d78 12 24 a0).toInt = (q_I d72 12 24 a0).toInt := congrArg Int32.toInt (by rw [e79]; exact rI_o (by decide))
          have f146 := cb_12_24 i74 k_a0
          have f147 : (q_I d72 12 24 a0).toInt = (q_I d66 12 24 a0).toInt := congrArg Int32.toInt (by rw [e73]; exact rI_o (by decide))
          have f148 := cb_12_24 i68 k_a0
          have f149 : (q_I d66 12 24 a0).toInt = (q_I r35 12 24 a0).toInt := congrArg Int32.toInt (by rw [e67]; exact rI_o (by decide))
          have f150 := cb_12_26 i119 k_a0
          have f151 : (q_I r115 12 26 a0).toInt = (q_I r84.2 12 26 a0).toInt := congrArg Int32.toInt (u122 12 26 a0 (by decide))
          have f152 := cb_12_26 i86 k_a0
          have f153 : (q_I r84.2 12 26 a0).toInt = (q_I d78 12 26 a0).toInt := congrArg Int32.toInt (u90 12 26 a0 (by decide))
          have f154 := cb_12_26 i80 k_a0
          have f155 : (q_I d78 12 26 a0).toInt = (q_I d72 12 26 a0).toInt := congrArg Int32.toInt (by rw [e79]; exact rI_o (by decide))
          have f156 := cb_12_26 i74 k_a0
          have f157 : (q_I d72 12 26 a0).toInt = (0 : Int) := congrArg Int32.toInt (show q_I d72 12 26 a0 = (0 : Int32) by rw [e73]; exact rI_s)
          have f158 := cb_12_4 i119 k_a0
          have f159 : (q_I r115 12 4 a0).toInt = (q_I r84.2 12 4 a0).toInt := congrArg Int32.toInt (u122 12 4 a0 (by decide))
          have f160 := ti_b (q_I r115 12 7 a0)
          have f161 : (q_I r115 12 7 a0).toInt = (q_I r84.2 12 7 a0).toInt := congrArg Int32.toInt (u122 12 7 a0 (by decide))
          have f162 := ti_b (q_I r84.2 12 7 a0)
          have f163 : (q_I r84.2 12 7 a0).toInt = (q_I d78 12 7 a0).toInt := congrArg Int32.toInt (u90 12 7 a0 (by decide))
          have f164 := ti_b (q_I d78 12 7 a0)
          have f165 : (q_I d78 12 7 a0).toInt = (q_I d72 12 7 a0).toInt := congrArg Int32.toInt (by rw [e79]; exact rI_o (by decide))
          have f166 := ti_b (q_I d72 12 7 a0)
          have f167 : (q_I d72 12 7 a0).toInt = (q_I d66 12 7 a0).toInt := congrArg Int32.toInt (by rw [e73]; exact rI_o (by decide))
          have f168 := ti_b (q_I d66 12 7 a0)
          have f169 : (q_I d66 12 7 a0).toInt = (q_I r35 12 7 a0).toInt := congrArg Int32.toInt (by rw [e67]; exact rI_o (by decide))
          have f170 := cb_12_27 i119 k_a0
          have f171 : (q_I r115 12 27 a0).toInt = (q_I r84.2 12 27 a0).toInt := congrArg Int32.toInt (u122 12 27 a0 (by decide))
          have f172 := cb_12_27 i86 k_a0
          have f173 : (q_I r84.2 12 27 a0).toInt = (q_I d78 12 27 a0).toInt := congrArg Int32.toInt (u90 12 27 a0 (by decide))
          have f174 := cb_12_27 i80 k_a0
          have f175 : (q_I d78 12 27 a0).toInt = (0 : Int) := congrArg Int32.toInt (show q_I d78 12 27 a0 = (0 : Int32) by rw [e79]; exact rI_s)
          refine ok_bind (k_X12_readSteps L hN (a0 := a0) k_a0 (show (q_I r115 12 24 a0).toInt ≤ 3 by first | assumption | omega) (show (q_I r115 12 26 a0).toInt ≤ (q_I r115 12 4 a0).toInt by first | assumption | omega) (show (q_I r115 12 7 a0).toInt = 0 by first | assumption | omega) (show 4 - (q_I r115 12 27 a0).toInt < 20 by first | assumption | omega) i119) (fun r138 hr139 => ?_)
          obtain ⟨i176, ⟨u182, u183, u184⟩, p177, p178, p179, p180, p181⟩ := hr139
          have u185 := kp_t u126 u182
          have v186 : q_V r138 = q_V δ := (u183).trans v127
          have v187 := kr_t v128 u184
          have f188 := cb_12_4 i176 k_a0
          have f189 := cb_12_5 i176 k_a0
          have f190 := ti_b (q_I r138 12 7 a0)
          have f191 := cb_12_27 i176 k_a0
          have f192 := cb_12_26 i176 k_a0
          refine ok_bind (k_X12_fine L hN (a0 := a0) k_a0 i176) (fun r193 hr194 => ?_)
          obtain ⟨i195, p196, p197, p198⟩ := hr194
          try rw [i195]
          have f199 := bo_l p196
          have f200 := ti_b r193.1
          have f201 := ti_b r193.1
          refine ok_ite (fun h202 => ?_) (fun h202 => ?_)
          · have c203 : r193.1.toInt = (0 : Int) := o_eq h202
            unfold J_X12_thief_106
            refine ok_bind (k_X12_result L hN (a0 := a0) (x1 := (q_I r138 12 24 a0)) k_a0 i176) (fun r204 hr205 => ?_)
            obtain ⟨i206, ⟨u207, u208, u209, u210⟩⟩ := hr205
            have u211 := kp_t u185 u207
            have v212 : q_V r204.2 = q_V δ := (u208).trans v186
            have v213 := kr_t v187 u210
            have f214 := ti_b r204.1
            have f215 := cb_12_24 i206 k_a0
            have f216 : (q_I r204.2 12 24 a0).toInt = (q_I r138 12 24 a0).toInt := congrArg Int32.toInt (u207 12 24 a0 (by decide))
            have f217 := cb_12_24 i176 k_a0
            have f218 : (q_I r138 12 24 a0).toInt = (q_I r115 12 24 a0).toInt := congrArg Int32.toInt (u182 12 24 a0 (by decide))
            refine ok_ite (fun h219 => ?_) (fun h219 => ?_)
            · have c220 : r204.1.toInt = (q_I r204.2 12 24 a0).toInt := o_eq h219
              obtain ⟨b221, o222, k223, n224⟩ := gO_12_28 L k_a0
              obtain rfl := gS_12_28 L k_a0 o222
              refine ok_at o222 ?_
              have t225 := ti_tn (q_I r204.2 12 24 a0)
              refine ok_gd (fun hc226 => ?_) ?_
              · rcases hc226 with hc226 | hc226
                · have c227 : (q_I r204.2 12 24 a0).toInt < (0 : Int) := o_lt hc226
                  omega
                · omega
              have f231 := cb_12_25 i206 k_a0
              have f232 : (q_I r204.2 12 25 a0).toInt = (q_I r138 12 25 a0).toInt := congrArg Int32.toInt (u207 12 25 a0 (by decide))
              have f233 := cb_12_25 i176 k_a0
              refine ok_bdv (fun d228 e229 => ?_)
              have i230 : RI ad h.1 δ0 d228 := by rw [e229]; exact cr_112 L i206 (show 0 ≤ (q_I r204.2 12 25 a0).toInt by omega) (show (q_I r204.2 12 25 a0).toInt ≤ 60 by omega)
              have u234 := kp_N u211 (show q_I d228 = q_I r204.2 by rw [e229]; rfl)
              have v235 : q_V d228 = q_V δ := ((show q_V d228 = q_V r204.2 by rw [e229]; rfl)).trans v212
              have v236 := kr_s L (by decide) v213 e229
              have f240 := cb_12_24 i230 k_a0
              have f241 : (q_I d228 12 24 a0).toInt = (q_I r204.2 12 24 a0).toInt := congrArg Int32.toInt (by rw [e229]; rfl)
              first | (have q243 := te_addc (c := 1) (n := 1) rfl (q_I d228 12 24 a0) (by omega) (by omega); obtain ⟨f244, f245, f246⟩ := q243) | (obtain ⟨q243, f244, f245, f246⟩ := ti_addc (c := 1) (n := 1) rfl (q_I d228 12 24 a0))
              refine ok_bdv (fun d237 e238 => ?_)
              have i239 : RI ad h.1 δ0 d237 := by rw [e238]; exact cs_12_24 L i230 k_a0 (show 0 ≤ ((q_I d228 12 24 a0) + (1 : Int32)).toInt by omega) (show ((q_I d228 12 24 a0) + (1 : Int32)).toInt ≤ 4 by omega)
              have u247 := kp_I u234 e238
              have v248 : q_V d237 = q_V δ := ((show q_V d237 = q_V d228 by rw [e238]; rfl)).trans v235
              have v249 := kr_N v236 (show q_R d237 = q_R d228 by rw [e238]; rfl)
              unfold J_X12_thief_146
              have f250 := cb_12_2 I k_a0
              have f251 := cb_12_2 i239 k_a0
              have f252 : (q_I d237 12 2 a0).toInt = (q_I d228 12 2 a0).toInt := congrArg Int32.toInt (by rw [e238]; exact rI_o (by decide))
              have f253 := cb_12_2 i230 k_a0
              have f254 : (q_I d228 12 2 a0).toInt = (q_I r204.2 12 2 a0).toInt := congrArg Int32.toInt (by rw [e229]; rfl)
              have f255 := cb_12_2 i206 k_a0
              have f256 : (q_I r204.2 12 2 a0).toInt = (q_I r138 12 2 a0).toInt := congrArg Int32.toInt (u207 12 2 a0 (by decide))
              have f257 := cb_12_2 i176 k_a0
              have f258 : (q_I r138 12 2 a0).toInt = (q_I r115 12 2 a0).toInt := congrArg Int32.toInt (u182 12 2 a0 (by decide))
              have f259 := cb_12_2 i119 k_a0
              have f260 : (q_I r115 12 2 a0).toInt = (q_I r84.2 12 2 a0).toInt := congrArg Int32.toInt (u122 12 2 a0 (by decide))
              have f261 := cb_12_2 i86 k_a0
              have f262 : (q_I r84.2 12 2 a0).toInt = (q_I d78 12 2 a0).toInt := congrArg Int32.toInt (u90 12 2 a0 (by decide))
              have f263 := cb_12_2 i80 k_a0
              have f264 : (q_I d78 12 2 a0).toInt = (q_I d72 12 2 a0).toInt := congrArg Int32.toInt (by rw [e79]; exact rI_o (by decide))
              have f265 := cb_12_2 i74 k_a0
              have f266 : (q_I d72 12 2 a0).toInt = (q_I d66 12 2 a0).toInt := congrArg Int32.toInt (by rw [e73]; exact rI_o (by decide))
              have f267 := cb_12_2 i68 k_a0
              have f268 : (q_I d66 12 2 a0).toInt = (q_I r35 12 2 a0).toInt := congrArg Int32.toInt (by rw [e67]; exact rI_o (by decide))
              exact ok_some (show RI ad h.1 δ0 d237 ∧ (kp [(12, 0), (12, 2), (12, 3), (12, 4), (12, 5), (12, 6), (12, 7), (12, 8), (12, 24), (12, 25), (12, 26), (12, 27)] δ d237 ∧ q_V d237 = q_V δ ∧ kr ad [100, 112, 113, 114, 115, 116, 117] δ d237) ∧ (0 ≤ (x1).toInt ∧ (x1).toInt ≤ (q_I δ 12 2 a0).toInt → (q_I d237 12 2 a0).toInt = 0) ∧ ((x1).toInt < 0 ∨ (q_I δ 12 2 a0).toInt < (x1).toInt → (q_I d237 12 2 a0).toInt = (q_I δ 12 2 a0).toInt) from ⟨i239, ⟨kp_w (by decide) u247, v248, kr_w (by decide) v249⟩, by first | assumption | omega, by first | assumption | omega⟩)
            · have c269 : r204.1.toInt ≠ (q_I r204.2 12 24 a0).toInt := o_ne h219
              unfold J_X12_thief_146
              have f270 := cb_12_2 I k_a0
              have f271 := cb_12_2 i206 k_a0
              have f272 : (q_I r204.2 12 2 a0).toInt = (q_I r138 12 2 a0).toInt := congrArg Int32.toInt (u207 12 2 a0 (by decide))
              have f273 := cb_12_2 i176 k_a0
              have f274 : (q_I r138 12 2 a0).toInt = (q_I r115 12 2 a0).toInt := congrArg Int32.toInt (u182 12 2 a0 (by decide))
              have f275 := cb_12_2 i119 k_a0
              have f276 : (q_I r115 12 2 a0).toInt = (q_I r84.2 12 2 a0).toInt := congrArg Int32.toInt (u122 12 2 a0 (by decide))
              have f277 := cb_12_2 i86 k_a0
              have f278 : (q_I r84.2 12 2 a0).toInt = (q_I d78 12 2 a0).toInt := congrArg Int32.toInt (u90 12 2 a0 (by decide))
              have f279 := cb_12_2 i80 k_a0
              have f280 : (q_I d78 12 2 a0).toInt = (q_I d72 12 2 a0).toInt := congrArg Int32.toInt (by rw [e79]; exact rI_o (by decide))
              have f281 := cb_12_2 i74 k_a0
              have f282 : (q_I d72 12 2 a0).toInt = (q_I d66 12 2 a0).toInt := congrArg Int32.toInt (by rw [e73]; exact rI_o (by decide))
              have f283 := cb_12_2 i68 k_a0
              have f284 : (q_I d66 12 2 a0).toInt = (q_I r35 12 2 a0).toInt := congrArg Int32.toInt (by rw [e67]; exact rI_o (by decide))
              exact ok_some (show RI ad h.1 δ0 r204.2 ∧ (kp [(12, 0), (12, 2), (12, 3), (12, 4), (12, 5), (12, 6), (12, 7), (12, 8), (12, 24), (12, 25), (12, 26), (12, 27)] δ r204.2 ∧ q_V r204.2 = q_V δ ∧ kr ad [100, 112, 113, 114, 115, 116, 117] δ r204.2) ∧ (0 ≤ (x1).toInt ∧ (x1).toInt ≤ (q_I δ 12 2 a0).toInt → (q_I r204.2 12 2 a0).toInt = 0) ∧ ((x1).toInt < 0 ∨ (q_I δ 12 2 a0).toInt < (x1).toInt → (q_I r204.2 12 2 a0).toInt = (q_I δ 12 2 a0).toInt) from ⟨i206, ⟨kp_w (by decide) u211, v212, kr_w (by decide) v213⟩, by first | assumption | omega, by first | assumption | omega⟩)
          · have c285 : r193.1.toInt ≠ (0 : Int) := o_ne h202
            refine ok_bind (k_X12_isMore L hN (a0 := a0) k_a0 i176) (fun r286 hr287 => ?_)
            obtain ⟨i288, ⟨u292, u293, u294, u295⟩, p289, p290, p291⟩ := hr287
            have u296 := kp_t u185 u292
            have v297 : q_V r286.2 = q_V δ := (u293).trans v186
            have v298 := kr_t v187 u295
            have f299 := bo_l p289
            have f300 := cb_12_4 i288 k_a0
            have f301 := ti_b r286.1
            have f302 := cb_12_3 i176 k_a0
            have f303 : (q_I r138 12 3 a0).toInt = (q_I r115 12 3 a0).toInt := congrArg Int32.toInt (u182 12 3 a0 (by decide))
            have f304 := cb_12_3 i119 k_a0
            have f305 : (q_I r115 12 3 a0).toInt = (q_I r84.2 12 3 a0).toInt := congrArg Int32.toInt (u122 12 3 a0 (by decide))
            have f306 := ti_b r286.1
            refine ok_ite (fun h307 => ?_) (fun h307 => ?_)
            · have c308 : r286.1.toInt = (0 : Int) := o_eq h307
              unfold J_X12_thief_106
              refine ok_bind (k_X12_result L hN (a0 := a0) (x1 := (q_I r286.2 12 24 a0)) k_a0 i288) (fun r309 hr310 => ?_)
              obtain ⟨i311, ⟨u312, u313, u314, u315⟩⟩ := hr310
              have u316 := kp_t u296 u312
              have v317 : q_V r309.2 = q_V δ := (u313).trans v297
              have v318 := kr_t v298 u315
              have f319 := ti_b r309.1
              have f320 := cb_12_24 i311 k_a0
              have f321 : (q_I r309.2 12 24 a0).toInt = (q_I r286.2 12 24 a0).toInt := congrArg Int32.toInt (u312 12 24 a0 (by decide))
              have f322 := cb_12_24 i288 k_a0
              have f323 : (q_I r286.2 12 24 a0).toInt = (q_I r138 12 24 a0).toInt := congrArg Int32.toInt (u292 12 24 a0 (by decide))
              have f324 := cb_12_24 i176 k_a0
              have f325 : (q_I r138 12 24 a0).toInt = (q_I r115 12 24 a0).toInt := congrArg Int32.toInt (u182 12 24 a0 (by decide))
              refine ok_ite (fun h326 => ?_) (fun h326 => ?_)
              · have c327 : r309.1.toInt = (q_I r309.2 12 24 a0).toInt := o_eq h326
                obtain ⟨b328, o329, k330, n331⟩ := gO_12_28 L k_a0
                obtain rfl := gS_12_28 L k_a0 o329
                refine ok_at o329 ?_
                have t332 := ti_tn (q_I r309.2 12 24 a0)
                refine ok_gd (fun hc333 => ?_) ?_
                · rcases hc333 with hc333 | hc333
                  · have c334 : (q_I r309.2 12 24 a0).toInt < (0 : Int) := o_lt hc333
                    omega
                  · omega
                have f338 := cb_12_25 i311 k_a0
                have f339 : (q_I r309.2 12 25 a0).toInt = (q_I r286.2 12 25 a0).toInt := congrArg Int32.toInt (u312 12 25 a0 (by decide))
                have f340 := cb_12_25 i288 k_a0
                have f341 : (q_I r286.2 12 25 a0).toInt = (q_I r138 12 25 a0).toInt := congrArg Int32.toInt (u292 12 25 a0 (by decide))
                have f342 := cb_12_25 i176 k_a0
                refine ok_bdv (fun d335 e336 => ?_)
                have i337 : RI ad h.1 δ0 d335 := by rw [e336]; exact cr_112 L i311 (show 0 ≤ (q_I r309.2 12 25 a0).toInt by omega) (show (q_I r309.2 12 25 a0).toInt ≤ 60 by omega)
                have u343 := kp_N u316 (show q_I d335 = q_I r309.2 by rw [e336]; rfl)
                have v344 : q_V d335 = q_V δ := ((show q_V d335 = q_V r309.2 by rw [e336]; rfl)).trans v317
                have v345 := kr_s L (by decide) v318 e336
                have f349 := cb_12_24 i337 k_a0
                have f350 : (q_I d335 12 24 a0).toInt = (q_I r309.2 12 24 a0).toInt := congrArg Int32.toInt (by rw [e336]; rfl)
                first | (have q352 := te_addc (c := 1) (n := 1) rfl (q_I d335 12 24 a0) (by omega) (by omega); obtain ⟨f353, f354, f355⟩ := q352) | (obtain ⟨q352, f353, f354, f355⟩ := ti_addc (c := 1) (n := 1) rfl (q_I d335 12 24 a0))
                refine ok_bdv (fun d346 e347 => ?_)
                have i348 : RI ad h.1 δ0 d346 := by rw [e347]; exact cs_12_24 L i337 k_a0 (show 0 ≤ ((q_I d335 12 24 a0) + (1 : Int32)).toInt by omega) (show ((q_I d335 12 24 a0) + (1 : Int32)).toInt ≤ 4 by omega)
                have u356 := kp_I u343 e347
                have v357 : q_V d346 = q_V δ := ((show q_V d346 = q_V d335 by rw [e347]; rfl)).trans v344
                have v358 := kr_N v345 (show q_R d346 = q_R d335 by rw [e347]; rfl)
                unfold J_X12_thief_146
                have f359 := cb_12_2 I k_a0
                have f360 := cb_12_2 i348 k_a0
                have f361 : (q_I d346 12 2 a0).toInt = (q_I d335 12 2 a0).toInt := congrArg Int32.toInt (by rw [e347]; exact rI_o (by decide))
                have f362 := cb_12_2 i337 k_a0
                have f363 : (q_I d335 12 2 a0).toInt = (q_I r309.2 12 2 a0).toInt := congrArg Int32.toInt (by rw [e336]; rfl)
                have f364 := cb_12_2 i311 k_a0
                have f365 : (q_I r309.2 12 2 a0).toInt = (q_I r286.2 12 2 a0).toInt := congrArg Int32.toInt (u312 12 2 a0 (by decide))
                have f366 := cb_12_2 i288 k_a0
                have f367 : (q_I r286.2 12 2 a0).toInt = (q_I r138 12 2 a0).toInt := congrArg Int32.toInt (u292 12 2 a0 (by decide))
                have f368 := cb_12_2 i176 k_a0
                have f369 : (q_I r138 12 2 a0).toInt = (q_I r115 12 2 a0).toInt := congrArg Int32.toInt (u182 12 2 a0 (by decide))
                have f370 := cb_12_2 i119 k_a0
                have f371 : (q_I r115 12 2 a0).toInt = (q_I r84.2 12 2 a0).toInt := congrArg Int32.toInt (u122 12 2 a0 (by decide))
                have f372 := cb_12_2 i86 k_a0
                have f373 : (q_I r84.2 12 2 a0).toInt = (q_I d78 12 2 a0).toInt := congrArg Int32.toInt (u90 12 2 a0 (by decide))
                have f374 := cb_12_2 i80 k_a0
                have f375 : (q_I d78 12 2 a0).toInt = (q_I d72 12 2 a0).toInt := congrArg Int32.toInt (by rw [e79]; exact rI_o (by decide))
                have f376 := cb_12_2 i74 k_a0
                have f377 : (q_I d72 12 2 a0).toInt = (q_I d66 12 2 a0).toInt := congrArg Int32.toInt (by rw [e73]; exact rI_o (by decide))
                have f378 := cb_12_2 i68 k_a0
                have f379 : (q_I d66 12 2 a0).toInt = (q_I r35 12 2 a0).toInt := congrArg Int32.toInt (by rw [e67]; exact rI_o (by decide))
                exact ok_some (show RI ad h.1 δ0 d346 ∧ (kp [(12, 0), (12, 2), (12, 3), (12, 4), (12, 5), (12, 6), (12, 7), (12, 8), (12, 24), (12, 25), (12, 26), (12, 27)] δ d346 ∧ q_V d346 = q_V δ ∧ kr ad [100, 112, 113, 114, 115, 116, 117] δ d346) ∧ (0 ≤ (x1).toInt ∧ (x1).toInt ≤ (q_I δ 12 2 a0).toInt → (q_I d346 12 2 a0).toInt = 0) ∧ ((x1).toInt < 0 ∨ (q_I δ 12 2 a0).toInt < (x1).toInt → (q_I d346 12 2 a0).toInt = (q_I δ 12 2 a0).toInt) from ⟨i348, ⟨kp_w (by decide) u356, v357, kr_w (by decide) v358⟩, by first | assumption | omega, by first | assumption | omega⟩)
              · have c380 : r309.1.toInt ≠ (q_I r309.2 12 24 a0).toInt := o_ne h326
                unfold J_X12_thief_146
                have f381 := cb_12_2 I k_a0
                have f382 := cb_12_2 i311 k_a0
                have f383 : (q_I r309.2 12 2 a0).toInt = (q_I r286.2 12 2 a0).toInt := congrArg Int32.toInt (u312 12 2 a0 (by decide))
                have f384 := cb_12_2 i288 k_a0
                have f385 : (q_I r286.2 12 2 a0).toInt = (q_I r138 12 2 a0).toInt := congrArg Int32.toInt (u292 12 2 a0 (by decide))
                have f386 := cb_12_2 i176 k_a0
                have f387 : (q_I r138 12 2 a0).toInt = (q_I r115 12 2 a0).toInt := congrArg Int32.toInt (u182 12 2 a0 (by decide))
                have f388 := cb_12_2 i119 k_a0
                have f389 : (q_I r115 12 2 a0).toInt = (q_I r84.2 12 2 a0).toInt := congrArg Int32.toInt (u122 12 2 a0 (by decide))
                have f390 := cb_12_2 i86 k_a0
                have f391 : (q_I r84.2 12 2 a0).toInt = (q_I d78 12 2 a0).toInt := congrArg Int32.toInt (u90 12 2 a0 (by decide))
                have f392 := cb_12_2 i80 k_a0
                have f393 : (q_I d78 12 2 a0).toInt = (q_I d72 12 2 a0).toInt := congrArg Int32.toInt (by rw [e79]; exact rI_o (by decide))
                have f394 := cb_12_2 i74 k_a0
                have f395 : (q_I d72 12 2 a0).toInt = (q_I d66 12 2 a0).toInt := congrArg Int32.toInt (by rw [e73]; exact rI_o (by decide))
                have f396 := cb_12_2 i68 k_a0
                have f397 : (q_I d66 12 2 a0).toInt = (q_I r35 12 2 a0).toInt := congrArg Int32.toInt (by rw [e67]; exact rI_o (by decide))
                exact ok_some (show RI ad h.1 δ0 r309.2 ∧ (kp [(12, 0), (12, 2), (12, 3), (12, 4), (12, 5), (12, 6), (12, 7), (12, 8), (12, 24), (12, 25), (12, 26), (12, 27)] δ r309.2 ∧ q_V r309.2 = q_V δ ∧ kr ad [100, 112, 113, 114, 115, 116, 117] δ r309.2) ∧ (0 ≤ (x1).toInt ∧ (x1).toInt ≤ (q_I δ 12 2 a0).toInt → (q_I r309.2 12 2 a0).toInt = 0) ∧ ((x1).toInt < 0 ∨ (q_I δ 12 2 a0).toInt < (x1).toInt → (q_I r309.2 12 2 a0).toInt = (q_I δ 12 2 a0).toInt) from ⟨i311, ⟨kp_w (by decide) u316, v317, kr_w (by decide) v318⟩, by first | assumption | omega, by first | assumption | omega⟩)
            · have c398 : r286.1.toInt ≠ (0 : Int) := o_ne h307
              refine ok_bind (k_X12_wrong L hN (a0 := a0) (x1 := (1 : Int32)) (x2 := (q_I r286.2 12 4 a0)) k_a0 (show 0 ≤ ((q_I r286.2 12 4 a0)).toInt by first | assumption | omega) (show ((q_I r286.2 12 4 a0)).toInt ≤ 500 by first | assumption | omega) i288) (fun r399 hr400 => ?_)
              obtain ⟨i401, ⟨u404, u405, u406, u407⟩, p402, p403⟩ := hr400
              have u408 := kp_t u296 u404
              have v409 : q_V r399 = q_V δ := (u405).trans v297
              have v410 := kr_t v298 u407
              have f411 := cb_12_5 i401 k_a0
              have f412 := cb_12_5 i288 k_a0
              have f413 : (q_I r286.2 12 5 a0).toInt = (q_I r138 12 5 a0).toInt := congrArg Int32.toInt (u292 12 5 a0 (by decide))
              unfold J_X12_thief_106
              refine ok_bind (k_X12_result L hN (a0 := a0) (x1 := (q_I r399 12 24 a0)) k_a0 i401) (fun r414 hr415 => ?_)
              obtain ⟨i416, ⟨u417, u418, u419, u420⟩⟩ := hr415
              have u421 := kp_t u408 u417
              have v422 : q_V r414.2 = q_V δ := (u418).trans v409
              have v423 := kr_t v410 u420
              have f424 := ti_b r414.1
              have f425 := cb_12_24 i416 k_a0
              have f426 : (q_I r414.2 12 24 a0).toInt = (q_I r399 12 24 a0).toInt := congrArg Int32.toInt (u417 12 24 a0 (by decide))
              have f427 := cb_12_24 i401 k_a0
              have f428 : (q_I r399 12 24 a0).toInt = (q_I r286.2 12 24 a0).toInt := congrArg Int32.toInt (u404 12 24 a0 (by decide))
              have f429 := cb_12_24 i288 k_a0
              have f430 : (q_I r286.2 12 24 a0).toInt = (q_I r138 12 24 a0).toInt := congrArg Int32.toInt (u292 12 24 a0 (by decide))
              have f431 := cb_12_24 i176 k_a0
              have f432 : (q_I r138 12 24 a0).toInt = (q_I r115 12 24 a0).toInt := congrArg Int32.toInt (u182 12 24 a0 (by decide))
              refine ok_ite (fun h433 => ?_) (fun h433 => ?_)
              · have c434 : r414.1.toInt = (q_I r414.2 12 24 a0).toInt := o_eq h433
                obtain ⟨b435, o436, k437, n438⟩ := gO_12_28 L k_a0
                obtain rfl := gS_12_28 L k_a0 o436
                refine ok_at o436 ?_
                have t439 := ti_tn (q_I r414.2 12 24 a0)
                refine ok_gd (fun hc440 => ?_) ?_
                · rcases hc440 with hc440 | hc440
                  · have c441 : (q_I r414.2 12 24 a0).toInt < (0 : Int) := o_lt hc440
                    omega
                  · omega
                have f445 := cb_12_25 i416 k_a0
                have f446 : (q_I r414.2 12 25 a0).toInt = (q_I r399 12 25 a0).toInt := congrArg Int32.toInt (u417 12 25 a0 (by decide))
                have f447 := cb_12_25 i401 k_a0
                have f448 : (q_I r399 12 25 a0).toInt = (q_I r286.2 12 25 a0).toInt := congrArg Int32.toInt (u404 12 25 a0 (by decide))
                have f449 := cb_12_25 i288 k_a0
                have f450 : (q_I r286.2 12 25 a0).toInt = (q_I r138 12 25 a0).toInt := congrArg Int32.toInt (u292 12 25 a0 (by decide))
                have f451 := cb_12_25 i176 k_a0
                refine ok_bdv (fun d442 e443 => ?_)
                have i444 : RI ad h.1 δ0 d442 := by rw [e443]; exact cr_112 L i416 (show 0 ≤ (q_I r414.2 12 25 a0).toInt by omega) (show (q_I r414.2 12 25 a0).toInt ≤ 60 by omega)
                have u452 := kp_N u421 (show q_I d442 = q_I r414.2 by rw [e443]; rfl)
                have v453 : q_V d442 = q_V δ := ((show q_V d442 = q_V r414.2 by rw [e443]; rfl)).trans v422
                have v454 := kr_s L (by decide) v423 e443
                have f458 := cb_12_24 i444 k_a0
                have f459 : (q_I d442 12 24 a0).toInt = (q_I r414.2 12 24 a0).toInt := congrArg Int32.toInt (by rw [e443]; rfl)
                first | (have q461 := te_addc (c := 1) (n := 1) rfl (q_I d442 12 24 a0) (by omega) (by omega); obtain ⟨f462, f463, f464⟩ := q461) | (obtain ⟨q461, f462, f463, f464⟩ := ti_addc (c := 1) (n := 1) rfl (q_I d442 12 24 a0))
                refine ok_bdv (fun d455 e456 => ?_)
                have i457 : RI ad h.1 δ0 d455 := by rw [e456]; exact cs_12_24 L i444 k_a0 (show 0 ≤ ((q_I d442 12 24 a0) + (1 : Int32)).toInt by omega) (show ((q_I d442 12 24 a0) + (1 : Int32)).toInt ≤ 4 by omega)
                have u465 := kp_I u452 e456
                have v466 : q_V d455 = q_V δ := ((show q_V d455 = q_V d442 by rw [e456]; rfl)).trans v453
                have v467 := kr_N v454 (show q_R d455 = q_R d442 by rw [e456]; rfl)
                unfold J_X12_thief_146
                have f468 := cb_12_2 I k_a0
                have f469 := cb_12_2 i457 k_a0
                have f470 : (q_I d455 12 2 a0).toInt = (q_I d442 12 2 a0).toInt := congrArg Int32.toInt (by rw [e456]; exact rI_o (by decide))
                have f471 := cb_12_2 i444 k_a0
                have f472 : (q_I d442 12 2 a0).toInt = (q_I r414.2 12 2 a0).toInt := congrArg Int32.toInt (by rw [e443]; rfl)
                have f473 := cb_12_2 i416 k_a0
                have f474 : (q_I r414.2 12 2 a0).toInt = (q_I r399 12 2 a0).toInt := congrArg Int32.toInt (u417 12 2 a0 (by decide))
                have f475 := cb_12_2 i401 k_a0
                have f476 : (q_I r399 12 2 a0).toInt = (q_I r286.2 12 2 a0).toInt := congrArg Int32.toInt (u404 12 2 a0 (by decide))
                have f477 := cb_12_2 i288 k_a0
                have f478 : (q_I r286.2 12 2 a0).toInt = (q_I r138 12 2 a0).toInt := congrArg Int32.toInt (u292 12 2 a0 (by decide))
                have f479 := cb_12_2 i176 k_a0
                have f480 : (q_I r138 12 2 a0).toInt = (q_I r115 12 2 a0).toInt := congrArg Int32.toInt (u182 12 2 a0 (by decide))
                have f481 := cb_12_2 i119 k_a0
                have f482 : (q_I r115 12 2 a0).toInt = (q_I r84.2 12 2 a0).toInt := congrArg Int32.toInt (u122 12 2 a0 (by decide))
                have f483 := cb_12_2 i86 k_a0
                have f484 : (q_I r84.2 12 2 a0).toInt = (q_I d78 12 2 a0).toInt := congrArg Int32.toInt (u90 12 2 a0 (by decide))
                have f485 := cb_12_2 i80 k_a0
                have f486 : (q_I d78 12 2 a0).toInt = (q_I d72 12 2 a0).toInt := congrArg Int32.toInt (by rw [e79]; exact rI_o (by decide))
                have f487 := cb_12_2 i74 k_a0
                have f488 : (q_I d72 12 2 a0).toInt = (q_I d66 12 2 a0).toInt := congrArg Int32.toInt (by rw [e73]; exact rI_o (by decide))
                have f489 := cb_12_2 i68 k_a0
                have f490 : (q_I d66 12 2 a0).toInt = (q_I r35 12 2 a0).toInt := congrArg Int32.toInt (by rw [e67]; exact rI_o (by decide))
                exact ok_some (show RI ad h.1 δ0 d455 ∧ (kp [(12, 0), (12, 2), (12, 3), (12, 4), (12, 5), (12, 6), (12, 7), (12, 8), (12, 24), (12, 25), (12, 26), (12, 27)] δ d455 ∧ q_V d455 = q_V δ ∧ kr ad [100, 112, 113, 114, 115, 116, 117] δ d455) ∧ (0 ≤ (x1).toInt ∧ (x1).toInt ≤ (q_I δ 12 2 a0).toInt → (q_I d455 12 2 a0).toInt = 0) ∧ ((x1).toInt < 0 ∨ (q_I δ 12 2 a0).toInt < (x1).toInt → (q_I d455 12 2 a0).toInt = (q_I δ 12 2 a0).toInt) from ⟨i457, ⟨kp_w (by decide) u465, v466, kr_w (by decide) v467⟩, by first | assumption | omega, by first | assumption | omega⟩)
              · have c491 : r414.1.toInt ≠ (q_I r414.2 12 24 a0).toInt := o_ne h433
                unfold J_X12_thief_146
                have f492 := cb_12_2 I k_a0
                have f493 := cb_12_2 i416 k_a0
                have f494 : (q_I r414.2 12 2 a0).toInt = (q_I r399 12 2 a0).toInt := congrArg Int32.toInt (u417 12 2 a0 (by decide))
                have f495 := cb_12_2 i401 k_a0
                have f496 : (q_I r399 12 2 a0).toInt = (q_I r286.2 12 2 a0).toInt := congrArg Int32.toInt (u404 12 2 a0 (by decide))
                have f497 := cb_12_2 i288 k_a0
                have f498 : (q_I r286.2 12 2 a0).toInt = (q_I r138 12 2 a0).toInt := congrArg Int32.toInt (u292 12 2 a0 (by decide))
                have f499 := cb_12_2 i176 k_a0
                have f500 : (q_I r138 12 2 a0).toInt = (q_I r115 12 2 a0).toInt := congrArg Int32.toInt (u182 12 2 a0 (by decide))
                have f501 := cb_12_2 i119 k_a0
                have f502 : (q_I r115 12 2 a0).toInt = (q_I r84.2 12 2 a0).toInt := congrArg Int32.toInt (u122 12 2 a0 (by decide))
                have f503 := cb_12_2 i86 k_a0
                have f504 : (q_I r84.2 12 2 a0).toInt = (q_I d78 12 2 a0).toInt := congrArg Int32.toInt (u90 12 2 a0 (by decide))
                have f505 := cb_12_2 i80 k_a0
                have f506 : (q_I d78 12 2 a0).toInt = (q_I d72 12 2 a0).toInt := congrArg Int32.toInt (by rw [e79]; exact rI_o (by decide))
                have f507 := cb_12_2 i74 k_a0
                have f508 : (q_I d72 12 2 a0).toInt = (q_I d66 12 2 a0).toInt := congrArg Int32.toInt (by rw [e73]; exact rI_o (by decide))
                have f509 := cb_12_2 i68 k_a0
                have f510 : (q_I d66 12 2 a0).toInt = (q_I r35 12 2 a0).toInt := congrArg Int32.toInt (by rw [e67]; exact rI_o (by decide))
                exact ok_some (show RI ad h.1 δ0 r414.2 ∧ (kp [(12, 0), (12, 2), (12, 3), (12, 4), (12, 5), (12, 6), (12, 7), (12, 8), (12, 24), (12, 25), (12, 26), (12, 27)] δ r414.2 ∧ q_V r414.2 = q_V δ ∧ kr ad [100, 112, 113, 114, 115, 116, 117] δ r414.2) ∧ (0 ≤ (x1).toInt ∧ (x1).toInt ≤ (q_I δ 12 2 a0).toInt → (q_I r414.2 12 2 a0).toInt = 0) ∧ ((x1).toInt < 0 ∨ (q_I δ 12 2 a0).toInt < (x1).toInt → (q_I r414.2 12 2 a0).toInt = (q_I δ 12 2 a0).toInt) from ⟨i416, ⟨kp_w (by decide) u421, v422, kr_w (by decide) v423⟩, by first | assumption | omega, by first | assumption | omega⟩)
        · have c511 : r84.1.toInt ≠ (0 : Int) := o_ne h113
          unfold J_X12_thief_79
          have f514 := cb_12_24 i86 k_a0
          have f515 : (q_I r84.2 12 24 a0).toInt = (q_I d78 12 24 a0).toInt := congrArg Int32.toInt (u90 12 24 a0 (by decide))
          have f516 := cb_12_24 i80 k_a0
          have f517 : (q_I d78 12 24 a0).toInt = (q_I d72 12 24 a0).toInt := congrArg Int32.toInt (by rw [e79]; exact rI_o (by decide))
          have f518 := cb_12_24 i74 k_a0
          have f519 : (q_I d72 12 24 a0).toInt = (q_I d66 12 24 a0).toInt := congrArg Int32.toInt (by rw [e73]; exact rI_o (by decide))
          have f520 := cb_12_24 i68 k_a0
          have f521 : (q_I d66 12 24 a0).toInt = (q_I r35 12 24 a0).toInt := congrArg Int32.toInt (by rw [e67]; exact rI_o (by decide))
          have f522 := cb_12_26 i86 k_a0
          have f523 : (q_I r84.2 12 26 a0).toInt = (q_I d78 12 26 a0).toInt := congrArg Int32.toInt (u90 12 26 a0 (by decide))
          have f524 := cb_12_26 i80 k_a0
          have f525 : (q_I d78 12 26 a0).toInt = (q_I d72 12 26 a0).toInt := congrArg Int32.toInt (by rw [e79]; exact rI_o (by decide))
          have f526 := cb_12_26 i74 k_a0
          have f527 : (q_I d72 12 26 a0).toInt = (0 : Int) := congrArg Int32.toInt (show q_I d72 12 26 a0 = (0 : Int32) by rw [e73]; exact rI_s)
          have f528 := ti_b (q_I r84.2 12 7 a0)
          have f529 : (q_I r84.2 12 7 a0).toInt = (q_I d78 12 7 a0).toInt := congrArg Int32.toInt (u90 12 7 a0 (by decide))
          have f530 := ti_b (q_I d78 12 7 a0)
          have f531 : (q_I d78 12 7 a0).toInt = (q_I d72 12 7 a0).toInt := congrArg Int32.toInt (by rw [e79]; exact rI_o (by decide))
          have f532 := ti_b (q_I d72 12 7 a0)
          have f533 : (q_I d72 12 7 a0).toInt = (q_I d66 12 7 a0).toInt := congrArg Int32.toInt (by rw [e73]; exact rI_o (by decide))
          have f534 := ti_b (q_I d66 12 7 a0)
          have f535 : (q_I d66 12 7 a0).toInt = (q_I r35 12 7 a0).toInt := congrArg Int32.toInt (by rw [e67]; exact rI_o (by decide))
          have f536 := cb_12_27 i86 k_a0
          have f537 : (q_I r84.2 12 27 a0).toInt = (q_I d78 12 27 a0).toInt := congrArg Int32.toInt (u90 12 27 a0 (by decide))
          have f538 := cb_12_27 i80 k_a0
          have f539 : (q_I d78 12 27 a0).toInt = (0 : Int) := congrArg Int32.toInt (show q_I d78 12 27 a0 = (0 : Int32) by rw [e79]; exact rI_s)
          refine ok_bind (k_X12_readSteps L hN (a0 := a0) k_a0 (show (q_I r84.2 12 24 a0).toInt ≤ 3 by first | assumption | omega) (show (q_I r84.2 12 26 a0).toInt ≤ (q_I r84.2 12 4 a0).toInt by first | assumption | omega) (show (q_I r84.2 12 7 a0).toInt = 0 by first | assumption | omega) (show 4 - (q_I r84.2 12 27 a0).toInt < 20 by first | assumption | omega) i86) (fun r512 hr513 => ?_)
          obtain ⟨i540, ⟨u546, u547, u548⟩, p541, p542, p543, p544, p545⟩ := hr513
          have u549 := kp_t u94 u546
          have v550 : q_V r512 = q_V δ := (u547).trans v95
          have v551 := kr_t v96 u548
          have f552 := cb_12_4 i540 k_a0
          have f553 := cb_12_5 i86 k_a0
          have f554 : (q_I r84.2 12 5 a0).toInt = (q_I d78 12 5 a0).toInt := congrArg Int32.toInt (u90 12 5 a0 (by decide))
          have f555 := cb_12_5 i80 k_a0
          have f556 : (q_I d78 12 5 a0).toInt = (q_I d72 12 5 a0).toInt := congrArg Int32.toInt (by rw [e79]; exact rI_o (by decide))
          have f557 := cb_12_5 i74 k_a0
          have f558 : (q_I d72 12 5 a0).toInt = (q_I d66 12 5 a0).toInt := congrArg Int32.toInt (by rw [e73]; exact rI_o (by decide))
          have f559 := cb_12_5 i68 k_a0
          have f560 : (q_I d66 12 5 a0).toInt = (q_I r35 12 5 a0).toInt := congrArg Int32.toInt (by rw [e67]; exact rI_o (by decide))
          have f561 := cb_12_5 i540 k_a0
          have f562 := ti_b (q_I r512 12 7 a0)
          have f563 := cb_12_27 i540 k_a0
          have f564 := cb_12_26 i540 k_a0
          refine ok_bind (k_X12_fine L hN (a0 := a0) k_a0 i540) (fun r565 hr566 => ?_)
          obtain ⟨i567, p568, p569, p570⟩ := hr566
          try rw [i567]
          have f571 := bo_l p568
          have f572 := ti_b r565.1
          have f573 := ti_b r565.1
          refine ok_ite (fun h574 => ?_) (fun h574 => ?_)
          · have c575 : r565.1.toInt = (0 : Int) := o_eq h574
            unfold J_X12_thief_106
            refine ok_bind (k_X12_result L hN (a0 := a0) (x1 := (q_I r512 12 24 a0)) k_a0 i540) (fun r576 hr577 => ?_)
            obtain ⟨i578, ⟨u579, u580, u581, u582⟩⟩ := hr577
            have u583 := kp_t u549 u579
            have v584 : q_V r576.2 = q_V δ := (u580).trans v550
            have v585 := kr_t v551 u582
            have f586 := ti_b r576.1
            have f587 := cb_12_24 i578 k_a0
            have f588 : (q_I r576.2 12 24 a0).toInt = (q_I r512 12 24 a0).toInt := congrArg Int32.toInt (u579 12 24 a0 (by decide))
            have f589 := cb_12_24 i540 k_a0
            have f590 : (q_I r512 12 24 a0).toInt = (q_I r84.2 12 24 a0).toInt := congrArg Int32.toInt (u546 12 24 a0 (by decide))
            refine ok_ite (fun h591 => ?_) (fun h591 => ?_)
            · have c592 : r576.1.toInt = (q_I r576.2 12 24 a0).toInt := o_eq h591
              obtain ⟨b593, o594, k595, n596⟩ := gO_12_28 L k_a0
              obtain rfl := gS_12_28 L k_a0 o594
              refine ok_at o594 ?_
              have t597 := ti_tn (q_I r576.2 12 24 a0)
              refine ok_gd (fun hc598 => ?_) ?_
              · rcases hc598 with hc598 | hc598
                · have c599 : (q_I r576.2 12 24 a0).toInt < (0 : Int) := o_lt hc598
                  omega
                · omega
              have f603 := cb_12_25 i578 k_a0
              have f604 : (q_I r576.2 12 25 a0).toInt = (q_I r512 12 25 a0).toInt := congrArg Int32.toInt (u579 12 25 a0 (by decide))
              have f605 := cb_12_25 i540 k_a0
              refine ok_bdv (fun d600 e601 => ?_)
              have i602 : RI ad h.1 δ0 d600 := by rw [e601]; exact cr_112 L i578 (show 0 ≤ (q_I r576.2 12 25 a0).toInt by omega) (show (q_I r576.2 12 25 a0).toInt ≤ 60 by omega)
              have u606 := kp_N u583 (show q_I d600 = q_I r576.2 by rw [e601]; rfl)
              have v607 : q_V d600 = q_V δ := ((show q_V d600 = q_V r576.2 by rw [e601]; rfl)).trans v584
              have v608 := kr_s L (by decide) v585 e601
              have f612 := cb_12_24 i602 k_a0
              have f613 : (q_I d600 12 24 a0).toInt = (q_I r576.2 12 24 a0).toInt := congrArg Int32.toInt (by rw [e601]; rfl)
              first | (have q615 := te_addc (c := 1) (n := 1) rfl (q_I d600 12 24 a0) (by omega) (by omega); obtain ⟨f616, f617, f618⟩ := q615) | (obtain ⟨q615, f616, f617, f618⟩ := ti_addc (c := 1) (n := 1) rfl (q_I d600 12 24 a0))
              refine ok_bdv (fun d609 e610 => ?_)
              have i611 : RI ad h.1 δ0 d609 := by rw [e610]; exact cs_12_24 L i602 k_a0 (show 0 ≤ ((q_I d600 12 24 a0) + (1 : Int32)).toInt by omega) (show ((q_I d600 12 24 a0) + (1 : Int32)).toInt ≤ 4 by omega)
              have u619 := kp_I u606 e610
              have v620 : q_V d609 = q_V δ := ((show q_V d609 = q_V d600 by rw [e610]; rfl)).trans v607
              have v621 := kr_N v608 (show q_R d609 = q_R d600 by rw [e610]; rfl)
              unfold J_X12_thief_146
              have f622 := cb_12_2 I k_a0
              have f623 := cb_12_2 i611 k_a0
              have f624 : (q_I d609 12 2 a0).toInt = (q_I d600 12 2 a0).toInt := congrArg Int32.toInt (by rw [e610]; exact rI_o (by decide))
              have f625 := cb_12_2 i602 k_a0
              have f626 : (q_I d600 12 2 a0).toInt = (q_I r576.2 12 2 a0).toInt := congrArg Int32.toInt (by rw [e601]; rfl)
              have f627 := cb_12_2 i578 k_a0
              have f628 : (q_I r576.2 12 2 a0).toInt = (q_I r512 12 2 a0).toInt := congrArg Int32.toInt (u579 12 2 a0 (by decide))
              have f629 := cb_12_2 i540 k_a0
              have f630 : (q_I r512 12 2 a0).toInt = (q_I r84.2 12 2 a0).toInt := congrArg Int32.toInt (u546 12 2 a0 (by decide))
              have f631 := cb_12_2 i86 k_a0
              have f632 : (q_I r84.2 12 2 a0).toInt = (q_I d78 12 2 a0).toInt := congrArg Int32.toInt (u90 12 2 a0 (by decide))
              have f633 := cb_12_2 i80 k_a0
              have f634 : (q_I d78 12 2 a0).toInt = (q_I d72 12 2 a0).toInt := congrArg Int32.toInt (by rw [e79]; exact rI_o (by decide))
              have f635 := cb_12_2 i74 k_a0
              have f636 : (q_I d72 12 2 a0).toInt = (q_I d66 12 2 a0).toInt := congrArg Int32.toInt (by rw [e73]; exact rI_o (by decide))
              have f637 := cb_12_2 i68 k_a0
              have f638 : (q_I d66 12 2 a0).toInt = (q_I r35 12 2 a0).toInt := congrArg Int32.toInt (by rw [e67]; exact rI_o (by decide))
              exact ok_some (show RI ad h.1 δ0 d609 ∧ (kp [(12, 0), (12, 2), (12, 3), (12, 4), (12, 5), (12, 6), (12, 7), (12, 8), (12, 24), (12, 25), (12, 26), (12, 27)] δ d609 ∧ q_V d609 = q_V δ ∧ kr ad [100, 112, 113, 114, 115, 116, 117] δ d609) ∧ (0 ≤ (x1).toInt ∧ (x1).toInt ≤ (q_I δ 12 2 a0).toInt → (q_I d609 12 2 a0).toInt = 0) ∧ ((x1).toInt < 0 ∨ (q_I δ 12 2 a0).toInt < (x1).toInt → (q_I d609 12 2 a0).toInt = (q_I δ 12 2 a0).toInt) from ⟨i611, ⟨kp_w (by decide) u619, v620, kr_w (by decide) v621⟩, by first | assumption | omega, by first | assumption | omega⟩)
            · have c639 : r576.1.toInt ≠ (q_I r576.2 12 24 a0).toInt := o_ne h591
              unfold J_X12_thief_146
              have f640 := cb_12_2 I k_a0
              have f641 := cb_12_2 i578 k_a0
              have f642 : (q_I r576.2 12 2 a0).toInt = (q_I r512 12 2 a0).toInt := congrArg Int32.toInt (u579 12 2 a0 (by decide))
              have f643 := cb_12_2 i540 k_a0
              have f644 : (q_I r512 12 2 a0).toInt = (q_I r84.2 12 2 a0).toInt := congrArg Int32.toInt (u546 12 2 a0 (by decide))
              have f645 := cb_12_2 i86 k_a0
              have f646 : (q_I r84.2 12 2 a0).toInt = (q_I d78 12 2 a0).toInt := congrArg Int32.toInt (u90 12 2 a0 (by decide))
              have f647 := cb_12_2 i80 k_a0
              have f648 : (q_I d78 12 2 a0).toInt = (q_I d72 12 2 a0).toInt := congrArg Int32.toInt (by rw [e79]; exact rI_o (by decide))
              have f649 := cb_12_2 i74 k_a0
              have f650 : (q_I d72 12 2 a0).toInt = (q_I d66 12 2 a0).toInt := congrArg Int32.toInt (by rw [e73]; exact rI_o (by decide))
              have f651 := cb_12_2 i68 k_a0
              have f652 : (q_I d66 12 2 a0).toInt = (q_I r35 12 2 a0).toInt := congrArg Int32.toInt (by rw [e67]; exact rI_o (by decide))
              exact ok_some (show RI ad h.1 δ0 r576.2 ∧ (kp [(12, 0), (12, 2), (12, 3), (12, 4), (12, 5), (12, 6), (12, 7), (12, 8), (12, 24), (12, 25), (12, 26), (12, 27)] δ r576.2 ∧ q_V r576.2 = q_V δ ∧ kr ad [100, 112, 113, 114, 115, 116, 117] δ r576.2) ∧ (0 ≤ (x1).toInt ∧ (x1).toInt ≤ (q_I δ 12 2 a0).toInt → (q_I r576.2 12 2 a0).toInt = 0) ∧ ((x1).toInt < 0 ∨ (q_I δ 12 2 a0).toInt < (x1).toInt → (q_I r576.2 12 2 a0).toInt = (q_I δ 12 2 a0).toInt) from ⟨i578, ⟨kp_w (by decide) u583, v584, kr_w (by decide) v585⟩, by first | assumption | omega, by first | assumption | omega⟩)
          · have c653 : r565.1.toInt ≠ (0 : Int) := o_ne h574
            refine ok_bind (k_X12_isMore L hN (a0 := a0) k_a0 i540) (fun r654 hr655 => ?_)
            obtain ⟨i656, ⟨u660, u661, u662, u663⟩, p657, p658, p659⟩ := hr655
            have u664 := kp_t u549 u660
            have v665 : q_V r654.2 = q_V δ := (u661).trans v550
            have v666 := kr_t v551 u663
            have f667 := bo_l p657
            have f668 := cb_12_4 i656 k_a0
            have f669 := ti_b r654.1
            have f670 := cb_12_3 i540 k_a0
            have f671 : (q_I r512 12 3 a0).toInt = (q_I r84.2 12 3 a0).toInt := congrArg Int32.toInt (u546 12 3 a0 (by decide))
            have f672 := cb_12_3 i86 k_a0
            have f673 : (q_I r84.2 12 3 a0).toInt = (q_I d78 12 3 a0).toInt := congrArg Int32.toInt (u90 12 3 a0 (by decide))
            have f674 := ti_b r654.1
            refine ok_ite (fun h675 => ?_) (fun h675 => ?_)
            · have c676 : r654.1.toInt = (0 : Int) := o_eq h675
              unfold J_X12_thief_106
              refine ok_bind (k_X12_result L hN (a0 := a0) (x1 := (q_I r654.2 12 24 a0)) k_a0 i656) (fun r677 hr678 => ?_)
              obtain ⟨i679, ⟨u680, u681, u682, u683⟩⟩ := hr678
              have u684 := kp_t u664 u680
              have v685 : q_V r677.2 = q_V δ := (u681).trans v665
              have v686 := kr_t v666 u683
              have f687 := ti_b r677.1
              have f688 := cb_12_24 i679 k_a0
              have f689 : (q_I r677.2 12 24 a0).toInt = (q_I r654.2 12 24 a0).toInt := congrArg Int32.toInt (u680 12 24 a0 (by decide))
              have f690 := cb_12_24 i656 k_a0
              have f691 : (q_I r654.2 12 24 a0).toInt = (q_I r512 12 24 a0).toInt := congrArg Int32.toInt (u660 12 24 a0 (by decide))
              have f692 := cb_12_24 i540 k_a0
              have f693 : (q_I r512 12 24 a0).toInt = (q_I r84.2 12 24 a0).toInt := congrArg Int32.toInt (u546 12 24 a0 (by decide))
              refine ok_ite (fun h694 => ?_) (fun h694 => ?_)
              · have c695 : r677.1.toInt = (q_I r677.2 12 24 a0).toInt := o_eq h694
                obtain ⟨b696, o697, k698, n699⟩ := gO_12_28 L k_a0
                obtain rfl := gS_12_28 L k_a0 o697
                refine ok_at o697 ?_
                have t700 := ti_tn (q_I r677.2 12 24 a0)
                refine ok_gd (fun hc701 => ?_) ?_
                · rcases hc701 with hc701 | hc701
                  · have c702 : (q_I r677.2 12 24 a0).toInt < (0 : Int) := o_lt hc701
                    omega
                  · omega
                have f706 := cb_12_25 i679 k_a0
                have f707 : (q_I r677.2 12 25 a0).toInt = (q_I r654.2 12 25 a0).toInt := congrArg Int32.toInt (u680 12 25 a0 (by decide))
                have f708 := cb_12_25 i656 k_a0
                have f709 : (q_I r654.2 12 25 a0).toInt = (q_I r512 12 25 a0).toInt := congrArg Int32.toInt (u660 12 25 a0 (by decide))
                have f710 := cb_12_25 i540 k_a0
                refine ok_bdv (fun d703 e704 => ?_)
                have i705 : RI ad h.1 δ0 d703 := by rw [e704]; exact cr_112 L i679 (show 0 ≤ (q_I r677.2 12 25 a0).toInt by omega) (show (q_I r677.2 12 25 a0).toInt ≤ 60 by omega)
                have u711 := kp_N u684 (show q_I d703 = q_I r677.2 by rw [e704]; rfl)
                have v712 : q_V d703 = q_V δ := ((show q_V d703 = q_V r677.2 by rw [e704]; rfl)).trans v685
                have v713 := kr_s L (by decide) v686 e704
                have f717 := cb_12_24 i705 k_a0
                have f718 : (q_I d703 12 24 a0).toInt = (q_I r677.2 12 24 a0).toInt := congrArg Int32.toInt (by rw [e704]; rfl)
                first | (have q720 := te_addc (c := 1) (n := 1) rfl (q_I d703 12 24 a0) (by omega) (by omega); obtain ⟨f721, f722, f723⟩ := q720) | (obtain ⟨q720, f721, f722, f723⟩ := ti_addc (c := 1) (n := 1) rfl (q_I d703 12 24 a0))
                refine ok_bdv (fun d714 e715 => ?_)
                have i716 : RI ad h.1 δ0 d714 := by rw [e715]; exact cs_12_24 L i705 k_a0 (show 0 ≤ ((q_I d703 12 24 a0) + (1 : Int32)).toInt by omega) (show ((q_I d703 12 24 a0) + (1 : Int32)).toInt ≤ 4 by omega)
                have u724 := kp_I u711 e715
                have v725 : q_V d714 = q_V δ := ((show q_V d714 = q_V d703 by rw [e715]; rfl)).trans v712
                have v726 := kr_N v713 (show q_R d714 = q_R d703 by rw [e715]; rfl)
                unfold J_X12_thief_146
                have f727 := cb_12_2 I k_a0
                have f728 := cb_12_2 i716 k_a0
                have f729 : (q_I d714 12 2 a0).toInt = (q_I d703 12 2 a0).toInt := congrArg Int32.toInt (by rw [e715]; exact rI_o (by decide))
                have f730 := cb_12_2 i705 k_a0
                have f731 : (q_I d703 12 2 a0).toInt = (q_I r677.2 12 2 a0).toInt := congrArg Int32.toInt (by rw [e704]; rfl)
                have f732 := cb_12_2 i679 k_a0
                have f733 : (q_I r677.2 12 2 a0).toInt = (q_I r654.2 12 2 a0).toInt := congrArg Int32.toInt (u680 12 2 a0 (by decide))
                have f734 := cb_12_2 i656 k_a0
                have f735 : (q_I r654.2 12 2 a0).toInt = (q_I r512 12 2 a0).toInt := congrArg Int32.toInt (u660 12 2 a0 (by decide))
                have f736 := cb_12_2 i540 k_a0
                have f737 : (q_I r512 12 2 a0).toInt = (q_I r84.2 12 2 a0).toInt := congrArg Int32.toInt (u546 12 2 a0 (by decide))
                have f738 := cb_12_2 i86 k_a0
                have f739 : (q_I r84.2 12 2 a0).toInt = (q_I d78 12 2 a0).toInt := congrArg Int32.toInt (u90 12 2 a0 (by decide))
                have f740 := cb_12_2 i80 k_a0
                have f741 : (q_I d78 12 2 a0).toInt = (q_I d72 12 2 a0).toInt := congrArg Int32.toInt (by rw [e79]; exact rI_o (by decide))
                have f742 := cb_12_2 i74 k_a0
                have f743 : (q_I d72 12 2 a0).toInt = (q_I d66 12 2 a0).toInt := congrArg Int32.toInt (by rw [e73]; exact rI_o (by decide))
                have f744 := cb_12_2 i68 k_a0
                have f745 : (q_I d66 12 2 a0).toInt = (q_I r35 12 2 a0).toInt := congrArg Int32.toInt (by rw [e67]; exact rI_o (by decide))
                exact ok_some (show RI ad h.1 δ0 d714 ∧ (kp [(12, 0), (12, 2), (12, 3), (12, 4), (12, 5), (12, 6), (12, 7), (12, 8), (12, 24), (12, 25), (12, 26), (12, 27)] δ d714 ∧ q_V d714 = q_V δ ∧ kr ad [100, 112, 113, 114, 115, 116, 117] δ d714) ∧ (0 ≤ (x1).toInt ∧ (x1).toInt ≤ (q_I δ 12 2 a0).toInt → (q_I d714 12 2 a0).toInt = 0) ∧ ((x1).toInt < 0 ∨ (q_I δ 12 2 a0).toInt < (x1).toInt → (q_I d714 12 2 a0).toInt = (q_I δ 12 2 a0).toInt) from ⟨i716, ⟨kp_w (by decide) u724, v725, kr_w (by decide) v726⟩, by first | assumption | omega, by first | assumption | omega⟩)
              · have c746 : r677.1.toInt ≠ (q_I r677.2 12 24 a0).toInt := o_ne h694
                unfold J_X12_thief_146
                have f747 := cb_12_2 I k_a0
                have f748 := cb_12_2 i679 k_a0
                have f749 : (q_I r677.2 12 2 a0).toInt = (q_I r654.2 12 2 a0).toInt := congrArg Int32.toInt (u680 12 2 a0 (by decide))
                have f750 := cb_12_2 i656 k_a0
                have f751 : (q_I r654.2 12 2 a0).toInt = (q_I r512 12 2 a0).toInt := congrArg Int32.toInt (u660 12 2 a0 (by decide))
                have f752 := cb_12_2 i540 k_a0
                have f753 : (q_I r512 12 2 a0).toInt = (q_I r84.2 12 2 a0).toInt := congrArg Int32.toInt (u546 12 2 a0 (by decide))
                have f754 := cb_12_2 i86 k_a0
                have f755 : (q_I r84.2 12 2 a0).toInt = (q_I d78 12 2 a0).toInt := congrArg Int32.toInt (u90 12 2 a0 (by decide))
                have f756 := cb_12_2 i80 k_a0
                have f757 : (q_I d78 12 2 a0).toInt = (q_I d72 12 2 a0).toInt := congrArg Int32.toInt (by rw [e79]; exact rI_o (by decide))
                have f758 := cb_12_2 i74 k_a0
                have f759 : (q_I d72 12 2 a0).toInt = (q_I d66 12 2 a0).toInt := congrArg Int32.toInt (by rw [e73]; exact rI_o (by decide))
                have f760 := cb_12_2 i68 k_a0
                have f761 : (q_I d66 12 2 a0).toInt = (q_I r35 12 2 a0).toInt := congrArg Int32.toInt (by rw [e67]; exact rI_o (by decide))
                exact ok_some (show RI ad h.1 δ0 r677.2 ∧ (kp [(12, 0), (12, 2), (12, 3), (12, 4), (12, 5), (12, 6), (12, 7), (12, 8), (12, 24), (12, 25), (12, 26), (12, 27)] δ r677.2 ∧ q_V r677.2 = q_V δ ∧ kr ad [100, 112, 113, 114, 115, 116, 117] δ r677.2) ∧ (0 ≤ (x1).toInt ∧ (x1).toInt ≤ (q_I δ 12 2 a0).toInt → (q_I r677.2 12 2 a0).toInt = 0) ∧ ((x1).toInt < 0 ∨ (q_I δ 12 2 a0).toInt < (x1).toInt → (q_I r677.2 12 2 a0).toInt = (q_I δ 12 2 a0).toInt) from ⟨i679, ⟨kp_w (by decide) u684, v685, kr_w (by decide) v686⟩, by first | assumption | omega, by first | assumption | omega⟩)
            · have c762 : r654.1.toInt ≠ (0 : Int) := o_ne h675
              refine ok_bind (k_X12_wrong L hN (a0 := a0) (x1 := (1 : Int32)) (x2 := (q_I r654.2 12 4 a0)) k_a0 (show 0 ≤ ((q_I r654.2 12 4 a0)).toInt by first | assumption | omega) (show ((q_I r654.2 12 4 a0)).toInt ≤ 500 by first | assumption | omega) i656) (fun r763 hr764 => ?_)
              obtain ⟨i765, ⟨u768, u769, u770, u771⟩, p766, p767⟩ := hr764
              have u772 := kp_t u664 u768
              have v773 : q_V r763 = q_V δ := (u769).trans v665
              have v774 := kr_t v666 u771
              have f775 := cb_12_5 i765 k_a0
              have f776 := cb_12_5 i656 k_a0
              have f777 : (q_I r654.2 12 5 a0).toInt = (q_I r512 12 5 a0).toInt := congrArg Int32.toInt (u660 12 5 a0 (by decide))
              unfold J_X12_thief_106
              refine ok_bind (k_X12_result L hN (a0 := a0) (x1 := (q_I r763 12 24 a0)) k_a0 i765) (fun r778 hr779 => ?_)
              obtain ⟨i780, ⟨u781, u782, u783, u784⟩⟩ := hr779
              have u785 := kp_t u772 u781
              have v786 : q_V r778.2 = q_V δ := (u782).trans v773
              have v787 := kr_t v774 u784
              have f788 := ti_b r778.1
              have f789 := cb_12_24 i780 k_a0
              have f790 : (q_I r778.2 12 24 a0).toInt = (q_I r763 12 24 a0).toInt := congrArg Int32.toInt (u781 12 24 a0 (by decide))
              have f791 := cb_12_24 i765 k_a0
              have f792 : (q_I r763 12 24 a0).toInt = (q_I r654.2 12 24 a0).toInt := congrArg Int32.toInt (u768 12 24 a0 (by decide))
              have f793 := cb_12_24 i656 k_a0
              have f794 : (q_I r654.2 12 24 a0).toInt = (q_I r512 12 24 a0).toInt := congrArg Int32.toInt (u660 12 24 a0 (by decide))
              have f795 := cb_12_24 i540 k_a0
              have f796 : (q_I r512 12 24 a0).toInt = (q_I r84.2 12 24 a0).toInt := congrArg Int32.toInt (u546 12 24 a0 (by decide))
              refine ok_ite (fun h797 => ?_) (fun h797 => ?_)
              · have c798 : r778.1.toInt = (q_I r778.2 12 24 a0).toInt := o_eq h797
                obtain ⟨b799, o800, k801, n802⟩ := gO_12_28 L k_a0
                obtain rfl := gS_12_28 L k_a0 o800
                refine ok_at o800 ?_
                have t803 := ti_tn (q_I r778.2 12 24 a0)
                refine ok_gd (fun hc804 => ?_) ?_
                · rcases hc804 with hc804 | hc804
                  · have c805 : (q_I r778.2 12 24 a0).toInt < (0 : Int) := o_lt hc804
                    omega
                  · omega
                have f809 := cb_12_25 i780 k_a0
                have f810 : (q_I r778.2 12 25 a0).toInt = (q_I r763 12 25 a0).toInt := congrArg Int32.toInt (u781 12 25 a0 (by decide))
                have f811 := cb_12_25 i765 k_a0
                have f812 : (q_I r763 12 25 a0).toInt = (q_I r654.2 12 25 a0).toInt := congrArg Int32.toInt (u768 12 25 a0 (by decide))
                have f813 := cb_12_25 i656 k_a0
                have f814 : (q_I r654.2 12 25 a0).toInt = (q_I r512 12 25 a0).toInt := congrArg Int32.toInt (u660 12 25 a0 (by decide))
                have f815 := cb_12_25 i540 k_a0
                refine ok_bdv (fun d806 e807 => ?_)
                have i808 : RI ad h.1 δ0 d806 := by rw [e807]; exact cr_112 L i780 (show 0 ≤ (q_I r778.2 12 25 a0).toInt by omega) (show (q_I r778.2 12 25 a0).toInt ≤ 60 by omega)
                have u816 := kp_N u785 (show q_I d806 = q_I r778.2 by rw [e807]; rfl)
                have v817 : q_V d806 = q_V δ := ((show q_V d806 = q_V r778.2 by rw [e807]; rfl)).trans v786
                have v818 := kr_s L (by decide) v787 e807
                have f822 := cb_12_24 i808 k_a0
                have f823 : (q_I d806 12 24 a0).toInt = (q_I r778.2 12 24 a0).toInt := congrArg Int32.toInt (by rw [e807]; rfl)
                first | (have q825 := te_addc (c := 1) (n := 1) rfl (q_I d806 12 24 a0) (by omega) (by omega); obtain ⟨f826, f827, f828⟩ := q825) | (obtain ⟨q825, f826, f827, f828⟩ := ti_addc (c := 1) (n := 1) rfl (q_I d806 12 24 a0))
                refine ok_bdv (fun d819 e820 => ?_)
                have i821 : RI ad h.1 δ0 d819 := by rw [e820]; exact cs_12_24 L i808 k_a0 (show 0 ≤ ((q_I d806 12 24 a0) + (1 : Int32)).toInt by omega) (show ((q_I d806 12 24 a0) + (1 : Int32)).toInt ≤ 4 by omega)
                have u829 := kp_I u816 e820
                have v830 : q_V d819 = q_V δ := ((show q_V d819 = q_V d806 by rw [e820]; rfl)).trans v817
                have v831 := kr_N v818 (show q_R d819 = q_R d806 by rw [e820]; rfl)
                unfold J_X12_thief_146
                have f832 := cb_12_2 I k_a0
                have f833 := cb_12_2 i821 k_a0
                have f834 : (q_I d819 12 2 a0).toInt = (q_I d806 12 2 a0).toInt := congrArg Int32.toInt (by rw [e820]; exact rI_o (by decide))
                have f835 := cb_12_2 i808 k_a0
                have f836 : (q_I d806 12 2 a0).toInt = (q_I r778.2 12 2 a0).toInt := congrArg Int32.toInt (by rw [e807]; rfl)
                have f837 := cb_12_2 i780 k_a0
                have f838 : (q_I r778.2 12 2 a0).toInt = (q_I r763 12 2 a0).toInt := congrArg Int32.toInt (u781 12 2 a0 (by decide))
                have f839 := cb_12_2 i765 k_a0
                have f840 : (q_I r763 12 2 a0).toInt = (q_I r654.2 12 2 a0).toInt := congrArg Int32.toInt (u768 12 2 a0 (by decide))
                have f841 := cb_12_2 i656 k_a0
                have f842 : (q_I r654.2 12 2 a0).toInt = (q_I r512 12 2 a0).toInt := congrArg Int32.toInt (u660 12 2 a0 (by decide))
                have f843 := cb_12_2 i540 k_a0
                have f844 : (q_I r512 12 2 a0).toInt = (q_I r84.2 12 2 a0).toInt := congrArg Int32.toInt (u546 12 2 a0 (by decide))
                have f845 := cb_12_2 i86 k_a0
                have f846 : (q_I r84.2 12 2 a0).toInt = (q_I d78 12 2 a0).toInt := congrArg Int32.toInt (u90 12 2 a0 (by decide))
                have f847 := cb_12_2 i80 k_a0
                have f848 : (q_I d78 12 2 a0).toInt = (q_I d72 12 2 a0).toInt := congrArg Int32.toInt (by rw [e79]; exact rI_o (by decide))
                have f849 := cb_12_2 i74 k_a0
                have f850 : (q_I d72 12 2 a0).toInt = (q_I d66 12 2 a0).toInt := congrArg Int32.toInt (by rw [e73]; exact rI_o (by decide))
                have f851 := cb_12_2 i68 k_a0
                have f852 : (q_I d66 12 2 a0).toInt = (q_I r35 12 2 a0).toInt := congrArg Int32.toInt (by rw [e67]; exact rI_o (by decide))
                exact ok_some (show RI ad h.1 δ0 d819 ∧ (kp [(12, 0), (12, 2), (12, 3), (12, 4), (12, 5), (12, 6), (12, 7), (12, 8), (12, 24), (12, 25), (12, 26), (12, 27)] δ d819 ∧ q_V d819 = q_V δ ∧ kr ad [100, 112, 113, 114, 115, 116, 117] δ d819) ∧ (0 ≤ (x1).toInt ∧ (x1).toInt ≤ (q_I δ 12 2 a0).toInt → (q_I d819 12 2 a0).toInt = 0) ∧ ((x1).toInt < 0 ∨ (q_I δ 12 2 a0).toInt < (x1).toInt → (q_I d819 12 2 a0).toInt = (q_I δ 12 2 a0).toInt) from ⟨i821, ⟨kp_w (by decide) u829, v830, kr_w (by decide) v831⟩, by first | assumption | omega, by first | assumption | omega⟩)
              · have c853 : r778.1.toInt ≠ (q_I r778.2 12 24 a0).toInt := o_ne h797
                unfold J_X12_thief_146
                have f854 := cb_12_2 I k_a0
                have f855 := cb_12_2 i780 k_a0
                have f856 : (q_I r778.2 12 2 a0).toInt = (q_I r763 12 2 a0).toInt := congrArg Int32.toInt (u781 12 2 a0 (by decide))
                have f857 := cb_12_2 i765 k_a0
                have f858 : (q_I r763 12 2 a0).toInt = (q_I r654.2 12 2 a0).toInt := congrArg Int32.toInt (u768 12 2 a0 (by decide))
                have f859 := cb_12_2 i656 k_a0
                have f860 : (q_I r654.2 12 2 a0).toInt = (q_I r512 12 2 a0).toInt := congrArg Int32.toInt (u660 12 2 a0 (by decide))
                have f861 := cb_12_2 i540 k_a0
                have f862 : (q_I r512 12 2 a0).toInt = (q_I r84.2 12 2 a0).toInt := congrArg Int32.toInt (u546 12 2 a0 (by decide))
                have f863 := cb_12_2 i86 k_a0
                have f864 : (q_I r84.2 12 2 a0).toInt = (q_I d78 12 2 a0).toInt := congrArg Int32.toInt (u90 12 2 a0 (by decide))
                have f865 := cb_12_2 i80 k_a0
                have f866 : (q_I d78 12 2 a0).toInt = (q_I d72 12 2 a0).toInt := congrArg Int32.toInt (by rw [e79]; exact rI_o (by decide))
                have f867 := cb_12_2 i74 k_a0
                have f868 : (q_I d72 12 2 a0).toInt = (q_I d66 12 2 a0).toInt := congrArg Int32.toInt (by rw [e73]; exact rI_o (by decide))
                have f869 := cb_12_2 i68 k_a0
                have f870 : (q_I d66 12 2 a0).toInt = (q_I r35 12 2 a0).toInt := congrArg Int32.toInt (by rw [e67]; exact rI_o (by decide))
                exact ok_some (show RI ad h.1 δ0 r778.2 ∧ (kp [(12, 0), (12, 2), (12, 3), (12, 4), (12, 5), (12, 6), (12, 7), (12, 8), (12, 24), (12, 25), (12, 26), (12, 27)] δ r778.2 ∧ q_V r778.2 = q_V δ ∧ kr ad [100, 112, 113, 114, 115, 116, 117] δ r778.2) ∧ (0 ≤ (x1).toInt ∧ (x1).toInt ≤ (q_I δ 12 2 a0).toInt → (q_I r778.2 12 2 a0).toInt = 0) ∧ ((x1).toInt < 0 ∨ (q_I δ 12 2 a0).toInt < (x1).toInt → (q_I r778.2 12 2 a0).toInt = (q_I δ 12 2 a0).toInt) from ⟨i780, ⟨kp_w (by decide) u785, v786, kr_w (by decide) v787⟩, by first | assumption | omega, by first | assumption | omega⟩)
  · have c871 : (0 : Int) ≤ x1.toInt := o_nlt h8
    have f872 := cb_12_2 i3 k_a0
    have f873 : (q_I d1 12 2 a0).toInt = (q_I δ 12 2 a0).toInt := congrArg Int32.toInt (by rw [e2]; exact rI_o (by decide))
    have f874 := cb_12_2 I k_a0
    refine ok_ite (fun h875 => ?_) (fun h875 => ?_)
    · have c876 : (q_I d1 12 2 a0).toInt < x1.toInt := o_lt h875
      unfold J_X12_thief_22
      unfold J_X12_thief_23
      refine ok_bind (k_X12_may L hN (a0 := a0) (x1 := (0 : Int32)) (x2 := (1 : Int32)) (x3 := (2 : Int32)) k_a0 (show (1 : Int) ≠ 0 by first | assumption | omega) (show 0 ≤ (2 : Int) by first | assumption | omega) (show (2 : Int) ≤ 2 by first | assumption | omega) i3) (fun r877 hr878 => ?_)
      obtain ⟨i879, ⟨u883, u884, u885⟩, p880, p881, p882⟩ := hr878
      have u886 := kp_t u4 u883
      have v887 : q_V r877.2 = q_V δ := (u884).trans v5
      have v888 := kr_t v6 u885
      have f889 := bo_l p880
      have f890 := ti_b r877.1
      replace p881 : ((r877.1).toInt = 1 → (0 : Int) ≠ 0) := p881
      have f891 := ti_b (q_I d1 12 0 a0)
      have f892 : (q_I d1 12 0 a0).toInt = (0 : Int) := congrArg Int32.toInt (show q_I d1 12 0 a0 = (0 : Int32) by rw [e2]; exact rI_s)
      replace p882 : ((q_I d1 12 0 a0).toInt = 0 → (r877.1).toInt = 0 → (0 : Int) = 0) := p882
      have f893 := ti_b r877.1
      refine ok_ite (fun h894 => ?_) (fun h894 => ?_)
      · have c895 : r877.1.toInt = (0 : Int) := o_eq h894
        have f896 := cb_12_2 i879 k_a0
        have f897 : (q_I r877.2 12 2 a0).toInt = (q_I d1 12 2 a0).toInt := congrArg Int32.toInt (u883 12 2 a0 (by decide))
        exact ok_some (show RI ad h.1 δ0 r877.2 ∧ (kp [(12, 0), (12, 2), (12, 3), (12, 4), (12, 5), (12, 6), (12, 7), (12, 8), (12, 24), (12, 25), (12, 26), (12, 27)] δ r877.2 ∧ q_V r877.2 = q_V δ ∧ kr ad [100, 112, 113, 114, 115, 116, 117] δ r877.2) ∧ (0 ≤ (x1).toInt ∧ (x1).toInt ≤ (q_I δ 12 2 a0).toInt → (q_I r877.2 12 2 a0).toInt = 0) ∧ ((x1).toInt < 0 ∨ (q_I δ 12 2 a0).toInt < (x1).toInt → (q_I r877.2 12 2 a0).toInt = (q_I δ 12 2 a0).toInt) from ⟨i879, ⟨kp_w (by decide) u886, v887, kr_w (by decide) v888⟩, by first | assumption | omega, by first | assumption | omega⟩)
      · have c898 : r877.1.toInt ≠ (0 : Int) := o_ne h894
        refine ok_bind (k_X12_begins L hN (a0 := a0) (x1 := x1) k_a0 (show 0 ≤ (x1).toInt by first | assumption | omega) (show (x1).toInt ≤ 500 by first | assumption | omega) i879) (fun r899 hr900 => ?_)
        obtain ⟨i901, ⟨u907, u908, u909, u910⟩, p902, p903, p904, p905, p906⟩ := hr900
        have u911 := kp_t u886 u907
        have v912 : q_V r899 = q_V δ := (u908).trans v887
        have v913 := kr_t v888 u910
        have f914 := cb_12_2 i901 k_a0
        have f915 := cb_12_4 i901 k_a0
        have f916 := cb_12_3 i901 k_a0
        have f917 := cb_12_5 i901 k_a0
        have f918 := ti_b (q_I r899 12 7 a0)
        have f919 := cb_12_24 i901 k_a0
        have f920 : (q_I r899 12 24 a0).toInt = (q_I r877.2 12 24 a0).toInt := congrArg Int32.toInt (u907 12 24 a0 (by decide))
        have f921 := cb_12_24 i879 k_a0
        have f922 : (q_I r877.2 12 24 a0).toInt = (q_I d1 12 24 a0).toInt := congrArg Int32.toInt (u883 12 24 a0 (by decide))
        have f923 := cb_12_24 i3 k_a0
        have f924 : (q_I d1 12 24 a0).toInt = (q_I δ 12 24 a0).toInt := congrArg Int32.toInt (by rw [e2]; exact rI_o (by decide))
        have f925 := cb_12_24 I k_a0
        refine ok_ite (fun h926 => ?_) (fun h926 => ?_)
        · have c927 : (q_I r899 12 24 a0).toInt = (4 : Int) := o_eq h926
          exact ok_some (show RI ad h.1 δ0 r899 ∧ (kp [(12, 0), (12, 2), (12, 3), (12, 4), (12, 5), (12, 6), (12, 7), (12, 8), (12, 24), (12, 25), (12, 26), (12, 27)] δ r899 ∧ q_V r899 = q_V δ ∧ kr ad [100, 112, 113, 114, 115, 116, 117] δ r899) ∧ (0 ≤ (x1).toInt ∧ (x1).toInt ≤ (q_I δ 12 2 a0).toInt → (q_I r899 12 2 a0).toInt = 0) ∧ ((x1).toInt < 0 ∨ (q_I δ 12 2 a0).toInt < (x1).toInt → (q_I r899 12 2 a0).toInt = (q_I δ 12 2 a0).toInt) from ⟨i901, ⟨kp_w (by decide) u911, v912, kr_w (by decide) v913⟩, by first | assumption | omega, by first | assumption | omega⟩)
        · have c928 : (q_I r899 12 24 a0).toInt ≠ (4 : Int) := o_ne h926
          refine ok_bdv (fun d929 e930 => ?_)
          have i931 : RI ad h.1 δ0 d929 := by rw [e930]; exact cs_12_25 L i901 k_a0 (show 0 ≤ (0 : Int) by omega) (show (0 : Int) ≤ 60 by omega)
          have u932 := kp_I u911 e930
          have v933 : q_V d929 = q_V δ := ((show q_V d929 = q_V r899 by rw [e930]; rfl)).trans v912
          have v934 := kr_N v913 (show q_R d929 = q_R r899 by rw [e930]; rfl)
          refine ok_bdv (fun d935 e936 => ?_)
          have i937 : RI ad h.1 δ0 d935 := by rw [e936]; exact cs_12_26 L i931 k_a0 (show 0 ≤ (0 : Int) by omega) (show (0 : Int) ≤ 500 by omega)
          have u938 := kp_I u932 e936
          have v939 : q_V d935 = q_V δ := ((show q_V d935 = q_V d929 by rw [e936]; rfl)).trans v933
          have v940 := kr_N v934 (show q_R d935 = q_R d929 by rw [e936]; rfl)
          refine ok_bdv (fun d941 e942 => ?_)
          have i943 : RI ad h.1 δ0 d941 := by rw [e942]; exact cs_12_27 L i937 k_a0 (show 0 ≤ (0 : Int) by omega) (show (0 : Int) ≤ 3 by omega)
          have u944 := kp_I u938 e942
          have v945 : q_V d941 = q_V δ := ((show q_V d941 = q_V d935 by rw [e942]; rfl)).trans v939
          have v946 := kr_N v940 (show q_R d941 = q_R d935 by rw [e942]; rfl)
          refine ok_bind (k_X12_isMore L hN (a0 := a0) k_a0 i943) (fun r947 hr948 => ?_)
          obtain ⟨i949, ⟨u953, u954, u955, u956⟩, p950, p951, p952⟩ := hr948
          have u957 := kp_t u944 u953
          have v958 : q_V r947.2 = q_V δ := (u954).trans v945
          have v959 := kr_t v946 u956
          have f960 := bo_l p950
          have f961 := cb_12_4 i943 k_a0
          have f962 : (q_I d941 12 4 a0).toInt = (q_I d935 12 4 a0).toInt := congrArg Int32.toInt (by rw [e942]; exact rI_o (by decide))
          have f963 := cb_12_4 i937 k_a0
          have f964 : (q_I d935 12 4 a0).toInt = (q_I d929 12 4 a0).toInt := congrArg Int32.toInt (by rw [e936]; exact rI_o (by decide))
          have f965 := cb_12_4 i931 k_a0
          have f966 : (q_I d929 12 4 a0).toInt = (q_I r899 12 4 a0).toInt := congrArg Int32.toInt (by rw [e930]; exact rI_o (by decide))
          have f967 := cb_12_4 i949 k_a0
          have f968 := ti_b r947.1
          have f969 := cb_12_3 i943 k_a0
          have f970 : (q_I d941 12 3 a0).toInt = (q_I d935 12 3 a0).toInt := congrArg Int32.toInt (by rw [e942]; exact rI_o (by decide))
          have f971 := cb_12_3 i937 k_a0
          have f972 : (q_I d935 12 3 a0).toInt = (q_I d929 12 3 a0).toInt := congrArg Int32.toInt (by rw [e936]; exact rI_o (by decide))
          have f973 := cb_12_3 i931 k_a0
          have f974 : (q_I d929 12 3 a0).toInt = (q_I r899 12 3 a0).toInt := congrArg Int32.toInt (by rw [e930]; exact rI_o (by decide))
          have f975 := ti_b r947.1
          refine ok_ite (fun h976 => ?_) (fun h976 => ?_)
          · have c977 : r947.1.toInt = (0 : Int) := o_eq h976
            have f980 := cb_12_3 i949 k_a0
            have f981 : (q_I r947.2 12 3 a0).toInt = (q_I d941 12 3 a0).toInt := congrArg Int32.toInt (u953 12 3 a0 (by decide))
            refine ok_bind (k_X12_wrong L hN (a0 := a0) (x1 := (1 : Int32)) (x2 := (q_I r947.2 12 3 a0)) k_a0 (show 0 ≤ ((q_I r947.2 12 3 a0)).toInt by first | assumption | omega) (show ((q_I r947.2 12 3 a0)).toInt ≤ 500 by first | assumption | omega) i949) (fun r978 hr979 => ?_)
            obtain ⟨i982, ⟨u985, u986, u987, u988⟩, p983, p984⟩ := hr979
            have u989 := kp_t u957 u985
            have v990 : q_V r978 = q_V δ := (u986).trans v958
            have v991 := kr_t v959 u988
            have f992 := cb_12_5 i982 k_a0
            have f993 := cb_12_5 i949 k_a0
            have f994 : (q_I r947.2 12 5 a0).toInt = (q_I d941 12 5 a0).toInt := congrArg Int32.toInt (u953 12 5 a0 (by decide))
            have f995 := cb_12_5 i943 k_a0
            have f996 : (q_I d941 12 5 a0).toInt = (q_I d935 12 5 a0).toInt := congrArg Int32.toInt (by rw [e942]; exact rI_o (by decide))
            have f997 := cb_12_5 i937 k_a0
            have f998 : (q_I d935 12 5 a0).toInt = (q_I d929 12 5 a0).toInt := congrArg Int32.toInt (by rw [e936]; exact rI_o (by decide))
            have f999 := cb_12_5 i931 k_a0
            have f1000 : (q_I d929 12 5 a0).toInt = (q_I r899 12 5 a0).toInt := congrArg Int32.toInt (by rw [e930]; exact rI_o (by decide))
            unfold J_X12_thief_79
            have f1003 := cb_12_24 i982 k_a0
            have f1004 : (q_I r978 12 24 a0).toInt = (q_I r947.2 12 24 a0).toInt := congrArg Int32.toInt (u985 12 24 a0 (by decide))
            have f1005 := cb_12_24 i949 k_a0
            have f1006 : (q_I r947.2 12 24 a0).toInt = (q_I d941 12 24 a0).toInt := congrArg Int32.toInt (u953 12 24 a0 (by decide))
            have f1007 := cb_12_24 i943 k_a0
            have f1008 : (q_I d941 12 24 a0).toInt = (q_I d935 12 24 a0).toInt := congrArg Int32.toInt (by rw [e942]; exact rI_o (by decide))
            have f1009 := cb_12_24 i937 k_a0
            have f1010 : (q_I d935 12 24 a0).toInt = (q_I d929 12 24 a0).toInt := congrArg Int32.toInt (by rw [e936]; exact rI_o (by decide))
            have f1011 := cb_12_24 i931 k_a0
            have f1012 : (q_I d929 12 24 a0).toInt = (q_I r899 12 24 a0).toInt := congrArg Int32.toInt (by rw [e930]; exact rI_o (by decide))
            have f1013 := cb_12_26 i982 k_a0
            have f1014 : (q_I r978 12 26 a0).toInt = (q_I r947.2 12 26 a0).toInt := congrArg Int32.toInt (u985 12 26 a0 (by decide))
            have f1015 := cb_12_26 i949 k_a0
            have f1016 : (q_I r947.2 12 26 a0).toInt = (q_I d941 12 26 a0).toInt := congrArg Int32.toInt (u953 12 26 a0 (by decide))
            have f1017 := cb_12_26 i943 k_a0
            have f1018 : (q_I d941 12 26 a0).toInt = (q_I d935 12 26 a0).toInt := congrArg Int32.toInt (by rw [e942]; exact rI_o (by decide))
            have f1019 := cb_12_26 i937 k_a0
            have f1020 : (q_I d935 12 26 a0).toInt = (0 : Int) := congrArg Int32.toInt (show q_I d935 12 26 a0 = (0 : Int32) by rw [e936]; exact rI_s)
            have f1021 := cb_12_4 i982 k_a0
            have f1022 : (q_I r978 12 4 a0).toInt = (q_I r947.2 12 4 a0).toInt := congrArg Int32.toInt (u985 12 4 a0 (by decide))
            have f1023 := ti_b (q_I r978 12 7 a0)
            have f1024 : (q_I r978 12 7 a0).toInt = (q_I r947.2 12 7 a0).toInt := congrArg Int32.toInt (u985 12 7 a0 (by decide))
            have f1025 := ti_b (q_I r947.2 12 7 a0)
            have f1026 : (q_I r947.2 12 7 a0).toInt = (q_I d941 12 7 a0).toInt := congrArg Int32.toInt (u953 12 7 a0 (by decide))
            have f1027 := ti_b (q_I d941 12 7 a0)
            have f1028 : (q_I d941 12 7 a0).toInt = (q_I d935 12 7 a0).toInt := congrArg Int32.toInt (by rw [e942]; exact rI_o (by decide))
            have f1029 := ti_b (q_I d935 12 7 a0)
            have f1030 : (q_I d935 12 7 a0).toInt = (q_I d929 12 7 a0).toInt := congrArg Int32.toInt (by rw [e936]; exact rI_o (by decide))
            have f1031 := ti_b (q_I d929 12 7 a0)
            have f1032 : (q_I d929 12 7 a0).toInt = (q_I r899 12 7 a0).toInt := congrArg Int32.toInt (by rw [e930]; exact rI_o (by decide))
            have f1033 := cb_12_27 i982 k_a0
            have f1034 : (q_I r978 12 27 a0).toInt = (q_I r947.2 12 27 a0).toInt := congrArg Int32.toInt (u985 12 27 a0 (by decide))
            have f1035 := cb_12_27 i949 k_a0
            have f1036 : (q_I r947.2 12 27 a0).toInt = (q_I d941 12 27 a0).toInt := congrArg Int32.toInt (u953 12 27 a0 (by decide))
            have f1037 := cb_12_27 i943 k_a0
            have f1038 : (q_I d941 12 27 a0).toInt = (0 : Int) := congrArg Int32.toInt (show q_I d941 12 27 a0 = (0 : Int32) by rw [e942]; exact rI_s)
            refine ok_bind (k_X12_readSteps L hN (a0 := a0) k_a0 (show (q_I r978 12 24 a0).toInt ≤ 3 by first | assumption | omega) (show (q_I r978 12 26 a0).toInt ≤ (q_I r978 12 4 a0).toInt by first | assumption | omega) (show (q_I r978 12 7 a0).toInt = 0 by first | assumption | omega) (show 4 - (q_I r978 12 27 a0).toInt < 20 by first | assumption | omega) i982) (fun r1001 hr1002 => ?_)
            obtain ⟨i1039, ⟨u1045, u1046, u1047⟩, p1040, p1041, p1042, p1043, p1044⟩ := hr1002
            have u1048 := kp_t u989 u1045
            have v1049 : q_V r1001 = q_V δ := (u1046).trans v990
            have v1050 := kr_t v991 u1047
            have f1051 := cb_12_4 i1039 k_a0
            have f1052 := cb_12_5 i1039 k_a0
            have f1053 := ti_b (q_I r1001 12 7 a0)
            have f1054 := cb_12_27 i1039 k_a0
            have f1055 := cb_12_26 i1039 k_a0
            refine ok_bind (k_X12_fine L hN (a0 := a0) k_a0 i1039) (fun r1056 hr1057 => ?_)
            obtain ⟨i1058, p1059, p1060, p1061⟩ := hr1057
            try rw [i1058]
            have f1062 := bo_l p1059
            have f1063 := ti_b r1056.1
            have f1064 := ti_b r1056.1
            refine ok_ite (fun h1065 => ?_) (fun h1065 => ?_)
            · have c1066 : r1056.1.toInt = (0 : Int) := o_eq h1065
              unfold J_X12_thief_106
              refine ok_bind (k_X12_result L hN (a0 := a0) (x1 := (q_I r1001 12 24 a0)) k_a0 i1039) (fun r1067 hr1068 => ?_)
              obtain ⟨i1069, ⟨u1070, u1071, u1072, u1073⟩⟩ := hr1068
              have u1074 := kp_t u1048 u1070
              have v1075 : q_V r1067.2 = q_V δ := (u1071).trans v1049
              have v1076 := kr_t v1050 u1073
              have f1077 := ti_b r1067.1
              have f1078 := cb_12_24 i1069 k_a0
              have f1079 : (q_I r1067.2 12 24 a0).toInt = (q_I r1001 12 24 a0).toInt := congrArg Int32.toInt (u1070 12 24 a0 (by decide))
              have f1080 := cb_12_24 i1039 k_a0
              have f1081 : (q_I r1001 12 24 a0).toInt = (q_I r978 12 24 a0).toInt := congrArg Int32.toInt (u1045 12 24 a0 (by decide))
              refine ok_ite (fun h1082 => ?_) (fun h1082 => ?_)
              · have c1083 : r1067.1.toInt = (q_I r1067.2 12 24 a0).toInt := o_eq h1082
                obtain ⟨b1084, o1085, k1086, n1087⟩ := gO_12_28 L k_a0
                obtain rfl := gS_12_28 L k_a0 o1085
                refine ok_at o1085 ?_
                have t1088 := ti_tn (q_I r1067.2 12 24 a0)
                refine ok_gd (fun hc1089 => ?_) ?_
                · rcases hc1089 with hc1089 | hc1089
                  · have c1090 : (q_I r1067.2 12 24 a0).toInt < (0 : Int) := o_lt hc1089
                    omega
                  · omega
                have f1094 := cb_12_25 i1069 k_a0
                have f1095 : (q_I r1067.2 12 25 a0).toInt = (q_I r1001 12 25 a0).toInt := congrArg Int32.toInt (u1070 12 25 a0 (by decide))
                have f1096 := cb_12_25 i1039 k_a0
                refine ok_bdv (fun d1091 e1092 => ?_)
                have i1093 : RI ad h.1 δ0 d1091 := by rw [e1092]; exact cr_112 L i1069 (show 0 ≤ (q_I r1067.2 12 25 a0).toInt by omega) (show (q_I r1067.2 12 25 a0).toInt ≤ 60 by omega)
                have u1097 := kp_N u1074 (show q_I d1091 = q_I r1067.2 by rw [e1092]; rfl)
                have v1098 : q_V d1091 = q_V δ := ((show q_V d1091 = q_V r1067.2 by rw [e1092]; rfl)).trans v1075
                have v1099 := kr_s L (by decide) v1076 e1092
                have f1103 := cb_12_24 i1093 k_a0
                have f1104 : (q_I d1091 12 24 a0).toInt = (q_I r1067.2 12 24 a0).toInt := congrArg Int32.toInt (by rw [e1092]; rfl)
                first | (have q1106 := te_addc (c := 1) (n := 1) rfl (q_I d1091 12 24 a0) (by omega) (by omega); obtain ⟨f1107, f1108, f1109⟩ := q1106) | (obtain ⟨q1106, f1107, f1108, f1109⟩ := ti_addc (c := 1) (n := 1) rfl (q_I d1091 12 24 a0))
                refine ok_bdv (fun d1100 e1101 => ?_)
                have i1102 : RI ad h.1 δ0 d1100 := by rw [e1101]; exact cs_12_24 L i1093 k_a0 (show 0 ≤ ((q_I d1091 12 24 a0) + (1 : Int32)).toInt by omega) (show ((q_I d1091 12 24 a0) + (1 : Int32)).toInt ≤ 4 by omega)
                have u1110 := kp_I u1097 e1101
                have v1111 : q_V d1100 = q_V δ := ((show q_V d1100 = q_V d1091 by rw [e1101]; rfl)).trans v1098
                have v1112 := kr_N v1099 (show q_R d1100 = q_R d1091 by rw [e1101]; rfl)
                unfold J_X12_thief_146
                have f1113 := cb_12_2 i1102 k_a0
                have f1114 : (q_I d1100 12 2 a0).toInt = (q_I d1091 12 2 a0).toInt := congrArg Int32.toInt (by rw [e1101]; exact rI_o (by decide))
                have f1115 := cb_12_2 i1093 k_a0
                have f1116 : (q_I d1091 12 2 a0).toInt = (q_I r1067.2 12 2 a0).toInt := congrArg Int32.toInt (by rw [e1092]; rfl)
                have f1117 := cb_12_2 i1069 k_a0
                have f1118 : (q_I r1067.2 12 2 a0).toInt = (q_I r1001 12 2 a0).toInt := congrArg Int32.toInt (u1070 12 2 a0 (by decide))
                have f1119 := cb_12_2 i1039 k_a0
                have f1120 : (q_I r1001 12 2 a0).toInt = (q_I r978 12 2 a0).toInt := congrArg Int32.toInt (u1045 12 2 a0 (by decide))
                have f1121 := cb_12_2 i982 k_a0
                have f1122 : (q_I r978 12 2 a0).toInt = (q_I r947.2 12 2 a0).toInt := congrArg Int32.toInt (u985 12 2 a0 (by decide))
                have f1123 := cb_12_2 i949 k_a0
                have f1124 : (q_I r947.2 12 2 a0).toInt = (q_I d941 12 2 a0).toInt := congrArg Int32.toInt (u953 12 2 a0 (by decide))
                have f1125 := cb_12_2 i943 k_a0
                have f1126 : (q_I d941 12 2 a0).toInt = (q_I d935 12 2 a0).toInt := congrArg Int32.toInt (by rw [e942]; exact rI_o (by decide))
                have f1127 := cb_12_2 i937 k_a0
                have f1128 : (q_I d935 12 2 a0).toInt = (q_I d929 12 2 a0).toInt := congrArg Int32.toInt (by rw [e936]; exact rI_o (by decide))
                have f1129 := cb_12_2 i931 k_a0
                have f1130 : (q_I d929 12 2 a0).toInt = (q_I r899 12 2 a0).toInt := congrArg Int32.toInt (by rw [e930]; exact rI_o (by decide))
                exact ok_some (show RI ad h.1 δ0 d1100 ∧ (kp [(12, 0), (12, 2), (12, 3), (12, 4), (12, 5), (12, 6), (12, 7), (12, 8), (12, 24), (12, 25), (12, 26), (12, 27)] δ d1100 ∧ q_V d1100 = q_V δ ∧ kr ad [100, 112, 113, 114, 115, 116, 117] δ d1100) ∧ (0 ≤ (x1).toInt ∧ (x1).toInt ≤ (q_I δ 12 2 a0).toInt → (q_I d1100 12 2 a0).toInt = 0) ∧ ((x1).toInt < 0 ∨ (q_I δ 12 2 a0).toInt < (x1).toInt → (q_I d1100 12 2 a0).toInt = (q_I δ 12 2 a0).toInt) from ⟨i1102, ⟨kp_w (by decide) u1110, v1111, kr_w (by decide) v1112⟩, by first | assumption | omega, by first | assumption | omega⟩)
              · have c1131 : r1067.1.toInt ≠ (q_I r1067.2 12 24 a0).toInt := o_ne h1082
                unfold J_X12_thief_146
                have f1132 := cb_12_2 i1069 k_a0
                have f1133 : (q_I r1067.2 12 2 a0).toInt = (q_I r1001 12 2 a0).toInt := congrArg Int32.toInt (u1070 12 2 a0 (by decide))
                have f1134 := cb_12_2 i1039 k_a0
                have f1135 : (q_I r1001 12 2 a0).toInt = (q_I r978 12 2 a0).toInt := congrArg Int32.toInt (u1045 12 2 a0 (by decide))
                have f1136 := cb_12_2 i982 k_a0
                have f1137 : (q_I r978 12 2 a0).toInt = (q_I r947.2 12 2 a0).toInt := congrArg Int32.toInt (u985 12 2 a0 (by decide))
                have f1138 := cb_12_2 i949 k_a0
                have f1139 : (q_I r947.2 12 2 a0).toInt = (q_I d941 12 2 a0).toInt := congrArg Int32.toInt (u953 12 2 a0 (by decide))
                have f1140 := cb_12_2 i943 k_a0
                have f1141 : (q_I d941 12 2 a0).toInt = (q_I d935 12 2 a0).toInt := congrArg Int32.toInt (by rw [e942]; exact rI_o (by decide))
                have f1142 := cb_12_2 i937 k_a0
                have f1143 : (q_I d935 12 2 a0).toInt = (q_I d929 12 2 a0).toInt := congrArg Int32.toInt (by rw [e936]; exact rI_o (by decide))
                have f1144 := cb_12_2 i931 k_a0
                have f1145 : (q_I d929 12 2 a0).toInt = (q_I r899 12 2 a0).toInt := congrArg Int32.toInt (by rw [e930]; exact rI_o (by decide))
                exact ok_some (show RI ad h.1 δ0 r1067.2 ∧ (kp [(12, 0), (12, 2), (12, 3), (12, 4), (12, 5), (12, 6), (12, 7), (12, 8), (12, 24), (12, 25), (12, 26), (12, 27)] δ r1067.2 ∧ q_V r1067.2 = q_V δ ∧ kr ad [100, 112, 113, 114, 115, 116, 117] δ r1067.2) ∧ (0 ≤ (x1).toInt ∧ (x1).toInt ≤ (q_I δ 12 2 a0).toInt → (q_I r1067.2 12 2 a0).toInt = 0) ∧ ((x1).toInt < 0 ∨ (q_I δ 12 2 a0).toInt < (x1).toInt → (q_I r1067.2 12 2 a0).toInt = (q_I δ 12 2 a0).toInt) from ⟨i1069, ⟨kp_w (by decide) u1074, v1075, kr_w (by decide) v1076⟩, by first | assumption | omega, by first | assumption | omega⟩)
            · have c1146 : r1056.1.toInt ≠ (0 : Int) := o_ne h1065
              refine ok_bind (k_X12_isMore L hN (a0 := a0) k_a0 i1039) (fun r1147 hr1148 => ?_)
              obtain ⟨i1149, ⟨u1153, u1154, u1155, u1156⟩, p1150, p1151, p1152⟩ := hr1148
              have u1157 := kp_t u1048 u1153
              have v1158 : q_V r1147.2 = q_V δ := (u1154).trans v1049
              have v1159 := kr_t v1050 u1156
              have f1160 := bo_l p1150
              have f1161 := cb_12_4 i1149 k_a0
              have f1162 := ti_b r1147.1
              have f1163 := cb_12_3 i1039 k_a0
              have f1164 : (q_I r1001 12 3 a0).toInt = (q_I r978 12 3 a0).toInt := congrArg Int32.toInt (u1045 12 3 a0 (by decide))
              have f1165 := cb_12_3 i982 k_a0
              have f1166 : (q_I r978 12 3 a0).toInt = (q_I r947.2 12 3 a0).toInt := congrArg Int32.toInt (u985 12 3 a0 (by decide))
              have f1167 := ti_b r1147.1
              refine ok_ite (fun h1168 => ?_) (fun h1168 => ?_)
              · have c1169 : r1147.1.toInt = (0 : Int) := o_eq h1168
                unfold J_X12_thief_106
                refine ok_bind (k_X12_result L hN (a0 := a0) (x1 := (q_I r1147.2 12 24 a0)) k_a0 i1149) (fun r1170 hr1171 => ?_)
                obtain ⟨i1172, ⟨u1173, u1174, u1175, u1176⟩⟩ := hr1171
                have u1177 := kp_t u1157 u1173
                have v1178 : q_V r1170.2 = q_V δ := (u1174).trans v1158
                have v1179 := kr_t v1159 u1176
                have f1180 := ti_b r1170.1
                have f1181 := cb_12_24 i1172 k_a0
                have f1182 : (q_I r1170.2 12 24 a0).toInt = (q_I r1147.2 12 24 a0).toInt := congrArg Int32.toInt (u1173 12 24 a0 (by decide))
                have f1183 := cb_12_24 i1149 k_a0
                have f1184 : (q_I r1147.2 12 24 a0).toInt = (q_I r1001 12 24 a0).toInt := congrArg Int32.toInt (u1153 12 24 a0 (by decide))
                have f1185 := cb_12_24 i1039 k_a0
                have f1186 : (q_I r1001 12 24 a0).toInt = (q_I r978 12 24 a0).toInt := congrArg Int32.toInt (u1045 12 24 a0 (by decide))
                refine ok_ite (fun h1187 => ?_) (fun h1187 => ?_)
                · have c1188 : r1170.1.toInt = (q_I r1170.2 12 24 a0).toInt := o_eq h1187
                  obtain ⟨b1189, o1190, k1191, n1192⟩ := gO_12_28 L k_a0
                  obtain rfl := gS_12_28 L k_a0 o1190
                  refine ok_at o1190 ?_
                  have t1193 := ti_tn (q_I r1170.2 12 24 a0)
                  refine ok_gd (fun hc1194 => ?_) ?_
                  · rcases hc1194 with hc1194 | hc1194
                    · have c1195 : (q_I r1170.2 12 24 a0).toInt < (0 : Int) := o_lt hc1194
                      omega
                    · omega
                  have f1199 := cb_12_25 i1172 k_a0
                  have f1200 : (q_I r1170.2 12 25 a0).toInt = (q_I r1147.2 12 25 a0).toInt := congrArg Int32.toInt (u1173 12 25 a0 (by decide))
                  have f1201 := cb_12_25 i1149 k_a0
                  have f1202 : (q_I r1147.2 12 25 a0).toInt = (q_I r1001 12 25 a0).toInt := congrArg Int32.toInt (u1153 12 25 a0 (by decide))
                  have f1203 := cb_12_25 i1039 k_a0
                  refine ok_bdv (fun d1196 e1197 => ?_)
                  have i1198 : RI ad h.1 δ0 d1196 := by rw [e1197]; exact cr_112 L i1172 (show 0 ≤ (q_I r1170.2 12 25 a0).toInt by omega) (show (q_I r1170.2 12 25 a0).toInt ≤ 60 by omega)
                  have u1204 := kp_N u1177 (show q_I d1196 = q_I r1170.2 by rw [e1197]; rfl)
                  have v1205 : q_V d1196 = q_V δ := ((show q_V d1196 = q_V r1170.2 by rw [e1197]; rfl)).trans v1178
                  have v1206 := kr_s L (by decide) v1179 e1197
                  have f1210 := cb_12_24 i1198 k_a0
                  have f1211 : (q_I d1196 12 24 a0).toInt = (q_I r1170.2 12 24 a0).toInt := congrArg Int32.toInt (by rw [e1197]; rfl)
                  first | (have q1213 := te_addc (c := 1) (n := 1) rfl (q_I d1196 12 24 a0) (by omega) (by omega); obtain ⟨f1214, f1215, f1216⟩ := q1213) | (obtain ⟨q1213, f1214, f1215, f1216⟩ := ti_addc (c := 1) (n := 1) rfl (q_I d1196 12 24 a0))
                  refine ok_bdv (fun d1207 e1208 => ?_)
                  have i1209 : RI ad h.1 δ0 d1207 := by rw [e1208]; exact cs_12_24 L i1198 k_a0 (show 0 ≤ ((q_I d1196 12 24 a0) + (1 : Int32)).toInt by omega) (show ((q_I d1196 12 24 a0) + (1 : Int32)).toInt ≤ 4 by omega)
                  have u1217 := kp_I u1204 e1208
                  have v1218 : q_V d1207 = q_V δ := ((show q_V d1207 = q_V d1196 by rw [e1208]; rfl)).trans v1205
                  have v1219 := kr_N v1206 (show q_R d1207 = q_R d1196 by rw [e1208]; rfl)
                  unfold J_X12_thief_146
                  have f1220 := cb_12_2 i1209 k_a0
                  have f1221 : (q_I d1207 12 2 a0).toInt = (q_I d1196 12 2 a0).toInt := congrArg Int32.toInt (by rw [e1208]; exact rI_o (by decide))
                  have f1222 := cb_12_2 i1198 k_a0
                  have f1223 : (q_I d1196 12 2 a0).toInt = (q_I r1170.2 12 2 a0).toInt := congrArg Int32.toInt (by rw [e1197]; rfl)
                  have f1224 := cb_12_2 i1172 k_a0
                  have f1225 : (q_I r1170.2 12 2 a0).toInt = (q_I r1147.2 12 2 a0).toInt := congrArg Int32.toInt (u1173 12 2 a0 (by decide))
                  have f1226 := cb_12_2 i1149 k_a0
                  have f1227 : (q_I r1147.2 12 2 a0).toInt = (q_I r1001 12 2 a0).toInt := congrArg Int32.toInt (u1153 12 2 a0 (by decide))
                  have f1228 := cb_12_2 i1039 k_a0
                  have f1229 : (q_I r1001 12 2 a0).toInt = (q_I r978 12 2 a0).toInt := congrArg Int32.toInt (u1045 12 2 a0 (by decide))
                  have f1230 := cb_12_2 i982 k_a0
                  have f1231 : (q_I r978 12 2 a0).toInt = (q_I r947.2 12 2 a0).toInt := congrArg Int32.toInt (u985 12 2 a0 (by decide))
                  have f1232 := cb_12_2 i949 k_a0
                  have f1233 : (q_I r947.2 12 2 a0).toInt = (q_I d941 12 2 a0).toInt := congrArg Int32.toInt (u953 12 2 a0 (by decide))
                  have f1234 := cb_12_2 i943 k_a0
                  have f1235 : (q_I d941 12 2 a0).toInt = (q_I d935 12 2 a0).toInt := congrArg Int32.toInt (by rw [e942]; exact rI_o (by decide))
                  have f1236 := cb_12_2 i937 k_a0
                  have f1237 : (q_I d935 12 2 a0).toInt = (q_I d929 12 2 a0).toInt := congrArg Int32.toInt (by rw [e936]; exact rI_o (by decide))
                  have f1238 := cb_12_2 i931 k_a0
                  have f1239 : (q_I d929 12 2 a0).toInt = (q_I r899 12 2 a0).toInt := congrArg Int32.toInt (by rw [e930]; exact rI_o (by decide))
                  exact ok_some (show RI ad h.1 δ0 d1207 ∧ (kp [(12, 0), (12, 2), (12, 3), (12, 4), (12, 5), (12, 6), (12, 7), (12, 8), (12, 24), (12, 25), (12, 26), (12, 27)] δ d1207 ∧ q_V d1207 = q_V δ ∧ kr ad [100, 112, 113, 114, 115, 116, 117] δ d1207) ∧ (0 ≤ (x1).toInt ∧ (x1).toInt ≤ (q_I δ 12 2 a0).toInt → (q_I d1207 12 2 a0).toInt = 0) ∧ ((x1).toInt < 0 ∨ (q_I δ 12 2 a0).toInt < (x1).toInt → (q_I d1207 12 2 a0).toInt = (q_I δ 12 2 a0).toInt) from ⟨i1209, ⟨kp_w (by decide) u1217, v1218, kr_w (by decide) v1219⟩, by first | assumption | omega, by first | assumption | omega⟩)
                · have c1240 : r1170.1.toInt ≠ (q_I r1170.2 12 24 a0).toInt := o_ne h1187
                  unfold J_X12_thief_146
                  have f1241 := cb_12_2 i1172 k_a0
                  have f1242 : (q_I r1170.2 12 2 a0).toInt = (q_I r1147.2 12 2 a0).toInt := congrArg Int32.toInt (u1173 12 2 a0 (by decide))
                  have f1243 := cb_12_2 i1149 k_a0
                  have f1244 : (q_I r1147.2 12 2 a0).toInt = (q_I r1001 12 2 a0).toInt := congrArg Int32.toInt (u1153 12 2 a0 (by decide))
                  have f1245 := cb_12_2 i1039 k_a0
                  have f1246 : (q_I r1001 12 2 a0).toInt = (q_I r978 12 2 a0).toInt := congrArg Int32.toInt (u1045 12 2 a0 (by decide))
                  have f1247 := cb_12_2 i982 k_a0
                  have f1248 : (q_I r978 12 2 a0).toInt = (q_I r947.2 12 2 a0).toInt := congrArg Int32.toInt (u985 12 2 a0 (by decide))
                  have f1249 := cb_12_2 i949 k_a0
                  have f1250 : (q_I r947.2 12 2 a0).toInt = (q_I d941 12 2 a0).toInt := congrArg Int32.toInt (u953 12 2 a0 (by decide))
                  have f1251 := cb_12_2 i943 k_a0
                  have f1252 : (q_I d941 12 2 a0).toInt = (q_I d935 12 2 a0).toInt := congrArg Int32.toInt (by rw [e942]; exact rI_o (by decide))
                  have f1253 := cb_12_2 i937 k_a0
                  have f1254 : (q_I d935 12 2 a0).toInt = (q_I d929 12 2 a0).toInt := congrArg Int32.toInt (by rw [e936]; exact rI_o (by decide))
                  have f1255 := cb_12_2 i931 k_a0
                  have f1256 : (q_I d929 12 2 a0).toInt = (q_I r899 12 2 a0).toInt := congrArg Int32.toInt (by rw [e930]; exact rI_o (by decide))
                  exact ok_some (show RI ad h.1 δ0 r1170.2 ∧ (kp [(12, 0), (12, 2), (12, 3), (12, 4), (12, 5), (12, 6), (12, 7), (12, 8), (12, 24), (12, 25), (12, 26), (12, 27)] δ r1170.2 ∧ q_V r1170.2 = q_V δ ∧ kr ad [100, 112, 113, 114, 115, 116, 117] δ r1170.2) ∧ (0 ≤ (x1).toInt ∧ (x1).toInt ≤ (q_I δ 12 2 a0).toInt → (q_I r1170.2 12 2 a0).toInt = 0) ∧ ((x1).toInt < 0 ∨ (q_I δ 12 2 a0).toInt < (x1).toInt → (q_I r1170.2 12 2 a0).toInt = (q_I δ 12 2 a0).toInt) from ⟨i1172, ⟨kp_w (by decide) u1177, v1178, kr_w (by decide) v1179⟩, by first | assumption | omega, by first | assumption | omega⟩)
              · have c1257 : r1147.1.toInt ≠ (0 : Int) := o_ne h1168
                refine ok_bind (k_X12_wrong L hN (a0 := a0) (x1 := (1 : Int32)) (x2 := (q_I r1147.2 12 4 a0)) k_a0 (show 0 ≤ ((q_I r1147.2 12 4 a0)).toInt by first | assumption | omega) (show ((q_I r1147.2 12 4 a0)).toInt ≤ 500 by first | assumption | omega) i1149) (fun r1258 hr1259 => ?_)
                obtain ⟨i1260, ⟨u1263, u1264, u1265, u1266⟩, p1261, p1262⟩ := hr1259
                have u1267 := kp_t u1157 u1263
                have v1268 : q_V r1258 = q_V δ := (u1264).trans v1158
                have v1269 := kr_t v1159 u1266
                have f1270 := cb_12_5 i1260 k_a0
                have f1271 := cb_12_5 i1149 k_a0
                have f1272 : (q_I r1147.2 12 5 a0).toInt = (q_I r1001 12 5 a0).toInt := congrArg Int32.toInt (u1153 12 5 a0 (by decide))
                unfold J_X12_thief_106
                refine ok_bind (k_X12_result L hN (a0 := a0) (x1 := (q_I r1258 12 24 a0)) k_a0 i1260) (fun r1273 hr1274 => ?_)
                obtain ⟨i1275, ⟨u1276, u1277, u1278, u1279⟩⟩ := hr1274
                have u1280 := kp_t u1267 u1276
                have v1281 : q_V r1273.2 = q_V δ := (u1277).trans v1268
                have v1282 := kr_t v1269 u1279
                have f1283 := ti_b r1273.1
                have f1284 := cb_12_24 i1275 k_a0
                have f1285 : (q_I r1273.2 12 24 a0).toInt = (q_I r1258 12 24 a0).toInt := congrArg Int32.toInt (u1276 12 24 a0 (by decide))
                have f1286 := cb_12_24 i1260 k_a0
                have f1287 : (q_I r1258 12 24 a0).toInt = (q_I r1147.2 12 24 a0).toInt := congrArg Int32.toInt (u1263 12 24 a0 (by decide))
                have f1288 := cb_12_24 i1149 k_a0
                have f1289 : (q_I r1147.2 12 24 a0).toInt = (q_I r1001 12 24 a0).toInt := congrArg Int32.toInt (u1153 12 24 a0 (by decide))
                have f1290 := cb_12_24 i1039 k_a0
                have f1291 : (q_I r1001 12 24 a0).toInt = (q_I r978 12 24 a0).toInt := congrArg Int32.toInt (u1045 12 24 a0 (by decide))
                refine ok_ite (fun h1292 => ?_) (fun h1292 => ?_)
                · have c1293 : r1273.1.toInt = (q_I r1273.2 12 24 a0).toInt := o_eq h1292
                  obtain ⟨b1294, o1295, k1296, n1297⟩ := gO_12_28 L k_a0
                  obtain rfl := gS_12_28 L k_a0 o1295
                  refine ok_at o1295 ?_
                  have t1298 := ti_tn (q_I r1273.2 12 24 a0)
                  refine ok_gd (fun hc1299 => ?_) ?_
                  · rcases hc1299 with hc1299 | hc1299
                    · have c1300 : (q_I r1273.2 12 24 a0).toInt < (0 : Int) := o_lt hc1299
                      omega
                    · omega
                  have f1304 := cb_12_25 i1275 k_a0
                  have f1305 : (q_I r1273.2 12 25 a0).toInt = (q_I r1258 12 25 a0).toInt := congrArg Int32.toInt (u1276 12 25 a0 (by decide))
                  have f1306 := cb_12_25 i1260 k_a0
                  have f1307 : (q_I r1258 12 25 a0).toInt = (q_I r1147.2 12 25 a0).toInt := congrArg Int32.toInt (u1263 12 25 a0 (by decide))
                  have f1308 := cb_12_25 i1149 k_a0
                  have f1309 : (q_I r1147.2 12 25 a0).toInt = (q_I r1001 12 25 a0).toInt := congrArg Int32.toInt (u1153 12 25 a0 (by decide))
                  have f1310 := cb_12_25 i1039 k_a0
                  refine ok_bdv (fun d1301 e1302 => ?_)
                  have i1303 : RI ad h.1 δ0 d1301 := by rw [e1302]; exact cr_112 L i1275 (show 0 ≤ (q_I r1273.2 12 25 a0).toInt by omega) (show (q_I r1273.2 12 25 a0).toInt ≤ 60 by omega)
                  have u1311 := kp_N u1280 (show q_I d1301 = q_I r1273.2 by rw [e1302]; rfl)
                  have v1312 : q_V d1301 = q_V δ := ((show q_V d1301 = q_V r1273.2 by rw [e1302]; rfl)).trans v1281
                  have v1313 := kr_s L (by decide) v1282 e1302
                  have f1317 := cb_12_24 i1303 k_a0
                  have f1318 : (q_I d1301 12 24 a0).toInt = (q_I r1273.2 12 24 a0).toInt := congrArg Int32.toInt (by rw [e1302]; rfl)
                  first | (have q1320 := te_addc (c := 1) (n := 1) rfl (q_I d1301 12 24 a0) (by omega) (by omega); obtain ⟨f1321, f1322, f1323⟩ := q1320) | (obtain ⟨q1320, f1321, f1322, f1323⟩ := ti_addc (c := 1) (n := 1) rfl (q_I d1301 12 24 a0))
                  refine ok_bdv (fun d1314 e1315 => ?_)
                  have i1316 : RI ad h.1 δ0 d1314 := by rw [e1315]; exact cs_12_24 L i1303 k_a0 (show 0 ≤ ((q_I d1301 12 24 a0) + (1 : Int32)).toInt by omega) (show ((q_I d1301 12 24 a0) + (1 : Int32)).toInt ≤ 4 by omega)
                  have u1324 := kp_I u1311 e1315
                  have v1325 : q_V d1314 = q_V δ := ((show q_V d1314 = q_V d1301 by rw [e1315]; rfl)).trans v1312
                  have v1326 := kr_N v1313 (show q_R d1314 = q_R d1301 by rw [e1315]; rfl)
                  unfold J_X12_thief_146
                  have f1327 := cb_12_2 i1316 k_a0
                  have f1328 : (q_I d1314 12 2 a0).toInt = (q_I d1301 12 2 a0).toInt := congrArg Int32.toInt (by rw [e1315]; exact rI_o (by decide))
                  have f1329 := cb_12_2 i1303 k_a0
                  have f1330 : (q_I d1301 12 2 a0).toInt = (q_I r1273.2 12 2 a0).toInt := congrArg Int32.toInt (by rw [e1302]; rfl)
                  have f1331 := cb_12_2 i1275 k_a0
                  have f1332 : (q_I r1273.2 12 2 a0).toInt = (q_I r1258 12 2 a0).toInt := congrArg Int32.toInt (u1276 12 2 a0 (by decide))
                  have f1333 := cb_12_2 i1260 k_a0
                  have f1334 : (q_I r1258 12 2 a0).toInt = (q_I r1147.2 12 2 a0).toInt := congrArg Int32.toInt (u1263 12 2 a0 (by decide))
                  have f1335 := cb_12_2 i1149 k_a0
                  have f1336 : (q_I r1147.2 12 2 a0).toInt = (q_I r1001 12 2 a0).toInt := congrArg Int32.toInt (u1153 12 2 a0 (by decide))
                  have f1337 := cb_12_2 i1039 k_a0
                  have f1338 : (q_I r1001 12 2 a0).toInt = (q_I r978 12 2 a0).toInt := congrArg Int32.toInt (u1045 12 2 a0 (by decide))
                  have f1339 := cb_12_2 i982 k_a0
                  have f1340 : (q_I r978 12 2 a0).toInt = (q_I r947.2 12 2 a0).toInt := congrArg Int32.toInt (u985 12 2 a0 (by decide))
                  have f1341 := cb_12_2 i949 k_a0
                  have f1342 : (q_I r947.2 12 2 a0).toInt = (q_I d941 12 2 a0).toInt := congrArg Int32.toInt (u953 12 2 a0 (by decide))
                  have f1343 := cb_12_2 i943 k_a0
                  have f1344 : (q_I d941 12 2 a0).toInt = (q_I d935 12 2 a0).toInt := congrArg Int32.toInt (by rw [e942]; exact rI_o (by decide))
                  have f1345 := cb_12_2 i937 k_a0
                  have f1346 : (q_I d935 12 2 a0).toInt = (q_I d929 12 2 a0).toInt := congrArg Int32.toInt (by rw [e936]; exact rI_o (by decide))
                  have f1347 := cb_12_2 i931 k_a0
                  have f1348 : (q_I d929 12 2 a0).toInt = (q_I r899 12 2 a0).toInt := congrArg Int32.toInt (by rw [e930]; exact rI_o (by decide))
                  exact ok_some (show RI ad h.1 δ0 d1314 ∧ (kp [(12, 0), (12, 2), (12, 3), (12, 4), (12, 5), (12, 6), (12, 7), (12, 8), (12, 24), (12, 25), (12, 26), (12, 27)] δ d1314 ∧ q_V d1314 = q_V δ ∧ kr ad [100, 112, 113, 114, 115, 116, 117] δ d1314) ∧ (0 ≤ (x1).toInt ∧ (x1).toInt ≤ (q_I δ 12 2 a0).toInt → (q_I d1314 12 2 a0).toInt = 0) ∧ ((x1).toInt < 0 ∨ (q_I δ 12 2 a0).toInt < (x1).toInt → (q_I d1314 12 2 a0).toInt = (q_I δ 12 2 a0).toInt) from ⟨i1316, ⟨kp_w (by decide) u1324, v1325, kr_w (by decide) v1326⟩, by first | assumption | omega, by first | assumption | omega⟩)
                · have c1349 : r1273.1.toInt ≠ (q_I r1273.2 12 24 a0).toInt := o_ne h1292
                  unfold J_X12_thief_146
                  have f1350 := cb_12_2 i1275 k_a0
                  have f1351 : (q_I r1273.2 12 2 a0).toInt = (q_I r1258 12 2 a0).toInt := congrArg Int32.toInt (u1276 12 2 a0 (by decide))
                  have f1352 := cb_12_2 i1260 k_a0
                  have f1353 : (q_I r1258 12 2 a0).toInt = (q_I r1147.2 12 2 a0).toInt := congrArg Int32.toInt (u1263 12 2 a0 (by decide))
                  have f1354 := cb_12_2 i1149 k_a0
                  have f1355 : (q_I r1147.2 12 2 a0).toInt = (q_I r1001 12 2 a0).toInt := congrArg Int32.toInt (u1153 12 2 a0 (by decide))
                  have f1356 := cb_12_2 i1039 k_a0
                  have f1357 : (q_I r1001 12 2 a0).toInt = (q_I r978 12 2 a0).toInt := congrArg Int32.toInt (u1045 12 2 a0 (by decide))
                  have f1358 := cb_12_2 i982 k_a0
                  have f1359 : (q_I r978 12 2 a0).toInt = (q_I r947.2 12 2 a0).toInt := congrArg Int32.toInt (u985 12 2 a0 (by decide))
                  have f1360 := cb_12_2 i949 k_a0
                  have f1361 : (q_I r947.2 12 2 a0).toInt = (q_I d941 12 2 a0).toInt := congrArg Int32.toInt (u953 12 2 a0 (by decide))
                  have f1362 := cb_12_2 i943 k_a0
                  have f1363 : (q_I d941 12 2 a0).toInt = (q_I d935 12 2 a0).toInt := congrArg Int32.toInt (by rw [e942]; exact rI_o (by decide))
                  have f1364 := cb_12_2 i937 k_a0
                  have f1365 : (q_I d935 12 2 a0).toInt = (q_I d929 12 2 a0).toInt := congrArg Int32.toInt (by rw [e936]; exact rI_o (by decide))
                  have f1366 := cb_12_2 i931 k_a0
                  have f1367 : (q_I d929 12 2 a0).toInt = (q_I r899 12 2 a0).toInt := congrArg Int32.toInt (by rw [e930]; exact rI_o (by decide))
                  exact ok_some (show RI ad h.1 δ0 r1273.2 ∧ (kp [(12, 0), (12, 2), (12, 3), (12, 4), (12, 5), (12, 6), (12, 7), (12, 8), (12, 24), (12, 25), (12, 26), (12, 27)] δ r1273.2 ∧ q_V r1273.2 = q_V δ ∧ kr ad [100, 112, 113, 114, 115, 116, 117] δ r1273.2) ∧ (0 ≤ (x1).toInt ∧ (x1).toInt ≤ (q_I δ 12 2 a0).toInt → (q_I r1273.2 12 2 a0).toInt = 0) ∧ ((x1).toInt < 0 ∨ (q_I δ 12 2 a0).toInt < (x1).toInt → (q_I r1273.2 12 2 a0).toInt = (q_I δ 12 2 a0).toInt) from ⟨i1275, ⟨kp_w (by decide) u1280, v1281, kr_w (by decide) v1282⟩, by first | assumption | omega, by first | assumption | omega⟩)
          · have c1368 : r947.1.toInt ≠ (0 : Int) := o_ne h976
            unfold J_X12_thief_79
            have f1371 := cb_12_24 i949 k_a0
            have f1372 : (q_I r947.2 12 24 a0).toInt = (q_I d941 12 24 a0).toInt := congrArg Int32.toInt (u953 12 24 a0 (by decide))
            have f1373 := cb_12_24 i943 k_a0
            have f1374 : (q_I d941 12 24 a0).toInt = (q_I d935 12 24 a0).toInt := congrArg Int32.toInt (by rw [e942]; exact rI_o (by decide))
            have f1375 := cb_12_24 i937 k_a0
            have f1376 : (q_I d935 12 24 a0).toInt = (q_I d929 12 24 a0).toInt := congrArg Int32.toInt (by rw [e936]; exact rI_o (by decide))
            have f1377 := cb_12_24 i931 k_a0
            have f1378 : (q_I d929 12 24 a0).toInt = (q_I r899 12 24 a0).toInt := congrArg Int32.toInt (by rw [e930]; exact rI_o (by decide))
            have f1379 := cb_12_26 i949 k_a0
            have f1380 : (q_I r947.2 12 26 a0).toInt = (q_I d941 12 26 a0).toInt := congrArg Int32.toInt (u953 12 26 a0 (by decide))
            have f1381 := cb_12_26 i943 k_a0
            have f1382 : (q_I d941 12 26 a0).toInt = (q_I d935 12 26 a0).toInt := congrArg Int32.toInt (by rw [e942]; exact rI_o (by decide))
            have f1383 := cb_12_26 i937 k_a0
            have f1384 : (q_I d935 12 26 a0).toInt = (0 : Int) := congrArg Int32.toInt (show q_I d935 12 26 a0 = (0 : Int32) by rw [e936]; exact rI_s)
            have f1385 := ti_b (q_I r947.2 12 7 a0)
            have f1386 : (q_I r947.2 12 7 a0).toInt = (q_I d941 12 7 a0).toInt := congrArg Int32.toInt (u953 12 7 a0 (by decide))
            have f1387 := ti_b (q_I d941 12 7 a0)
            have f1388 : (q_I d941 12 7 a0).toInt = (q_I d935 12 7 a0).toInt := congrArg Int32.toInt (by rw [e942]; exact rI_o (by decide))
            have f1389 := ti_b (q_I d935 12 7 a0)
            have f1390 : (q_I d935 12 7 a0).toInt = (q_I d929 12 7 a0).toInt := congrArg Int32.toInt (by rw [e936]; exact rI_o (by decide))
            have f1391 := ti_b (q_I d929 12 7 a0)
            have f1392 : (q_I d929 12 7 a0).toInt = (q_I r899 12 7 a0).toInt := congrArg Int32.toInt (by rw [e930]; exact rI_o (by decide))
            have f1393 := cb_12_27 i949 k_a0
            have f1394 : (q_I r947.2 12 27 a0).toInt = (q_I d941 12 27 a0).toInt := congrArg Int32.toInt (u953 12 27 a0 (by decide))
            have f1395 := cb_12_27 i943 k_a0
            have f1396 : (q_I d941 12 27 a0).toInt = (0 : Int) := congrArg Int32.toInt (show q_I d941 12 27 a0 = (0 : Int32) by rw [e942]; exact rI_s)
            refine ok_bind (k_X12_readSteps L hN (a0 := a0) k_a0 (show (q_I r947.2 12 24 a0).toInt ≤ 3 by first | assumption | omega) (show (q_I r947.2 12 26 a0).toInt ≤ (q_I r947.2 12 4 a0).toInt by first | assumption | omega) (show (q_I r947.2 12 7 a0).toInt = 0 by first | assumption | omega) (show 4 - (q_I r947.2 12 27 a0).toInt < 20 by first | assumption | omega) i949) (fun r1369 hr1370 => ?_)
            obtain ⟨i1397, ⟨u1403, u1404, u1405⟩, p1398, p1399, p1400, p1401, p1402⟩ := hr1370
            have u1406 := kp_t u957 u1403
            have v1407 : q_V r1369 = q_V δ := (u1404).trans v958
            have v1408 := kr_t v959 u1405
            have f1409 := cb_12_4 i1397 k_a0
            have f1410 := cb_12_5 i949 k_a0
            have f1411 : (q_I r947.2 12 5 a0).toInt = (q_I d941 12 5 a0).toInt := congrArg Int32.toInt (u953 12 5 a0 (by decide))
            have f1412 := cb_12_5 i943 k_a0
            have f1413 : (q_I d941 12 5 a0).toInt = (q_I d935 12 5 a0).toInt := congrArg Int32.toInt (by rw [e942]; exact rI_o (by decide))
            have f1414 := cb_12_5 i937 k_a0
            have f1415 : (q_I d935 12 5 a0).toInt = (q_I d929 12 5 a0).toInt := congrArg Int32.toInt (by rw [e936]; exact rI_o (by decide))
            have f1416 := cb_12_5 i931 k_a0
            have f1417 : (q_I d929 12 5 a0).toInt = (q_I r899 12 5 a0).toInt := congrArg Int32.toInt (by rw [e930]; exact rI_o (by decide))
            have f1418 := cb_12_5 i1397 k_a0
            have f1419 := ti_b (q_I r1369 12 7 a0)
            have f1420 := cb_12_27 i1397 k_a0
            have f1421 := cb_12_26 i1397 k_a0
            refine ok_bind (k_X12_fine L hN (a0 := a0) k_a0 i1397) (fun r1422 hr1423 => ?_)
            obtain ⟨i1424, p1425, p1426, p1427⟩ := hr1423
            try rw [i1424]
            have f1428 := bo_l p1425
            have f1429 := ti_b r1422.1
            have f1430 := ti_b r1422.1
            refine ok_ite (fun h1431 => ?_) (fun h1431 => ?_)
            · have c1432 : r1422.1.toInt = (0 : Int) := o_eq h1431
              unfold J_X12_thief_106
              refine ok_bind (k_X12_result L hN (a0 := a0) (x1 := (q_I r1369 12 24 a0)) k_a0 i1397) (fun r1433 hr1434 => ?_)
              obtain ⟨i1435, ⟨u1436, u1437, u1438, u1439⟩⟩ := hr1434
              have u1440 := kp_t u1406 u1436
              have v1441 : q_V r1433.2 = q_V δ := (u1437).trans v1407
              have v1442 := kr_t v1408 u1439
              have f1443 := ti_b r1433.1
              have f1444 := cb_12_24 i1435 k_a0
              have f1445 : (q_I r1433.2 12 24 a0).toInt = (q_I r1369 12 24 a0).toInt := congrArg Int32.toInt (u1436 12 24 a0 (by decide))
              have f1446 := cb_12_24 i1397 k_a0
              have f1447 : (q_I r1369 12 24 a0).toInt = (q_I r947.2 12 24 a0).toInt := congrArg Int32.toInt (u1403 12 24 a0 (by decide))
              refine ok_ite (fun h1448 => ?_) (fun h1448 => ?_)
              · have c1449 : r1433.1.toInt = (q_I r1433.2 12 24 a0).toInt := o_eq h1448
                obtain ⟨b1450, o1451, k1452, n1453⟩ := gO_12_28 L k_a0
                obtain rfl := gS_12_28 L k_a0 o1451
                refine ok_at o1451 ?_
                have t1454 := ti_tn (q_I r1433.2 12 24 a0)
                refine ok_gd (fun hc1455 => ?_) ?_
                · rcases hc1455 with hc1455 | hc1455
                  · have c1456 : (q_I r1433.2 12 24 a0).toInt < (0 : Int) := o_lt hc1455
                    omega
                  · omega
                have f1460 := cb_12_25 i1435 k_a0
                have f1461 : (q_I r1433.2 12 25 a0).toInt = (q_I r1369 12 25 a0).toInt := congrArg Int32.toInt (u1436 12 25 a0 (by decide))
                have f1462 := cb_12_25 i1397 k_a0
                refine ok_bdv (fun d1457 e1458 => ?_)
                have i1459 : RI ad h.1 δ0 d1457 := by rw [e1458]; exact cr_112 L i1435 (show 0 ≤ (q_I r1433.2 12 25 a0).toInt by omega) (show (q_I r1433.2 12 25 a0).toInt ≤ 60 by omega)
                have u1463 := kp_N u1440 (show q_I d1457 = q_I r1433.2 by rw [e1458]; rfl)
                have v1464 : q_V d1457 = q_V δ := ((show q_V d1457 = q_V r1433.2 by rw [e1458]; rfl)).trans v1441
                have v1465 := kr_s L (by decide) v1442 e1458
                have f1469 := cb_12_24 i1459 k_a0
                have f1470 : (q_I d1457 12 24 a0).toInt = (q_I r1433.2 12 24 a0).toInt := congrArg Int32.toInt (by rw [e1458]; rfl)
                first | (have q1472 := te_addc (c := 1) (n := 1) rfl (q_I d1457 12 24 a0) (by omega) (by omega); obtain ⟨f1473, f1474, f1475⟩ := q1472) | (obtain ⟨q1472, f1473, f1474, f1475⟩ := ti_addc (c := 1) (n := 1) rfl (q_I d1457 12 24 a0))
                refine ok_bdv (fun d1466 e1467 => ?_)
                have i1468 : RI ad h.1 δ0 d1466 := by rw [e1467]; exact cs_12_24 L i1459 k_a0 (show 0 ≤ ((q_I d1457 12 24 a0) + (1 : Int32)).toInt by omega) (show ((q_I d1457 12 24 a0) + (1 : Int32)).toInt ≤ 4 by omega)
                have u1476 := kp_I u1463 e1467
                have v1477 : q_V d1466 = q_V δ := ((show q_V d1466 = q_V d1457 by rw [e1467]; rfl)).trans v1464
                have v1478 := kr_N v1465 (show q_R d1466 = q_R d1457 by rw [e1467]; rfl)
                unfold J_X12_thief_146
                have f1479 := cb_12_2 i1468 k_a0
                have f1480 : (q_I d1466 12 2 a0).toInt = (q_I d1457 12 2 a0).toInt := congrArg Int32.toInt (by rw [e1467]; exact rI_o (by decide))
                have f1481 := cb_12_2 i1459 k_a0
                have f1482 : (q_I d1457 12 2 a0).toInt = (q_I r1433.2 12 2 a0).toInt := congrArg Int32.toInt (by rw [e1458]; rfl)
                have f1483 := cb_12_2 i1435 k_a0
                have f1484 : (q_I r1433.2 12 2 a0).toInt = (q_I r1369 12 2 a0).toInt := congrArg Int32.toInt (u1436 12 2 a0 (by decide))
                have f1485 := cb_12_2 i1397 k_a0
                have f1486 : (q_I r1369 12 2 a0).toInt = (q_I r947.2 12 2 a0).toInt := congrArg Int32.toInt (u1403 12 2 a0 (by decide))
                have f1487 := cb_12_2 i949 k_a0
                have f1488 : (q_I r947.2 12 2 a0).toInt = (q_I d941 12 2 a0).toInt := congrArg Int32.toInt (u953 12 2 a0 (by decide))
                have f1489 := cb_12_2 i943 k_a0
                have f1490 : (q_I d941 12 2 a0).toInt = (q_I d935 12 2 a0).toInt := congrArg Int32.toInt (by rw [e942]; exact rI_o (by decide))
                have f1491 := cb_12_2 i937 k_a0
                have f1492 : (q_I d935 12 2 a0).toInt = (q_I d929 12 2 a0).toInt := congrArg Int32.toInt (by rw [e936]; exact rI_o (by decide))
                have f1493 := cb_12_2 i931 k_a0
                have f1494 : (q_I d929 12 2 a0).toInt = (q_I r899 12 2 a0).toInt := congrArg Int32.toInt (by rw [e930]; exact rI_o (by decide))
                exact ok_some (show RI ad h.1 δ0 d1466 ∧ (kp [(12, 0), (12, 2), (12, 3), (12, 4), (12, 5), (12, 6), (12, 7), (12, 8), (12, 24), (12, 25), (12, 26), (12, 27)] δ d1466 ∧ q_V d1466 = q_V δ ∧ kr ad [100, 112, 113, 114, 115, 116, 117] δ d1466) ∧ (0 ≤ (x1).toInt ∧ (x1).toInt ≤ (q_I δ 12 2 a0).toInt → (q_I d1466 12 2 a0).toInt = 0) ∧ ((x1).toInt < 0 ∨ (q_I δ 12 2 a0).toInt < (x1).toInt → (q_I d1466 12 2 a0).toInt = (q_I δ 12 2 a0).toInt) from ⟨i1468, ⟨kp_w (by decide) u1476, v1477, kr_w (by decide) v1478⟩, by first | assumption | omega, by first | assumption | omega⟩)
              · have c1495 : r1433.1.toInt ≠ (q_I r1433.2 12 24 a0).toInt := o_ne h1448
                unfold J_X12_thief_146
                have f1496 := cb_12_2 i1435 k_a0
                have f1497 : (q_I r1433.2 12 2 a0).toInt = (q_I r1369 12 2 a0).toInt := congrArg Int32.toInt (u1436 12 2 a0 (by decide))
                have f1498 := cb_12_2 i1397 k_a0
                have f1499 : (q_I r1369 12 2 a0).toInt = (q_I r947.2 12 2 a0).toInt := congrArg Int32.toInt (u1403 12 2 a0 (by decide))
                have f1500 := cb_12_2 i949 k_a0
                have f1501 : (q_I r947.2 12 2 a0).toInt = (q_I d941 12 2 a0).toInt := congrArg Int32.toInt (u953 12 2 a0 (by decide))
                have f1502 := cb_12_2 i943 k_a0
                have f1503 : (q_I d941 12 2 a0).toInt = (q_I d935 12 2 a0).toInt := congrArg Int32.toInt (by rw [e942]; exact rI_o (by decide))
                have f1504 := cb_12_2 i937 k_a0
                have f1505 : (q_I d935 12 2 a0).toInt = (q_I d929 12 2 a0).toInt := congrArg Int32.toInt (by rw [e936]; exact rI_o (by decide))
                have f1506 := cb_12_2 i931 k_a0
                have f1507 : (q_I d929 12 2 a0).toInt = (q_I r899 12 2 a0).toInt := congrArg Int32.toInt (by rw [e930]; exact rI_o (by decide))
                exact ok_some (show RI ad h.1 δ0 r1433.2 ∧ (kp [(12, 0), (12, 2), (12, 3), (12, 4), (12, 5), (12, 6), (12, 7), (12, 8), (12, 24), (12, 25), (12, 26), (12, 27)] δ r1433.2 ∧ q_V r1433.2 = q_V δ ∧ kr ad [100, 112, 113, 114, 115, 116, 117] δ r1433.2) ∧ (0 ≤ (x1).toInt ∧ (x1).toInt ≤ (q_I δ 12 2 a0).toInt → (q_I r1433.2 12 2 a0).toInt = 0) ∧ ((x1).toInt < 0 ∨ (q_I δ 12 2 a0).toInt < (x1).toInt → (q_I r1433.2 12 2 a0).toInt = (q_I δ 12 2 a0).toInt) from ⟨i1435, ⟨kp_w (by decide) u1440, v1441, kr_w (by decide) v1442⟩, by first | assumption | omega, by first | assumption | omega⟩)
            · have c1508 : r1422.1.toInt ≠ (0 : Int) := o_ne h1431
              refine ok_bind (k_X12_isMore L hN (a0 := a0) k_a0 i1397) (fun r1509 hr1510 => ?_)
              obtain ⟨i1511, ⟨u1515, u1516, u1517, u1518⟩, p1512, p1513, p1514⟩ := hr1510
              have u1519 := kp_t u1406 u1515
              have v1520 : q_V r1509.2 = q_V δ := (u1516).trans v1407
              have v1521 := kr_t v1408 u1518
              have f1522 := bo_l p1512
              have f1523 := cb_12_4 i1511 k_a0
              have f1524 := ti_b r1509.1
              have f1525 := cb_12_3 i1397 k_a0
              have f1526 : (q_I r1369 12 3 a0).toInt = (q_I r947.2 12 3 a0).toInt := congrArg Int32.toInt (u1403 12 3 a0 (by decide))
              have f1527 := cb_12_3 i949 k_a0
              have f1528 : (q_I r947.2 12 3 a0).toInt = (q_I d941 12 3 a0).toInt := congrArg Int32.toInt (u953 12 3 a0 (by decide))
              have f1529 := ti_b r1509.1
              refine ok_ite (fun h1530 => ?_) (fun h1530 => ?_)
              · have c1531 : r1509.1.toInt = (0 : Int) := o_eq h1530
                unfold J_X12_thief_106
                refine ok_bind (k_X12_result L hN (a0 := a0) (x1 := (q_I r1509.2 12 24 a0)) k_a0 i1511) (fun r1532 hr1533 => ?_)
                obtain ⟨i1534, ⟨u1535, u1536, u1537, u1538⟩⟩ := hr1533
                have u1539 := kp_t u1519 u1535
                have v1540 : q_V r1532.2 = q_V δ := (u1536).trans v1520
                have v1541 := kr_t v1521 u1538
                have f1542 := ti_b r1532.1
                have f1543 := cb_12_24 i1534 k_a0
                have f1544 : (q_I r1532.2 12 24 a0).toInt = (q_I r1509.2 12 24 a0).toInt := congrArg Int32.toInt (u1535 12 24 a0 (by decide))
                have f1545 := cb_12_24 i1511 k_a0
                have f1546 : (q_I r1509.2 12 24 a0).toInt = (q_I r1369 12 24 a0).toInt := congrArg Int32.toInt (u1515 12 24 a0 (by decide))
                have f1547 := cb_12_24 i1397 k_a0
                have f1548 : (q_I r1369 12 24 a0).toInt = (q_I r947.2 12 24 a0).toInt := congrArg Int32.toInt (u1403 12 24 a0 (by decide))
                refine ok_ite (fun h1549 => ?_) (fun h1549 => ?_)
                · have c1550 : r1532.1.toInt = (q_I r1532.2 12 24 a0).toInt := o_eq h1549
                  obtain ⟨b1551, o1552, k1553, n1554⟩ := gO_12_28 L k_a0
                  obtain rfl := gS_12_28 L k_a0 o1552
                  refine ok_at o1552 ?_
                  have t1555 := ti_tn (q_I r1532.2 12 24 a0)
                  refine ok_gd (fun hc1556 => ?_) ?_
                  · rcases hc1556 with hc1556 | hc1556
                    · have c1557 : (q_I r1532.2 12 24 a0).toInt < (0 : Int) := o_lt hc1556
                      omega
                    · omega
                  have f1561 := cb_12_25 i1534 k_a0
                  have f1562 : (q_I r1532.2 12 25 a0).toInt = (q_I r1509.2 12 25 a0).toInt := congrArg Int32.toInt (u1535 12 25 a0 (by decide))
                  have f1563 := cb_12_25 i1511 k_a0
                  have f1564 : (q_I r1509.2 12 25 a0).toInt = (q_I r1369 12 25 a0).toInt := congrArg Int32.toInt (u1515 12 25 a0 (by decide))
                  have f1565 := cb_12_25 i1397 k_a0
                  refine ok_bdv (fun d1558 e1559 => ?_)
                  have i1560 : RI ad h.1 δ0 d1558 := by rw [e1559]; exact cr_112 L i1534 (show 0 ≤ (q_I r1532.2 12 25 a0).toInt by omega) (show (q_I r1532.2 12 25 a0).toInt ≤ 60 by omega)
                  have u1566 := kp_N u1539 (show q_I d1558 = q_I r1532.2 by rw [e1559]; rfl)
                  have v1567 : q_V d1558 = q_V δ := ((show q_V d1558 = q_V r1532.2 by rw [e1559]; rfl)).trans v1540
                  have v1568 := kr_s L (by decide) v1541 e1559
                  have f1572 := cb_12_24 i1560 k_a0
                  have f1573 : (q_I d1558 12 24 a0).toInt = (q_I r1532.2 12 24 a0).toInt := congrArg Int32.toInt (by rw [e1559]; rfl)
                  first | (have q1575 := te_addc (c := 1) (n := 1) rfl (q_I d1558 12 24 a0) (by omega) (by omega); obtain ⟨f1576, f1577, f1578⟩ := q1575) | (obtain ⟨q1575, f1576, f1577, f1578⟩ := ti_addc (c := 1) (n := 1) rfl (q_I d1558 12 24 a0))
                  refine ok_bdv (fun d1569 e1570 => ?_)
                  have i1571 : RI ad h.1 δ0 d1569 := by rw [e1570]; exact cs_12_24 L i1560 k_a0 (show 0 ≤ ((q_I d1558 12 24 a0) + (1 : Int32)).toInt by omega) (show ((q_I d1558 12 24 a0) + (1 : Int32)).toInt ≤ 4 by omega)
                  have u1579 := kp_I u1566 e1570
                  have v1580 : q_V d1569 = q_V δ := ((show q_V d1569 = q_V d1558 by rw [e1570]; rfl)).trans v1567
                  have v1581 := kr_N v1568 (show q_R d1569 = q_R d1558 by rw [e1570]; rfl)
                  unfold J_X12_thief_146
                  have f1582 := cb_12_2 i1571 k_a0
                  have f1583 : (q_I d1569 12 2 a0).toInt = (q_I d1558 12 2 a0).toInt := congrArg Int32.toInt (by rw [e1570]; exact rI_o (by decide))
                  have f1584 := cb_12_2 i1560 k_a0
                  have f1585 : (q_I d1558 12 2 a0).toInt = (q_I r1532.2 12 2 a0).toInt := congrArg Int32.toInt (by rw [e1559]; rfl)
                  have f1586 := cb_12_2 i1534 k_a0
                  have f1587 : (q_I r1532.2 12 2 a0).toInt = (q_I r1509.2 12 2 a0).toInt := congrArg Int32.toInt (u1535 12 2 a0 (by decide))
                  have f1588 := cb_12_2 i1511 k_a0
                  have f1589 : (q_I r1509.2 12 2 a0).toInt = (q_I r1369 12 2 a0).toInt := congrArg Int32.toInt (u1515 12 2 a0 (by decide))
                  have f1590 := cb_12_2 i1397 k_a0
                  have f1591 : (q_I r1369 12 2 a0).toInt = (q_I r947.2 12 2 a0).toInt := congrArg Int32.toInt (u1403 12 2 a0 (by decide))
                  have f1592 := cb_12_2 i949 k_a0
                  have f1593 : (q_I r947.2 12 2 a0).toInt = (q_I d941 12 2 a0).toInt := congrArg Int32.toInt (u953 12 2 a0 (by decide))
                  have f1594 := cb_12_2 i943 k_a0
                  have f1595 : (q_I d941 12 2 a0).toInt = (q_I d935 12 2 a0).toInt := congrArg Int32.toInt (by rw [e942]; exact rI_o (by decide))
                  have f1596 := cb_12_2 i937 k_a0
                  have f1597 : (q_I d935 12 2 a0).toInt = (q_I d929 12 2 a0).toInt := congrArg Int32.toInt (by rw [e936]; exact rI_o (by decide))
                  have f1598 := cb_12_2 i931 k_a0
                  have f1599 : (q_I d929 12 2 a0).toInt = (q_I r899 12 2 a0).toInt := congrArg Int32.toInt (by rw [e930]; exact rI_o (by decide))
                  exact ok_some (show RI ad h.1 δ0 d1569 ∧ (kp [(12, 0), (12, 2), (12, 3), (12, 4), (12, 5), (12, 6), (12, 7), (12, 8), (12, 24), (12, 25), (12, 26), (12, 27)] δ d1569 ∧ q_V d1569 = q_V δ ∧ kr ad [100, 112, 113, 114, 115, 116, 117] δ d1569) ∧ (0 ≤ (x1).toInt ∧ (x1).toInt ≤ (q_I δ 12 2 a0).toInt → (q_I d1569 12 2 a0).toInt = 0) ∧ ((x1).toInt < 0 ∨ (q_I δ 12 2 a0).toInt < (x1).toInt → (q_I d1569 12 2 a0).toInt = (q_I δ 12 2 a0).toInt) from ⟨i1571, ⟨kp_w (by decide) u1579, v1580, kr_w (by decide) v1581⟩, by first | assumption | omega, by first | assumption | omega⟩)
                · have c1600 : r1532.1.toInt ≠ (q_I r1532.2 12 24 a0).toInt := o_ne h1549
                  unfold J_X12_thief_146
                  have f1601 := cb_12_2 i1534 k_a0
                  have f1602 : (q_I r1532.2 12 2 a0).toInt = (q_I r1509.2 12 2 a0).toInt := congrArg Int32.toInt (u1535 12 2 a0 (by decide))
                  have f1603 := cb_12_2 i1511 k_a0
                  have f1604 : (q_I r1509.2 12 2 a0).toInt = (q_I r1369 12 2 a0).toInt := congrArg Int32.toInt (u1515 12 2 a0 (by decide))
                  have f1605 := cb_12_2 i1397 k_a0
                  have f1606 : (q_I r1369 12 2 a0).toInt = (q_I r947.2 12 2 a0).toInt := congrArg Int32.toInt (u1403 12 2 a0 (by decide))
                  have f1607 := cb_12_2 i949 k_a0
                  have f1608 : (q_I r947.2 12 2 a0).toInt = (q_I d941 12 2 a0).toInt := congrArg Int32.toInt (u953 12 2 a0 (by decide))
                  have f1609 := cb_12_2 i943 k_a0
                  have f1610 : (q_I d941 12 2 a0).toInt = (q_I d935 12 2 a0).toInt := congrArg Int32.toInt (by rw [e942]; exact rI_o (by decide))
                  have f1611 := cb_12_2 i937 k_a0
                  have f1612 : (q_I d935 12 2 a0).toInt = (q_I d929 12 2 a0).toInt := congrArg Int32.toInt (by rw [e936]; exact rI_o (by decide))
                  have f1613 := cb_12_2 i931 k_a0
                  have f1614 : (q_I d929 12 2 a0).toInt = (q_I r899 12 2 a0).toInt := congrArg Int32.toInt (by rw [e930]; exact rI_o (by decide))
                  exact ok_some (show RI ad h.1 δ0 r1532.2 ∧ (kp [(12, 0), (12, 2), (12, 3), (12, 4), (12, 5), (12, 6), (12, 7), (12, 8), (12, 24), (12, 25), (12, 26), (12, 27)] δ r1532.2 ∧ q_V r1532.2 = q_V δ ∧ kr ad [100, 112, 113, 114, 115, 116, 117] δ r1532.2) ∧ (0 ≤ (x1).toInt ∧ (x1).toInt ≤ (q_I δ 12 2 a0).toInt → (q_I r1532.2 12 2 a0).toInt = 0) ∧ ((x1).toInt < 0 ∨ (q_I δ 12 2 a0).toInt < (x1).toInt → (q_I r1532.2 12 2 a0).toInt = (q_I δ 12 2 a0).toInt) from ⟨i1534, ⟨kp_w (by decide) u1539, v1540, kr_w (by decide) v1541⟩, by first | assumption | omega, by first | assumption | omega⟩)
              · have c1615 : r1509.1.toInt ≠ (0 : Int) := o_ne h1530
                refine ok_bind (k_X12_wrong L hN (a0 := a0) (x1 := (1 : Int32)) (x2 := (q_I r1509.2 12 4 a0)) k_a0 (show 0 ≤ ((q_I r1509.2 12 4 a0)).toInt by first | assumption | omega) (show ((q_I r1509.2 12 4 a0)).toInt ≤ 500 by first | assumption | omega) i1511) (fun r1616 hr1617 => ?_)
                obtain ⟨i1618, ⟨u1621, u1622, u1623, u1624⟩, p1619, p1620⟩ := hr1617
                have u1625 := kp_t u1519 u1621
                have v1626 : q_V r1616 = q_V δ := (u1622).trans v1520
                have v1627 := kr_t v1521 u1624
                have f1628 := cb_12_5 i1618 k_a0
                have f1629 := cb_12_5 i1511 k_a0
                have f1630 : (q_I r1509.2 12 5 a0).toInt = (q_I r1369 12 5 a0).toInt := congrArg Int32.toInt (u1515 12 5 a0 (by decide))
                unfold J_X12_thief_106
                refine ok_bind (k_X12_result L hN (a0 := a0) (x1 := (q_I r1616 12 24 a0)) k_a0 i1618) (fun r1631 hr1632 => ?_)
                obtain ⟨i1633, ⟨u1634, u1635, u1636, u1637⟩⟩ := hr1632
                have u1638 := kp_t u1625 u1634
                have v1639 : q_V r1631.2 = q_V δ := (u1635).trans v1626
                have v1640 := kr_t v1627 u1637
                have f1641 := ti_b r1631.1
                have f1642 := cb_12_24 i1633 k_a0
                have f1643 : (q_I r1631.2 12 24 a0).toInt = (q_I r1616 12 24 a0).toInt := congrArg Int32.toInt (u1634 12 24 a0 (by decide))
                have f1644 := cb_12_24 i1618 k_a0
                have f1645 : (q_I r1616 12 24 a0).toInt = (q_I r1509.2 12 24 a0).toInt := congrArg Int32.toInt (u1621 12 24 a0 (by decide))
                have f1646 := cb_12_24 i1511 k_a0
                have f1647 : (q_I r1509.2 12 24 a0).toInt = (q_I r1369 12 24 a0).toInt := congrArg Int32.toInt (u1515 12 24 a0 (by decide))
                have f1648 := cb_12_24 i1397 k_a0
                have f1649 : (q_I r1369 12 24 a0).toInt = (q_I r947.2 12 24 a0).toInt := congrArg Int32.toInt (u1403 12 24 a0 (by decide))
                refine ok_ite (fun h1650 => ?_) (fun h1650 => ?_)
                · have c1651 : r1631.1.toInt = (q_I r1631.2 12 24 a0).toInt := o_eq h1650
                  obtain ⟨b1652, o1653, k1654, n1655⟩ := gO_12_28 L k_a0
                  obtain rfl := gS_12_28 L k_a0 o1653
                  refine ok_at o1653 ?_
                  have t1656 := ti_tn (q_I r1631.2 12 24 a0)
                  refine ok_gd (fun hc1657 => ?_) ?_
                  · rcases hc1657 with hc1657 | hc1657
                    · have c1658 : (q_I r1631.2 12 24 a0).toInt < (0 : Int) := o_lt hc1657
                      omega
                    · omega
                  have f1662 := cb_12_25 i1633 k_a0
                  have f1663 : (q_I r1631.2 12 25 a0).toInt = (q_I r1616 12 25 a0).toInt := congrArg Int32.toInt (u1634 12 25 a0 (by decide))
                  have f1664 := cb_12_25 i1618 k_a0
                  have f1665 : (q_I r1616 12 25 a0).toInt = (q_I r1509.2 12 25 a0).toInt := congrArg Int32.toInt (u1621 12 25 a0 (by decide))
                  have f1666 := cb_12_25 i1511 k_a0
                  have f1667 : (q_I r1509.2 12 25 a0).toInt = (q_I r1369 12 25 a0).toInt := congrArg Int32.toInt (u1515 12 25 a0 (by decide))
                  have f1668 := cb_12_25 i1397 k_a0
                  refine ok_bdv (fun d1659 e1660 => ?_)
                  have i1661 : RI ad h.1 δ0 d1659 := by rw [e1660]; exact cr_112 L i1633 (show 0 ≤ (q_I r1631.2 12 25 a0).toInt by omega) (show (q_I r1631.2 12 25 a0).toInt ≤ 60 by omega)
                  have u1669 := kp_N u1638 (show q_I d1659 = q_I r1631.2 by rw [e1660]; rfl)
                  have v1670 : q_V d1659 = q_V δ := ((show q_V d1659 = q_V r1631.2 by rw [e1660]; rfl)).trans v1639
                  have v1671 := kr_s L (by decide) v1640 e1660
                  have f1675 := cb_12_24 i1661 k_a0
                  have f1676 : (q_I d1659 12 24 a0).toInt = (q_I r1631.2 12 24 a0).toInt := congrArg Int32.toInt (by rw [e1660]; rfl)
                  first | (have q1678 := te_addc (c := 1) (n := 1) rfl (q_I d1659 12 24 a0) (by omega) (by omega); obtain ⟨f1679, f1680, f1681⟩ := q1678) | (obtain ⟨q1678, f1679, f1680, f1681⟩ := ti_addc (c := 1) (n := 1) rfl (q_I d1659 12 24 a0))
                  refine ok_bdv (fun d1672 e1673 => ?_)
                  have i1674 : RI ad h.1 δ0 d1672 := by rw [e1673]; exact cs_12_24 L i1661 k_a0 (show 0 ≤ ((q_I d1659 12 24 a0) + (1 : Int32)).toInt by omega) (show ((q_I d1659 12 24 a0) + (1 : Int32)).toInt ≤ 4 by omega)
                  have u1682 := kp_I u1669 e1673
                  have v1683 : q_V d1672 = q_V δ := ((show q_V d1672 = q_V d1659 by rw [e1673]; rfl)).trans v1670
                  have v1684 := kr_N v1671 (show q_R d1672 = q_R d1659 by rw [e1673]; rfl)
                  unfold J_X12_thief_146
                  have f1685 := cb_12_2 i1674 k_a0
                  have f1686 : (q_I d1672 12 2 a0).toInt = (q_I d1659 12 2 a0).toInt := congrArg Int32.toInt (by rw [e1673]; exact rI_o (by decide))
                  have f1687 := cb_12_2 i1661 k_a0
                  have f1688 : (q_I d1659 12 2 a0).toInt = (q_I r1631.2 12 2 a0).toInt := congrArg Int32.toInt (by rw [e1660]; rfl)
                  have f1689 := cb_12_2 i1633 k_a0
                  have f1690 : (q_I r1631.2 12 2 a0).toInt = (q_I r1616 12 2 a0).toInt := congrArg Int32.toInt (u1634 12 2 a0 (by decide))
                  have f1691 := cb_12_2 i1618 k_a0
                  have f1692 : (q_I r1616 12 2 a0).toInt = (q_I r1509.2 12 2 a0).toInt := congrArg Int32.toInt (u1621 12 2 a0 (by decide))
                  have f1693 := cb_12_2 i1511 k_a0
                  have f1694 : (q_I r1509.2 12 2 a0).toInt = (q_I r1369 12 2 a0).toInt := congrArg Int32.toInt (u1515 12 2 a0 (by decide))
                  have f1695 := cb_12_2 i1397 k_a0
                  have f1696 : (q_I r1369 12 2 a0).toInt = (q_I r947.2 12 2 a0).toInt := congrArg Int32.toInt (u1403 12 2 a0 (by decide))
                  have f1697 := cb_12_2 i949 k_a0
                  have f1698 : (q_I r947.2 12 2 a0).toInt = (q_I d941 12 2 a0).toInt := congrArg Int32.toInt (u953 12 2 a0 (by decide))
                  have f1699 := cb_12_2 i943 k_a0
                  have f1700 : (q_I d941 12 2 a0).toInt = (q_I d935 12 2 a0).toInt := congrArg Int32.toInt (by rw [e942]; exact rI_o (by decide))
                  have f1701 := cb_12_2 i937 k_a0
                  have f1702 : (q_I d935 12 2 a0).toInt = (q_I d929 12 2 a0).toInt := congrArg Int32.toInt (by rw [e936]; exact rI_o (by decide))
                  have f1703 := cb_12_2 i931 k_a0
                  have f1704 : (q_I d929 12 2 a0).toInt = (q_I r899 12 2 a0).toInt := congrArg Int32.toInt (by rw [e930]; exact rI_o (by decide))
                  exact ok_some (show RI ad h.1 δ0 d1672 ∧ (kp [(12, 0), (12, 2), (12, 3), (12, 4), (12, 5), (12, 6), (12, 7), (12, 8), (12, 24), (12, 25), (12, 26), (12, 27)] δ d1672 ∧ q_V d1672 = q_V δ ∧ kr ad [100, 112, 113, 114, 115, 116, 117] δ d1672) ∧ (0 ≤ (x1).toInt ∧ (x1).toInt ≤ (q_I δ 12 2 a0).toInt → (q_I d1672 12 2 a0).toInt = 0) ∧ ((x1).toInt < 0 ∨ (q_I δ 12 2 a0).toInt < (x1).toInt → (q_I d1672 12 2 a0).toInt = (q_I δ 12 2 a0).toInt) from ⟨i1674, ⟨kp_w (by decide) u1682, v1683, kr_w (by decide) v1684⟩, by first | assumption | omega, by first | assumption | omega⟩)
                · have c1705 : r1631.1.toInt ≠ (q_I r1631.2 12 24 a0).toInt := o_ne h1650
                  unfold J_X12_thief_146
                  have f1706 := cb_12_2 i1633 k_a0
                  have f1707 : (q_I r1631.2 12 2 a0).toInt = (q_I r1616 12 2 a0).toInt := congrArg Int32.toInt (u1634 12 2 a0 (by decide))
                  have f1708 := cb_12_2 i1618 k_a0
                  have f1709 : (q_I r1616 12 2 a0).toInt = (q_I r1509.2 12 2 a0).toInt := congrArg Int32.toInt (u1621 12 2 a0 (by decide))
                  have f1710 := cb_12_2 i1511 k_a0
                  have f1711 : (q_I r1509.2 12 2 a0).toInt = (q_I r1369 12 2 a0).toInt := congrArg Int32.toInt (u1515 12 2 a0 (by decide))
                  have f1712 := cb_12_2 i1397 k_a0
                  have f1713 : (q_I r1369 12 2 a0).toInt = (q_I r947.2 12 2 a0).toInt := congrArg Int32.toInt (u1403 12 2 a0 (by decide))
                  have f1714 := cb_12_2 i949 k_a0
                  have f1715 : (q_I r947.2 12 2 a0).toInt = (q_I d941 12 2 a0).toInt := congrArg Int32.toInt (u953 12 2 a0 (by decide))
                  have f1716 := cb_12_2 i943 k_a0
                  have f1717 : (q_I d941 12 2 a0).toInt = (q_I d935 12 2 a0).toInt := congrArg Int32.toInt (by rw [e942]; exact rI_o (by decide))
                  have f1718 := cb_12_2 i937 k_a0
                  have f1719 : (q_I d935 12 2 a0).toInt = (q_I d929 12 2 a0).toInt := congrArg Int32.toInt (by rw [e936]; exact rI_o (by decide))
                  have f1720 := cb_12_2 i931 k_a0
                  have f1721 : (q_I d929 12 2 a0).toInt = (q_I r899 12 2 a0).toInt := congrArg Int32.toInt (by rw [e930]; exact rI_o (by decide))
                  exact ok_some (show RI ad h.1 δ0 r1631.2 ∧ (kp [(12, 0), (12, 2), (12, 3), (12, 4), (12, 5), (12, 6), (12, 7), (12, 8), (12, 24), (12, 25), (12, 26), (12, 27)] δ r1631.2 ∧ q_V r1631.2 = q_V δ ∧ kr ad [100, 112, 113, 114, 115, 116, 117] δ r1631.2) ∧ (0 ≤ (x1).toInt ∧ (x1).toInt ≤ (q_I δ 12 2 a0).toInt → (q_I r1631.2 12 2 a0).toInt = 0) ∧ ((x1).toInt < 0 ∨ (q_I δ 12 2 a0).toInt < (x1).toInt → (q_I r1631.2 12 2 a0).toInt = (q_I δ 12 2 a0).toInt) from ⟨i1633, ⟨kp_w (by decide) u1638, v1639, kr_w (by decide) v1640⟩, by first | assumption | omega, by first | assumption | omega⟩)
    · have c1722 : x1.toInt ≤ (q_I d1 12 2 a0).toInt := o_nlt h875
      unfold J_X12_thief_23
      refine ok_bind (k_X12_may L hN (a0 := a0) (x1 := (1 : Int32)) (x2 := (1 : Int32)) (x3 := (2 : Int32)) k_a0 (show (1 : Int) ≠ 0 by first | assumption | omega) (show 0 ≤ (2 : Int) by first | assumption | omega) (show (2 : Int) ≤ 2 by first | assumption | omega) i3) (fun r1723 hr1724 => ?_)
      obtain ⟨i1725, ⟨u1729, u1730, u1731⟩, p1726, p1727, p1728⟩ := hr1724
      have u1732 := kp_t u4 u1729
      have v1733 : q_V r1723.2 = q_V δ := (u1730).trans v5
      have v1734 := kr_t v6 u1731
      have f1735 := bo_l p1726
      have f1736 := ti_b r1723.1
      replace p1727 : ((r1723.1).toInt = 1 → (1 : Int) ≠ 0) := p1727
      have f1737 := ti_b (q_I d1 12 0 a0)
      have f1738 : (q_I d1 12 0 a0).toInt = (0 : Int) := congrArg Int32.toInt (show q_I d1 12 0 a0 = (0 : Int32) by rw [e2]; exact rI_s)
      replace p1728 : ((q_I d1 12 0 a0).toInt = 0 → (r1723.1).toInt = 0 → (1 : Int) = 0) := p1728
      have f1739 := ti_b r1723.1
      refine ok_ite (fun h1740 => ?_) (fun h1740 => ?_)
      · have c1741 : r1723.1.toInt = (0 : Int) := o_eq h1740
        have f1742 := cb_12_2 i1725 k_a0
        have f1743 : (q_I r1723.2 12 2 a0).toInt = (q_I d1 12 2 a0).toInt := congrArg Int32.toInt (u1729 12 2 a0 (by decide))
        exact ok_some (show RI ad h.1 δ0 r1723.2 ∧ (kp [(12, 0), (12, 2), (12, 3), (12, 4), (12, 5), (12, 6), (12, 7), (12, 8), (12, 24), (12, 25), (12, 26), (12, 27)] δ r1723.2 ∧ q_V r1723.2 = q_V δ ∧ kr ad [100, 112, 113, 114, 115, 116, 117] δ r1723.2) ∧ (0 ≤ (x1).toInt ∧ (x1).toInt ≤ (q_I δ 12 2 a0).toInt → (q_I r1723.2 12 2 a0).toInt = 0) ∧ ((x1).toInt < 0 ∨ (q_I δ 12 2 a0).toInt < (x1).toInt → (q_I r1723.2 12 2 a0).toInt = (q_I δ 12 2 a0).toInt) from ⟨i1725, ⟨kp_w (by decide) u1732, v1733, kr_w (by decide) v1734⟩, by first | assumption | omega, by first | assumption | omega⟩)
      · have c1744 : r1723.1.toInt ≠ (0 : Int) := o_ne h1740
        refine ok_bind (k_X12_begins L hN (a0 := a0) (x1 := x1) k_a0 (show 0 ≤ (x1).toInt by first | assumption | omega) (show (x1).toInt ≤ 500 by first | assumption | omega) i1725) (fun r1745 hr1746 => ?_)
        obtain ⟨i1747, ⟨u1753, u1754, u1755, u1756⟩, p1748, p1749, p1750, p1751, p1752⟩ := hr1746
        have u1757 := kp_t u1732 u1753
        have v1758 : q_V r1745 = q_V δ := (u1754).trans v1733
        have v1759 := kr_t v1734 u1756
        have f1760 := cb_12_2 i1747 k_a0
        have f1761 := cb_12_4 i1747 k_a0
        have f1762 := cb_12_3 i1747 k_a0
        have f1763 := cb_12_5 i1747 k_a0
        have f1764 := ti_b (q_I r1745 12 7 a0)
        have f1765 := cb_12_24 i1747 k_a0
        have f1766 : (q_I r1745 12 24 a0).toInt = (q_I r1723.2 12 24 a0).toInt := congrArg Int32.toInt (u1753 12 24 a0 (by decide))
        have f1767 := cb_12_24 i1725 k_a0
        have f1768 : (q_I r1723.2 12 24 a0).toInt = (q_I d1 12 24 a0).toInt := congrArg Int32.toInt (u1729 12 24 a0 (by decide))
        have f1769 := cb_12_24 i3 k_a0
        have f1770 : (q_I d1 12 24 a0).toInt = (q_I δ 12 24 a0).toInt := congrArg Int32.toInt (by rw [e2]; exact rI_o (by decide))
        have f1771 := cb_12_24 I k_a0
        refine ok_ite (fun h1772 => ?_) (fun h1772 => ?_)
        · have c1773 : (q_I r1745 12 24 a0).toInt = (4 : Int) := o_eq h1772
          exact ok_some (show RI ad h.1 δ0 r1745 ∧ (kp [(12, 0), (12, 2), (12, 3), (12, 4), (12, 5), (12, 6), (12, 7), (12, 8), (12, 24), (12, 25), (12, 26), (12, 27)] δ r1745 ∧ q_V r1745 = q_V δ ∧ kr ad [100, 112, 113, 114, 115, 116, 117] δ r1745) ∧ (0 ≤ (x1).toInt ∧ (x1).toInt ≤ (q_I δ 12 2 a0).toInt → (q_I r1745 12 2 a0).toInt = 0) ∧ ((x1).toInt < 0 ∨ (q_I δ 12 2 a0).toInt < (x1).toInt → (q_I r1745 12 2 a0).toInt = (q_I δ 12 2 a0).toInt) from ⟨i1747, ⟨kp_w (by decide) u1757, v1758, kr_w (by decide) v1759⟩, by first | assumption | omega, by first | assumption | omega⟩)
        · have c1774 : (q_I r1745 12 24 a0).toInt ≠ (4 : Int) := o_ne h1772
          refine ok_bdv (fun d1775 e1776 => ?_)
          have i1777 : RI ad h.1 δ0 d1775 := by rw [e1776]; exact cs_12_25 L i1747 k_a0 (show 0 ≤ (0 : Int) by omega) (show (0 : Int) ≤ 60 by omega)
          have u1778 := kp_I u1757 e1776
          have v1779 : q_V d1775 = q_V δ := ((show q_V d1775 = q_V r1745 by rw [e1776]; rfl)).trans v1758
          have v1780 := kr_N v1759 (show q_R d1775 = q_R r1745 by rw [e1776]; rfl)
          refine ok_bdv (fun d1781 e1782 => ?_)
          have i1783 : RI ad h.1 δ0 d1781 := by rw [e1782]; exact cs_12_26 L i1777 k_a0 (show 0 ≤ (0 : Int) by omega) (show (0 : Int) ≤ 500 by omega)
          have u1784 := kp_I u1778 e1782
          have v1785 : q_V d1781 = q_V δ := ((show q_V d1781 = q_V d1775 by rw [e1782]; rfl)).trans v1779
          have v1786 := kr_N v1780 (show q_R d1781 = q_R d1775 by rw [e1782]; rfl)
          refine ok_bdv (fun d1787 e1788 => ?_)
          have i1789 : RI ad h.1 δ0 d1787 := by rw [e1788]; exact cs_12_27 L i1783 k_a0 (show 0 ≤ (0 : Int) by omega) (show (0 : Int) ≤ 3 by omega)
          have u1790 := kp_I u1784 e1788
          have v1791 : q_V d1787 = q_V δ := ((show q_V d1787 = q_V d1781 by rw [e1788]; rfl)).trans v1785
          have v1792 := kr_N v1786 (show q_R d1787 = q_R d1781 by rw [e1788]; rfl)
          refine ok_bind (k_X12_isMore L hN (a0 := a0) k_a0 i1789) (fun r1793 hr1794 => ?_)
          obtain ⟨i1795, ⟨u1799, u1800, u1801, u1802⟩, p1796, p1797, p1798⟩ := hr1794
          have u1803 := kp_t u1790 u1799
          have v1804 : q_V r1793.2 = q_V δ := (u1800).trans v1791
          have v1805 := kr_t v1792 u1802
          have f1806 := bo_l p1796
          have f1807 := cb_12_4 i1789 k_a0
          have f1808 : (q_I d1787 12 4 a0).toInt = (q_I d1781 12 4 a0).toInt := congrArg Int32.toInt (by rw [e1788]; exact rI_o (by decide))
          have f1809 := cb_12_4 i1783 k_a0
          have f1810 : (q_I d1781 12 4 a0).toInt = (q_I d1775 12 4 a0).toInt := congrArg Int32.toInt (by rw [e1782]; exact rI_o (by decide))
          have f1811 := cb_12_4 i1777 k_a0
          have f1812 : (q_I d1775 12 4 a0).toInt = (q_I r1745 12 4 a0).toInt := congrArg Int32.toInt (by rw [e1776]; exact rI_o (by decide))
          have f1813 := cb_12_4 i1795 k_a0
          have f1814 := ti_b r1793.1
          have f1815 := cb_12_3 i1789 k_a0
          have f1816 : (q_I d1787 12 3 a0).toInt = (q_I d1781 12 3 a0).toInt := congrArg Int32.toInt (by rw [e1788]; exact rI_o (by decide))
          have f1817 := cb_12_3 i1783 k_a0
          have f1818 : (q_I d1781 12 3 a0).toInt = (q_I d1775 12 3 a0).toInt := congrArg Int32.toInt (by rw [e1782]; exact rI_o (by decide))
          have f1819 := cb_12_3 i1777 k_a0
          have f1820 : (q_I d1775 12 3 a0).toInt = (q_I r1745 12 3 a0).toInt := congrArg Int32.toInt (by rw [e1776]; exact rI_o (by decide))
          have f1821 := ti_b r1793.1
          refine ok_ite (fun h1822 => ?_) (fun h1822 => ?_)
          · have c1823 : r1793.1.toInt = (0 : Int) := o_eq h1822
            have f1826 := cb_12_3 i1795 k_a0
            have f1827 : (q_I r1793.2 12 3 a0).toInt = (q_I d1787 12 3 a0).toInt := congrArg Int32.toInt (u1799 12 3 a0 (by decide))
            refine ok_bind (k_X12_wrong L hN (a0 := a0) (x1 := (1 : Int32)) (x2 := (q_I r1793.2 12 3 a0)) k_a0 (show 0 ≤ ((q_I r1793.2 12 3 a0)).toInt by first | assumption | omega) (show ((q_I r1793.2 12 3 a0)).toInt ≤ 500 by first | assumption | omega) i1795) (fun r1824 hr1825 => ?_)
            obtain ⟨i1828, ⟨u1831, u1832, u1833, u1834⟩, p1829, p1830⟩ := hr1825
            have u1835 := kp_t u1803 u1831
            have v1836 : q_V r1824 = q_V δ := (u1832).trans v1804
            have v1837 := kr_t v1805 u1834
            have f1838 := cb_12_5 i1828 k_a0
            have f1839 := cb_12_5 i1795 k_a0
            have f1840 : (q_I r1793.2 12 5 a0).toInt = (q_I d1787 12 5 a0).toInt := congrArg Int32.toInt (u1799 12 5 a0 (by decide))
            have f1841 := cb_12_5 i1789 k_a0
            have f1842 : (q_I d1787 12 5 a0).toInt = (q_I d1781 12 5 a0).toInt := congrArg Int32.toInt (by rw [e1788]; exact rI_o (by decide))
            have f1843 := cb_12_5 i1783 k_a0
            have f1844 : (q_I d1781 12 5 a0).toInt = (q_I d1775 12 5 a0).toInt := congrArg Int32.toInt (by rw [e1782]; exact rI_o (by decide))
            have f1845 := cb_12_5 i1777 k_a0
            have f1846 : (q_I d1775 12 5 a0).toInt = (q_I r1745 12 5 a0).toInt := congrArg Int32.toInt (by rw [e1776]; exact rI_o (by decide))
            unfold J_X12_thief_79
            have f1849 := cb_12_24 i1828 k_a0
            have f1850 : (q_I r1824 12 24 a0).toInt = (q_I r1793.2 12 24 a0).toInt := congrArg Int32.toInt (u1831 12 24 a0 (by decide))
            have f1851 := cb_12_24 i1795 k_a0
            have f1852 : (q_I r1793.2 12 24 a0).toInt = (q_I d1787 12 24 a0).toInt := congrArg Int32.toInt (u1799 12 24 a0 (by decide))
            have f1853 := cb_12_24 i1789 k_a0
            have f1854 : (q_I d1787 12 24 a0).toInt = (q_I d1781 12 24 a0).toInt := congrArg Int32.toInt (by rw [e1788]; exact rI_o (by decide))
            have f1855 := cb_12_24 i1783 k_a0
            have f1856 : (q_I d1781 12 24 a0).toInt = (q_I d1775 12 24 a0).toInt := congrArg Int32.toInt (by rw [e1782]; exact rI_o (by decide))
            have f1857 := cb_12_24 i1777 k_a0
            have f1858 : (q_I d1775 12 24 a0).toInt = (q_I r1745 12 24 a0).toInt := congrArg Int32.toInt (by rw [e1776]; exact rI_o (by decide))
            have f1859 := cb_12_26 i1828 k_a0
            have f1860 : (q_I r1824 12 26 a0).toInt = (q_I r1793.2 12 26 a0).toInt := congrArg Int32.toInt (u1831 12 26 a0 (by decide))
            have f1861 := cb_12_26 i1795 k_a0
            have f1862 : (q_I r1793.2 12 26 a0).toInt = (q_I d1787 12 26 a0).toInt := congrArg Int32.toInt (u1799 12 26 a0 (by decide))
            have f1863 := cb_12_26 i1789 k_a0
            have f1864 : (q_I d1787 12 26 a0).toInt = (q_I d1781 12 26 a0).toInt := congrArg Int32.toInt (by rw [e1788]; exact rI_o (by decide))
            have f1865 := cb_12_26 i1783 k_a0
            have f1866 : (q_I d1781 12 26 a0).toInt = (0 : Int) := congrArg Int32.toInt (show q_I d1781 12 26 a0 = (0 : Int32) by rw [e1782]; exact rI_s)
            have f1867 := cb_12_4 i1828 k_a0
            have f1868 : (q_I r1824 12 4 a0).toInt = (q_I r1793.2 12 4 a0).toInt := congrArg Int32.toInt (u1831 12 4 a0 (by decide))
            have f1869 := ti_b (q_I r1824 12 7 a0)
            have f1870 : (q_I r1824 12 7 a0).toInt = (q_I r1793.2 12 7 a0).toInt := congrArg Int32.toInt (u1831 12 7 a0 (by decide))
            have f1871 := ti_b (q_I r1793.2 12 7 a0)
            have f1872 : (q_I r1793.2 12 7 a0).toInt = (q_I d1787 12 7 a0).toInt := congrArg Int32.toInt (u1799 12 7 a0 (by decide))
            have f1873 := ti_b (q_I d1787 12 7 a0)
            have f1874 : (q_I d1787 12 7 a0).toInt = (q_I d1781 12 7 a0).toInt := congrArg Int32.toInt (by rw [e1788]; exact rI_o (by decide))
            have f1875 := ti_b (q_I d1781 12 7 a0)
            have f1876 : (q_I d1781 12 7 a0).toInt = (q_I d1775 12 7 a0).toInt := congrArg Int32.toInt (by rw [e1782]; exact rI_o (by decide))
            have f1877 := ti_b (q_I d1775 12 7 a0)
            have f1878 : (q_I d1775 12 7 a0).toInt = (q_I r1745 12 7 a0).toInt := congrArg Int32.toInt (by rw [e1776]; exact rI_o (by decide))
            have f1879 := cb_12_27 i1828 k_a0
            have f1880 : (q_I r1824 12 27 a0).toInt = (q_I r1793.2 12 27 a0).toInt := congrArg Int32.toInt (u1831 12 27 a0 (by decide))
            have f1881 := cb_12_27 i1795 k_a0
            have f1882 : (q_I r1793.2 12 27 a0).toInt = (q_I d1787 12 27 a0).toInt := congrArg Int32.toInt (u1799 12 27 a0 (by decide))
            have f1883 := cb_12_27 i1789 k_a0
            have f1884 : (q_I d1787 12 27 a0).toInt = (0 : Int) := congrArg Int32.toInt (show q_I d1787 12 27 a0 = (0 : Int32) by rw [e1788]; exact rI_s)
            refine ok_bind (k_X12_readSteps L hN (a0 := a0) k_a0 (show (q_I r1824 12 24 a0).toInt ≤ 3 by first | assumption | omega) (show (q_I r1824 12 26 a0).toInt ≤ (q_I r1824 12 4 a0).toInt by first | assumption | omega) (show (q_I r1824 12 7 a0).toInt = 0 by first | assumption | omega) (show 4 - (q_I r1824 12 27 a0).toInt < 20 by first | assumption | omega) i1828) (fun r1847 hr1848 => ?_)
            obtain ⟨i1885, ⟨u1891, u1892, u1893⟩, p1886, p1887, p1888, p1889, p1890⟩ := hr1848
            have u1894 := kp_t u1835 u1891
            have v1895 : q_V r1847 = q_V δ := (u1892).trans v1836
            have v1896 := kr_t v1837 u1893
            have f1897 := cb_12_4 i1885 k_a0
            have f1898 := cb_12_5 i1885 k_a0
            have f1899 := ti_b (q_I r1847 12 7 a0)
            have f1900 := cb_12_27 i1885 k_a0
            have f1901 := cb_12_26 i1885 k_a0
            refine ok_bind (k_X12_fine L hN (a0 := a0) k_a0 i1885) (fun r1902 hr1903 => ?_)
            obtain ⟨i1904, p1905, p1906, p1907⟩ := hr1903
            try rw [i1904]
            have f1908 := bo_l p1905
            have f1909 := ti_b r1902.1
            have f1910 := ti_b r1902.1
            refine ok_ite (fun h1911 => ?_) (fun h1911 => ?_)
            · have c1912 : r1902.1.toInt = (0 : Int) := o_eq h1911
              unfold J_X12_thief_106
              refine ok_bind (k_X12_result L hN (a0 := a0) (x1 := (q_I r1847 12 24 a0)) k_a0 i1885) (fun r1913 hr1914 => ?_)
              obtain ⟨i1915, ⟨u1916, u1917, u1918, u1919⟩⟩ := hr1914
              have u1920 := kp_t u1894 u1916
              have v1921 : q_V r1913.2 = q_V δ := (u1917).trans v1895
              have v1922 := kr_t v1896 u1919
              have f1923 := ti_b r1913.1
              have f1924 := cb_12_24 i1915 k_a0
              have f1925 : (q_I r1913.2 12 24 a0).toInt = (q_I r1847 12 24 a0).toInt := congrArg Int32.toInt (u1916 12 24 a0 (by decide))
              have f1926 := cb_12_24 i1885 k_a0
              have f1927 : (q_I r1847 12 24 a0).toInt = (q_I r1824 12 24 a0).toInt := congrArg Int32.toInt (u1891 12 24 a0 (by decide))
              refine ok_ite (fun h1928 => ?_) (fun h1928 => ?_)
              · have c1929 : r1913.1.toInt = (q_I r1913.2 12 24 a0).toInt := o_eq h1928
                obtain ⟨b1930, o1931, k1932, n1933⟩ := gO_12_28 L k_a0
                obtain rfl := gS_12_28 L k_a0 o1931
                refine ok_at o1931 ?_
                have t1934 := ti_tn (q_I r1913.2 12 24 a0)
                refine ok_gd (fun hc1935 => ?_) ?_
                · rcases hc1935 with hc1935 | hc1935
                  · have c1936 : (q_I r1913.2 12 24 a0).toInt < (0 : Int) := o_lt hc1935
                    omega
                  · omega
                have f1940 := cb_12_25 i1915 k_a0
                have f1941 : (q_I r1913.2 12 25 a0).toInt = (q_I r1847 12 25 a0).toInt := congrArg Int32.toInt (u1916 12 25 a0 (by decide))
                have f1942 := cb_12_25 i1885 k_a0
                refine ok_bdv (fun d1937 e1938 => ?_)
                have i1939 : RI ad h.1 δ0 d1937 := by rw [e1938]; exact cr_112 L i1915 (show 0 ≤ (q_I r1913.2 12 25 a0).toInt by omega) (show (q_I r1913.2 12 25 a0).toInt ≤ 60 by omega)
                have u1943 := kp_N u1920 (show q_I d1937 = q_I r1913.2 by rw [e1938]; rfl)
                have v1944 : q_V d1937 = q_V δ := ((show q_V d1937 = q_V r1913.2 by rw [e1938]; rfl)).trans v1921
                have v1945 := kr_s L (by decide) v1922 e1938
                have f1949 := cb_12_24 i1939 k_a0
                have f1950 : (q_I d1937 12 24 a0).toInt = (q_I r1913.2 12 24 a0).toInt := congrArg Int32.toInt (by rw [e1938]; rfl)
                first | (have q1952 := te_addc (c := 1) (n := 1) rfl (q_I d1937 12 24 a0) (by omega) (by omega); obtain ⟨f1953, f1954, f1955⟩ := q1952) | (obtain ⟨q1952, f1953, f1954, f1955⟩ := ti_addc (c := 1) (n := 1) rfl (q_I d1937 12 24 a0))
                refine ok_bdv (fun d1946 e1947 => ?_)
                have i1948 : RI ad h.1 δ0 d1946 := by rw [e1947]; exact cs_12_24 L i1939 k_a0 (show 0 ≤ ((q_I d1937 12 24 a0) + (1 : Int32)).toInt by omega) (show ((q_I d1937 12 24 a0) + (1 : Int32)).toInt ≤ 4 by omega)
                have u1956 := kp_I u1943 e1947
                have v1957 : q_V d1946 = q_V δ := ((show q_V d1946 = q_V d1937 by rw [e1947]; rfl)).trans v1944
                have v1958 := kr_N v1945 (show q_R d1946 = q_R d1937 by rw [e1947]; rfl)
                unfold J_X12_thief_146
                have f1959 := cb_12_2 i1948 k_a0
                have f1960 : (q_I d1946 12 2 a0).toInt = (q_I d1937 12 2 a0).toInt := congrArg Int32.toInt (by rw [e1947]; exact rI_o (by decide))
                have f1961 := cb_12_2 i1939 k_a0
                have f1962 : (q_I d1937 12 2 a0).toInt = (q_I r1913.2 12 2 a0).toInt := congrArg Int32.toInt (by rw [e1938]; rfl)
                have f1963 := cb_12_2 i1915 k_a0
                have f1964 : (q_I r1913.2 12 2 a0).toInt = (q_I r1847 12 2 a0).toInt := congrArg Int32.toInt (u1916 12 2 a0 (by decide))
                have f1965 := cb_12_2 i1885 k_a0
                have f1966 : (q_I r1847 12 2 a0).toInt = (q_I r1824 12 2 a0).toInt := congrArg Int32.toInt (u1891 12 2 a0 (by decide))
                have f1967 := cb_12_2 i1828 k_a0
                have f1968 : (q_I r1824 12 2 a0).toInt = (q_I r1793.2 12 2 a0).toInt := congrArg Int32.toInt (u1831 12 2 a0 (by decide))
                have f1969 := cb_12_2 i1795 k_a0
                have f1970 : (q_I r1793.2 12 2 a0).toInt = (q_I d1787 12 2 a0).toInt := congrArg Int32.toInt (u1799 12 2 a0 (by decide))
                have f1971 := cb_12_2 i1789 k_a0
                have f1972 : (q_I d1787 12 2 a0).toInt = (q_I d1781 12 2 a0).toInt := congrArg Int32.toInt (by rw [e1788]; exact rI_o (by decide))
                have f1973 := cb_12_2 i1783 k_a0
                have f1974 : (q_I d1781 12 2 a0).toInt = (q_I d1775 12 2 a0).toInt := congrArg Int32.toInt (by rw [e1782]; exact rI_o (by decide))
                have f1975 := cb_12_2 i1777 k_a0
                have f1976 : (q_I d1775 12 2 a0).toInt = (q_I r1745 12 2 a0).toInt := congrArg Int32.toInt (by rw [e1776]; exact rI_o (by decide))
                exact ok_some (show RI ad h.1 δ0 d1946 ∧ (kp [(12, 0), (12, 2), (12, 3), (12, 4), (12, 5), (12, 6), (12, 7), (12, 8), (12, 24), (12, 25), (12, 26), (12, 27)] δ d1946 ∧ q_V d1946 = q_V δ ∧ kr ad [100, 112, 113, 114, 115, 116, 117] δ d1946) ∧ (0 ≤ (x1).toInt ∧ (x1).toInt ≤ (q_I δ 12 2 a0).toInt → (q_I d1946 12 2 a0).toInt = 0) ∧ ((x1).toInt < 0 ∨ (q_I δ 12 2 a0).toInt < (x1).toInt → (q_I d1946 12 2 a0).toInt = (q_I δ 12 2 a0).toInt) from ⟨i1948, ⟨kp_w (by decide) u1956, v1957, kr_w (by decide) v1958⟩, by first | assumption | omega, by first | assumption | omega⟩)
              · have c1977 : r1913.1.toInt ≠ (q_I r1913.2 12 24 a0).toInt := o_ne h1928
                unfold J_X12_thief_146
                have f1978 := cb_12_2 i1915 k_a0
                have f1979 : (q_I r1913.2 12 2 a0).toInt = (q_I r1847 12 2 a0).toInt := congrArg Int32.toInt (u1916 12 2 a0 (by decide))
                have f1980 := cb_12_2 i1885 k_a0
                have f1981 : (q_I r1847 12 2 a0).toInt = (q_I r1824 12 2 a0).toInt := congrArg Int32.toInt (u1891 12 2 a0 (by decide))
                have f1982 := cb_12_2 i1828 k_a0
                have f1983 : (q_I r1824 12 2 a0).toInt = (q_I r1793.2 12 2 a0).toInt := congrArg Int32.toInt (u1831 12 2 a0 (by decide))
                have f1984 := cb_12_2 i1795 k_a0
                have f1985 : (q_I r1793.2 12 2 a0).toInt = (q_I d1787 12 2 a0).toInt := congrArg Int32.toInt (u1799 12 2 a0 (by decide))
                have f1986 := cb_12_2 i1789 k_a0
                have f1987 : (q_I d1787 12 2 a0).toInt = (q_I d1781 12 2 a0).toInt := congrArg Int32.toInt (by rw [e1788]; exact rI_o (by decide))
                have f1988 := cb_12_2 i1783 k_a0
                have f1989 : (q_I d1781 12 2 a0).toInt = (q_I d1775 12 2 a0).toInt := congrArg Int32.toInt (by rw [e1782]; exact rI_o (by decide))
                have f1990 := cb_12_2 i1777 k_a0
                have f1991 : (q_I d1775 12 2 a0).toInt = (q_I r1745 12 2 a0).toInt := congrArg Int32.toInt (by rw [e1776]; exact rI_o (by decide))
                exact ok_some (show RI ad h.1 δ0 r1913.2 ∧ (kp [(12, 0), (12, 2), (12, 3), (12, 4), (12, 5), (12, 6), (12, 7), (12, 8), (12, 24), (12, 25), (12, 26), (12, 27)] δ r1913.2 ∧ q_V r1913.2 = q_V δ ∧ kr ad [100, 112, 113, 114, 115, 116, 117] δ r1913.2) ∧ (0 ≤ (x1).toInt ∧ (x1).toInt ≤ (q_I δ 12 2 a0).toInt → (q_I r1913.2 12 2 a0).toInt = 0) ∧ ((x1).toInt < 0 ∨ (q_I δ 12 2 a0).toInt < (x1).toInt → (q_I r1913.2 12 2 a0).toInt = (q_I δ 12 2 a0).toInt) from ⟨i1915, ⟨kp_w (by decide) u1920, v1921, kr_w (by decide) v1922⟩, by first | assumption | omega, by first | assumption | omega⟩)
            · have c1992 : r1902.1.toInt ≠ (0 : Int) := o_ne h1911
              refine ok_bind (k_X12_isMore L hN (a0 := a0) k_a0 i1885) (fun r1993 hr1994 => ?_)
              obtain ⟨i1995, ⟨u1999, u2000, u2001, u2002⟩, p1996, p1997, p1998⟩ := hr1994
              have u2003 := kp_t u1894 u1999
              have v2004 : q_V r1993.2 = q_V δ := (u2000).trans v1895
              have v2005 := kr_t v1896 u2002
              have f2006 := bo_l p1996
              have f2007 := cb_12_4 i1995 k_a0
              have f2008 := ti_b r1993.1
              have f2009 := cb_12_3 i1885 k_a0
              have f2010 : (q_I r1847 12 3 a0).toInt = (q_I r1824 12 3 a0).toInt := congrArg Int32.toInt (u1891 12 3 a0 (by decide))
              have f2011 := cb_12_3 i1828 k_a0
              have f2012 : (q_I r1824 12 3 a0).toInt = (q_I r1793.2 12 3 a0).toInt := congrArg Int32.toInt (u1831 12 3 a0 (by decide))
              have f2013 := ti_b r1993.1
              refine ok_ite (fun h2014 => ?_) (fun h2014 => ?_)
              · have c2015 : r1993.1.toInt = (0 : Int) := o_eq h2014
                unfold J_X12_thief_106
                refine ok_bind (k_X12_result L hN (a0 := a0) (x1 := (q_I r1993.2 12 24 a0)) k_a0 i1995) (fun r2016 hr2017 => ?_)
                obtain ⟨i2018, ⟨u2019, u2020, u2021, u2022⟩⟩ := hr2017
                have u2023 := kp_t u2003 u2019
                have v2024 : q_V r2016.2 = q_V δ := (u2020).trans v2004
                have v2025 := kr_t v2005 u2022
                have f2026 := ti_b r2016.1
                have f2027 := cb_12_24 i2018 k_a0
                have f2028 : (q_I r2016.2 12 24 a0).toInt = (q_I r1993.2 12 24 a0).toInt := congrArg Int32.toInt (u2019 12 24 a0 (by decide))
                have f2029 := cb_12_24 i1995 k_a0
                have f2030 : (q_I r1993.2 12 24 a0).toInt = (q_I r1847 12 24 a0).toInt := congrArg Int32.toInt (u1999 12 24 a0 (by decide))
                have f2031 := cb_12_24 i1885 k_a0
                have f2032 : (q_I r1847 12 24 a0).toInt = (q_I r1824 12 24 a0).toInt := congrArg Int32.toInt (u1891 12 24 a0 (by decide))
                refine ok_ite (fun h2033 => ?_) (fun h2033 => ?_)
                · have c2034 : r2016.1.toInt = (q_I r2016.2 12 24 a0).toInt := o_eq h2033
                  obtain ⟨b2035, o2036, k2037, n2038⟩ := gO_12_28 L k_a0
                  obtain rfl := gS_12_28 L k_a0 o2036
                  refine ok_at o2036 ?_
                  have t2039 := ti_tn (q_I r2016.2 12 24 a0)
                  refine ok_gd (fun hc2040 => ?_) ?_
                  · rcases hc2040 with hc2040 | hc2040
                    · have c2041 : (q_I r2016.2 12 24 a0).toInt < (0 : Int) := o_lt hc2040
                      omega
                    · omega
                  have f2045 := cb_12_25 i2018 k_a0
                  have f2046 : (q_I r2016.2 12 25 a0).toInt = (q_I r1993.2 12 25 a0).toInt := congrArg Int32.toInt (u2019 12 25 a0 (by decide))
                  have f2047 := cb_12_25 i1995 k_a0
                  have f2048 : (q_I r1993.2 12 25 a0).toInt = (q_I r1847 12 25 a0).toInt := congrArg Int32.toInt (u1999 12 25 a0 (by decide))
                  have f2049 := cb_12_25 i1885 k_a0
                  refine ok_bdv (fun d2042 e2043 => ?_)
                  have i2044 : RI ad h.1 δ0 d2042 := by rw [e2043]; exact cr_112 L i2018 (show 0 ≤ (q_I r2016.2 12 25 a0).toInt by omega) (show (q_I r2016.2 12 25 a0).toInt ≤ 60 by omega)
                  have u2050 := kp_N u2023 (show q_I d2042 = q_I r2016.2 by rw [e2043]; rfl)
                  have v2051 : q_V d2042 = q_V δ := ((show q_V d2042 = q_V r2016.2 by rw [e2043]; rfl)).trans v2024
                  have v2052 := kr_s L (by decide) v2025 e2043
                  have f2056 := cb_12_24 i2044 k_a0
                  have f2057 : (q_I d2042 12 24 a0).toInt = (q_I r2016.2 12 24 a0).toInt := congrArg Int32.toInt (by rw [e2043]; rfl)
                  first | (have q2059 := te_addc (c := 1) (n := 1) rfl (q_I d2042 12 24 a0) (by omega) (by omega); obtain ⟨f2060, f2061, f2062⟩ := q2059) | (obtain ⟨q2059, f2060, f2061, f2062⟩ := ti_addc (c := 1) (n := 1) rfl (q_I d2042 12 24 a0))
                  refine ok_bdv (fun d2053 e2054 => ?_)
                  have i2055 : RI ad h.1 δ0 d2053 := by rw [e2054]; exact cs_12_24 L i2044 k_a0 (show 0 ≤ ((q_I d2042 12 24 a0) + (1 : Int32)).toInt by omega) (show ((q_I d2042 12 24 a0) + (1 : Int32)).toInt ≤ 4 by omega)
                  have u2063 := kp_I u2050 e2054
                  have v2064 : q_V d2053 = q_V δ := ((show q_V d2053 = q_V d2042 by rw [e2054]; rfl)).trans v2051
                  have v2065 := kr_N v2052 (show q_R d2053 = q_R d2042 by rw [e2054]; rfl)
                  unfold J_X12_thief_146
                  have f2066 := cb_12_2 i2055 k_a0
                  have f2067 : (q_I d2053 12 2 a0).toInt = (q_I d2042 12 2 a0).toInt := congrArg Int32.toInt (by rw [e2054]; exact rI_o (by decide))
                  have f2068 := cb_12_2 i2044 k_a0
                  have f2069 : (q_I d2042 12 2 a0).toInt = (q_I r2016.2 12 2 a0).toInt := congrArg Int32.toInt (by rw [e2043]; rfl)
                  have f2070 := cb_12_2 i2018 k_a0
                  have f2071 : (q_I r2016.2 12 2 a0).toInt = (q_I r1993.2 12 2 a0).toInt := congrArg Int32.toInt (u2019 12 2 a0 (by decide))
                  have f2072 := cb_12_2 i1995 k_a0
                  have f2073 : (q_I r1993.2 12 2 a0).toInt = (q_I r1847 12 2 a0).toInt := congrArg Int32.toInt (u1999 12 2 a0 (by decide))
                  have f2074 := cb_12_2 i1885 k_a0
                  have f2075 : (q_I r1847 12 2 a0).toInt = (q_I r1824 12 2 a0).toInt := congrArg Int32.toInt (u1891 12 2 a0 (by decide))
                  have f2076 := cb_12_2 i1828 k_a0
                  have f2077 : (q_I r1824 12 2 a0).toInt = (q_I r1793.2 12 2 a0).toInt := congrArg Int32.toInt (u1831 12 2 a0 (by decide))
                  have f2078 := cb_12_2 i1795 k_a0
                  have f2079 : (q_I r1793.2 12 2 a0).toInt = (q_I d1787 12 2 a0).toInt := congrArg Int32.toInt (u1799 12 2 a0 (by decide))
                  have f2080 := cb_12_2 i1789 k_a0
                  have f2081 : (q_I d1787 12 2 a0).toInt = (q_I d1781 12 2 a0).toInt := congrArg Int32.toInt (by rw [e1788]; exact rI_o (by decide))
                  have f2082 := cb_12_2 i1783 k_a0
                  have f2083 : (q_I d1781 12 2 a0).toInt = (q_I d1775 12 2 a0).toInt := congrArg Int32.toInt (by rw [e1782]; exact rI_o (by decide))
                  have f2084 := cb_12_2 i1777 k_a0
                  have f2085 : (q_I d1775 12 2 a0).toInt = (q_I r1745 12 2 a0).toInt := congrArg Int32.toInt (by rw [e1776]; exact rI_o (by decide))
                  exact ok_some (show RI ad h.1 δ0 d2053 ∧ (kp [(12, 0), (12, 2), (12, 3), (12, 4), (12, 5), (12, 6), (12, 7), (12, 8), (12, 24), (12, 25), (12, 26), (12, 27)] δ d2053 ∧ q_V d2053 = q_V δ ∧ kr ad [100, 112, 113, 114, 115, 116, 117] δ d2053) ∧ (0 ≤ (x1).toInt ∧ (x1).toInt ≤ (q_I δ 12 2 a0).toInt → (q_I d2053 12 2 a0).toInt = 0) ∧ ((x1).toInt < 0 ∨ (q_I δ 12 2 a0).toInt < (x1).toInt → (q_I d2053 12 2 a0).toInt = (q_I δ 12 2 a0).toInt) from ⟨i2055, ⟨kp_w (by decide) u2063, v2064, kr_w (by decide) v2065⟩, by first | assumption | omega, by first | assumption | omega⟩)
                · have c2086 : r2016.1.toInt ≠ (q_I r2016.2 12 24 a0).toInt := o_ne h2033
                  unfold J_X12_thief_146
                  have f2087 := cb_12_2 i2018 k_a0
                  have f2088 : (q_I r2016.2 12 2 a0).toInt = (q_I r1993.2 12 2 a0).toInt := congrArg Int32.toInt (u2019 12 2 a0 (by decide))
                  have f2089 := cb_12_2 i1995 k_a0
                  have f2090 : (q_I r1993.2 12 2 a0).toInt = (q_I r1847 12 2 a0).toInt := congrArg Int32.toInt (u1999 12 2 a0 (by decide))
                  have f2091 := cb_12_2 i1885 k_a0
                  have f2092 : (q_I r1847 12 2 a0).toInt = (q_I r1824 12 2 a0).toInt := congrArg Int32.toInt (u1891 12 2 a0 (by decide))
                  have f2093 := cb_12_2 i1828 k_a0
                  have f2094 : (q_I r1824 12 2 a0).toInt = (q_I r1793.2 12 2 a0).toInt := congrArg Int32.toInt (u1831 12 2 a0 (by decide))
                  have f2095 := cb_12_2 i1795 k_a0
                  have f2096 : (q_I r1793.2 12 2 a0).toInt = (q_I d1787 12 2 a0).toInt := congrArg Int32.toInt (u1799 12 2 a0 (by decide))
                  have f2097 := cb_12_2 i1789 k_a0
                  have f2098 : (q_I d1787 12 2 a0).toInt = (q_I d1781 12 2 a0).toInt := congrArg Int32.toInt (by rw [e1788]; exact rI_o (by decide))
                  have f2099 := cb_12_2 i1783 k_a0
                  have f2100 : (q_I d1781 12 2 a0).toInt = (q_I d1775 12 2 a0).toInt := congrArg Int32.toInt (by rw [e1782]; exact rI_o (by decide))
                  have f2101 := cb_12_2 i1777 k_a0
                  have f2102 : (q_I d1775 12 2 a0).toInt = (q_I r1745 12 2 a0).toInt := congrArg Int32.toInt (by rw [e1776]; exact rI_o (by decide))
                  exact ok_some (show RI ad h.1 δ0 r2016.2 ∧ (kp [(12, 0), (12, 2), (12, 3), (12, 4), (12, 5), (12, 6), (12, 7), (12, 8), (12, 24), (12, 25), (12, 26), (12, 27)] δ r2016.2 ∧ q_V r2016.2 = q_V δ ∧ kr ad [100, 112, 113, 114, 115, 116, 117] δ r2016.2) ∧ (0 ≤ (x1).toInt ∧ (x1).toInt ≤ (q_I δ 12 2 a0).toInt → (q_I r2016.2 12 2 a0).toInt = 0) ∧ ((x1).toInt < 0 ∨ (q_I δ 12 2 a0).toInt < (x1).toInt → (q_I r2016.2 12 2 a0).toInt = (q_I δ 12 2 a0).toInt) from ⟨i2018, ⟨kp_w (by decide) u2023, v2024, kr_w (by decide) v2025⟩, by first | assumption | omega, by first | assumption | omega⟩)
              · have c2103 : r1993.1.toInt ≠ (0 : Int) := o_ne h2014
                refine ok_bind (k_X12_wrong L hN (a0 := a0) (x1 := (1 : Int32)) (x2 := (q_I r1993.2 12 4 a0)) k_a0 (show 0 ≤ ((q_I r1993.2 12 4 a0)).toInt by first | assumption | omega) (show ((q_I r1993.2 12 4 a0)).toInt ≤ 500 by first | assumption | omega) i1995) (fun r2104 hr2105 => ?_)
                obtain ⟨i2106, ⟨u2109, u2110, u2111, u2112⟩, p2107, p2108⟩ := hr2105
                have u2113 := kp_t u2003 u2109
                have v2114 : q_V r2104 = q_V δ := (u2110).trans v2004
                have v2115 := kr_t v2005 u2112
                have f2116 := cb_12_5 i2106 k_a0
                have f2117 := cb_12_5 i1995 k_a0
                have f2118 : (q_I r1993.2 12 5 a0).toInt = (q_I r1847 12 5 a0).toInt := congrArg Int32.toInt (u1999 12 5 a0 (by decide))
                unfold J_X12_thief_106
                refine ok_bind (k_X12_result L hN (a0 := a0) (x1 := (q_I r2104 12 24 a0)) k_a0 i2106) (fun r2119 hr2120 => ?_)
                obtain ⟨i2121, ⟨u2122, u2123, u2124, u2125⟩⟩ := hr2120
                have u2126 := kp_t u2113 u2122
                have v2127 : q_V r2119.2 = q_V δ := (u2123).trans v2114
                have v2128 := kr_t v2115 u2125
                have f2129 := ti_b r2119.1
                have f2130 := cb_12_24 i2121 k_a0
                have f2131 : (q_I r2119.2 12 24 a0).toInt = (q_I r2104 12 24 a0).toInt := congrArg Int32.toInt (u2122 12 24 a0 (by decide))
                have f2132 := cb_12_24 i2106 k_a0
                have f2133 : (q_I r2104 12 24 a0).toInt = (q_I r1993.2 12 24 a0).toInt := congrArg Int32.toInt (u2109 12 24 a0 (by decide))
                have f2134 := cb_12_24 i1995 k_a0
                have f2135 : (q_I r1993.2 12 24 a0).toInt = (q_I r1847 12 24 a0).toInt := congrArg Int32.toInt (u1999 12 24 a0 (by decide))
                have f2136 := cb_12_24 i1885 k_a0
                have f2137 : (q_I r1847 12 24 a0).toInt = (q_I r1824 12 24 a0).toInt := congrArg Int32.toInt (u1891 12 24 a0 (by decide))
                refine ok_ite (fun h2138 => ?_) (fun h2138 => ?_)
                · have c2139 : r2119.1.toInt = (q_I r2119.2 12 24 a0).toInt := o_eq h2138
                  obtain ⟨b2140, o2141, k2142, n2143⟩ := gO_12_28 L k_a0
                  obtain rfl := gS_12_28 L k_a0 o2141
                  refine ok_at o2141 ?_
                  have t2144 := ti_tn (q_I r2119.2 12 24 a0)
                  refine ok_gd (fun hc2145 => ?_) ?_
                  · rcases hc2145 with hc2145 | hc2145
                    · have c2146 : (q_I r2119.2 12 24 a0).toInt < (0 : Int) := o_lt hc2145
                      omega
                    · omega
                  have f2150 := cb_12_25 i2121 k_a0
                  have f2151 : (q_I r2119.2 12 25 a0).toInt = (q_I r2104 12 25 a0).toInt := congrArg Int32.toInt (u2122 12 25 a0 (by decide))
                  have f2152 := cb_12_25 i2106 k_a0
                  have f2153 : (q_I r2104 12 25 a0).toInt = (q_I r1993.2 12 25 a0).toInt := congrArg Int32.toInt (u2109 12 25 a0 (by decide))
                  have f2154 := cb_12_25 i1995 k_a0
                  have f2155 : (q_I r1993.2 12 25 a0).toInt = (q_I r1847 12 25 a0).toInt := congrArg Int32.toInt (u1999 12 25 a0 (by decide))
                  have f2156 := cb_12_25 i1885 k_a0
                  refine ok_bdv (fun d2147 e2148 => ?_)
                  have i2149 : RI ad h.1 δ0 d2147 := by rw [e2148]; exact cr_112 L i2121 (show 0 ≤ (q_I r2119.2 12 25 a0).toInt by omega) (show (q_I r2119.2 12 25 a0).toInt ≤ 60 by omega)
                  have u2157 := kp_N u2126 (show q_I d2147 = q_I r2119.2 by rw [e2148]; rfl)
                  have v2158 : q_V d2147 = q_V δ := ((show q_V d2147 = q_V r2119.2 by rw [e2148]; rfl)).trans v2127
                  have v2159 := kr_s L (by decide) v2128 e2148
                  have f2163 := cb_12_24 i2149 k_a0
                  have f2164 : (q_I d2147 12 24 a0).toInt = (q_I r2119.2 12 24 a0).toInt := congrArg Int32.toInt (by rw [e2148]; rfl)
                  first | (have q2166 := te_addc (c := 1) (n := 1) rfl (q_I d2147 12 24 a0) (by omega) (by omega); obtain ⟨f2167, f2168, f2169⟩ := q2166) | (obtain ⟨q2166, f2167, f2168, f2169⟩ := ti_addc (c := 1) (n := 1) rfl (q_I d2147 12 24 a0))
                  refine ok_bdv (fun d2160 e2161 => ?_)
                  have i2162 : RI ad h.1 δ0 d2160 := by rw [e2161]; exact cs_12_24 L i2149 k_a0 (show 0 ≤ ((q_I d2147 12 24 a0) + (1 : Int32)).toInt by omega) (show ((q_I d2147 12 24 a0) + (1 : Int32)).toInt ≤ 4 by omega)
                  have u2170 := kp_I u2157 e2161
                  have v2171 : q_V d2160 = q_V δ := ((show q_V d2160 = q_V d2147 by rw [e2161]; rfl)).trans v2158
                  have v2172 := kr_N v2159 (show q_R d2160 = q_R d2147 by rw [e2161]; rfl)
                  unfold J_X12_thief_146
                  have f2173 := cb_12_2 i2162 k_a0
                  have f2174 : (q_I d2160 12 2 a0).toInt = (q_I d2147 12 2 a0).toInt := congrArg Int32.toInt (by rw [e2161]; exact rI_o (by decide))
                  have f2175 := cb_12_2 i2149 k_a0
                  have f2176 : (q_I d2147 12 2 a0).toInt = (q_I r2119.2 12 2 a0).toInt := congrArg Int32.toInt (by rw [e2148]; rfl)
                  have f2177 := cb_12_2 i2121 k_a0
                  have f2178 : (q_I r2119.2 12 2 a0).toInt = (q_I r2104 12 2 a0).toInt := congrArg Int32.toInt (u2122 12 2 a0 (by decide))
                  have f2179 := cb_12_2 i2106 k_a0
                  have f2180 : (q_I r2104 12 2 a0).toInt = (q_I r1993.2 12 2 a0).toInt := congrArg Int32.toInt (u2109 12 2 a0 (by decide))
                  have f2181 := cb_12_2 i1995 k_a0
                  have f2182 : (q_I r1993.2 12 2 a0).toInt = (q_I r1847 12 2 a0).toInt := congrArg Int32.toInt (u1999 12 2 a0 (by decide))
                  have f2183 := cb_12_2 i1885 k_a0
                  have f2184 : (q_I r1847 12 2 a0).toInt = (q_I r1824 12 2 a0).toInt := congrArg Int32.toInt (u1891 12 2 a0 (by decide))
                  have f2185 := cb_12_2 i1828 k_a0
                  have f2186 : (q_I r1824 12 2 a0).toInt = (q_I r1793.2 12 2 a0).toInt := congrArg Int32.toInt (u1831 12 2 a0 (by decide))
                  have f2187 := cb_12_2 i1795 k_a0
                  have f2188 : (q_I r1793.2 12 2 a0).toInt = (q_I d1787 12 2 a0).toInt := congrArg Int32.toInt (u1799 12 2 a0 (by decide))
                  have f2189 := cb_12_2 i1789 k_a0
                  have f2190 : (q_I d1787 12 2 a0).toInt = (q_I d1781 12 2 a0).toInt := congrArg Int32.toInt (by rw [e1788]; exact rI_o (by decide))
                  have f2191 := cb_12_2 i1783 k_a0
                  have f2192 : (q_I d1781 12 2 a0).toInt = (q_I d1775 12 2 a0).toInt := congrArg Int32.toInt (by rw [e1782]; exact rI_o (by decide))
                  have f2193 := cb_12_2 i1777 k_a0
                  have f2194 : (q_I d1775 12 2 a0).toInt = (q_I r1745 12 2 a0).toInt := congrArg Int32.toInt (by rw [e1776]; exact rI_o (by decide))
                  exact ok_some (show RI ad h.1 δ0 d2160 ∧ (kp [(12, 0), (12, 2), (12, 3), (12, 4), (12, 5), (12, 6), (12, 7), (12, 8), (12, 24), (12, 25), (12, 26), (12, 27)] δ d2160 ∧ q_V d2160 = q_V δ ∧ kr ad [100, 112, 113, 114, 115, 116, 117] δ d2160) ∧ (0 ≤ (x1).toInt ∧ (x1).toInt ≤ (q_I δ 12 2 a0).toInt → (q_I d2160 12 2 a0).toInt = 0) ∧ ((x1).toInt < 0 ∨ (q_I δ 12 2 a0).toInt < (x1).toInt → (q_I d2160 12 2 a0).toInt = (q_I δ 12 2 a0).toInt) from ⟨i2162, ⟨kp_w (by decide) u2170, v2171, kr_w (by decide) v2172⟩, by first | assumption | omega, by first | assumption | omega⟩)
                · have c2195 : r2119.1.toInt ≠ (q_I r2119.2 12 24 a0).toInt := o_ne h2138
                  unfold J_X12_thief_146
                  have f2196 := cb_12_2 i2121 k_a0
                  have f2197 : (q_I r2119.2 12 2 a0).toInt = (q_I r2104 12 2 a0).toInt := congrArg Int32.toInt (u2122 12 2 a0 (by decide))
                  have f2198 := cb_12_2 i2106 k_a0
                  have f2199 : (q_I r2104 12 2 a0).toInt = (q_I r1993.2 12 2 a0).toInt := congrArg Int32.toInt (u2109 12 2 a0 (by decide))
                  have f2200 := cb_12_2 i1995 k_a0
                  have f2201 : (q_I r1993.2 12 2 a0).toInt = (q_I r1847 12 2 a0).toInt := congrArg Int32.toInt (u1999 12 2 a0 (by decide))
                  have f2202 := cb_12_2 i1885 k_a0
                  have f2203 : (q_I r1847 12 2 a0).toInt = (q_I r1824 12 2 a0).toInt := congrArg Int32.toInt (u1891 12 2 a0 (by decide))
                  have f2204 := cb_12_2 i1828 k_a0
                  have f2205 : (q_I r1824 12 2 a0).toInt = (q_I r1793.2 12 2 a0).toInt := congrArg Int32.toInt (u1831 12 2 a0 (by decide))
                  have f2206 := cb_12_2 i1795 k_a0
                  have f2207 : (q_I r1793.2 12 2 a0).toInt = (q_I d1787 12 2 a0).toInt := congrArg Int32.toInt (u1799 12 2 a0 (by decide))
                  have f2208 := cb_12_2 i1789 k_a0
                  have f2209 : (q_I d1787 12 2 a0).toInt = (q_I d1781 12 2 a0).toInt := congrArg Int32.toInt (by rw [e1788]; exact rI_o (by decide))
                  have f2210 := cb_12_2 i1783 k_a0
                  have f2211 : (q_I d1781 12 2 a0).toInt = (q_I d1775 12 2 a0).toInt := congrArg Int32.toInt (by rw [e1782]; exact rI_o (by decide))
                  have f2212 := cb_12_2 i1777 k_a0
                  have f2213 : (q_I d1775 12 2 a0).toInt = (q_I r1745 12 2 a0).toInt := congrArg Int32.toInt (by rw [e1776]; exact rI_o (by decide))
                  exact ok_some (show RI ad h.1 δ0 r2119.2 ∧ (kp [(12, 0), (12, 2), (12, 3), (12, 4), (12, 5), (12, 6), (12, 7), (12, 8), (12, 24), (12, 25), (12, 26), (12, 27)] δ r2119.2 ∧ q_V r2119.2 = q_V δ ∧ kr ad [100, 112, 113, 114, 115, 116, 117] δ r2119.2) ∧ (0 ≤ (x1).toInt ∧ (x1).toInt ≤ (q_I δ 12 2 a0).toInt → (q_I r2119.2 12 2 a0).toInt = 0) ∧ ((x1).toInt < 0 ∨ (q_I δ 12 2 a0).toInt < (x1).toInt → (q_I r2119.2 12 2 a0).toInt = (q_I δ 12 2 a0).toInt) from ⟨i2121, ⟨kp_w (by decide) u2126, v2127, kr_w (by decide) v2128⟩, by first | assumption | omega, by first | assumption | omega⟩)
          · have c2214 : r1793.1.toInt ≠ (0 : Int) := o_ne h1822
            unfold J_X12_thief_79
            have f2217 := cb_12_24 i1795 k_a0
            have f2218 : (q_I r1793.2 12 24 a0).toInt = (q_I d1787 12 24 a0).toInt := congrArg Int32.toInt (u1799 12 24 a0 (by decide))
            have f2219 := cb_12_24 i1789 k_a0
            have f2220 : (q_I d1787 12 24 a0).toInt = (q_I d1781 12 24 a0).toInt := congrArg Int32.toInt (by rw [e1788]; exact rI_o (by decide))
            have f2221 := cb_12_24 i1783 k_a0
            have f2222 : (q_I d1781 12 24 a0).toInt = (q_I d1775 12 24 a0).toInt := congrArg Int32.toInt (by rw [e1782]; exact rI_o (by decide))
            have f2223 := cb_12_24 i1777 k_a0
            have f2224 : (q_I d1775 12 24 a0).toInt = (q_I r1745 12 24 a0).toInt := congrArg Int32.toInt (by rw [e1776]; exact rI_o (by decide))
            have f2225 := cb_12_26 i1795 k_a0
            have f2226 : (q_I r1793.2 12 26 a0).toInt = (q_I d1787 12 26 a0).toInt := congrArg Int32.toInt (u1799 12 26 a0 (by decide))
            have f2227 := cb_12_26 i1789 k_a0
            have f2228 : (q_I d1787 12 26 a0).toInt = (q_I d1781 12 26 a0).toInt := congrArg Int32.toInt (by rw [e1788]; exact rI_o (by decide))
            have f2229 := cb_12_26 i1783 k_a0
            have f2230 : (q_I d1781 12 26 a0).toInt = (0 : Int) := congrArg Int32.toInt (show q_I d1781 12 26 a0 = (0 : Int32) by rw [e1782]; exact rI_s)
            have f2231 := ti_b (q_I r1793.2 12 7 a0)
            have f2232 : (q_I r1793.2 12 7 a0).toInt = (q_I d1787 12 7 a0).toInt := congrArg Int32.toInt (u1799 12 7 a0 (by decide))
            have f2233 := ti_b (q_I d1787 12 7 a0)
            have f2234 : (q_I d1787 12 7 a0).toInt = (q_I d1781 12 7 a0).toInt := congrArg Int32.toInt (by rw [e1788]; exact rI_o (by decide))
            have f2235 := ti_b (q_I d1781 12 7 a0)
            have f2236 : (q_I d1781 12 7 a0).toInt = (q_I d1775 12 7 a0).toInt := congrArg Int32.toInt (by rw [e1782]; exact rI_o (by decide))
            have f2237 := ti_b (q_I d1775 12 7 a0)
            have f2238 : (q_I d1775 12 7 a0).toInt = (q_I r1745 12 7 a0).toInt := congrArg Int32.toInt (by rw [e1776]; exact rI_o (by decide))
            have f2239 := cb_12_27 i1795 k_a0
            have f2240 : (q_I r1793.2 12 27 a0).toInt = (q_I d1787 12 27 a0).toInt := congrArg Int32.toInt (u1799 12 27 a0 (by decide))
            have f2241 := cb_12_27 i1789 k_a0
            have f2242 : (q_I d1787 12 27 a0).toInt = (0 : Int) := congrArg Int32.toInt (show q_I d1787 12 27 a0 = (0 : Int32) by rw [e1788]; exact rI_s)
            refine ok_bind (k_X12_readSteps L hN (a0 := a0) k_a0 (show (q_I r1793.2 12 24 a0).toInt ≤ 3 by first | assumption | omega) (show (q_I r1793.2 12 26 a0).toInt ≤ (q_I r1793.2 12 4 a0).toInt by first | assumption | omega) (show (q_I r1793.2 12 7 a0).toInt = 0 by first | assumption | omega) (show 4 - (q_I r1793.2 12 27 a0).toInt < 20 by first | assumption | omega) i1795) (fun r2215 hr2216 => ?_)
            obtain ⟨i2243, ⟨u2249, u2250, u2251⟩, p2244, p2245, p2246, p2247, p2248⟩ := hr2216
            have u2252 := kp_t u1803 u2249
            have v2253 : q_V r2215 = q_V δ := (u2250).trans v1804
            have v2254 := kr_t v1805 u2251
            have f2255 := cb_12_4 i2243 k_a0
            have f2256 := cb_12_5 i1795 k_a0
            have f2257 : (q_I r1793.2 12 5 a0).toInt = (q_I d1787 12 5 a0).toInt := congrArg Int32.toInt (u1799 12 5 a0 (by decide))
            have f2258 := cb_12_5 i1789 k_a0
            have f2259 : (q_I d1787 12 5 a0).toInt = (q_I d1781 12 5 a0).toInt := congrArg Int32.toInt (by rw [e1788]; exact rI_o (by decide))
            have f2260 := cb_12_5 i1783 k_a0
            have f2261 : (q_I d1781 12 5 a0).toInt = (q_I d1775 12 5 a0).toInt := congrArg Int32.toInt (by rw [e1782]; exact rI_o (by decide))
            have f2262 := cb_12_5 i1777 k_a0
            have f2263 : (q_I d1775 12 5 a0).toInt = (q_I r1745 12 5 a0).toInt := congrArg Int32.toInt (by rw [e1776]; exact rI_o (by decide))
            have f2264 := cb_12_5 i2243 k_a0
            have f2265 := ti_b (q_I r2215 12 7 a0)
            have f2266 := cb_12_27 i2243 k_a0
            have f2267 := cb_12_26 i2243 k_a0
            refine ok_bind (k_X12_fine L hN (a0 := a0) k_a0 i2243) (fun r2268 hr2269 => ?_)
            obtain ⟨i2270, p2271, p2272, p2273⟩ := hr2269
            try rw [i2270]
            have f2274 := bo_l p2271
            have f2275 := ti_b r2268.1
            have f2276 := ti_b r2268.1
            refine ok_ite (fun h2277 => ?_) (fun h2277 => ?_)
            · have c2278 : r2268.1.toInt = (0 : Int) := o_eq h2277
              unfold J_X12_thief_106
              refine ok_bind (k_X12_result L hN (a0 := a0) (x1 := (q_I r2215 12 24 a0)) k_a0 i2243) (fun r2279 hr2280 => ?_)
              obtain ⟨i2281, ⟨u2282, u2283, u2284, u2285⟩⟩ := hr2280
              have u2286 := kp_t u2252 u2282
              have v2287 : q_V r2279.2 = q_V δ := (u2283).trans v2253
              have v2288 := kr_t v2254 u2285
              have f2289 := ti_b r2279.1
              have f2290 := cb_12_24 i2281 k_a0
              have f2291 : (q_I r2279.2 12 24 a0).toInt = (q_I r2215 12 24 a0).toInt := congrArg Int32.toInt (u2282 12 24 a0 (by decide))
              have f2292 := cb_12_24 i2243 k_a0
              have f2293 : (q_I r2215 12 24 a0).toInt = (q_I r1793.2 12 24 a0).toInt := congrArg Int32.toInt (u2249 12 24 a0 (by decide))
              refine ok_ite (fun h2294 => ?_) (fun h2294 => ?_)
              · have c2295 : r2279.1.toInt = (q_I r2279.2 12 24 a0).toInt := o_eq h2294
                obtain ⟨b2296, o2297, k2298, n2299⟩ := gO_12_28 L k_a0
                obtain rfl := gS_12_28 L k_a0 o2297
                refine ok_at o2297 ?_
                have t2300 := ti_tn (q_I r2279.2 12 24 a0)
                refine ok_gd (fun hc2301 => ?_) ?_
                · rcases hc2301 with hc2301 | hc2301
                  · have c2302 : (q_I r2279.2 12 24 a0).toInt < (0 : Int) := o_lt hc2301
                    omega
                  · omega
                have f2306 := cb_12_25 i2281 k_a0
                have f2307 : (q_I r2279.2 12 25 a0).toInt = (q_I r2215 12 25 a0).toInt := congrArg Int32.toInt (u2282 12 25 a0 (by decide))
                have f2308 := cb_12_25 i2243 k_a0
                refine ok_bdv (fun d2303 e2304 => ?_)
                have i2305 : RI ad h.1 δ0 d2303 := by rw [e2304]; exact cr_112 L i2281 (show 0 ≤ (q_I r2279.2 12 25 a0).toInt by omega) (show (q_I r2279.2 12 25 a0).toInt ≤ 60 by omega)
                have u2309 := kp_N u2286 (show q_I d2303 = q_I r2279.2 by rw [e2304]; rfl)
                have v2310 : q_V d2303 = q_V δ := ((show q_V d2303 = q_V r2279.2 by rw [e2304]; rfl)).trans v2287
                have v2311 := kr_s L (by decide) v2288 e2304
                have f2315 := cb_12_24 i2305 k_a0
                have f2316 : (q_I d2303 12 24 a0).toInt = (q_I r2279.2 12 24 a0).toInt := congrArg Int32.toInt (by rw [e2304]; rfl)
                first | (have q2318 := te_addc (c := 1) (n := 1) rfl (q_I d2303 12 24 a0) (by omega) (by omega); obtain ⟨f2319, f2320, f2321⟩ := q2318) | (obtain ⟨q2318, f2319, f2320, f2321⟩ := ti_addc (c := 1) (n := 1) rfl (q_I d2303 12 24 a0))
                refine ok_bdv (fun d2312 e2313 => ?_)
                have i2314 : RI ad h.1 δ0 d2312 := by rw [e2313]; exact cs_12_24 L i2305 k_a0 (show 0 ≤ ((q_I d2303 12 24 a0) + (1 : Int32)).toInt by omega) (show ((q_I d2303 12 24 a0) + (1 : Int32)).toInt ≤ 4 by omega)
                have u2322 := kp_I u2309 e2313
                have v2323 : q_V d2312 = q_V δ := ((show q_V d2312 = q_V d2303 by rw [e2313]; rfl)).trans v2310
                have v2324 := kr_N v2311 (show q_R d2312 = q_R d2303 by rw [e2313]; rfl)
                unfold J_X12_thief_146
                have f2325 := cb_12_2 i2314 k_a0
                have f2326 : (q_I d2312 12 2 a0).toInt = (q_I d2303 12 2 a0).toInt := congrArg Int32.toInt (by rw [e2313]; exact rI_o (by decide))
                have f2327 := cb_12_2 i2305 k_a0
                have f2328 : (q_I d2303 12 2 a0).toInt = (q_I r2279.2 12 2 a0).toInt := congrArg Int32.toInt (by rw [e2304]; rfl)
                have f2329 := cb_12_2 i2281 k_a0
                have f2330 : (q_I r2279.2 12 2 a0).toInt = (q_I r2215 12 2 a0).toInt := congrArg Int32.toInt (u2282 12 2 a0 (by decide))
                have f2331 := cb_12_2 i2243 k_a0
                have f2332 : (q_I r2215 12 2 a0).toInt = (q_I r1793.2 12 2 a0).toInt := congrArg Int32.toInt (u2249 12 2 a0 (by decide))
                have f2333 := cb_12_2 i1795 k_a0
                have f2334 : (q_I r1793.2 12 2 a0).toInt = (q_I d1787 12 2 a0).toInt := congrArg Int32.toInt (u1799 12 2 a0 (by decide))
                have f2335 := cb_12_2 i1789 k_a0
                have f2336 : (q_I d1787 12 2 a0).toInt = (q_I d1781 12 2 a0).toInt := congrArg Int32.toInt (by rw [e1788]; exact rI_o (by decide))
                have f2337 := cb_12_2 i1783 k_a0
                have f2338 : (q_I d1781 12 2 a0).toInt = (q_I d1775 12 2 a0).toInt := congrArg Int32.toInt (by rw [e1782]; exact rI_o (by decide))
                have f2339 := cb_12_2 i1777 k_a0
                have f2340 : (q_I d1775 12 2 a0).toInt = (q_I r1745 12 2 a0).toInt := congrArg Int32.toInt (by rw [e1776]; exact rI_o (by decide))
                exact ok_some (show RI ad h.1 δ0 d2312 ∧ (kp [(12, 0), (12, 2), (12, 3), (12, 4), (12, 5), (12, 6), (12, 7), (12, 8), (12, 24), (12, 25), (12, 26), (12, 27)] δ d2312 ∧ q_V d2312 = q_V δ ∧ kr ad [100, 112, 113, 114, 115, 116, 117] δ d2312) ∧ (0 ≤ (x1).toInt ∧ (x1).toInt ≤ (q_I δ 12 2 a0).toInt → (q_I d2312 12 2 a0).toInt = 0) ∧ ((x1).toInt < 0 ∨ (q_I δ 12 2 a0).toInt < (x1).toInt → (q_I d2312 12 2 a0).toInt = (q_I δ 12 2 a0).toInt) from ⟨i2314, ⟨kp_w (by decide) u2322, v2323, kr_w (by decide) v2324⟩, by first | assumption | omega, by first | assumption | omega⟩)
              · have c2341 : r2279.1.toInt ≠ (q_I r2279.2 12 24 a0).toInt := o_ne h2294
                unfold J_X12_thief_146
                have f2342 := cb_12_2 i2281 k_a0
                have f2343 : (q_I r2279.2 12 2 a0).toInt = (q_I r2215 12 2 a0).toInt := congrArg Int32.toInt (u2282 12 2 a0 (by decide))
                have f2344 := cb_12_2 i2243 k_a0
                have f2345 : (q_I r2215 12 2 a0).toInt = (q_I r1793.2 12 2 a0).toInt := congrArg Int32.toInt (u2249 12 2 a0 (by decide))
                have f2346 := cb_12_2 i1795 k_a0
                have f2347 : (q_I r1793.2 12 2 a0).toInt = (q_I d1787 12 2 a0).toInt := congrArg Int32.toInt (u1799 12 2 a0 (by decide))
                have f2348 := cb_12_2 i1789 k_a0
                have f2349 : (q_I d1787 12 2 a0).toInt = (q_I d1781 12 2 a0).toInt := congrArg Int32.toInt (by rw [e1788]; exact rI_o (by decide))
                have f2350 := cb_12_2 i1783 k_a0
                have f2351 : (q_I d1781 12 2 a0).toInt = (q_I d1775 12 2 a0).toInt := congrArg Int32.toInt (by rw [e1782]; exact rI_o (by decide))
                have f2352 := cb_12_2 i1777 k_a0
                have f2353 : (q_I d1775 12 2 a0).toInt = (q_I r1745 12 2 a0).toInt := congrArg Int32.toInt (by rw [e1776]; exact rI_o (by decide))
                exact ok_some (show RI ad h.1 δ0 r2279.2 ∧ (kp [(12, 0), (12, 2), (12, 3), (12, 4), (12, 5), (12, 6), (12, 7), (12, 8), (12, 24), (12, 25), (12, 26), (12, 27)] δ r2279.2 ∧ q_V r2279.2 = q_V δ ∧ kr ad [100, 112, 113, 114, 115, 116, 117] δ r2279.2) ∧ (0 ≤ (x1).toInt ∧ (x1).toInt ≤ (q_I δ 12 2 a0).toInt → (q_I r2279.2 12 2 a0).toInt = 0) ∧ ((x1).toInt < 0 ∨ (q_I δ 12 2 a0).toInt < (x1).toInt → (q_I r2279.2 12 2 a0).toInt = (q_I δ 12 2 a0).toInt) from ⟨i2281, ⟨kp_w (by decide) u2286, v2287, kr_w (by decide) v2288⟩, by first | assumption | omega, by first | assumption | omega⟩)
            · have c2354 : r2268.1.toInt ≠ (0 : Int) := o_ne h2277
              refine ok_bind (k_X12_isMore L hN (a0 := a0) k_a0 i2243) (fun r2355 hr2356 => ?_)
              obtain ⟨i2357, ⟨u2361, u2362, u2363, u2364⟩, p2358, p2359, p2360⟩ := hr2356
              have u2365 := kp_t u2252 u2361
              have v2366 : q_V r2355.2 = q_V δ := (u2362).trans v2253
              have v2367 := kr_t v2254 u2364
              have f2368 := bo_l p2358
              have f2369 := cb_12_4 i2357 k_a0
              have f2370 := ti_b r2355.1
              have f2371 := cb_12_3 i2243 k_a0
              have f2372 : (q_I r2215 12 3 a0).toInt = (q_I r1793.2 12 3 a0).toInt := congrArg Int32.toInt (u2249 12 3 a0 (by decide))
              have f2373 := cb_12_3 i1795 k_a0
              have f2374 : (q_I r1793.2 12 3 a0).toInt = (q_I d1787 12 3 a0).toInt := congrArg Int32.toInt (u1799 12 3 a0 (by decide))
              have f2375 := ti_b r2355.1
              refine ok_ite (fun h2376 => ?_) (fun h2376 => ?_)
              · have c2377 : r2355.1.toInt = (0 : Int) := o_eq h2376
                unfold J_X12_thief_106
                refine ok_bind (k_X12_result L hN (a0 := a0) (x1 := (q_I r2355.2 12 24 a0)) k_a0 i2357) (fun r2378 hr2379 => ?_)
                obtain ⟨i2380, ⟨u2381, u2382, u2383, u2384⟩⟩ := hr2379
                have u2385 := kp_t u2365 u2381
                have v2386 : q_V r2378.2 = q_V δ := (u2382).trans v2366
                have v2387 := kr_t v2367 u2384
                have f2388 := ti_b r2378.1
                have f2389 := cb_12_24 i2380 k_a0
                have f2390 : (q_I r2378.2 12 24 a0).toInt = (q_I r2355.2 12 24 a0).toInt := congrArg Int32.toInt (u2381 12 24 a0 (by decide))
                have f2391 := cb_12_24 i2357 k_a0
                have f2392 : (q_I r2355.2 12 24 a0).toInt = (q_I r2215 12 24 a0).toInt := congrArg Int32.toInt (u2361 12 24 a0 (by decide))
                have f2393 := cb_12_24 i2243 k_a0
                have f2394 : (q_I r2215 12 24 a0).toInt = (q_I r1793.2 12 24 a0).toInt := congrArg Int32.toInt (u2249 12 24 a0 (by decide))
                refine ok_ite (fun h2395 => ?_) (fun h2395 => ?_)
                · have c2396 : r2378.1.toInt = (q_I r2378.2 12 24 a0).toInt := o_eq h2395
                  obtain ⟨b2397, o2398, k2399, n2400⟩ := gO_12_28 L k_a0
                  obtain rfl := gS_12_28 L k_a0 o2398
                  refine ok_at o2398 ?_
                  have t2401 := ti_tn (q_I r2378.2 12 24 a0)
                  refine ok_gd (fun hc2402 => ?_) ?_
                  · rcases hc2402 with hc2402 | hc2402
                    · have c2403 : (q_I r2378.2 12 24 a0).toInt < (0 : Int) := o_lt hc2402
                      omega
                    · omega
                  have f2407 := cb_12_25 i2380 k_a0
                  have f2408 : (q_I r2378.2 12 25 a0).toInt = (q_I r2355.2 12 25 a0).toInt := congrArg Int32.toInt (u2381 12 25 a0 (by decide))
                  have f2409 := cb_12_25 i2357 k_a0
                  have f2410 : (q_I r2355.2 12 25 a0).toInt = (q_I r2215 12 25 a0).toInt := congrArg Int32.toInt (u2361 12 25 a0 (by decide))
                  have f2411 := cb_12_25 i2243 k_a0
                  refine ok_bdv (fun d2404 e2405 => ?_)
                  have i2406 : RI ad h.1 δ0 d2404 := by rw [e2405]; exact cr_112 L i2380 (show 0 ≤ (q_I r2378.2 12 25 a0).toInt by omega) (show (q_I r2378.2 12 25 a0).toInt ≤ 60 by omega)
                  have u2412 := kp_N u2385 (show q_I d2404 = q_I r2378.2 by rw [e2405]; rfl)
                  have v2413 : q_V d2404 = q_V δ := ((show q_V d2404 = q_V r2378.2 by rw [e2405]; rfl)).trans v2386
                  have v2414 := kr_s L (by decide) v2387 e2405
                  have f2418 := cb_12_24 i2406 k_a0
                  have f2419 : (q_I d2404 12 24 a0).toInt = (q_I r2378.2 12 24 a0).toInt := congrArg Int32.toInt (by rw [e2405]; rfl)
                  first | (have q2421 := te_addc (c := 1) (n := 1) rfl (q_I d2404 12 24 a0) (by omega) (by omega); obtain ⟨f2422, f2423, f2424⟩ := q2421) | (obtain ⟨q2421, f2422, f2423, f2424⟩ := ti_addc (c := 1) (n := 1) rfl (q_I d2404 12 24 a0))
                  refine ok_bdv (fun d2415 e2416 => ?_)
                  have i2417 : RI ad h.1 δ0 d2415 := by rw [e2416]; exact cs_12_24 L i2406 k_a0 (show 0 ≤ ((q_I d2404 12 24 a0) + (1 : Int32)).toInt by omega) (show ((q_I d2404 12 24 a0) + (1 : Int32)).toInt ≤ 4 by omega)
                  have u2425 := kp_I u2412 e2416
                  have v2426 : q_V d2415 = q_V δ := ((show q_V d2415 = q_V d2404 by rw [e2416]; rfl)).trans v2413
                  have v2427 := kr_N v2414 (show q_R d2415 = q_R d2404 by rw [e2416]; rfl)
                  unfold J_X12_thief_146
                  have f2428 := cb_12_2 i2417 k_a0
                  have f2429 : (q_I d2415 12 2 a0).toInt = (q_I d2404 12 2 a0).toInt := congrArg Int32.toInt (by rw [e2416]; exact rI_o (by decide))
                  have f2430 := cb_12_2 i2406 k_a0
                  have f2431 : (q_I d2404 12 2 a0).toInt = (q_I r2378.2 12 2 a0).toInt := congrArg Int32.toInt (by rw [e2405]; rfl)
                  have f2432 := cb_12_2 i2380 k_a0
                  have f2433 : (q_I r2378.2 12 2 a0).toInt = (q_I r2355.2 12 2 a0).toInt := congrArg Int32.toInt (u2381 12 2 a0 (by decide))
                  have f2434 := cb_12_2 i2357 k_a0
                  have f2435 : (q_I r2355.2 12 2 a0).toInt = (q_I r2215 12 2 a0).toInt := congrArg Int32.toInt (u2361 12 2 a0 (by decide))
                  have f2436 := cb_12_2 i2243 k_a0
                  have f2437 : (q_I r2215 12 2 a0).toInt = (q_I r1793.2 12 2 a0).toInt := congrArg Int32.toInt (u2249 12 2 a0 (by decide))
                  have f2438 := cb_12_2 i1795 k_a0
                  have f2439 : (q_I r1793.2 12 2 a0).toInt = (q_I d1787 12 2 a0).toInt := congrArg Int32.toInt (u1799 12 2 a0 (by decide))
                  have f2440 := cb_12_2 i1789 k_a0
                  have f2441 : (q_I d1787 12 2 a0).toInt = (q_I d1781 12 2 a0).toInt := congrArg Int32.toInt (by rw [e1788]; exact rI_o (by decide))
                  have f2442 := cb_12_2 i1783 k_a0
                  have f2443 : (q_I d1781 12 2 a0).toInt = (q_I d1775 12 2 a0).toInt := congrArg Int32.toInt (by rw [e1782]; exact rI_o (by decide))
                  have f2444 := cb_12_2 i1777 k_a0
                  have f2445 : (q_I d1775 12 2 a0).toInt = (q_I r1745 12 2 a0).toInt := congrArg Int32.toInt (by rw [e1776]; exact rI_o (by decide))
                  exact ok_some (show RI ad h.1 δ0 d2415 ∧ (kp [(12, 0), (12, 2), (12, 3), (12, 4), (12, 5), (12, 6), (12, 7), (12, 8), (12, 24), (12, 25), (12, 26), (12, 27)] δ d2415 ∧ q_V d2415 = q_V δ ∧ kr ad [100, 112, 113, 114, 115, 116, 117] δ d2415) ∧ (0 ≤ (x1).toInt ∧ (x1).toInt ≤ (q_I δ 12 2 a0).toInt → (q_I d2415 12 2 a0).toInt = 0) ∧ ((x1).toInt < 0 ∨ (q_I δ 12 2 a0).toInt < (x1).toInt → (q_I d2415 12 2 a0).toInt = (q_I δ 12 2 a0).toInt) from ⟨i2417, ⟨kp_w (by decide) u2425, v2426, kr_w (by decide) v2427⟩, by first | assumption | omega, by first | assumption | omega⟩)
                · have c2446 : r2378.1.toInt ≠ (q_I r2378.2 12 24 a0).toInt := o_ne h2395
                  unfold J_X12_thief_146
                  have f2447 := cb_12_2 i2380 k_a0
                  have f2448 : (q_I r2378.2 12 2 a0).toInt = (q_I r2355.2 12 2 a0).toInt := congrArg Int32.toInt (u2381 12 2 a0 (by decide))
                  have f2449 := cb_12_2 i2357 k_a0
                  have f2450 : (q_I r2355.2 12 2 a0).toInt = (q_I r2215 12 2 a0).toInt := congrArg Int32.toInt (u2361 12 2 a0 (by decide))
                  have f2451 := cb_12_2 i2243 k_a0
                  have f2452 : (q_I r2215 12 2 a0).toInt = (q_I r1793.2 12 2 a0).toInt := congrArg Int32.toInt (u2249 12 2 a0 (by decide))
                  have f2453 := cb_12_2 i1795 k_a0
                  have f2454 : (q_I r1793.2 12 2 a0).toInt = (q_I d1787 12 2 a0).toInt := congrArg Int32.toInt (u1799 12 2 a0 (by decide))
                  have f2455 := cb_12_2 i1789 k_a0
                  have f2456 : (q_I d1787 12 2 a0).toInt = (q_I d1781 12 2 a0).toInt := congrArg Int32.toInt (by rw [e1788]; exact rI_o (by decide))
                  have f2457 := cb_12_2 i1783 k_a0
                  have f2458 : (q_I d1781 12 2 a0).toInt = (q_I d1775 12 2 a0).toInt := congrArg Int32.toInt (by rw [e1782]; exact rI_o (by decide))
                  have f2459 := cb_12_2 i1777 k_a0
                  have f2460 : (q_I d1775 12 2 a0).toInt = (q_I r1745 12 2 a0).toInt := congrArg Int32.toInt (by rw [e1776]; exact rI_o (by decide))
                  exact ok_some (show RI ad h.1 δ0 r2378.2 ∧ (kp [(12, 0), (12, 2), (12, 3), (12, 4), (12, 5), (12, 6), (12, 7), (12, 8), (12, 24), (12, 25), (12, 26), (12, 27)] δ r2378.2 ∧ q_V r2378.2 = q_V δ ∧ kr ad [100, 112, 113, 114, 115, 116, 117] δ r2378.2) ∧ (0 ≤ (x1).toInt ∧ (x1).toInt ≤ (q_I δ 12 2 a0).toInt → (q_I r2378.2 12 2 a0).toInt = 0) ∧ ((x1).toInt < 0 ∨ (q_I δ 12 2 a0).toInt < (x1).toInt → (q_I r2378.2 12 2 a0).toInt = (q_I δ 12 2 a0).toInt) from ⟨i2380, ⟨kp_w (by decide) u2385, v2386, kr_w (by decide) v2387⟩, by first | assumption | omega, by first | assumption | omega⟩)
              · have c2461 : r2355.1.toInt ≠ (0 : Int) := o_ne h2376
                refine ok_bind (k_X12_wrong L hN (a0 := a0) (x1 := (1 : Int32)) (x2 := (q_I r2355.2 12 4 a0)) k_a0 (show 0 ≤ ((q_I r2355.2 12 4 a0)).toInt by first | assumption | omega) (show ((q_I r2355.2 12 4 a0)).toInt ≤ 500 by first | assumption | omega) i2357) (fun r2462 hr2463 => ?_)
                obtain ⟨i2464, ⟨u2467, u2468, u2469, u2470⟩, p2465, p2466⟩ := hr2463
                have u2471 := kp_t u2365 u2467
                have v2472 : q_V r2462 = q_V δ := (u2468).trans v2366
                have v2473 := kr_t v2367 u2470
                have f2474 := cb_12_5 i2464 k_a0
                have f2475 := cb_12_5 i2357 k_a0
                have f2476 : (q_I r2355.2 12 5 a0).toInt = (q_I r2215 12 5 a0).toInt := congrArg Int32.toInt (u2361 12 5 a0 (by decide))
                unfold J_X12_thief_106
                refine ok_bind (k_X12_result L hN (a0 := a0) (x1 := (q_I r2462 12 24 a0)) k_a0 i2464) (fun r2477 hr2478 => ?_)
                obtain ⟨i2479, ⟨u2480, u2481, u2482, u2483⟩⟩ := hr2478
                have u2484 := kp_t u2471 u2480
                have v2485 : q_V r2477.2 = q_V δ := (u2481).trans v2472
                have v2486 := kr_t v2473 u2483
                have f2487 := ti_b r2477.1
                have f2488 := cb_12_24 i2479 k_a0
                have f2489 : (q_I r2477.2 12 24 a0).toInt = (q_I r2462 12 24 a0).toInt := congrArg Int32.toInt (u2480 12 24 a0 (by decide))
                have f2490 := cb_12_24 i2464 k_a0
                have f2491 : (q_I r2462 12 24 a0).toInt = (q_I r2355.2 12 24 a0).toInt := congrArg Int32.toInt (u2467 12 24 a0 (by decide))
                have f2492 := cb_12_24 i2357 k_a0
                have f2493 : (q_I r2355.2 12 24 a0).toInt = (q_I r2215 12 24 a0).toInt := congrArg Int32.toInt (u2361 12 24 a0 (by decide))
                have f2494 := cb_12_24 i2243 k_a0
                have f2495 : (q_I r2215 12 24 a0).toInt = (q_I r1793.2 12 24 a0).toInt := congrArg Int32.toInt (u2249 12 24 a0 (by decide))
                refine ok_ite (fun h2496 => ?_) (fun h2496 => ?_)
                · have c2497 : r2477.1.toInt = (q_I r2477.2 12 24 a0).toInt := o_eq h2496
                  obtain ⟨b2498, o2499, k2500, n2501⟩ := gO_12_28 L k_a0
                  obtain rfl := gS_12_28 L k_a0 o2499
                  refine ok_at o2499 ?_
                  have t2502 := ti_tn (q_I r2477.2 12 24 a0)
                  refine ok_gd (fun hc2503 => ?_) ?_
                  · rcases hc2503 with hc2503 | hc2503
                    · have c2504 : (q_I r2477.2 12 24 a0).toInt < (0 : Int) := o_lt hc2503
                      omega
                    · omega
                  have f2508 := cb_12_25 i2479 k_a0
                  have f2509 : (q_I r2477.2 12 25 a0).toInt = (q_I r2462 12 25 a0).toInt := congrArg Int32.toInt (u2480 12 25 a0 (by decide))
                  have f2510 := cb_12_25 i2464 k_a0
                  have f2511 : (q_I r2462 12 25 a0).toInt = (q_I r2355.2 12 25 a0).toInt := congrArg Int32.toInt (u2467 12 25 a0 (by decide))
                  have f2512 := cb_12_25 i2357 k_a0
                  have f2513 : (q_I r2355.2 12 25 a0).toInt = (q_I r2215 12 25 a0).toInt := congrArg Int32.toInt (u2361 12 25 a0 (by decide))
                  have f2514 := cb_12_25 i2243 k_a0
                  refine ok_bdv (fun d2505 e2506 => ?_)
                  have i2507 : RI ad h.1 δ0 d2505 := by rw [e2506]; exact cr_112 L i2479 (show 0 ≤ (q_I r2477.2 12 25 a0).toInt by omega) (show (q_I r2477.2 12 25 a0).toInt ≤ 60 by omega)
                  have u2515 := kp_N u2484 (show q_I d2505 = q_I r2477.2 by rw [e2506]; rfl)
                  have v2516 : q_V d2505 = q_V δ := ((show q_V d2505 = q_V r2477.2 by rw [e2506]; rfl)).trans v2485
                  have v2517 := kr_s L (by decide) v2486 e2506
                  have f2521 := cb_12_24 i2507 k_a0
                  have f2522 : (q_I d2505 12 24 a0).toInt = (q_I r2477.2 12 24 a0).toInt := congrArg Int32.toInt (by rw [e2506]; rfl)
                  first | (have q2524 := te_addc (c := 1) (n := 1) rfl (q_I d2505 12 24 a0) (by omega) (by omega); obtain ⟨f2525, f2526, f2527⟩ := q2524) | (obtain ⟨q2524, f2525, f2526, f2527⟩ := ti_addc (c := 1) (n := 1) rfl (q_I d2505 12 24 a0))
                  refine ok_bdv (fun d2518 e2519 => ?_)
                  have i2520 : RI ad h.1 δ0 d2518 := by rw [e2519]; exact cs_12_24 L i2507 k_a0 (show 0 ≤ ((q_I d2505 12 24 a0) + (1 : Int32)).toInt by omega) (show ((q_I d2505 12 24 a0) + (1 : Int32)).toInt ≤ 4 by omega)
                  have u2528 := kp_I u2515 e2519
                  have v2529 : q_V d2518 = q_V δ := ((show q_V d2518 = q_V d2505 by rw [e2519]; rfl)).trans v2516
                  have v2530 := kr_N v2517 (show q_R d2518 = q_R d2505 by rw [e2519]; rfl)
                  unfold J_X12_thief_146
                  have f2531 := cb_12_2 i2520 k_a0
                  have f2532 : (q_I d2518 12 2 a0).toInt = (q_I d2505 12 2 a0).toInt := congrArg Int32.toInt (by rw [e2519]; exact rI_o (by decide))
                  have f2533 := cb_12_2 i2507 k_a0
                  have f2534 : (q_I d2505 12 2 a0).toInt = (q_I r2477.2 12 2 a0).toInt := congrArg Int32.toInt (by rw [e2506]; rfl)
                  have f2535 := cb_12_2 i2479 k_a0
                  have f2536 : (q_I r2477.2 12 2 a0).toInt = (q_I r2462 12 2 a0).toInt := congrArg Int32.toInt (u2480 12 2 a0 (by decide))
                  have f2537 := cb_12_2 i2464 k_a0
                  have f2538 : (q_I r2462 12 2 a0).toInt = (q_I r2355.2 12 2 a0).toInt := congrArg Int32.toInt (u2467 12 2 a0 (by decide))
                  have f2539 := cb_12_2 i2357 k_a0
                  have f2540 : (q_I r2355.2 12 2 a0).toInt = (q_I r2215 12 2 a0).toInt := congrArg Int32.toInt (u2361 12 2 a0 (by decide))
                  have f2541 := cb_12_2 i2243 k_a0
                  have f2542 : (q_I r2215 12 2 a0).toInt = (q_I r1793.2 12 2 a0).toInt := congrArg Int32.toInt (u2249 12 2 a0 (by decide))
                  have f2543 := cb_12_2 i1795 k_a0
                  have f2544 : (q_I r1793.2 12 2 a0).toInt = (q_I d1787 12 2 a0).toInt := congrArg Int32.toInt (u1799 12 2 a0 (by decide))
                  have f2545 := cb_12_2 i1789 k_a0
                  have f2546 : (q_I d1787 12 2 a0).toInt = (q_I d1781 12 2 a0).toInt := congrArg Int32.toInt (by rw [e1788]; exact rI_o (by decide))
                  have f2547 := cb_12_2 i1783 k_a0
                  have f2548 : (q_I d1781 12 2 a0).toInt = (q_I d1775 12 2 a0).toInt := congrArg Int32.toInt (by rw [e1782]; exact rI_o (by decide))
                  have f2549 := cb_12_2 i1777 k_a0
                  have f2550 : (q_I d1775 12 2 a0).toInt = (q_I r1745 12 2 a0).toInt := congrArg Int32.toInt (by rw [e1776]; exact rI_o (by decide))
                  exact ok_some (show RI ad h.1 δ0 d2518 ∧ (kp [(12, 0), (12, 2), (12, 3), (12, 4), (12, 5), (12, 6), (12, 7), (12, 8), (12, 24), (12, 25), (12, 26), (12, 27)] δ d2518 ∧ q_V d2518 = q_V δ ∧ kr ad [100, 112, 113, 114, 115, 116, 117] δ d2518) ∧ (0 ≤ (x1).toInt ∧ (x1).toInt ≤ (q_I δ 12 2 a0).toInt → (q_I d2518 12 2 a0).toInt = 0) ∧ ((x1).toInt < 0 ∨ (q_I δ 12 2 a0).toInt < (x1).toInt → (q_I d2518 12 2 a0).toInt = (q_I δ 12 2 a0).toInt) from ⟨i2520, ⟨kp_w (by decide) u2528, v2529, kr_w (by decide) v2530⟩, by first | assumption | omega, by first | assumption | omega⟩)
                · have c2551 : r2477.1.toInt ≠ (q_I r2477.2 12 24 a0).toInt := o_ne h2496
                  unfold J_X12_thief_146
                  have f2552 := cb_12_2 i2479 k_a0
                  have f2553 : (q_I r2477.2 12 2 a0).toInt = (q_I r2462 12 2 a0).toInt := congrArg Int32.toInt (u2480 12 2 a0 (by decide))
                  have f2554 := cb_12_2 i2464 k_a0
                  have f2555 : (q_I r2462 12 2 a0).toInt = (q_I r2355.2 12 2 a0).toInt := congrArg Int32.toInt (u2467 12 2 a0 (by decide))
                  have f2556 := cb_12_2 i2357 k_a0
                  have f2557 : (q_I r2355.2 12 2 a0).toInt = (q_I r2215 12 2 a0).toInt := congrArg Int32.toInt (u2361 12 2 a0 (by decide))
                  have f2558 := cb_12_2 i2243 k_a0
                  have f2559 : (q_I r2215 12 2 a0).toInt = (q_I r1793.2 12 2 a0).toInt := congrArg Int32.toInt (u2249 12 2 a0 (by decide))
                  have f2560 := cb_12_2 i1795 k_a0
                  have f2561 : (q_I r1793.2 12 2 a0).toInt = (q_I d1787 12 2 a0).toInt := congrArg Int32.toInt (u1799 12 2 a0 (by decide))
                  have f2562 := cb_12_2 i1789 k_a0
                  have f2563 : (q_I d1787 12 2 a0).toInt = (q_I d1781 12 2 a0).toInt := congrArg Int32.toInt (by rw [e1788]; exact rI_o (by decide))
                  have f2564 := cb_12_2 i1783 k_a0
                  have f2565 : (q_I d1781 12 2 a0).toInt = (q_I d1775 12 2 a0).toInt := congrArg Int32.toInt (by rw [e1782]; exact rI_o (by decide))
                  have f2566 := cb_12_2 i1777 k_a0
                  have f2567 : (q_I d1775 12 2 a0).toInt = (q_I r1745 12 2 a0).toInt := congrArg Int32.toInt (by rw [e1776]; exact rI_o (by decide))
                  exact ok_some (show RI ad h.1 δ0 r2477.2 ∧ (kp [(12, 0), (12, 2), (12, 3), (12, 4), (12, 5), (12, 6), (12, 7), (12, 8), (12, 24), (12, 25), (12, 26), (12, 27)] δ r2477.2 ∧ q_V r2477.2 = q_V δ ∧ kr ad [100, 112, 113, 114, 115, 116, 117] δ r2477.2) ∧ (0 ≤ (x1).toInt ∧ (x1).toInt ≤ (q_I δ 12 2 a0).toInt → (q_I r2477.2 12 2 a0).toInt = 0) ∧ ((x1).toInt < 0 ∨ (q_I δ 12 2 a0).toInt < (x1).toInt → (q_I r2477.2 12 2 a0).toInt = (q_I δ 12 2 a0).toInt) from ⟨i2479, ⟨kp_w (by decide) u2484, v2485, kr_w (by decide) v2486⟩, by first | assumption | omega, by first | assumption | omega⟩)
