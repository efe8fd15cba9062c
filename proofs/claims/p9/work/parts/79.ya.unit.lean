/-! 79.ya.unit (by gen_safe.py) -/
set_option maxHeartbeats 4000000 in
theorem k_bX12_unit {ad : List Nat} {h : hp} (L : Lay TLx ad h) {δ0 : dp} {N : Nat} (hN : 10000000 ≤ N) {T : Nat → dp → Option (dp)} {K : Int} (hT : ∀ (a0 : Nat) (δ : dp), q_K h.1 a0 = 12 → (q_I δ 12 24 a0).toInt ≤ 3 → (q_I δ 12 26 a0).toInt ≤ (q_I δ 12 4 a0).toInt → 0 ≤ (q_I δ 12 7 a0).toInt → (q_I δ 12 7 a0).toInt ≤ 7 → ((q_I δ 12 7 a0).toInt = 7 → 0 ≤ (q_I δ 12 5 a0).toInt) → 8 - (q_I δ 12 7 a0).toInt < K → RI ad h.1 δ0 δ → ok (T a0 δ) (fun r => RI ad h.1 δ0 r ∧ (kp [(12, 4), (12, 5), (12, 6), (12, 7), (12, 26)] δ r ∧ q_V r = q_V δ ∧ kr ad [116, 117] δ r) ∧ (q_I δ 12 4 a0).toInt ≤ (q_I r 12 4 a0).toInt ∧ (q_I δ 12 5 a0).toInt ≤ (q_I r 12 5 a0).toInt ∧ (q_I r 12 7 a0).toInt = (q_I δ 12 7 a0).toInt ∧ (q_I δ 12 26 a0).toInt ≤ (q_I r 12 26 a0).toInt ∧ (q_I r 12 26 a0).toInt - (q_I δ 12 26 a0).toInt ≤ (q_I r 12 4 a0).toInt - (q_I δ 12 4 a0).toInt ∧ US ad a0 δ r)) {a0 : Nat} (k_a0 : q_K h.1 a0 = 12) {δ : dp} (z0 : (q_I δ 12 24 a0).toInt ≤ 3) (z1 : (q_I δ 12 26 a0).toInt ≤ (q_I δ 12 4 a0).toInt) (z2 : 0 ≤ (q_I δ 12 7 a0).toInt) (z3 : (q_I δ 12 7 a0).toInt ≤ 7) (z4 : (q_I δ 12 7 a0).toInt = 7 → 0 ≤ (q_I δ 12 5 a0).toInt) (z5 : 8 - (q_I δ 12 7 a0).toInt ≤ K) (I : RI ad h.1 δ0 δ) : ok (B_X12_unit N h.1 T a0 δ) (fun r => RI ad h.1 δ0 r ∧ (kp [(12, 4), (12, 5), (12, 6), (12, 7), (12, 26)] δ r ∧ q_V r = q_V δ ∧ kr ad [116, 117] δ r) ∧ (q_I δ 12 4 a0).toInt ≤ (q_I r 12 4 a0).toInt ∧ (q_I δ 12 5 a0).toInt ≤ (q_I r 12 5 a0).toInt ∧ (q_I r 12 7 a0).toInt = (q_I δ 12 7 a0).toInt ∧ (q_I δ 12 26 a0).toInt ≤ (q_I r 12 26 a0).toInt ∧ (q_I r 12 26 a0).toInt - (q_I δ 12 26 a0).toInt ≤ (q_I r 12 4 a0).toInt - (q_I δ 12 4 a0).toInt ∧ US ad a0 δ r) := by
  unfold B_X12_unit
  have f1 := cb_12_24 I k_a0
  have f2 := cb_12_26 I k_a0
  have f3 := cb_12_4 I k_a0
  have f4 := ti_b (q_I δ 12 7 a0)
  have f5 := cb_12_5 I k_a0
  refine ok_bind (k_X12_fine L hN (a0 := a0) k_a0 I) (fun r6 hr7 => ?_)
  obtain ⟨i8, p9, p10, p11⟩ := hr7
  try rw [i8]
  have f12 := bo_l p9
  have f13 := ti_b r6.1
  have f14 := ti_b r6.1
  refine ok_ite (fun h15 => ?_) (fun h15 => ?_)
  · have c16 : r6.1.toInt = (0 : Int) := o_eq h15
    exact ok_some (show RI ad h.1 δ0 δ ∧ (kp [(12, 4), (12, 5), (12, 6), (12, 7), (12, 26)] δ δ ∧ q_V δ = q_V δ ∧ kr ad [116, 117] δ δ) ∧ (q_I δ 12 4 a0).toInt ≤ (q_I δ 12 4 a0).toInt ∧ (q_I δ 12 5 a0).toInt ≤ (q_I δ 12 5 a0).toInt ∧ (q_I δ 12 7 a0).toInt = (q_I δ 12 7 a0).toInt ∧ (q_I δ 12 26 a0).toInt ≤ (q_I δ 12 26 a0).toInt ∧ (q_I δ 12 26 a0).toInt - (q_I δ 12 26 a0).toInt ≤ (q_I δ 12 4 a0).toInt - (q_I δ 12 4 a0).toInt ∧ US ad a0 δ δ from ⟨I, ⟨kp_w (by decide) kp_r, rfl, kr_w (by decide) (kr_r (ad := ad))⟩, by first | assumption | omega, by first | assumption | omega, by first | assumption | omega, by first | assumption | omega, by first | assumption | omega, US.bad NU.r (by omega)⟩)
  · have c17 : r6.1.toInt ≠ (0 : Int) := o_ne h15
    refine ok_bind (k_X12_here L hN (a0 := a0) k_a0 I) (fun r18 hr19 => ?_)
    obtain ⟨i20, ⟨u24, u25, u26, u27⟩, p21, p22, p23⟩ := hr19
    have u28 := kp_t kp_r u24
    have v29 : q_V r18.2 = q_V δ := (u25).trans rfl
    have v30 := kr_t (kr_r (ad := ad)) u27
    have f31 := cb_12_4 i20 k_a0
    have f32 : hc ad r18.2 a0 = (q_R r18.2 (Ad ad 101) (q_I r18.2 12 4 a0).toNatClampNeg).toInt := rfl
    have t33 := ti_tn (q_I r18.2 12 4 a0)
    have f34 : (q_R r18.2 (Ad ad 101) (q_I r18.2 12 4 a0).toNatClampNeg).toInt = (q_R δ (Ad ad 101) (q_I r18.2 12 4 a0).toNatClampNeg).toInt := congrArg Int32.toInt (congrFun (u27 101 (by decide) (by decide) (by decide)) _)
    have f35 := ti_b (q_R δ (Ad ad 101) (q_I r18.2 12 4 a0).toNatClampNeg)
    have f36 := ti_b (q_R r18.2 (Ad ad 101) (q_I r18.2 12 4 a0).toNatClampNeg)
    have f37 := ti_b r18.1
    have f38 := cb_12_3 I k_a0
    have f39 : hc ad δ a0 = (q_R δ (Ad ad 101) (q_I δ 12 4 a0).toNatClampNeg).toInt := rfl
    have t40 := ti_tn (q_I δ 12 4 a0)
    have f41 := ti_b (q_R δ (Ad ad 101) (q_I δ 12 4 a0).toNatClampNeg)
    have f42 := ti_b r18.1
    have f43 := cb_12_5 i20 k_a0
    have f44 : (q_I r18.2 12 5 a0).toInt = (q_I δ 12 5 a0).toInt := congrArg Int32.toInt (u24 12 5 a0 (by decide))
    have us45 : NU ad a0 δ r18.2 := NU.t NU.r (show NU ad a0 δ r18.2 from ⟨u27 116 (by decide) (by decide) (by decide), u24 12 26 _ (by decide), u24 12 24 _ (by decide), fun z => by omega⟩)
    refine ok_bind (k_X12_isDigit L hN (x0 := r18.1)  i20) (fun r46 hr47 => ?_)
    obtain ⟨i48, p49, p50, p51⟩ := hr47
    try rw [i48]
    have f52 := bo_l p49
    have f53 := ti_b r46.1
    have f54 := ti_b r46.1
    refine ok_ite (fun h55 => ?_) (fun h55 => ?_)
    · have c56 : r46.1.toInt = (0 : Int) := o_eq h55
      refine ok_ite (fun h57 => ?_) (fun h57 => ?_)
      · have c58 : r18.1.toInt = (40 : Int) := o_eq h57
        have f59 := ti_b (q_I r18.2 12 7 a0)
        have f60 : (q_I r18.2 12 7 a0).toInt = (q_I δ 12 7 a0).toInt := congrArg Int32.toInt (u24 12 7 a0 (by decide))
        refine ok_ite (fun h61 => ?_) (fun h61 => ?_)
        · have c62 : (q_I r18.2 12 7 a0).toInt = (6 : Int) := o_eq h61
          refine ok_bind (k_X12_wrong L hN (a0 := a0) (x1 := (3 : Int32)) (x2 := (q_I r18.2 12 4 a0)) k_a0 (show 0 ≤ ((q_I r18.2 12 4 a0)).toInt by first | assumption | omega) (show ((q_I r18.2 12 4 a0)).toInt ≤ 500 by first | assumption | omega) (show 0 ≤ (3 : Int) by first | assumption | omega) (show (3 : Int) ≤ 4 by first | assumption | omega) i20) (fun r63 hr64 => ?_)
          obtain ⟨i65, ⟨u68, u69, u70, u71⟩, p66, p67⟩ := hr64
          have u72 := kp_t u28 u68
          have v73 : q_V r63 = q_V δ := (u69).trans v29
          have v74 := kr_t v30 u71
          have f75 := cb_12_5 i65 k_a0
          have us76 : NU ad a0 δ r63 := NU.t us45 (show NU ad a0 r18.2 r63 from ⟨u71 116 (by decide) (by decide) (by decide), u68 12 26 _ (by decide), u68 12 24 _ (by decide), fun z => by omega⟩)
          unfold J_X12_unit_57
          refine ok_bind (k_X12_fine L hN (a0 := a0) k_a0 i65) (fun r77 hr78 => ?_)
          obtain ⟨i79, p80, p81, p82⟩ := hr78
          try rw [i79]
          have f83 := bo_l p80
          have f84 := ti_b r77.1
          have f85 := ti_b r77.1
          refine ok_ite (fun h86 => ?_) (fun h86 => ?_)
          · have c87 : r77.1.toInt = (0 : Int) := o_eq h86
            unfold J_X12_unit_74
            have f91 := ti_b (q_I r63 12 7 a0)
            have f92 : (q_I r63 12 7 a0).toInt = (q_I r18.2 12 7 a0).toInt := congrArg Int32.toInt (u68 12 7 a0 (by decide))
            first | (have q94 := te_addc (c := 1) (n := 1) rfl (q_I r63 12 7 a0) (by omega) (by omega); obtain ⟨f95, f96, f97⟩ := q94) | (obtain ⟨q94, f95, f96, f97⟩ := ti_addc (c := 1) (n := 1) rfl (q_I r63 12 7 a0))
            refine ok_bdv (fun d88 e89 => ?_)
            have i90 : RI ad h.1 δ0 d88 := by rw [e89]; exact cs_12_7 L i65
            have u98 := kp_I u72 e89
            have v99 : q_V d88 = q_V δ := ((show q_V d88 = q_V r63 by rw [e89]; rfl)).trans v73
            have v100 := kr_N v74 (show q_R d88 = q_R r63 by rw [e89]; rfl)
            have us101 : NU ad a0 δ d88 := NU.t us76 (show NU ad a0 r63 d88 from NU.w e89 (by decide))
            have f104 := cb_12_24 i90 k_a0
            have f105 : (q_I d88 12 24 a0).toInt = (q_I r63 12 24 a0).toInt := congrArg Int32.toInt (by rw [e89]; exact rI_o (by decide))
            have f106 := cb_12_24 i65 k_a0
            have f107 : (q_I r63 12 24 a0).toInt = (q_I r18.2 12 24 a0).toInt := congrArg Int32.toInt (u68 12 24 a0 (by decide))
            have f108 := cb_12_24 i20 k_a0
            have f109 : (q_I r18.2 12 24 a0).toInt = (q_I δ 12 24 a0).toInt := congrArg Int32.toInt (u24 12 24 a0 (by decide))
            have f110 := cb_12_26 i90 k_a0
            have f111 : (q_I d88 12 26 a0).toInt = (q_I r63 12 26 a0).toInt := congrArg Int32.toInt (by rw [e89]; exact rI_o (by decide))
            have f112 := cb_12_26 i65 k_a0
            have f113 : (q_I r63 12 26 a0).toInt = (q_I r18.2 12 26 a0).toInt := congrArg Int32.toInt (u68 12 26 a0 (by decide))
            have f114 := cb_12_26 i20 k_a0
            have f115 : (q_I r18.2 12 26 a0).toInt = (q_I δ 12 26 a0).toInt := congrArg Int32.toInt (u24 12 26 a0 (by decide))
            have f116 := cb_12_4 i90 k_a0
            have f117 : (q_I d88 12 4 a0).toInt = (q_I r63 12 4 a0).toInt := congrArg Int32.toInt (by rw [e89]; exact rI_o (by decide))
            have f118 := cb_12_4 i65 k_a0
            have f119 : (q_I r63 12 4 a0).toInt = (q_I r18.2 12 4 a0).toInt := congrArg Int32.toInt (u68 12 4 a0 (by decide))
            have f120 := ti_b (q_I d88 12 7 a0)
            have f121 : (q_I d88 12 7 a0).toInt = ((q_I r63 12 7 a0) + (1 : Int32)).toInt := congrArg Int32.toInt (show q_I d88 12 7 a0 = ((q_I r63 12 7 a0) + (1 : Int32)) by rw [e89]; exact rI_s)
            have f122 := cb_12_5 i90 k_a0
            have f123 : (q_I d88 12 5 a0).toInt = (q_I r63 12 5 a0).toInt := congrArg Int32.toInt (by rw [e89]; exact rI_o (by decide))
            refine ok_bind (hT a0 d88 k_a0 (show (q_I d88 12 24 a0).toInt ≤ 3 by first | assumption | omega) (show (q_I d88 12 26 a0).toInt ≤ (q_I d88 12 4 a0).toInt by first | assumption | omega) (show 0 ≤ (q_I d88 12 7 a0).toInt by first | assumption | omega) (show (q_I d88 12 7 a0).toInt ≤ 7 by first | assumption | omega) (show (q_I d88 12 7 a0).toInt = 7 → 0 ≤ (q_I d88 12 5 a0).toInt by first | assumption | omega) (show 8 - (q_I d88 12 7 a0).toInt < _ by first | assumption | omega) i90) (fun r102 hr103 => ?_)
            obtain ⟨i124, ⟨u131, u132, u133⟩, p125, p126, p127, p128, p129, p130⟩ := hr103
            have u134 := kp_t u98 u131
            have v135 : q_V r102 = q_V δ := (u132).trans v99
            have v136 := kr_t v100 u133
            have f137 := cb_12_4 i124 k_a0
            have f138 := cb_12_5 i124 k_a0
            have f139 := ti_b (q_I r102 12 7 a0)
            have f140 := cb_12_26 i124 k_a0
            have us141 : US ad a0 δ r102 := US.pre us101 p130
            refine ok_bind (k_X12_sign L hN (a0 := a0) (x1 := (41 : Int32)) k_a0 (show (41 : Int) ≠ 0 by first | assumption | omega) i124) (fun r142 hr143 => ?_)
            obtain ⟨i144, ⟨u148, u149, u150, u151⟩, p145, p146, p147⟩ := hr143
            have u152 := kp_t u134 u148
            have v153 : q_V r142 = q_V δ := (u149).trans v135
            have v154 := kr_t v136 u151
            have f155 := cb_12_4 i144 k_a0
            have f156 := cb_12_5 i144 k_a0
            have us157 : US ad a0 δ r142 := US.post us141 (show NU ad a0 r102 r142 from ⟨u151 116 (by decide) (by decide) (by decide), u148 12 26 _ (by decide), u148 12 24 _ (by decide), fun z => by omega⟩)
            have f161 := ti_b (q_I r142 12 7 a0)
            have f162 : (q_I r142 12 7 a0).toInt = (q_I r102 12 7 a0).toInt := congrArg Int32.toInt (u148 12 7 a0 (by decide))
            first | (have q164 := te_subc (c := 1) (n := 1) rfl (q_I r142 12 7 a0) (by omega) (by omega); obtain ⟨f165, f166, f167⟩ := q164) | (obtain ⟨q164, f165, f166, f167⟩ := ti_subc (c := 1) (n := 1) rfl (q_I r142 12 7 a0))
            refine ok_bdv (fun d158 e159 => ?_)
            have i160 : RI ad h.1 δ0 d158 := by rw [e159]; exact cs_12_7 L i144
            have u168 := kp_I u152 e159
            have v169 : q_V d158 = q_V δ := ((show q_V d158 = q_V r142 by rw [e159]; rfl)).trans v153
            have v170 := kr_N v154 (show q_R d158 = q_R r142 by rw [e159]; rfl)
            have us171 : US ad a0 δ d158 := US.post us157 (show NU ad a0 r142 d158 from NU.w e159 (by decide))
            have f172 := cb_12_4 i160 k_a0
            have f173 : (q_I d158 12 4 a0).toInt = (q_I r142 12 4 a0).toInt := congrArg Int32.toInt (by rw [e159]; exact rI_o (by decide))
            have f174 := cb_12_5 i160 k_a0
            have f175 : (q_I d158 12 5 a0).toInt = (q_I r142 12 5 a0).toInt := congrArg Int32.toInt (by rw [e159]; exact rI_o (by decide))
            have f176 := ti_b (q_I d158 12 7 a0)
            have f177 : (q_I d158 12 7 a0).toInt = ((q_I r142 12 7 a0) - (1 : Int32)).toInt := congrArg Int32.toInt (show q_I d158 12 7 a0 = ((q_I r142 12 7 a0) - (1 : Int32)) by rw [e159]; exact rI_s)
            have f178 := cb_12_26 i160 k_a0
            have f179 : (q_I d158 12 26 a0).toInt = (q_I r142 12 26 a0).toInt := congrArg Int32.toInt (by rw [e159]; exact rI_o (by decide))
            have f180 := cb_12_26 i144 k_a0
            have f181 : (q_I r142 12 26 a0).toInt = (q_I r102 12 26 a0).toInt := congrArg Int32.toInt (u148 12 26 a0 (by decide))
            exact ok_some (show RI ad h.1 δ0 d158 ∧ (kp [(12, 4), (12, 5), (12, 6), (12, 7), (12, 26)] δ d158 ∧ q_V d158 = q_V δ ∧ kr ad [116, 117] δ d158) ∧ (q_I δ 12 4 a0).toInt ≤ (q_I d158 12 4 a0).toInt ∧ (q_I δ 12 5 a0).toInt ≤ (q_I d158 12 5 a0).toInt ∧ (q_I d158 12 7 a0).toInt = (q_I δ 12 7 a0).toInt ∧ (q_I δ 12 26 a0).toInt ≤ (q_I d158 12 26 a0).toInt ∧ (q_I d158 12 26 a0).toInt - (q_I δ 12 26 a0).toInt ≤ (q_I d158 12 4 a0).toInt - (q_I δ 12 4 a0).toInt ∧ US ad a0 δ d158 from ⟨i160, ⟨kp_w (by decide) u168, v169, kr_w (by decide) v170⟩, by first | assumption | omega, by first | assumption | omega, by first | assumption | omega, by first | assumption | omega, by first | assumption | omega, us171⟩)
          · have c182 : r77.1.toInt ≠ (0 : Int) := o_ne h86
            have f186 := cb_12_4 i65 k_a0
            have f187 : (q_I r63 12 4 a0).toInt = (q_I r18.2 12 4 a0).toInt := congrArg Int32.toInt (u68 12 4 a0 (by decide))
            first | (have q189 := te_addc (c := 1) (n := 1) rfl (q_I r63 12 4 a0) (by omega) (by omega); obtain ⟨f190, f191, f192⟩ := q189) | (obtain ⟨q189, f190, f191, f192⟩ := ti_addc (c := 1) (n := 1) rfl (q_I r63 12 4 a0))
            refine ok_bdv (fun d183 e184 => ?_)
            have i185 : RI ad h.1 δ0 d183 := by rw [e184]; exact cs_12_4 L i65 k_a0 (show 0 ≤ ((q_I r63 12 4 a0) + (1 : Int32)).toInt by omega) (show ((q_I r63 12 4 a0) + (1 : Int32)).toInt ≤ 500 by omega)
            have u193 := kp_I u72 e184
            have v194 : q_V d183 = q_V δ := ((show q_V d183 = q_V r63 by rw [e184]; rfl)).trans v73
            have v195 := kr_N v74 (show q_R d183 = q_R r63 by rw [e184]; rfl)
            have us196 : NU ad a0 δ d183 := NU.t us76 (show NU ad a0 r63 d183 from NU.w e184 (by decide))
            unfold J_X12_unit_74
            have f200 := ti_b (q_I d183 12 7 a0)
            have f201 : (q_I d183 12 7 a0).toInt = (q_I r63 12 7 a0).toInt := congrArg Int32.toInt (by rw [e184]; exact rI_o (by decide))
            have f202 := ti_b (q_I r63 12 7 a0)
            have f203 : (q_I r63 12 7 a0).toInt = (q_I r18.2 12 7 a0).toInt := congrArg Int32.toInt (u68 12 7 a0 (by decide))
            first | (have q205 := te_addc (c := 1) (n := 1) rfl (q_I d183 12 7 a0) (by omega) (by omega); obtain ⟨f206, f207, f208⟩ := q205) | (obtain ⟨q205, f206, f207, f208⟩ := ti_addc (c := 1) (n := 1) rfl (q_I d183 12 7 a0))
            refine ok_bdv (fun d197 e198 => ?_)
            have i199 : RI ad h.1 δ0 d197 := by rw [e198]; exact cs_12_7 L i185
            have u209 := kp_I u193 e198
            have v210 : q_V d197 = q_V δ := ((show q_V d197 = q_V d183 by rw [e198]; rfl)).trans v194
            have v211 := kr_N v195 (show q_R d197 = q_R d183 by rw [e198]; rfl)
            have us212 : NU ad a0 δ d197 := NU.t us196 (show NU ad a0 d183 d197 from NU.w e198 (by decide))
            have f215 := cb_12_24 i199 k_a0
            have f216 : (q_I d197 12 24 a0).toInt = (q_I d183 12 24 a0).toInt := congrArg Int32.toInt (by rw [e198]; exact rI_o (by decide))
            have f217 := cb_12_24 i185 k_a0
            have f218 : (q_I d183 12 24 a0).toInt = (q_I r63 12 24 a0).toInt := congrArg Int32.toInt (by rw [e184]; exact rI_o (by decide))
            have f219 := cb_12_24 i65 k_a0
            have f220 : (q_I r63 12 24 a0).toInt = (q_I r18.2 12 24 a0).toInt := congrArg Int32.toInt (u68 12 24 a0 (by decide))
            have f221 := cb_12_24 i20 k_a0
            have f222 : (q_I r18.2 12 24 a0).toInt = (q_I δ 12 24 a0).toInt := congrArg Int32.toInt (u24 12 24 a0 (by decide))
            have f223 := cb_12_26 i199 k_a0
            have f224 : (q_I d197 12 26 a0).toInt = (q_I d183 12 26 a0).toInt := congrArg Int32.toInt (by rw [e198]; exact rI_o (by decide))
            have f225 := cb_12_26 i185 k_a0
            have f226 : (q_I d183 12 26 a0).toInt = (q_I r63 12 26 a0).toInt := congrArg Int32.toInt (by rw [e184]; exact rI_o (by decide))
            have f227 := cb_12_26 i65 k_a0
            have f228 : (q_I r63 12 26 a0).toInt = (q_I r18.2 12 26 a0).toInt := congrArg Int32.toInt (u68 12 26 a0 (by decide))
            have f229 := cb_12_26 i20 k_a0
            have f230 : (q_I r18.2 12 26 a0).toInt = (q_I δ 12 26 a0).toInt := congrArg Int32.toInt (u24 12 26 a0 (by decide))
            have f231 := cb_12_4 i199 k_a0
            have f232 : (q_I d197 12 4 a0).toInt = (q_I d183 12 4 a0).toInt := congrArg Int32.toInt (by rw [e198]; exact rI_o (by decide))
            have f233 := cb_12_4 i185 k_a0
            have f234 : (q_I d183 12 4 a0).toInt = ((q_I r63 12 4 a0) + (1 : Int32)).toInt := congrArg Int32.toInt (show q_I d183 12 4 a0 = ((q_I r63 12 4 a0) + (1 : Int32)) by rw [e184]; exact rI_s)
            have f235 := ti_b (q_I d197 12 7 a0)
            have f236 : (q_I d197 12 7 a0).toInt = ((q_I d183 12 7 a0) + (1 : Int32)).toInt := congrArg Int32.toInt (show q_I d197 12 7 a0 = ((q_I d183 12 7 a0) + (1 : Int32)) by rw [e198]; exact rI_s)
            have f237 := cb_12_5 i199 k_a0
            have f238 : (q_I d197 12 5 a0).toInt = (q_I d183 12 5 a0).toInt := congrArg Int32.toInt (by rw [e198]; exact rI_o (by decide))
            have f239 := cb_12_5 i185 k_a0
            have f240 : (q_I d183 12 5 a0).toInt = (q_I r63 12 5 a0).toInt := congrArg Int32.toInt (by rw [e184]; exact rI_o (by decide))
            refine ok_bind (hT a0 d197 k_a0 (show (q_I d197 12 24 a0).toInt ≤ 3 by first | assumption | omega) (show (q_I d197 12 26 a0).toInt ≤ (q_I d197 12 4 a0).toInt by first | assumption | omega) (show 0 ≤ (q_I d197 12 7 a0).toInt by first | assumption | omega) (show (q_I d197 12 7 a0).toInt ≤ 7 by first | assumption | omega) (show (q_I d197 12 7 a0).toInt = 7 → 0 ≤ (q_I d197 12 5 a0).toInt by first | assumption | omega) (show 8 - (q_I d197 12 7 a0).toInt < _ by first | assumption | omega) i199) (fun r213 hr214 => ?_)
            obtain ⟨i241, ⟨u248, u249, u250⟩, p242, p243, p244, p245, p246, p247⟩ := hr214
            have u251 := kp_t u209 u248
            have v252 : q_V r213 = q_V δ := (u249).trans v210
            have v253 := kr_t v211 u250
            have f254 := cb_12_4 i241 k_a0
            have f255 := cb_12_5 i241 k_a0
            have f256 := ti_b (q_I r213 12 7 a0)
            have f257 := cb_12_26 i241 k_a0
            have us258 : US ad a0 δ r213 := US.pre us212 p247
            refine ok_bind (k_X12_sign L hN (a0 := a0) (x1 := (41 : Int32)) k_a0 (show (41 : Int) ≠ 0 by first | assumption | omega) i241) (fun r259 hr260 => ?_)
            obtain ⟨i261, ⟨u265, u266, u267, u268⟩, p262, p263, p264⟩ := hr260
            have u269 := kp_t u251 u265
            have v270 : q_V r259 = q_V δ := (u266).trans v252
            have v271 := kr_t v253 u268
            have f272 := cb_12_4 i261 k_a0
            have f273 := cb_12_5 i261 k_a0
            have us274 : US ad a0 δ r259 := US.post us258 (show NU ad a0 r213 r259 from ⟨u268 116 (by decide) (by decide) (by decide), u265 12 26 _ (by decide), u265 12 24 _ (by decide), fun z => by omega⟩)
            have f278 := ti_b (q_I r259 12 7 a0)
            have f279 : (q_I r259 12 7 a0).toInt = (q_I r213 12 7 a0).toInt := congrArg Int32.toInt (u265 12 7 a0 (by decide))
            first | (have q281 := te_subc (c := 1) (n := 1) rfl (q_I r259 12 7 a0) (by omega) (by omega); obtain ⟨f282, f283, f284⟩ := q281) | (obtain ⟨q281, f282, f283, f284⟩ := ti_subc (c := 1) (n := 1) rfl (q_I r259 12 7 a0))
            refine ok_bdv (fun d275 e276 => ?_)
            have i277 : RI ad h.1 δ0 d275 := by rw [e276]; exact cs_12_7 L i261
            have u285 := kp_I u269 e276
            have v286 : q_V d275 = q_V δ := ((show q_V d275 = q_V r259 by rw [e276]; rfl)).trans v270
            have v287 := kr_N v271 (show q_R d275 = q_R r259 by rw [e276]; rfl)
            have us288 : US ad a0 δ d275 := US.post us274 (show NU ad a0 r259 d275 from NU.w e276 (by decide))
            have f289 := cb_12_4 i277 k_a0
            have f290 : (q_I d275 12 4 a0).toInt = (q_I r259 12 4 a0).toInt := congrArg Int32.toInt (by rw [e276]; exact rI_o (by decide))
            have f291 := cb_12_5 i277 k_a0
            have f292 : (q_I d275 12 5 a0).toInt = (q_I r259 12 5 a0).toInt := congrArg Int32.toInt (by rw [e276]; exact rI_o (by decide))
            have f293 := ti_b (q_I d275 12 7 a0)
            have f294 : (q_I d275 12 7 a0).toInt = ((q_I r259 12 7 a0) - (1 : Int32)).toInt := congrArg Int32.toInt (show q_I d275 12 7 a0 = ((q_I r259 12 7 a0) - (1 : Int32)) by rw [e276]; exact rI_s)
            have f295 := cb_12_26 i277 k_a0
            have f296 : (q_I d275 12 26 a0).toInt = (q_I r259 12 26 a0).toInt := congrArg Int32.toInt (by rw [e276]; exact rI_o (by decide))
            have f297 := cb_12_26 i261 k_a0
            have f298 : (q_I r259 12 26 a0).toInt = (q_I r213 12 26 a0).toInt := congrArg Int32.toInt (u265 12 26 a0 (by decide))
            exact ok_some (show RI ad h.1 δ0 d275 ∧ (kp [(12, 4), (12, 5), (12, 6), (12, 7), (12, 26)] δ d275 ∧ q_V d275 = q_V δ ∧ kr ad [116, 117] δ d275) ∧ (q_I δ 12 4 a0).toInt ≤ (q_I d275 12 4 a0).toInt ∧ (q_I δ 12 5 a0).toInt ≤ (q_I d275 12 5 a0).toInt ∧ (q_I d275 12 7 a0).toInt = (q_I δ 12 7 a0).toInt ∧ (q_I δ 12 26 a0).toInt ≤ (q_I d275 12 26 a0).toInt ∧ (q_I d275 12 26 a0).toInt - (q_I δ 12 26 a0).toInt ≤ (q_I d275 12 4 a0).toInt - (q_I δ 12 4 a0).toInt ∧ US ad a0 δ d275 from ⟨i277, ⟨kp_w (by decide) u285, v286, kr_w (by decide) v287⟩, by first | assumption | omega, by first | assumption | omega, by first | assumption | omega, by first | assumption | omega, by first | assumption | omega, us288⟩)
        · have c299 : (q_I r18.2 12 7 a0).toInt ≠ (6 : Int) := o_ne h61
          unfold J_X12_unit_57
          refine ok_bind (k_X12_fine L hN (a0 := a0) k_a0 i20) (fun r300 hr301 => ?_)
          obtain ⟨i302, p303, p304, p305⟩ := hr301
          try rw [i302]
          have f306 := bo_l p303
          have f307 := ti_b r300.1
          have f308 := ti_b r300.1
          refine ok_ite (fun h309 => ?_) (fun h309 => ?_)
          · have c310 : r300.1.toInt = (0 : Int) := o_eq h309
            unfold J_X12_unit_74
            first | (have q315 := te_addc (c := 1) (n := 1) rfl (q_I r18.2 12 7 a0) (by omega) (by omega); obtain ⟨f316, f317, f318⟩ := q315) | (obtain ⟨q315, f316, f317, f318⟩ := ti_addc (c := 1) (n := 1) rfl (q_I r18.2 12 7 a0))
            refine ok_bdv (fun d311 e312 => ?_)
            have i313 : RI ad h.1 δ0 d311 := by rw [e312]; exact cs_12_7 L i20
            have u319 := kp_I u28 e312
            have v320 : q_V d311 = q_V δ := ((show q_V d311 = q_V r18.2 by rw [e312]; rfl)).trans v29
            have v321 := kr_N v30 (show q_R d311 = q_R r18.2 by rw [e312]; rfl)
            have us322 : NU ad a0 δ d311 := NU.t us45 (show NU ad a0 r18.2 d311 from NU.w e312 (by decide))
            have f325 := cb_12_24 i313 k_a0
            have f326 : (q_I d311 12 24 a0).toInt = (q_I r18.2 12 24 a0).toInt := congrArg Int32.toInt (by rw [e312]; exact rI_o (by decide))
            have f327 := cb_12_24 i20 k_a0
            have f328 : (q_I r18.2 12 24 a0).toInt = (q_I δ 12 24 a0).toInt := congrArg Int32.toInt (u24 12 24 a0 (by decide))
            have f329 := cb_12_26 i313 k_a0
            have f330 : (q_I d311 12 26 a0).toInt = (q_I r18.2 12 26 a0).toInt := congrArg Int32.toInt (by rw [e312]; exact rI_o (by decide))
            have f331 := cb_12_26 i20 k_a0
            have f332 : (q_I r18.2 12 26 a0).toInt = (q_I δ 12 26 a0).toInt := congrArg Int32.toInt (u24 12 26 a0 (by decide))
            have f333 := cb_12_4 i313 k_a0
            have f334 : (q_I d311 12 4 a0).toInt = (q_I r18.2 12 4 a0).toInt := congrArg Int32.toInt (by rw [e312]; exact rI_o (by decide))
            have f335 := ti_b (q_I d311 12 7 a0)
            have f336 : (q_I d311 12 7 a0).toInt = ((q_I r18.2 12 7 a0) + (1 : Int32)).toInt := congrArg Int32.toInt (show q_I d311 12 7 a0 = ((q_I r18.2 12 7 a0) + (1 : Int32)) by rw [e312]; exact rI_s)
            have f337 := cb_12_5 i313 k_a0
            have f338 : (q_I d311 12 5 a0).toInt = (q_I r18.2 12 5 a0).toInt := congrArg Int32.toInt (by rw [e312]; exact rI_o (by decide))
            refine ok_bind (hT a0 d311 k_a0 (show (q_I d311 12 24 a0).toInt ≤ 3 by first | assumption | omega) (show (q_I d311 12 26 a0).toInt ≤ (q_I d311 12 4 a0).toInt by first | assumption | omega) (show 0 ≤ (q_I d311 12 7 a0).toInt by first | assumption | omega) (show (q_I d311 12 7 a0).toInt ≤ 7 by first | assumption | omega) (show (q_I d311 12 7 a0).toInt = 7 → 0 ≤ (q_I d311 12 5 a0).toInt by first | assumption | omega) (show 8 - (q_I d311 12 7 a0).toInt < _ by first | assumption | omega) i313) (fun r323 hr324 => ?_)
            obtain ⟨i339, ⟨u346, u347, u348⟩, p340, p341, p342, p343, p344, p345⟩ := hr324
            have u349 := kp_t u319 u346
            have v350 : q_V r323 = q_V δ := (u347).trans v320
            have v351 := kr_t v321 u348
            have f352 := cb_12_4 i339 k_a0
            have f353 := cb_12_5 i339 k_a0
            have f354 := ti_b (q_I r323 12 7 a0)
            have f355 := cb_12_26 i339 k_a0
            have us356 : US ad a0 δ r323 := US.pre us322 p345
            refine ok_bind (k_X12_sign L hN (a0 := a0) (x1 := (41 : Int32)) k_a0 (show (41 : Int) ≠ 0 by first | assumption | omega) i339) (fun r357 hr358 => ?_)
            obtain ⟨i359, ⟨u363, u364, u365, u366⟩, p360, p361, p362⟩ := hr358
            have u367 := kp_t u349 u363
            have v368 : q_V r357 = q_V δ := (u364).trans v350
            have v369 := kr_t v351 u366
            have f370 := cb_12_4 i359 k_a0
            have f371 := cb_12_5 i359 k_a0
            have us372 : US ad a0 δ r357 := US.post us356 (show NU ad a0 r323 r357 from ⟨u366 116 (by decide) (by decide) (by decide), u363 12 26 _ (by decide), u363 12 24 _ (by decide), fun z => by omega⟩)
            have f376 := ti_b (q_I r357 12 7 a0)
            have f377 : (q_I r357 12 7 a0).toInt = (q_I r323 12 7 a0).toInt := congrArg Int32.toInt (u363 12 7 a0 (by decide))
            first | (have q379 := te_subc (c := 1) (n := 1) rfl (q_I r357 12 7 a0) (by omega) (by omega); obtain ⟨f380, f381, f382⟩ := q379) | (obtain ⟨q379, f380, f381, f382⟩ := ti_subc (c := 1) (n := 1) rfl (q_I r357 12 7 a0))
            refine ok_bdv (fun d373 e374 => ?_)
            have i375 : RI ad h.1 δ0 d373 := by rw [e374]; exact cs_12_7 L i359
            have u383 := kp_I u367 e374
            have v384 : q_V d373 = q_V δ := ((show q_V d373 = q_V r357 by rw [e374]; rfl)).trans v368
            have v385 := kr_N v369 (show q_R d373 = q_R r357 by rw [e374]; rfl)
            have us386 : US ad a0 δ d373 := US.post us372 (show NU ad a0 r357 d373 from NU.w e374 (by decide))
            have f387 := cb_12_4 i375 k_a0
            have f388 : (q_I d373 12 4 a0).toInt = (q_I r357 12 4 a0).toInt := congrArg Int32.toInt (by rw [e374]; exact rI_o (by decide))
            have f389 := cb_12_5 i375 k_a0
            have f390 : (q_I d373 12 5 a0).toInt = (q_I r357 12 5 a0).toInt := congrArg Int32.toInt (by rw [e374]; exact rI_o (by decide))
            have f391 := ti_b (q_I d373 12 7 a0)
            have f392 : (q_I d373 12 7 a0).toInt = ((q_I r357 12 7 a0) - (1 : Int32)).toInt := congrArg Int32.toInt (show q_I d373 12 7 a0 = ((q_I r357 12 7 a0) - (1 : Int32)) by rw [e374]; exact rI_s)
            have f393 := cb_12_26 i375 k_a0
            have f394 : (q_I d373 12 26 a0).toInt = (q_I r357 12 26 a0).toInt := congrArg Int32.toInt (by rw [e374]; exact rI_o (by decide))
            have f395 := cb_12_26 i359 k_a0
            have f396 : (q_I r357 12 26 a0).toInt = (q_I r323 12 26 a0).toInt := congrArg Int32.toInt (u363 12 26 a0 (by decide))
            exact ok_some (show RI ad h.1 δ0 d373 ∧ (kp [(12, 4), (12, 5), (12, 6), (12, 7), (12, 26)] δ d373 ∧ q_V d373 = q_V δ ∧ kr ad [116, 117] δ d373) ∧ (q_I δ 12 4 a0).toInt ≤ (q_I d373 12 4 a0).toInt ∧ (q_I δ 12 5 a0).toInt ≤ (q_I d373 12 5 a0).toInt ∧ (q_I d373 12 7 a0).toInt = (q_I δ 12 7 a0).toInt ∧ (q_I δ 12 26 a0).toInt ≤ (q_I d373 12 26 a0).toInt ∧ (q_I d373 12 26 a0).toInt - (q_I δ 12 26 a0).toInt ≤ (q_I d373 12 4 a0).toInt - (q_I δ 12 4 a0).toInt ∧ US ad a0 δ d373 from ⟨i375, ⟨kp_w (by decide) u383, v384, kr_w (by decide) v385⟩, by first | assumption | omega, by first | assumption | omega, by first | assumption | omega, by first | assumption | omega, by first | assumption | omega, us386⟩)
          · have c397 : r300.1.toInt ≠ (0 : Int) := o_ne h309
            first | (have q402 := te_addc (c := 1) (n := 1) rfl (q_I r18.2 12 4 a0) (by omega) (by omega); obtain ⟨f403, f404, f405⟩ := q402) | (obtain ⟨q402, f403, f404, f405⟩ := ti_addc (c := 1) (n := 1) rfl (q_I r18.2 12 4 a0))
            refine ok_bdv (fun d398 e399 => ?_)
            have i400 : RI ad h.1 δ0 d398 := by rw [e399]; exact cs_12_4 L i20 k_a0 (show 0 ≤ ((q_I r18.2 12 4 a0) + (1 : Int32)).toInt by omega) (show ((q_I r18.2 12 4 a0) + (1 : Int32)).toInt ≤ 500 by omega)
            have u406 := kp_I u28 e399
            have v407 : q_V d398 = q_V δ := ((show q_V d398 = q_V r18.2 by rw [e399]; rfl)).trans v29
            have v408 := kr_N v30 (show q_R d398 = q_R r18.2 by rw [e399]; rfl)
            have us409 : NU ad a0 δ d398 := NU.t us45 (show NU ad a0 r18.2 d398 from NU.w e399 (by decide))
            unfold J_X12_unit_74
            have f413 := ti_b (q_I d398 12 7 a0)
            have f414 : (q_I d398 12 7 a0).toInt = (q_I r18.2 12 7 a0).toInt := congrArg Int32.toInt (by rw [e399]; exact rI_o (by decide))
            first | (have q416 := te_addc (c := 1) (n := 1) rfl (q_I d398 12 7 a0) (by omega) (by omega); obtain ⟨f417, f418, f419⟩ := q416) | (obtain ⟨q416, f417, f418, f419⟩ := ti_addc (c := 1) (n := 1) rfl (q_I d398 12 7 a0))
            refine ok_bdv (fun d410 e411 => ?_)
            have i412 : RI ad h.1 δ0 d410 := by rw [e411]; exact cs_12_7 L i400
            have u420 := kp_I u406 e411
            have v421 : q_V d410 = q_V δ := ((show q_V d410 = q_V d398 by rw [e411]; rfl)).trans v407
            have v422 := kr_N v408 (show q_R d410 = q_R d398 by rw [e411]; rfl)
            have us423 : NU ad a0 δ d410 := NU.t us409 (show NU ad a0 d398 d410 from NU.w e411 (by decide))
            have f426 := cb_12_24 i412 k_a0
            have f427 : (q_I d410 12 24 a0).toInt = (q_I d398 12 24 a0).toInt := congrArg Int32.toInt (by rw [e411]; exact rI_o (by decide))
            have f428 := cb_12_24 i400 k_a0
            have f429 : (q_I d398 12 24 a0).toInt = (q_I r18.2 12 24 a0).toInt := congrArg Int32.toInt (by rw [e399]; exact rI_o (by decide))
            have f430 := cb_12_24 i20 k_a0
            have f431 : (q_I r18.2 12 24 a0).toInt = (q_I δ 12 24 a0).toInt := congrArg Int32.toInt (u24 12 24 a0 (by decide))
            have f432 := cb_12_26 i412 k_a0
            have f433 : (q_I d410 12 26 a0).toInt = (q_I d398 12 26 a0).toInt := congrArg Int32.toInt (by rw [e411]; exact rI_o (by decide))
            have f434 := cb_12_26 i400 k_a0
            have f435 : (q_I d398 12 26 a0).toInt = (q_I r18.2 12 26 a0).toInt := congrArg Int32.toInt (by rw [e399]; exact rI_o (by decide))
            have f436 := cb_12_26 i20 k_a0
            have f437 : (q_I r18.2 12 26 a0).toInt = (q_I δ 12 26 a0).toInt := congrArg Int32.toInt (u24 12 26 a0 (by decide))
            have f438 := cb_12_4 i412 k_a0
            have f439 : (q_I d410 12 4 a0).toInt = (q_I d398 12 4 a0).toInt := congrArg Int32.toInt (by rw [e411]; exact rI_o (by decide))
            have f440 := cb_12_4 i400 k_a0
            have f441 : (q_I d398 12 4 a0).toInt = ((q_I r18.2 12 4 a0) + (1 : Int32)).toInt := congrArg Int32.toInt (show q_I d398 12 4 a0 = ((q_I r18.2 12 4 a0) + (1 : Int32)) by rw [e399]; exact rI_s)
            have f442 := ti_b (q_I d410 12 7 a0)
            have f443 : (q_I d410 12 7 a0).toInt = ((q_I d398 12 7 a0) + (1 : Int32)).toInt := congrArg Int32.toInt (show q_I d410 12 7 a0 = ((q_I d398 12 7 a0) + (1 : Int32)) by rw [e411]; exact rI_s)
            have f444 := cb_12_5 i412 k_a0
            have f445 : (q_I d410 12 5 a0).toInt = (q_I d398 12 5 a0).toInt := congrArg Int32.toInt (by rw [e411]; exact rI_o (by decide))
            have f446 := cb_12_5 i400 k_a0
            have f447 : (q_I d398 12 5 a0).toInt = (q_I r18.2 12 5 a0).toInt := congrArg Int32.toInt (by rw [e399]; exact rI_o (by decide))
            refine ok_bind (hT a0 d410 k_a0 (show (q_I d410 12 24 a0).toInt ≤ 3 by first | assumption | omega) (show (q_I d410 12 26 a0).toInt ≤ (q_I d410 12 4 a0).toInt by first | assumption | omega) (show 0 ≤ (q_I d410 12 7 a0).toInt by first | assumption | omega) (show (q_I d410 12 7 a0).toInt ≤ 7 by first | assumption | omega) (show (q_I d410 12 7 a0).toInt = 7 → 0 ≤ (q_I d410 12 5 a0).toInt by first | assumption | omega) (show 8 - (q_I d410 12 7 a0).toInt < _ by first | assumption | omega) i412) (fun r424 hr425 => ?_)
            obtain ⟨i448, ⟨u455, u456, u457⟩, p449, p450, p451, p452, p453, p454⟩ := hr425
            have u458 := kp_t u420 u455
            have v459 : q_V r424 = q_V δ := (u456).trans v421
            have v460 := kr_t v422 u457
            have f461 := cb_12_4 i448 k_a0
            have f462 := cb_12_5 i448 k_a0
            have f463 := ti_b (q_I r424 12 7 a0)
            have f464 := cb_12_26 i448 k_a0
            have us465 : US ad a0 δ r424 := US.pre us423 p454
            refine ok_bind (k_X12_sign L hN (a0 := a0) (x1 := (41 : Int32)) k_a0 (show (41 : Int) ≠ 0 by first | assumption | omega) i448) (fun r466 hr467 => ?_)
            obtain ⟨i468, ⟨u472, u473, u474, u475⟩, p469, p470, p471⟩ := hr467
            have u476 := kp_t u458 u472
            have v477 : q_V r466 = q_V δ := (u473).trans v459
            have v478 := kr_t v460 u475
            have f479 := cb_12_4 i468 k_a0
            have f480 := cb_12_5 i468 k_a0
            have us481 : US ad a0 δ r466 := US.post us465 (show NU ad a0 r424 r466 from ⟨u475 116 (by decide) (by decide) (by decide), u472 12 26 _ (by decide), u472 12 24 _ (by decide), fun z => by omega⟩)
            have f485 := ti_b (q_I r466 12 7 a0)
            have f486 : (q_I r466 12 7 a0).toInt = (q_I r424 12 7 a0).toInt := congrArg Int32.toInt (u472 12 7 a0 (by decide))
            first | (have q488 := te_subc (c := 1) (n := 1) rfl (q_I r466 12 7 a0) (by omega) (by omega); obtain ⟨f489, f490, f491⟩ := q488) | (obtain ⟨q488, f489, f490, f491⟩ := ti_subc (c := 1) (n := 1) rfl (q_I r466 12 7 a0))
            refine ok_bdv (fun d482 e483 => ?_)
            have i484 : RI ad h.1 δ0 d482 := by rw [e483]; exact cs_12_7 L i468
            have u492 := kp_I u476 e483
            have v493 : q_V d482 = q_V δ := ((show q_V d482 = q_V r466 by rw [e483]; rfl)).trans v477
            have v494 := kr_N v478 (show q_R d482 = q_R r466 by rw [e483]; rfl)
            have us495 : US ad a0 δ d482 := US.post us481 (show NU ad a0 r466 d482 from NU.w e483 (by decide))
            have f496 := cb_12_4 i484 k_a0
            have f497 : (q_I d482 12 4 a0).toInt = (q_I r466 12 4 a0).toInt := congrArg Int32.toInt (by rw [e483]; exact rI_o (by decide))
            have f498 := cb_12_5 i484 k_a0
            have f499 : (q_I d482 12 5 a0).toInt = (q_I r466 12 5 a0).toInt := congrArg Int32.toInt (by rw [e483]; exact rI_o (by decide))
            have f500 := ti_b (q_I d482 12 7 a0)
            have f501 : (q_I d482 12 7 a0).toInt = ((q_I r466 12 7 a0) - (1 : Int32)).toInt := congrArg Int32.toInt (show q_I d482 12 7 a0 = ((q_I r466 12 7 a0) - (1 : Int32)) by rw [e483]; exact rI_s)
            have f502 := cb_12_26 i484 k_a0
            have f503 : (q_I d482 12 26 a0).toInt = (q_I r466 12 26 a0).toInt := congrArg Int32.toInt (by rw [e483]; exact rI_o (by decide))
            have f504 := cb_12_26 i468 k_a0
            have f505 : (q_I r466 12 26 a0).toInt = (q_I r424 12 26 a0).toInt := congrArg Int32.toInt (u472 12 26 a0 (by decide))
            exact ok_some (show RI ad h.1 δ0 d482 ∧ (kp [(12, 4), (12, 5), (12, 6), (12, 7), (12, 26)] δ d482 ∧ q_V d482 = q_V δ ∧ kr ad [116, 117] δ d482) ∧ (q_I δ 12 4 a0).toInt ≤ (q_I d482 12 4 a0).toInt ∧ (q_I δ 12 5 a0).toInt ≤ (q_I d482 12 5 a0).toInt ∧ (q_I d482 12 7 a0).toInt = (q_I δ 12 7 a0).toInt ∧ (q_I δ 12 26 a0).toInt ≤ (q_I d482 12 26 a0).toInt ∧ (q_I d482 12 26 a0).toInt - (q_I δ 12 26 a0).toInt ≤ (q_I d482 12 4 a0).toInt - (q_I δ 12 4 a0).toInt ∧ US ad a0 δ d482 from ⟨i484, ⟨kp_w (by decide) u492, v493, kr_w (by decide) v494⟩, by first | assumption | omega, by first | assumption | omega, by first | assumption | omega, by first | assumption | omega, by first | assumption | omega, us495⟩)
      · have c506 : r18.1.toInt ≠ (40 : Int) := o_ne h57
        refine ok_bind (k_X12_word L hN (a0 := a0) k_a0 i20) (fun r507 hr508 => ?_)
        obtain ⟨i509, ⟨u512, u513, u514, u515⟩, p510, p511⟩ := hr508
        have u516 := kp_t u28 u512
        have v517 : q_V r507.2 = q_V δ := (u513).trans v29
        have v518 := kr_t v30 u515
        have f519 := cb_12_4 i509 k_a0
        have f520 : hc ad r507.2 a0 = (q_R r507.2 (Ad ad 101) (q_I r507.2 12 4 a0).toNatClampNeg).toInt := rfl
        have t521 := ti_tn (q_I r507.2 12 4 a0)
        have f522 : (q_R r507.2 (Ad ad 101) (q_I r507.2 12 4 a0).toNatClampNeg).toInt = (q_R r18.2 (Ad ad 101) (q_I r507.2 12 4 a0).toNatClampNeg).toInt := congrArg Int32.toInt (congrFun (u515 101 (by decide) (by decide) (by decide)) _)
        have f523 : (q_R r18.2 (Ad ad 101) (q_I r507.2 12 4 a0).toNatClampNeg).toInt = (q_R δ (Ad ad 101) (q_I r507.2 12 4 a0).toNatClampNeg).toInt := congrArg Int32.toInt (congrFun (u27 101 (by decide) (by decide) (by decide)) _)
        have f524 := ti_b (q_R δ (Ad ad 101) (q_I r507.2 12 4 a0).toNatClampNeg)
        have f525 := ti_b (q_R r18.2 (Ad ad 101) (q_I r507.2 12 4 a0).toNatClampNeg)
        have f526 := ti_b (q_R r507.2 (Ad ad 101) (q_I r507.2 12 4 a0).toNatClampNeg)
        have f527 := ti_b r507.1
        have f528 := cb_12_3 i20 k_a0
        have f529 : (q_I r18.2 12 3 a0).toInt = (q_I δ 12 3 a0).toInt := congrArg Int32.toInt (u24 12 3 a0 (by decide))
        have f530 := ti_b r507.1
        have f531 := cb_12_5 i509 k_a0
        have f532 : (q_I r507.2 12 5 a0).toInt = (q_I r18.2 12 5 a0).toInt := congrArg Int32.toInt (u512 12 5 a0 (by decide))
        have us533 : NU ad a0 δ r507.2 := NU.t us45 (show NU ad a0 r18.2 r507.2 from ⟨u515 116 (by decide) (by decide) (by decide), u512 12 26 _ (by decide), u512 12 24 _ (by decide), fun z => by omega⟩)
        refine ok_bind (k_X12_of L hN (a0 := 11) (show 11 < 16 by first | assumption | omega) i509) (fun r534 hr535 => ?_)
        obtain ⟨i536, p537⟩ := hr535
        try rw [i536]
        have f538 := ti_b r534.1
        have f539 := ti_b r534.1
        refine ok_ite (fun h540 => ?_) (fun h540 => ?_)
        · have c541 : r507.1.toInt = r534.1.toInt := o_eq h540
          unfold J_X12_unit_176
          refine ok_ite (fun h542 => absurd h542 (by decide)) (fun h542 => ?_)
          refine ok_bind (k_X12_pass L hN (a0 := a0) k_a0 i509) (fun r543 hr544 => ?_)
          obtain ⟨i545, ⟨u548, u549, u550, u551⟩, p546, p547⟩ := hr544
          have u552 := kp_t u516 u548
          have v553 : q_V r543 = q_V δ := (u549).trans v517
          have v554 := kr_t v518 u551
          have f555 := cb_12_4 i545 k_a0
          have f556 := cb_12_3 i509 k_a0
          have f557 : (q_I r507.2 12 3 a0).toInt = (q_I r18.2 12 3 a0).toInt := congrArg Int32.toInt (u512 12 3 a0 (by decide))
          have f558 := cb_12_5 i545 k_a0
          have f559 : (q_I r543 12 5 a0).toInt = (q_I r507.2 12 5 a0).toInt := congrArg Int32.toInt (u548 12 5 a0 (by decide))
          have us560 : NU ad a0 δ r543 := NU.t us533 (show NU ad a0 r507.2 r543 from ⟨u551 116 (by decide) (by decide) (by decide), u548 12 26 _ (by decide), u548 12 24 _ (by decide), fun z => by omega⟩)
          have f563 := cb_12_24 i545 k_a0
          have f564 : (q_I r543 12 24 a0).toInt = (q_I r507.2 12 24 a0).toInt := congrArg Int32.toInt (u548 12 24 a0 (by decide))
          have f565 := cb_12_24 i509 k_a0
          have f566 : (q_I r507.2 12 24 a0).toInt = (q_I r18.2 12 24 a0).toInt := congrArg Int32.toInt (u512 12 24 a0 (by decide))
          have f567 := cb_12_24 i20 k_a0
          have f568 : (q_I r18.2 12 24 a0).toInt = (q_I δ 12 24 a0).toInt := congrArg Int32.toInt (u24 12 24 a0 (by decide))
          have f569 := cb_12_26 i545 k_a0
          have f570 : (q_I r543 12 26 a0).toInt = (q_I r507.2 12 26 a0).toInt := congrArg Int32.toInt (u548 12 26 a0 (by decide))
          have f571 := cb_12_26 i509 k_a0
          have f572 : (q_I r507.2 12 26 a0).toInt = (q_I r18.2 12 26 a0).toInt := congrArg Int32.toInt (u512 12 26 a0 (by decide))
          have f573 := cb_12_26 i20 k_a0
          have f574 : (q_I r18.2 12 26 a0).toInt = (q_I δ 12 26 a0).toInt := congrArg Int32.toInt (u24 12 26 a0 (by decide))
          refine ok_bind (k_X12_emit L hN (a0 := a0) (x1 := (1 : Int32)) (x2 := (0 : Int32)) k_a0 (show (q_I r543 12 24 a0).toInt ≤ 3 by first | assumption | omega) (show (q_I r543 12 5 a0).toInt < 0 → (q_I r543 12 26 a0).toInt < 500 by first | assumption | omega) i545) (fun r561 hr562 => ?_)
          obtain ⟨i575, ⟨u580, u581, u582⟩, p576, p577, p578, p579⟩ := hr562
          have u583 := kp_t u552 u580
          have v584 : q_V r561 = q_V δ := (u581).trans v553
          have v585 := kr_t v554 u582
          have f586 := cb_12_26 i575 k_a0
          have us587 : US ad a0 δ r561 := US.em us560 p579 (by decide) (by decide)
          have f588 := cb_12_4 i575 k_a0
          have f589 : (q_I r561 12 4 a0).toInt = (q_I r543 12 4 a0).toInt := congrArg Int32.toInt (u580 12 4 a0 (by decide))
          have f590 := cb_12_5 i575 k_a0
          have f591 : (q_I r561 12 5 a0).toInt = (q_I r543 12 5 a0).toInt := congrArg Int32.toInt (u580 12 5 a0 (by decide))
          have f592 := ti_b (q_I r561 12 7 a0)
          have f593 : (q_I r561 12 7 a0).toInt = (q_I r543 12 7 a0).toInt := congrArg Int32.toInt (u580 12 7 a0 (by decide))
          have f594 := ti_b (q_I r543 12 7 a0)
          have f595 : (q_I r543 12 7 a0).toInt = (q_I r507.2 12 7 a0).toInt := congrArg Int32.toInt (u548 12 7 a0 (by decide))
          have f596 := ti_b (q_I r507.2 12 7 a0)
          have f597 : (q_I r507.2 12 7 a0).toInt = (q_I r18.2 12 7 a0).toInt := congrArg Int32.toInt (u512 12 7 a0 (by decide))
          have f598 := ti_b (q_I r18.2 12 7 a0)
          have f599 : (q_I r18.2 12 7 a0).toInt = (q_I δ 12 7 a0).toInt := congrArg Int32.toInt (u24 12 7 a0 (by decide))
          exact ok_some (show RI ad h.1 δ0 r561 ∧ (kp [(12, 4), (12, 5), (12, 6), (12, 7), (12, 26)] δ r561 ∧ q_V r561 = q_V δ ∧ kr ad [116, 117] δ r561) ∧ (q_I δ 12 4 a0).toInt ≤ (q_I r561 12 4 a0).toInt ∧ (q_I δ 12 5 a0).toInt ≤ (q_I r561 12 5 a0).toInt ∧ (q_I r561 12 7 a0).toInt = (q_I δ 12 7 a0).toInt ∧ (q_I δ 12 26 a0).toInt ≤ (q_I r561 12 26 a0).toInt ∧ (q_I r561 12 26 a0).toInt - (q_I δ 12 26 a0).toInt ≤ (q_I r561 12 4 a0).toInt - (q_I δ 12 4 a0).toInt ∧ US ad a0 δ r561 from ⟨i575, ⟨kp_w (by decide) u583, v584, kr_w (by decide) v585⟩, by first | assumption | omega, by first | assumption | omega, by first | assumption | omega, by first | assumption | omega, by first | assumption | omega, us587⟩)
        · have c600 : r507.1.toInt ≠ r534.1.toInt := o_ne h540
          refine ok_bind (k_X12_of L hN (a0 := 12) (show 12 < 16 by first | assumption | omega) i509) (fun r601 hr602 => ?_)
          obtain ⟨i603, p604⟩ := hr602
          try rw [i603]
          have f605 := ti_b r601.1
          have f606 := ti_b r601.1
          refine ok_ite (fun h607 => ?_) (fun h607 => ?_)
          · have c608 : r507.1.toInt = r601.1.toInt := o_eq h607
            unfold J_X12_unit_176
            refine ok_ite (fun h609 => absurd h609 (by decide)) (fun h609 => ?_)
            refine ok_bind (k_X12_pass L hN (a0 := a0) k_a0 i509) (fun r610 hr611 => ?_)
            obtain ⟨i612, ⟨u615, u616, u617, u618⟩, p613, p614⟩ := hr611
            have u619 := kp_t u516 u615
            have v620 : q_V r610 = q_V δ := (u616).trans v517
            have v621 := kr_t v518 u618
            have f622 := cb_12_4 i612 k_a0
            have f623 := cb_12_3 i509 k_a0
            have f624 : (q_I r507.2 12 3 a0).toInt = (q_I r18.2 12 3 a0).toInt := congrArg Int32.toInt (u512 12 3 a0 (by decide))
            have f625 := cb_12_5 i612 k_a0
            have f626 : (q_I r610 12 5 a0).toInt = (q_I r507.2 12 5 a0).toInt := congrArg Int32.toInt (u615 12 5 a0 (by decide))
            have us627 : NU ad a0 δ r610 := NU.t us533 (show NU ad a0 r507.2 r610 from ⟨u618 116 (by decide) (by decide) (by decide), u615 12 26 _ (by decide), u615 12 24 _ (by decide), fun z => by omega⟩)
            have f630 := cb_12_24 i612 k_a0
            have f631 : (q_I r610 12 24 a0).toInt = (q_I r507.2 12 24 a0).toInt := congrArg Int32.toInt (u615 12 24 a0 (by decide))
            have f632 := cb_12_24 i509 k_a0
            have f633 : (q_I r507.2 12 24 a0).toInt = (q_I r18.2 12 24 a0).toInt := congrArg Int32.toInt (u512 12 24 a0 (by decide))
            have f634 := cb_12_24 i20 k_a0
            have f635 : (q_I r18.2 12 24 a0).toInt = (q_I δ 12 24 a0).toInt := congrArg Int32.toInt (u24 12 24 a0 (by decide))
            have f636 := cb_12_26 i612 k_a0
            have f637 : (q_I r610 12 26 a0).toInt = (q_I r507.2 12 26 a0).toInt := congrArg Int32.toInt (u615 12 26 a0 (by decide))
            have f638 := cb_12_26 i509 k_a0
            have f639 : (q_I r507.2 12 26 a0).toInt = (q_I r18.2 12 26 a0).toInt := congrArg Int32.toInt (u512 12 26 a0 (by decide))
            have f640 := cb_12_26 i20 k_a0
            have f641 : (q_I r18.2 12 26 a0).toInt = (q_I δ 12 26 a0).toInt := congrArg Int32.toInt (u24 12 26 a0 (by decide))
            refine ok_bind (k_X12_emit L hN (a0 := a0) (x1 := (2 : Int32)) (x2 := (0 : Int32)) k_a0 (show (q_I r610 12 24 a0).toInt ≤ 3 by first | assumption | omega) (show (q_I r610 12 5 a0).toInt < 0 → (q_I r610 12 26 a0).toInt < 500 by first | assumption | omega) i612) (fun r628 hr629 => ?_)
            obtain ⟨i642, ⟨u647, u648, u649⟩, p643, p644, p645, p646⟩ := hr629
            have u650 := kp_t u619 u647
            have v651 : q_V r628 = q_V δ := (u648).trans v620
            have v652 := kr_t v621 u649
            have f653 := cb_12_26 i642 k_a0
            have us654 : US ad a0 δ r628 := US.em us627 p646 (by decide) (by decide)
            have f655 := cb_12_4 i642 k_a0
            have f656 : (q_I r628 12 4 a0).toInt = (q_I r610 12 4 a0).toInt := congrArg Int32.toInt (u647 12 4 a0 (by decide))
            have f657 := cb_12_5 i642 k_a0
            have f658 : (q_I r628 12 5 a0).toInt = (q_I r610 12 5 a0).toInt := congrArg Int32.toInt (u647 12 5 a0 (by decide))
            have f659 := ti_b (q_I r628 12 7 a0)
            have f660 : (q_I r628 12 7 a0).toInt = (q_I r610 12 7 a0).toInt := congrArg Int32.toInt (u647 12 7 a0 (by decide))
            have f661 := ti_b (q_I r610 12 7 a0)
            have f662 : (q_I r610 12 7 a0).toInt = (q_I r507.2 12 7 a0).toInt := congrArg Int32.toInt (u615 12 7 a0 (by decide))
            have f663 := ti_b (q_I r507.2 12 7 a0)
            have f664 : (q_I r507.2 12 7 a0).toInt = (q_I r18.2 12 7 a0).toInt := congrArg Int32.toInt (u512 12 7 a0 (by decide))
            have f665 := ti_b (q_I r18.2 12 7 a0)
            have f666 : (q_I r18.2 12 7 a0).toInt = (q_I δ 12 7 a0).toInt := congrArg Int32.toInt (u24 12 7 a0 (by decide))
            exact ok_some (show RI ad h.1 δ0 r628 ∧ (kp [(12, 4), (12, 5), (12, 6), (12, 7), (12, 26)] δ r628 ∧ q_V r628 = q_V δ ∧ kr ad [116, 117] δ r628) ∧ (q_I δ 12 4 a0).toInt ≤ (q_I r628 12 4 a0).toInt ∧ (q_I δ 12 5 a0).toInt ≤ (q_I r628 12 5 a0).toInt ∧ (q_I r628 12 7 a0).toInt = (q_I δ 12 7 a0).toInt ∧ (q_I δ 12 26 a0).toInt ≤ (q_I r628 12 26 a0).toInt ∧ (q_I r628 12 26 a0).toInt - (q_I δ 12 26 a0).toInt ≤ (q_I r628 12 4 a0).toInt - (q_I δ 12 4 a0).toInt ∧ US ad a0 δ r628 from ⟨i642, ⟨kp_w (by decide) u650, v651, kr_w (by decide) v652⟩, by first | assumption | omega, by first | assumption | omega, by first | assumption | omega, by first | assumption | omega, by first | assumption | omega, us654⟩)
          · have c667 : r507.1.toInt ≠ r601.1.toInt := o_ne h607
            refine ok_bind (k_X12_of L hN (a0 := 13) (show 13 < 16 by first | assumption | omega) i509) (fun r668 hr669 => ?_)
            obtain ⟨i670, p671⟩ := hr669
            try rw [i670]
            have f672 := ti_b r668.1
            have f673 := ti_b r668.1
            refine ok_ite (fun h674 => ?_) (fun h674 => ?_)
            · have c675 : r507.1.toInt = r668.1.toInt := o_eq h674
              unfold J_X12_unit_176
              refine ok_ite (fun h676 => absurd h676 (by decide)) (fun h676 => ?_)
              refine ok_bind (k_X12_pass L hN (a0 := a0) k_a0 i509) (fun r677 hr678 => ?_)
              obtain ⟨i679, ⟨u682, u683, u684, u685⟩, p680, p681⟩ := hr678
              have u686 := kp_t u516 u682
              have v687 : q_V r677 = q_V δ := (u683).trans v517
              have v688 := kr_t v518 u685
              have f689 := cb_12_4 i679 k_a0
              have f690 := cb_12_3 i509 k_a0
              have f691 : (q_I r507.2 12 3 a0).toInt = (q_I r18.2 12 3 a0).toInt := congrArg Int32.toInt (u512 12 3 a0 (by decide))
              have f692 := cb_12_5 i679 k_a0
              have f693 : (q_I r677 12 5 a0).toInt = (q_I r507.2 12 5 a0).toInt := congrArg Int32.toInt (u682 12 5 a0 (by decide))
              have us694 : NU ad a0 δ r677 := NU.t us533 (show NU ad a0 r507.2 r677 from ⟨u685 116 (by decide) (by decide) (by decide), u682 12 26 _ (by decide), u682 12 24 _ (by decide), fun z => by omega⟩)
              have f697 := cb_12_24 i679 k_a0
              have f698 : (q_I r677 12 24 a0).toInt = (q_I r507.2 12 24 a0).toInt := congrArg Int32.toInt (u682 12 24 a0 (by decide))
              have f699 := cb_12_24 i509 k_a0
              have f700 : (q_I r507.2 12 24 a0).toInt = (q_I r18.2 12 24 a0).toInt := congrArg Int32.toInt (u512 12 24 a0 (by decide))
              have f701 := cb_12_24 i20 k_a0
              have f702 : (q_I r18.2 12 24 a0).toInt = (q_I δ 12 24 a0).toInt := congrArg Int32.toInt (u24 12 24 a0 (by decide))
              have f703 := cb_12_26 i679 k_a0
              have f704 : (q_I r677 12 26 a0).toInt = (q_I r507.2 12 26 a0).toInt := congrArg Int32.toInt (u682 12 26 a0 (by decide))
              have f705 := cb_12_26 i509 k_a0
              have f706 : (q_I r507.2 12 26 a0).toInt = (q_I r18.2 12 26 a0).toInt := congrArg Int32.toInt (u512 12 26 a0 (by decide))
              have f707 := cb_12_26 i20 k_a0
              have f708 : (q_I r18.2 12 26 a0).toInt = (q_I δ 12 26 a0).toInt := congrArg Int32.toInt (u24 12 26 a0 (by decide))
              refine ok_bind (k_X12_emit L hN (a0 := a0) (x1 := (3 : Int32)) (x2 := (0 : Int32)) k_a0 (show (q_I r677 12 24 a0).toInt ≤ 3 by first | assumption | omega) (show (q_I r677 12 5 a0).toInt < 0 → (q_I r677 12 26 a0).toInt < 500 by first | assumption | omega) i679) (fun r695 hr696 => ?_)
              obtain ⟨i709, ⟨u714, u715, u716⟩, p710, p711, p712, p713⟩ := hr696
              have u717 := kp_t u686 u714
              have v718 : q_V r695 = q_V δ := (u715).trans v687
              have v719 := kr_t v688 u716
              have f720 := cb_12_26 i709 k_a0
              have us721 : US ad a0 δ r695 := US.em us694 p713 (by decide) (by decide)
              have f722 := cb_12_4 i709 k_a0
              have f723 : (q_I r695 12 4 a0).toInt = (q_I r677 12 4 a0).toInt := congrArg Int32.toInt (u714 12 4 a0 (by decide))
              have f724 := cb_12_5 i709 k_a0
              have f725 : (q_I r695 12 5 a0).toInt = (q_I r677 12 5 a0).toInt := congrArg Int32.toInt (u714 12 5 a0 (by decide))
              have f726 := ti_b (q_I r695 12 7 a0)
              have f727 : (q_I r695 12 7 a0).toInt = (q_I r677 12 7 a0).toInt := congrArg Int32.toInt (u714 12 7 a0 (by decide))
              have f728 := ti_b (q_I r677 12 7 a0)
              have f729 : (q_I r677 12 7 a0).toInt = (q_I r507.2 12 7 a0).toInt := congrArg Int32.toInt (u682 12 7 a0 (by decide))
              have f730 := ti_b (q_I r507.2 12 7 a0)
              have f731 : (q_I r507.2 12 7 a0).toInt = (q_I r18.2 12 7 a0).toInt := congrArg Int32.toInt (u512 12 7 a0 (by decide))
              have f732 := ti_b (q_I r18.2 12 7 a0)
              have f733 : (q_I r18.2 12 7 a0).toInt = (q_I δ 12 7 a0).toInt := congrArg Int32.toInt (u24 12 7 a0 (by decide))
              exact ok_some (show RI ad h.1 δ0 r695 ∧ (kp [(12, 4), (12, 5), (12, 6), (12, 7), (12, 26)] δ r695 ∧ q_V r695 = q_V δ ∧ kr ad [116, 117] δ r695) ∧ (q_I δ 12 4 a0).toInt ≤ (q_I r695 12 4 a0).toInt ∧ (q_I δ 12 5 a0).toInt ≤ (q_I r695 12 5 a0).toInt ∧ (q_I r695 12 7 a0).toInt = (q_I δ 12 7 a0).toInt ∧ (q_I δ 12 26 a0).toInt ≤ (q_I r695 12 26 a0).toInt ∧ (q_I r695 12 26 a0).toInt - (q_I δ 12 26 a0).toInt ≤ (q_I r695 12 4 a0).toInt - (q_I δ 12 4 a0).toInt ∧ US ad a0 δ r695 from ⟨i709, ⟨kp_w (by decide) u717, v718, kr_w (by decide) v719⟩, by first | assumption | omega, by first | assumption | omega, by first | assumption | omega, by first | assumption | omega, by first | assumption | omega, us721⟩)
            · have c734 : r507.1.toInt ≠ r668.1.toInt := o_ne h674
              refine ok_bind (k_X12_of L hN (a0 := 14) (show 14 < 16 by first | assumption | omega) i509) (fun r735 hr736 => ?_)
              obtain ⟨i737, p738⟩ := hr736
              try rw [i737]
              have f739 := ti_b r735.1
              have f740 := ti_b r735.1
              refine ok_ite (fun h741 => ?_) (fun h741 => ?_)
              · have c742 : r507.1.toInt = r735.1.toInt := o_eq h741
                unfold J_X12_unit_176
                refine ok_ite (fun h743 => absurd h743 (by decide)) (fun h743 => ?_)
                refine ok_bind (k_X12_pass L hN (a0 := a0) k_a0 i509) (fun r744 hr745 => ?_)
                obtain ⟨i746, ⟨u749, u750, u751, u752⟩, p747, p748⟩ := hr745
                have u753 := kp_t u516 u749
                have v754 : q_V r744 = q_V δ := (u750).trans v517
                have v755 := kr_t v518 u752
                have f756 := cb_12_4 i746 k_a0
                have f757 := cb_12_3 i509 k_a0
                have f758 : (q_I r507.2 12 3 a0).toInt = (q_I r18.2 12 3 a0).toInt := congrArg Int32.toInt (u512 12 3 a0 (by decide))
                have f759 := cb_12_5 i746 k_a0
                have f760 : (q_I r744 12 5 a0).toInt = (q_I r507.2 12 5 a0).toInt := congrArg Int32.toInt (u749 12 5 a0 (by decide))
                have us761 : NU ad a0 δ r744 := NU.t us533 (show NU ad a0 r507.2 r744 from ⟨u752 116 (by decide) (by decide) (by decide), u749 12 26 _ (by decide), u749 12 24 _ (by decide), fun z => by omega⟩)
                have f764 := cb_12_24 i746 k_a0
                have f765 : (q_I r744 12 24 a0).toInt = (q_I r507.2 12 24 a0).toInt := congrArg Int32.toInt (u749 12 24 a0 (by decide))
                have f766 := cb_12_24 i509 k_a0
                have f767 : (q_I r507.2 12 24 a0).toInt = (q_I r18.2 12 24 a0).toInt := congrArg Int32.toInt (u512 12 24 a0 (by decide))
                have f768 := cb_12_24 i20 k_a0
                have f769 : (q_I r18.2 12 24 a0).toInt = (q_I δ 12 24 a0).toInt := congrArg Int32.toInt (u24 12 24 a0 (by decide))
                have f770 := cb_12_26 i746 k_a0
                have f771 : (q_I r744 12 26 a0).toInt = (q_I r507.2 12 26 a0).toInt := congrArg Int32.toInt (u749 12 26 a0 (by decide))
                have f772 := cb_12_26 i509 k_a0
                have f773 : (q_I r507.2 12 26 a0).toInt = (q_I r18.2 12 26 a0).toInt := congrArg Int32.toInt (u512 12 26 a0 (by decide))
                have f774 := cb_12_26 i20 k_a0
                have f775 : (q_I r18.2 12 26 a0).toInt = (q_I δ 12 26 a0).toInt := congrArg Int32.toInt (u24 12 26 a0 (by decide))
                refine ok_bind (k_X12_emit L hN (a0 := a0) (x1 := (4 : Int32)) (x2 := (0 : Int32)) k_a0 (show (q_I r744 12 24 a0).toInt ≤ 3 by first | assumption | omega) (show (q_I r744 12 5 a0).toInt < 0 → (q_I r744 12 26 a0).toInt < 500 by first | assumption | omega) i746) (fun r762 hr763 => ?_)
                obtain ⟨i776, ⟨u781, u782, u783⟩, p777, p778, p779, p780⟩ := hr763
                have u784 := kp_t u753 u781
                have v785 : q_V r762 = q_V δ := (u782).trans v754
                have v786 := kr_t v755 u783
                have f787 := cb_12_26 i776 k_a0
                have us788 : US ad a0 δ r762 := US.em us761 p780 (by decide) (by decide)
                have f789 := cb_12_4 i776 k_a0
                have f790 : (q_I r762 12 4 a0).toInt = (q_I r744 12 4 a0).toInt := congrArg Int32.toInt (u781 12 4 a0 (by decide))
                have f791 := cb_12_5 i776 k_a0
                have f792 : (q_I r762 12 5 a0).toInt = (q_I r744 12 5 a0).toInt := congrArg Int32.toInt (u781 12 5 a0 (by decide))
                have f793 := ti_b (q_I r762 12 7 a0)
                have f794 : (q_I r762 12 7 a0).toInt = (q_I r744 12 7 a0).toInt := congrArg Int32.toInt (u781 12 7 a0 (by decide))
                have f795 := ti_b (q_I r744 12 7 a0)
                have f796 : (q_I r744 12 7 a0).toInt = (q_I r507.2 12 7 a0).toInt := congrArg Int32.toInt (u749 12 7 a0 (by decide))
                have f797 := ti_b (q_I r507.2 12 7 a0)
                have f798 : (q_I r507.2 12 7 a0).toInt = (q_I r18.2 12 7 a0).toInt := congrArg Int32.toInt (u512 12 7 a0 (by decide))
                have f799 := ti_b (q_I r18.2 12 7 a0)
                have f800 : (q_I r18.2 12 7 a0).toInt = (q_I δ 12 7 a0).toInt := congrArg Int32.toInt (u24 12 7 a0 (by decide))
                exact ok_some (show RI ad h.1 δ0 r762 ∧ (kp [(12, 4), (12, 5), (12, 6), (12, 7), (12, 26)] δ r762 ∧ q_V r762 = q_V δ ∧ kr ad [116, 117] δ r762) ∧ (q_I δ 12 4 a0).toInt ≤ (q_I r762 12 4 a0).toInt ∧ (q_I δ 12 5 a0).toInt ≤ (q_I r762 12 5 a0).toInt ∧ (q_I r762 12 7 a0).toInt = (q_I δ 12 7 a0).toInt ∧ (q_I δ 12 26 a0).toInt ≤ (q_I r762 12 26 a0).toInt ∧ (q_I r762 12 26 a0).toInt - (q_I δ 12 26 a0).toInt ≤ (q_I r762 12 4 a0).toInt - (q_I δ 12 4 a0).toInt ∧ US ad a0 δ r762 from ⟨i776, ⟨kp_w (by decide) u784, v785, kr_w (by decide) v786⟩, by first | assumption | omega, by first | assumption | omega, by first | assumption | omega, by first | assumption | omega, by first | assumption | omega, us788⟩)
              · have c801 : r507.1.toInt ≠ r735.1.toInt := o_ne h741
                refine ok_bind (k_X12_of L hN (a0 := 15) (show 15 < 16 by first | assumption | omega) i509) (fun r802 hr803 => ?_)
                obtain ⟨i804, p805⟩ := hr803
                try rw [i804]
                have f806 := ti_b r802.1
                have f807 := ti_b r802.1
                refine ok_ite (fun h808 => ?_) (fun h808 => ?_)
                · have c809 : r507.1.toInt = r802.1.toInt := o_eq h808
                  unfold J_X12_unit_176
                  refine ok_ite (fun h810 => absurd h810 (by decide)) (fun h810 => ?_)
                  refine ok_bind (k_X12_pass L hN (a0 := a0) k_a0 i509) (fun r811 hr812 => ?_)
                  obtain ⟨i813, ⟨u816, u817, u818, u819⟩, p814, p815⟩ := hr812
                  have u820 := kp_t u516 u816
                  have v821 : q_V r811 = q_V δ := (u817).trans v517
                  have v822 := kr_t v518 u819
                  have f823 := cb_12_4 i813 k_a0
                  have f824 := cb_12_3 i509 k_a0
                  have f825 : (q_I r507.2 12 3 a0).toInt = (q_I r18.2 12 3 a0).toInt := congrArg Int32.toInt (u512 12 3 a0 (by decide))
                  have f826 := cb_12_5 i813 k_a0
                  have f827 : (q_I r811 12 5 a0).toInt = (q_I r507.2 12 5 a0).toInt := congrArg Int32.toInt (u816 12 5 a0 (by decide))
                  have us828 : NU ad a0 δ r811 := NU.t us533 (show NU ad a0 r507.2 r811 from ⟨u819 116 (by decide) (by decide) (by decide), u816 12 26 _ (by decide), u816 12 24 _ (by decide), fun z => by omega⟩)
                  have f831 := cb_12_24 i813 k_a0
                  have f832 : (q_I r811 12 24 a0).toInt = (q_I r507.2 12 24 a0).toInt := congrArg Int32.toInt (u816 12 24 a0 (by decide))
                  have f833 := cb_12_24 i509 k_a0
                  have f834 : (q_I r507.2 12 24 a0).toInt = (q_I r18.2 12 24 a0).toInt := congrArg Int32.toInt (u512 12 24 a0 (by decide))
                  have f835 := cb_12_24 i20 k_a0
                  have f836 : (q_I r18.2 12 24 a0).toInt = (q_I δ 12 24 a0).toInt := congrArg Int32.toInt (u24 12 24 a0 (by decide))
                  have f837 := cb_12_26 i813 k_a0
                  have f838 : (q_I r811 12 26 a0).toInt = (q_I r507.2 12 26 a0).toInt := congrArg Int32.toInt (u816 12 26 a0 (by decide))
                  have f839 := cb_12_26 i509 k_a0
                  have f840 : (q_I r507.2 12 26 a0).toInt = (q_I r18.2 12 26 a0).toInt := congrArg Int32.toInt (u512 12 26 a0 (by decide))
                  have f841 := cb_12_26 i20 k_a0
                  have f842 : (q_I r18.2 12 26 a0).toInt = (q_I δ 12 26 a0).toInt := congrArg Int32.toInt (u24 12 26 a0 (by decide))
                  refine ok_bind (k_X12_emit L hN (a0 := a0) (x1 := (5 : Int32)) (x2 := (0 : Int32)) k_a0 (show (q_I r811 12 24 a0).toInt ≤ 3 by first | assumption | omega) (show (q_I r811 12 5 a0).toInt < 0 → (q_I r811 12 26 a0).toInt < 500 by first | assumption | omega) i813) (fun r829 hr830 => ?_)
                  obtain ⟨i843, ⟨u848, u849, u850⟩, p844, p845, p846, p847⟩ := hr830
                  have u851 := kp_t u820 u848
                  have v852 : q_V r829 = q_V δ := (u849).trans v821
                  have v853 := kr_t v822 u850
                  have f854 := cb_12_26 i843 k_a0
                  have us855 : US ad a0 δ r829 := US.em us828 p847 (by decide) (by decide)
                  have f856 := cb_12_4 i843 k_a0
                  have f857 : (q_I r829 12 4 a0).toInt = (q_I r811 12 4 a0).toInt := congrArg Int32.toInt (u848 12 4 a0 (by decide))
                  have f858 := cb_12_5 i843 k_a0
                  have f859 : (q_I r829 12 5 a0).toInt = (q_I r811 12 5 a0).toInt := congrArg Int32.toInt (u848 12 5 a0 (by decide))
                  have f860 := ti_b (q_I r829 12 7 a0)
                  have f861 : (q_I r829 12 7 a0).toInt = (q_I r811 12 7 a0).toInt := congrArg Int32.toInt (u848 12 7 a0 (by decide))
                  have f862 := ti_b (q_I r811 12 7 a0)
                  have f863 : (q_I r811 12 7 a0).toInt = (q_I r507.2 12 7 a0).toInt := congrArg Int32.toInt (u816 12 7 a0 (by decide))
                  have f864 := ti_b (q_I r507.2 12 7 a0)
                  have f865 : (q_I r507.2 12 7 a0).toInt = (q_I r18.2 12 7 a0).toInt := congrArg Int32.toInt (u512 12 7 a0 (by decide))
                  have f866 := ti_b (q_I r18.2 12 7 a0)
                  have f867 : (q_I r18.2 12 7 a0).toInt = (q_I δ 12 7 a0).toInt := congrArg Int32.toInt (u24 12 7 a0 (by decide))
                  exact ok_some (show RI ad h.1 δ0 r829 ∧ (kp [(12, 4), (12, 5), (12, 6), (12, 7), (12, 26)] δ r829 ∧ q_V r829 = q_V δ ∧ kr ad [116, 117] δ r829) ∧ (q_I δ 12 4 a0).toInt ≤ (q_I r829 12 4 a0).toInt ∧ (q_I δ 12 5 a0).toInt ≤ (q_I r829 12 5 a0).toInt ∧ (q_I r829 12 7 a0).toInt = (q_I δ 12 7 a0).toInt ∧ (q_I δ 12 26 a0).toInt ≤ (q_I r829 12 26 a0).toInt ∧ (q_I r829 12 26 a0).toInt - (q_I δ 12 26 a0).toInt ≤ (q_I r829 12 4 a0).toInt - (q_I δ 12 4 a0).toInt ∧ US ad a0 δ r829 from ⟨i843, ⟨kp_w (by decide) u851, v852, kr_w (by decide) v853⟩, by first | assumption | omega, by first | assumption | omega, by first | assumption | omega, by first | assumption | omega, by first | assumption | omega, us855⟩)
                · have c868 : r507.1.toInt ≠ r802.1.toInt := o_ne h808
                  unfold J_X12_unit_176
                  refine ok_ite (fun h869 => ?_) (fun h869 => absurd (by decide) h869)
                  refine ok_bind (k_X12_wrong L hN (a0 := a0) (x1 := (1 : Int32)) (x2 := (q_I r507.2 12 4 a0)) k_a0 (show 0 ≤ ((q_I r507.2 12 4 a0)).toInt by first | assumption | omega) (show ((q_I r507.2 12 4 a0)).toInt ≤ 500 by first | assumption | omega) (show 0 ≤ (1 : Int) by first | assumption | omega) (show (1 : Int) ≤ 4 by first | assumption | omega) i509) (fun r870 hr871 => ?_)
                  obtain ⟨i872, ⟨u875, u876, u877, u878⟩, p873, p874⟩ := hr871
                  have u879 := kp_t u516 u875
                  have v880 : q_V r870 = q_V δ := (u876).trans v517
                  have v881 := kr_t v518 u878
                  have f882 := cb_12_5 i872 k_a0
                  have us883 : NU ad a0 δ r870 := NU.t us533 (show NU ad a0 r507.2 r870 from ⟨u878 116 (by decide) (by decide) (by decide), u875 12 26 _ (by decide), u875 12 24 _ (by decide), fun z => by omega⟩)
                  have f884 := cb_12_4 i872 k_a0
                  have f885 : (q_I r870 12 4 a0).toInt = (q_I r507.2 12 4 a0).toInt := congrArg Int32.toInt (u875 12 4 a0 (by decide))
                  have f886 := ti_b (q_I r870 12 7 a0)
                  have f887 : (q_I r870 12 7 a0).toInt = (q_I r507.2 12 7 a0).toInt := congrArg Int32.toInt (u875 12 7 a0 (by decide))
                  have f888 := ti_b (q_I r507.2 12 7 a0)
                  have f889 : (q_I r507.2 12 7 a0).toInt = (q_I r18.2 12 7 a0).toInt := congrArg Int32.toInt (u512 12 7 a0 (by decide))
                  have f890 := ti_b (q_I r18.2 12 7 a0)
                  have f891 : (q_I r18.2 12 7 a0).toInt = (q_I δ 12 7 a0).toInt := congrArg Int32.toInt (u24 12 7 a0 (by decide))
                  have f892 := cb_12_26 i872 k_a0
                  have f893 : (q_I r870 12 26 a0).toInt = (q_I r507.2 12 26 a0).toInt := congrArg Int32.toInt (u875 12 26 a0 (by decide))
                  have f894 := cb_12_26 i509 k_a0
                  have f895 : (q_I r507.2 12 26 a0).toInt = (q_I r18.2 12 26 a0).toInt := congrArg Int32.toInt (u512 12 26 a0 (by decide))
                  have f896 := cb_12_26 i20 k_a0
                  have f897 : (q_I r18.2 12 26 a0).toInt = (q_I δ 12 26 a0).toInt := congrArg Int32.toInt (u24 12 26 a0 (by decide))
                  exact ok_some (show RI ad h.1 δ0 r870 ∧ (kp [(12, 4), (12, 5), (12, 6), (12, 7), (12, 26)] δ r870 ∧ q_V r870 = q_V δ ∧ kr ad [116, 117] δ r870) ∧ (q_I δ 12 4 a0).toInt ≤ (q_I r870 12 4 a0).toInt ∧ (q_I δ 12 5 a0).toInt ≤ (q_I r870 12 5 a0).toInt ∧ (q_I r870 12 7 a0).toInt = (q_I δ 12 7 a0).toInt ∧ (q_I δ 12 26 a0).toInt ≤ (q_I r870 12 26 a0).toInt ∧ (q_I r870 12 26 a0).toInt - (q_I δ 12 26 a0).toInt ≤ (q_I r870 12 4 a0).toInt - (q_I δ 12 4 a0).toInt ∧ US ad a0 δ r870 from ⟨i872, ⟨kp_w (by decide) u879, v880, kr_w (by decide) v881⟩, by first | assumption | omega, by first | assumption | omega, by first | assumption | omega, by first | assumption | omega, by first | assumption | omega, US.bad us883 (by omega)⟩)
    · have c898 : r46.1.toInt ≠ (0 : Int) := o_ne h55
      refine ok_bind (k_X12_readNumber L hN (a0 := a0) (x1 := (0 : Int32)) (x2 := (99999 : Int32)) k_a0 i20) (fun r899 hr900 => ?_)
      obtain ⟨i901, ⟨u908, u909, u910, u911⟩, p902, p903, p904, p905, p906, p907⟩ := hr900
      have u912 := kp_t u28 u908
      have v913 : q_V r899.2 = q_V δ := (u909).trans v29
      have v914 := kr_t v30 u911
      have f915 := cb_12_4 i901 k_a0
      have f916 := cb_12_5 i901 k_a0
      have f917 := ti_b r899.1
      replace p907 : ((q_I r899.2 12 5 a0).toInt < 0 → (0 : Int) ≤ (r899.1).toInt ∧ (r899.1).toInt ≤ (99999 : Int)) := p907
      have f918 := ti_b r899.1
      have us919 : NU ad a0 δ r899.2 := NU.t us45 (show NU ad a0 r18.2 r899.2 from ⟨u911 116 (by decide) (by decide) (by decide), u908 12 26 _ (by decide), u908 12 24 _ (by decide), fun z => by omega⟩)
      have f922 := cb_12_24 i901 k_a0
      have f923 : (q_I r899.2 12 24 a0).toInt = (q_I r18.2 12 24 a0).toInt := congrArg Int32.toInt (u908 12 24 a0 (by decide))
      have f924 := cb_12_24 i20 k_a0
      have f925 : (q_I r18.2 12 24 a0).toInt = (q_I δ 12 24 a0).toInt := congrArg Int32.toInt (u24 12 24 a0 (by decide))
      have f926 := cb_12_26 i901 k_a0
      have f927 : (q_I r899.2 12 26 a0).toInt = (q_I r18.2 12 26 a0).toInt := congrArg Int32.toInt (u908 12 26 a0 (by decide))
      have f928 := cb_12_26 i20 k_a0
      have f929 : (q_I r18.2 12 26 a0).toInt = (q_I δ 12 26 a0).toInt := congrArg Int32.toInt (u24 12 26 a0 (by decide))
      refine ok_bind (k_X12_emit L hN (a0 := a0) (x1 := (0 : Int32)) (x2 := r899.1) k_a0 (show (q_I r899.2 12 24 a0).toInt ≤ 3 by first | assumption | omega) (show (q_I r899.2 12 5 a0).toInt < 0 → (q_I r899.2 12 26 a0).toInt < 500 by first | assumption | omega) i901) (fun r920 hr921 => ?_)
      obtain ⟨i930, ⟨u935, u936, u937⟩, p931, p932, p933, p934⟩ := hr921
      have u938 := kp_t u912 u935
      have v939 : q_V r920 = q_V δ := (u936).trans v913
      have v940 := kr_t v914 u937
      have f941 := cb_12_26 i930 k_a0
      have us942 : US ad a0 δ r920 := US.em us919 p934 (by decide) (by decide)
      have f943 := cb_12_4 i930 k_a0
      have f944 : (q_I r920 12 4 a0).toInt = (q_I r899.2 12 4 a0).toInt := congrArg Int32.toInt (u935 12 4 a0 (by decide))
      have f945 := cb_12_5 i930 k_a0
      have f946 : (q_I r920 12 5 a0).toInt = (q_I r899.2 12 5 a0).toInt := congrArg Int32.toInt (u935 12 5 a0 (by decide))
      have f947 := ti_b (q_I r920 12 7 a0)
      have f948 : (q_I r920 12 7 a0).toInt = (q_I r899.2 12 7 a0).toInt := congrArg Int32.toInt (u935 12 7 a0 (by decide))
      have f949 := ti_b (q_I r899.2 12 7 a0)
      have f950 : (q_I r899.2 12 7 a0).toInt = (q_I r18.2 12 7 a0).toInt := congrArg Int32.toInt (u908 12 7 a0 (by decide))
      have f951 := ti_b (q_I r18.2 12 7 a0)
      have f952 : (q_I r18.2 12 7 a0).toInt = (q_I δ 12 7 a0).toInt := congrArg Int32.toInt (u24 12 7 a0 (by decide))
      exact ok_some (show RI ad h.1 δ0 r920 ∧ (kp [(12, 4), (12, 5), (12, 6), (12, 7), (12, 26)] δ r920 ∧ q_V r920 = q_V δ ∧ kr ad [116, 117] δ r920) ∧ (q_I δ 12 4 a0).toInt ≤ (q_I r920 12 4 a0).toInt ∧ (q_I δ 12 5 a0).toInt ≤ (q_I r920 12 5 a0).toInt ∧ (q_I r920 12 7 a0).toInt = (q_I δ 12 7 a0).toInt ∧ (q_I δ 12 26 a0).toInt ≤ (q_I r920 12 26 a0).toInt ∧ (q_I r920 12 26 a0).toInt - (q_I δ 12 26 a0).toInt ≤ (q_I r920 12 4 a0).toInt - (q_I δ 12 4 a0).toInt ∧ US ad a0 δ r920 from ⟨i930, ⟨kp_w (by decide) u938, v939, kr_w (by decide) v940⟩, by first | assumption | omega, by first | assumption | omega, by first | assumption | omega, by first | assumption | omega, by first | assumption | omega, us942⟩)
