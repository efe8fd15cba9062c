/-! 79.y.v12e (by gen_safe.py) -/
set_option maxHeartbeats 4000000 in
theorem k_bX12_unit {ad : List Nat} {h : hp} (L : Lay TLx ad h) {δ0 : dp} {N : Nat} (hN : 10000000 ≤ N) {T : Nat → dp → Option (dp)} {K : Int} (hT : ∀ (a0 : Nat) (δ : dp), q_K h.1 a0 = 12 → (q_I δ 12 24 a0).toInt ≤ 3 → (q_I δ 12 26 a0).toInt ≤ (q_I δ 12 4 a0).toInt → 0 ≤ (q_I δ 12 7 a0).toInt → (q_I δ 12 7 a0).toInt ≤ 7 → ((q_I δ 12 7 a0).toInt = 7 → 0 ≤ (q_I δ 12 5 a0).toInt) → 8 - (q_I δ 12 7 a0).toInt < K → RI ad h.1 δ0 δ → ok (T a0 δ) (fun r => RI ad h.1 δ0 r ∧ (kp [(12, 4), (12, 5), (12, 6), (12, 7), (12, 26)] δ r ∧ q_V r = q_V δ ∧ kr ad [116, 117] δ r) ∧ (q_I δ 12 4 a0).toInt ≤ (q_I r 12 4 a0).toInt ∧ (q_I δ 12 5 a0).toInt ≤ (q_I r 12 5 a0).toInt ∧ (q_I r 12 7 a0).toInt = (q_I δ 12 7 a0).toInt ∧ (q_I δ 12 26 a0).toInt ≤ (q_I r 12 26 a0).toInt ∧ (q_I r 12 26 a0).toInt - (q_I δ 12 26 a0).toInt ≤ (q_I r 12 4 a0).toInt - (q_I δ 12 4 a0).toInt ∧ US ad a0 δ r)) {a0 : Nat} (k_a0 : q_K h.1 a0 = 12) {δ : dp} (z0 : (q_I δ 12 24 a0).toInt ≤ 3) (z1 : (q_I δ 12 26 a0).toInt ≤ (q_I δ 12 4 a0).toInt) (z2 : 0 ≤ (q_I δ 12 7 a0).toInt) (z3 : (q_I δ 12 7 a0).toInt ≤ 7) (z4 : (q_I δ 12 7 a0).toInt = 7 → 0 ≤ (q_I δ 12 5 a0).toInt) (z5 : 8 - (q_I δ 12 7 a0).toInt ≤ K) (I : RI ad h.1 δ0 δ) : ok (B_X12_unit N h.1 T a0 δ) (fun r => RI ad h.1 δ0 r ∧ (kp [(12, 4), (12, 5), (12, 6), (12, 7), (12, 26)] δ r ∧ q_V r = q_V δ ∧ kr ad [116, 117] δ r) ∧ (q_I δ 12 4 a0).toInt ≤ (q_I r 12 4 a0).toInt ∧ (q_I δ 12 5 a0).toInt ≤ (q_I r 12 5 a0).toInt ∧ (q_I r 12 7 a0).toInt = (q_I δ 12 7 a0).toInt ∧ (q_I δ 12 26 a0).toInt ≤ (q_I r 12 26 a0).toInt ∧ (q_I r 12 26 a0).toInt - (q_I δ 12 26 a0).toInt ≤ (q_I r 12 4 a0).toInt - (q_I δ 12 4 a0).toInt ∧ US ad a0 δ r) := by
  unfold B_X12_unit
  have f1 := cb_12_24 I k_a0
  have f2 := cb_12_26 I k_a0
  have f3 := cb_12_4 I k_a0
  have f4 := ti_b (q_I δ 12 7 a0)
  have f5 := cb_12_5 I k_a0
  refine ok_bind (k_X12_fine L hN (a0 := a0) k_a0 I) (fun r6 hr7 => ?_)
  obtain ⟨i8, p9, p10, p11⟩ := hr7
  try rw [i8]
  have f12 := bo_l p9
  have f13 := ti_b r6.1
  have f14 := ti_b r6.1
  refine ok_ite (fun h15 => ?_) (fun h15 => ?_)
  · have c16 : r6.1.toInt = (0 : Int) := o_eq h15
    exact ok_some (show RI ad h.1 δ0 δ ∧ (kp [(12, 4), (12, 5), (12, 6), (12, 7), (12, 26)] δ δ ∧ q_V δ = q_V δ ∧ kr ad [116, 117] δ δ) ∧ (q_I δ 12 4 a0).toInt ≤ (q_I δ 12 4 a0).toInt ∧ (q_I δ 12 5 a0).toInt ≤ (q_I δ 12 5 a0).toInt ∧ (q_I δ 12 7 a0).toInt = (q_I δ 12 7 a0).toInt ∧ (q_I δ 12 26 a0).toInt ≤ (q_I δ 12 26 a0).toInt ∧ (q_I δ 12 26 a0).toInt - (q_I δ 12 26 a0).toInt ≤ (q_I δ 12 4 a0).toInt - (q_I δ 12 4 a0).toInt ∧ US ad a0 δ δ from ⟨I, ⟨kp_w (by decide) kp_r, rfl, kr_w (by decide) (kr_r (ad := ad))⟩, by first | assumption | omega, by first | assumption | omega, by first | assumption | omega, by first | assumption | omega, by first | assumption | omega, US.bad NU.r (by omega)⟩)
  · have c17 : r6.1.toInt ≠ (0 : Int) := o_ne h15
    refine ok_bind (k_X12_here L hN (a0 := a0) k_a0 I) (fun r18 hr19 => ?_)
    obtain ⟨i20, ⟨u24, u25, u26, u27⟩, p21, p22, p23⟩ := hr19
    have u28 := kp_t kp_r u24
    have v29 : q_V r18.2 = q_V δ := (u25).trans rfl
    have v30 := kr_t (kr_r (ad := ad)) u27
    have f31 := cb_12_4 i20 k_a0
    have f32 : hc ad r18.2 a0 = (q_R r18.2 (Ad ad 101) (q_I r18.2 12 4 a0).toNatClampNeg).toInt := rfl
    have t33 := ti_tn (q_I r18.2 12 4 a0)
    have f34 : (q_R r18.2 (Ad ad 101) (q_I r18.2 12 4 a0).toNatClampNeg).toInt = (q_R δ (Ad ad 101) (q_I r18.2 12 4 a0).toNatClampNeg).toInt := congrArg Int32.toInt (congrFun (u27 101 (by decide) (by decide) (by decide)) _)
    have f35 := ti_b (q_R δ (Ad ad 101) (q_I r18.2 12 4 a0).toNatClampNeg)
    have f36 := ti_b (q_R r18.2 (Ad ad 101) (q_I r18.2 12 4 a0).toNatClampNeg)
    have f37 := ti_b r18.1
    have f38 := cb_12_3 I k_a0
    have f39 : hc ad δ a0 = (q_R δ (Ad ad 101) (q_I δ 12 4 a0).toNatClampNeg).toInt := rfl
    have t40 := ti_tn (q_I δ 12 4 a0)
    have f41 := ti_b (q_R δ (Ad ad 101) (q_I δ 12 4 a0).toNatClampNeg)
    have f42 := ti_b r18.1
    have f43 := cb_12_5 i20 k_a0
    have f44 : (q_I r18.2 12 5 a0).toInt = (q_I δ 12 5 a0).toInt := congrArg Int32.toInt (u24 12 5 a0 (by decide))
    have us45 : NU ad a0 δ r18.2 := NU.t NU.r (show NU ad a0 δ r18.2 from ⟨u27 116 (by decide) (by decide) (by decide), u24 12 26 _ (by decide), u24 12 24 _ (by decide), fun z => by omega⟩)
    refine ok_bind (k_X12_isDigit L hN (x0 := r18.1)  i20) (fun r46 hr47 => ?_)
    obtain ⟨i48, p49, p50, p51⟩ := hr47
    try rw [i48]
    have f52 := bo_l p49
    have f53 := ti_b r46.1
    have f54 := ti_b r46.1
    refine ok_ite (fun h55 => ?_) (fun h55 => ?_)
    · have c56 : r46.1.toInt = (0 : Int) := o_eq h55
      refine ok_ite (fun h57 => ?_) (fun h57 => ?_)
      · have c58 : r18.1.toInt = (40 : Int) := o_eq h57
        have f59 := ti_b (q_I r18.2 12 7 a0)
        have f60 : (q_I r18.2 12 7 a0).toInt = (q_I δ 12 7 a0).toInt := congrArg Int32.toInt (u24 12 7 a0 (by decide))
        refine ok_ite (fun h61 => ?_) (fun h61 => ?_)
        · have c62 : (q_I r18.2 12 7 a0).toInt = (6 : Int) := o_eq h61
          refine ok_bind (k_X12_wrong L hN (a0 := a0) (x1 := (3 : Int32)) (x2 := (q_I r18.2 12 4 a0)) k_a0 (show 0 ≤ ((q_I r18.2 12 4 a0)).toInt by first | assumption | omega) (show ((q_I r18.2 12 4 a0)).toInt ≤ 500 by first | assumption | omega) (show 0 ≤ (3 : Int) by first | assumption | omega) (show (3 : Int) ≤ 4 by first | assumption | omega) i20) (fun r63 hr64 => ?_)
          obtain ⟨i65, ⟨u68, u69, u70, u71⟩, p66, p67⟩ := hr64
          have u72 := kp_t u28 u68
          have v73 : q_V r63 = q_V δ := (u69).trans v29
          have v74 := kr_t v30 u71
          have f75 := cb_12_5 i65 k_a0
          have us76 : NU ad a0 δ r63 := NU.t us45 (show NU ad a0 r18.2 r63 from ⟨u71 116 (by decide) (by decide) (by decide), u68 12 26 _ (by decide), u68 12 24 _ (by decide), fun z => by omega⟩)
          unfold J_X12_unit_57
          refine ok_bind (k_X12_fine L hN (a0 := a0) k_a0 i65) (fun r77 hr78 => ?_)
          obtain ⟨i79, p80, p81, p82⟩ := hr78
          try rw [i79]
          have f83 := bo_l p80
          have f84 := ti_b r77.1
          have f85 := ti_b r77.1
          refine ok_ite (fun h86 => ?_) (fun h86 => ?_)
          · have c87 : r77.1.toInt = (0 : Int) := o_eq h86
            unfold J_X12_unit_74
            have f91 := ti_b (q_I r63 12 7 a0)
            have f92 : (q_I r63 12 7 a0).toInt = (q_I r18.2 12 7 a0).toInt := congrArg Int32.toInt (u68 12 7 a0 (by decide))
            first | (have q94 := te_addc (c := 1) (n := 1) rfl (q_I r63 12 7 a0) (by omega) (by omega); obtain ⟨f95, f96, f97⟩ := q94) | (obtain ⟨q94, f95, f96, f97⟩ := ti_addc (c := 1) (n := 1) rfl (q_I r63 12 7 a0))
            refine ok_bdv (fun d88 e89 => ?_)
            have i90 : RI ad h.1 δ0 d88 := by rw [e89]; exact cs_12_7 L i65
            have u98 := kp_I u72 e89
            have v99 : q_V d88 = q_V δ := ((show q_V d88 = q_V r63 by rw [e89]; rfl)).trans v73
            have v100 := kr_N v74 (show q_R d88 = q_R r63 by rw [e89]; rfl)
            have us101 : NU ad a0 δ d88 := NU.t us76 (show NU ad a0 r63 d88 from NU.w e89 (by decide))
            have f104 := cb_12_24 i90 k_a0
            have f105 : (q_I d88 12 24 a0).toInt = (q_I r63 12 24 a0).toInt := congrArg Int32.toInt (by rw [e89]; exact rI_o (by decide))
            have f106 := cb_12_24 i65 k_a0
            have f107 : (q_I r63 12 24 a0).toInt = (q_I r18.2 12 24 a0).toInt := congrArg Int32.toInt (u68 12 24 a0 (by decide))
            have f108 := cb_12_24 i20 k_a0
            have f109 : (q_I r18.2 12 24 a0).toInt = (q_I δ 12 24 a0).toInt := congrArg Int32.toInt (u24 12 24 a0 (by decide))
            have f110 := cb_12_26 i90 k_a0
            have f111 : (q_I d88 12 26 a0).toInt = (q_I r63 12 26 a0).toInt := congrArg Int32.toInt (by rw [e89]; exact rI_o (by decide))
            have f112 := cb_12_26 i65 k_a0
            have f113 : (q_I r63 12 26 a0).toInt = (q_I r18.2 12 26 a0).toInt := congrArg Int32.toInt (u68 12 26 a0 (by decide))
            have f114 := cb_12_26 i20 k_a0
            have f115 : (q_I r18.2 12 26 a0).toInt = (q_I δ 12 26 a0).toInt := congrArg Int32.toInt (u24 12 26 a0 (by decide))
            have f116 := cb_12_4 i90 k_a0
            have f117 : (q_I d88 12 4 a0).toInt = (q_I r63 12 4 a0).toInt := congrArg Int32.toInt (by rw [e89]; exact rI_o (by decide))
            have f118 := cb_12_4 i65 k_a0
            have f119 : (q_I r63 12 4 a0).toInt = (q_I r18.2 12 4 a0).toInt := congrArg Int32.toInt (u68 12 4 a0 (by decide))
            have f120 := ti_b (q_I d88 12 7 a0)
            have f121 : (q_I d88 12 7 a0).toInt = ((q_I r63 12 7 a0) + (1 : Int32)).toInt := congrArg Int32.toInt (show q_I d88 12 7 a0 = ((q_I r63 12 7 a0) + (1 : Int32)) by rw [e89]; exact rI_s)
            have f122 := cb_12_5 i90 k_a0
            have f123 : (q_I d88 12 5 a0).toInt = (q_I r63 12 5 a0).toInt := congrArg Int32.toInt (by rw [e89]; exact rI_o (by decide))
            refine ok_bind (hT a0 d88 k_a0 (show (q_I d88 12 24 a0).toInt ≤ 3 by first | assumption | omega) (show (q_I d88 12 26 a0).toInt ≤ (q_I d88 12 4 a0).toInt by first | assumption | omega) (show 0 ≤ (q_I d88 12 7 a0).toInt by first | assumption | omega) (show (q_I d88 12 7 a0).toInt ≤ 7 by first | assumption | omega) (show (q_I d88 12 7 a0).toInt = 7 → 0 ≤ (q_I d88 12 5 a0).toInt by first | assumption | omega) (show 8 - (q_I d88 12 7 a0).toInt < _ by first | assumption | omega) i90) (fun r102 hr103 => ?_)
            obtain ⟨i124, ⟨u131, u132, u133⟩, p125, p126, p127, p128, p129, p130⟩ := hr103
            have u134 := kp_t u98 u131
            have v135 : q_V r102 = q_V δ := (u132).trans v99
            have v136 := kr_t v100 u133
            have f137 := cb_12_4 i124 k_a0
            have f138 := cb_12_5 i124 k_a0
            have f139 := ti_b (q_I r102 12 7 a0)
            have f140 := cb_12_26 i124 k_a0
            have us141 : US ad a0 δ r102 := US.pre us101 p130
            refine ok_bind (k_X12_sign L hN (a0 := a0) (x1 := (41 : Int32)) k_a0 (show (41 : Int) ≠ 0 by first | assumption | omega) i124) (fun r142 hr143 => ?_)
            obtain ⟨i144, ⟨u148, u149, u150, u151⟩, p145, p146, p147⟩ := hr143
            have u152 := kp_t u134 u148
            have v153 : q_V r142 = q_V δ := (u149).trans v135
            have v154 := kr_t v136 u151
            have f155 := cb_12_4 i144 k_a0
            have f156 := cb_12_5 i144 k_a0
            have us157 : US ad a0 δ r142 := US.post us141 (show NU ad a0 r102 r142 from ⟨u151 116 (by decide) (by decide) (by decide), u148 12 26 _ (by decide), u148 12 24 _ (by decide), fun z => by omega⟩)
            have f161 := ti_b (q_I r142 12 7 a0)
            have f162 : (q_I r142 12 7 a0).toInt = (q_I r102 12 7 a0).toInt := congrArg Int32.toInt (u148 12 7 a0 (by decide))
            first | (have q164 := te_subc (c := 1) (n := 1) rfl (q_I r142 12 7 a0) (by omega) (by omega); obtain ⟨f165, f166, f167⟩ := q164) | (obtain ⟨q164, f165, f166, f167⟩ := ti_subc (c := 1) (n := 1) rfl (q_I r142 12 7 a0))
            refine ok_bdv (fun d158 e159 => ?_)
            have i160 : RI ad h.1 δ0 d158 := by rw [e159]; exact cs_12_7 L i144
            have u168 := kp_I u152 e159
            have v169 : q_V d158 = q_V δ := ((show q_V d158 = q_V r142 by rw [e159]; rfl)).trans v153
            have v170 := kr_N v154 (show q_R d158 = q_R r142 by rw [e159]; rfl)
            have us171 : US ad a0 δ d158 := US.post us157 (show NU ad a0 r142 d158 from NU.w e159 (by decide))
            have f172 := cb_12_4 i160 k_a0
            have f173 : (q_I d158 12 4 a0).toInt = (q_I r142 12 4 a0).toInt := congrArg Int32.toInt (by rw [e159]; exact rI_o (by decide))
            have f174 := cb_12_5 i160 k_a0
            have f175 : (q_I d158 12 5 a0).toInt = (q_I r142 12 5 a0).toInt := congrArg Int32.toInt (by rw [e159]; exact rI_o (by decide))
            have f176 := ti_b (q_I d158 12 7 a0)
            have f177 : (q_I d158 12 7 a0).toInt = ((q_I r142 12 7 a0) - (1 : Int32)).toInt := congrArg Int32.toInt (show q_I d158 12 7 a0 = ((q_I r142 12 7 a0) - (1 : Int32)) by rw [e159]; exact rI_s)
            have f178 := cb_12_26 i160 k_a0
            have f179 : (q_I d158 12 26 a0).toInt = (q_I r142 12 26 a0).toInt := congrArg Int32.toInt (by rw [e159]; exact rI_o (by decide))
            have f180 := cb_12_26 i144 k_a0
            have f181 : (q_I r142 12 26 a0).toInt = (q_I r102 12 26 a0).toInt := congrArg Int32.toInt (u148 12 26 a0 (by decide))
            exact ok_some (show RI ad h.1 δ0 d158 ∧ (kp [(12, 4), (12, 5), (12, 6), (12, 7), (12, 26)] δ d158 ∧ q_V d158 = q_V δ ∧ kr ad [116, 117] δ d158) ∧ (q_I δ 12 4 a0).toInt ≤ (q_I d158 12 4 a0).toInt ∧ (q_I δ 12 5 a0).toInt ≤ (q_I d158 12 5 a0).toInt ∧ (q_I d158 12 7 a0).toInt = (q_I δ 12 7 a0).toInt ∧ (q_I δ 12 26 a0).toInt ≤ (q_I d158 12 26 a0).toInt ∧ (q_I d158 12 26 a0).toInt - (q_I δ 12 26 a0).toInt ≤ (q_I d158 12 4 a0).toInt - (q_I δ 12 4 a0).toInt ∧ US ad a0 δ d158 from ⟨i160, ⟨kp_w (by decide) u168, v169, kr_w (by decide) v170⟩, by first | assumption | omega, by first | assumption | omega, by first | assumption | omega, by first | assumption | omega, by first | assumption | omega, us171⟩)
          · have c182 : r77.1.toInt ≠ (0 : Int) := o_ne h86
            have f186 := cb_12_4 i65 k_a0
            have f187 : (q_I r63 12 4 a0).toInt = (q_I r18.2 12 4 a0).toInt := congrArg Int32.toInt (u68 12 4 a0 (by decide))
            first | (have q189 := te_addc (c := 1) (n := 1) rfl (q_I r63 12 4 a0) (by omega) (by omega); obtain ⟨f190, f191, f192⟩ := q189) | (obtain ⟨q189, f190, f191, f192⟩ := ti_addc (c := 1) (n := 1) rfl (q_I r63 12 4 a0))
            refine ok_bdv (fun d183 e184 => ?_)
            have i185 : RI ad h.1 δ0 d183 := by rw [e184]; exact cs_12_4 L i65 k_a0 (show 0 ≤ ((q_I r63 12 4 a0) + (1 : Int32)).toInt by omega) (show ((q_I r63 12 4 a0) + (1 : Int32)).toInt ≤ 500 by omega)
            have u193 := kp_I u72 e184
            have v194 : q_V d183 = q_V δ := ((show q_V d183 = q_V r63 by rw [e184]; rfl)).trans v73
            have v195 := kr_N v74 (show q_R d183 = q_R r63 by rw [e184]; rfl)
            have us196 : NU ad a0 δ d183 := NU.t us76 (show NU ad a0 r63 d183 from NU.w e184 (by decide))
            unfold J_X12_unit_74
            have f200 := ti_b (q_I d183 12 7 a0)
            have f201 : (q_I d183 12 7 a0).toInt = (q_I r63 12 7 a0).toInt := congrArg Int32.toInt (by rw [e184]; exact rI_o (by decide))
            have f202 := ti_b (q_I r63 12 7 a0)
            have f203 : (q_I r63 12 7 a0).toInt = (q_I r18.2 12 7 a0).toInt := congrArg Int32.toInt (u68 12 7 a0 (by decide))
            first | (have q205 := te_addc (c := 1) (n := 1) rfl (q_I d183 12 7 a0) (by omega) (by omega); obtain ⟨f206, f207, f208⟩ := q205) | (obtain ⟨q205, f206, f207, f208⟩ := ti_addc (c := 1) (n := 1) rfl (q_I d183 12 7 a0))
            refine ok_bdv (fun d197 e198 => ?_)
            have i199 : RI ad h.1 δ0 d197 := by rw [e198]; exact cs_12_7 L i185
            have u209 := kp_I u193 e198
            have v210 : q_V d197 = q_V δ := ((show q_V d197 = q_V d183 by rw [e198]; rfl)).trans v194
            have v211 := kr_N v195 (show q_R d197 = q_R d183 by rw [e198]; rfl)
            have us212 : NU ad a0 δ d197 := NU.t us196 (show NU ad a0 d183 d197 from NU.w e198 (by decide))
            have f215 := cb_12_24 i199 k_a0
            have f216 : (q_I d197 12 24 a0).toInt = (q_I d183 12 24 a0).toInt := congrArg Int32.toInt (by rw [e198]; exact rI_o (by decide))
            have f217 := cb_12_24 i185 k_a0
            have f218 : (q_I d183 12 24 a0).toInt = (q_I r63 12 24 a0).toInt := congrArg Int32.toInt (by rw [e184]; exact rI_o (by decide))
            have f219 := cb_12_24 i65 k_a0
            have f220 : (q_I r63 12 24 a0).toInt = (q_I r18.2 12 24 a0).toInt := congrArg Int32.toInt (u68 12 24 a0 (by decide))
            have f221 := cb_12_24 i20 k_a0
            have f222 : (q_I r18.2 12 24 a0).toInt = (q_I δ 12 24 a0).toInt := congrArg Int32.toInt (u24 12 24 a0 (by decide))
            have f223 := cb_12_26 i199 k_a0
            have f224 : (q_I d197 12 26 a0).toInt = (q_I d183 12 26 a0).toInt := congrArg Int32.toInt (by rw [e198]; exact rI_o (by decide))
            have f225 := cb_12_26 i185 k_a0
            have f226 : (q_I d183 12 26 a0).toInt = (q_I r63 12 26 a0).toInt := congrArg Int32.toInt (by rw [e184]; exact rI_o (by decide))
            have f227 := cb_12_26 i65 k_a0
            have f228 : (q_I r63 12 26 a0).toInt = (q_I r18.2 12 26 a0).toInt := congrArg Int32.toInt (u68 12 26 a0 (by decide))
            have f229 := cb_12_26 i20 k_a0
            have f230 : (q_I r18.2 12 26 a0).toInt = (q_I δ 12 26 a0).toInt := congrArg Int32.toInt (u24 12 26 a0 (by decide))
            have f231 := cb_12_4 i199 k_a0
            have f232 : (q_I d197 12 4 a0).toInt = (q_I d183 12 4 a0).toInt := congrArg Int32.toInt (by rw [e198]; exact rI_o (by decide))
            have f233 := cb_12_4 i185 k_a0
            have f234 : (q_I d183 12 4 a0).toInt = ((q_I r63 12 4 a0) + (1 : Int32)).toInt := congrArg Int32.toInt (show q_I d183 12 4 a0 = ((q_I r63 12 4 a0) + (1 : Int32)) by rw [e184]; exact rI_s)
            have f235 := ti_b (q_I d197 12 7 a0)
            have f236 : (q_I d197 12 7 a0).toInt = ((q_I d183 12 7 a0) + (1 : Int32)).toInt := congrArg Int32.toInt (show q_I d197 12 7 a0 = ((q_I d183 12 7 a0) + (1 : Int32)) by rw [e198]; exact rI_s)
            have f237 := cb_12_5 i199 k_a0
            have f238 : (q_I d197 12 5 a0).toInt = (q_I d183 12 5 a0).toInt := congrArg Int32.toInt (by rw [e198]; exact rI_o (by decide))
            have f239 := cb_12_5 i185 k_a0
            have f240 : (q_I d183 12 5 a0).toInt = (q_I r63 12 5 a0).toInt := congrArg Int32.toInt (by rw [e184]; exact rI_o (by decide))
            refine ok_bind (hT a0 d197 k_a0 (show (q_I d197 12 24 a0).toInt ≤ 3 by first | assumption | omega) (show (q_I d197 12 26 a0).toInt ≤ (q_I d197 12 4 a0).toInt by first | assumption | omega) (show 0 ≤ (q_I d197 12 7 a0).toInt by first | assumption | omega) (show (q_I d197 12 7 a0).toInt ≤ 7 by first | assumption | omega) (show (q_I d197 12 7 a0).toInt = 7 → 0 ≤ (q_I d197 12 5 a0).toInt by first | assumption | omega) (show 8 - (q_I d197 12 7 a0).toInt < _ by first | assumption | omega) i199) (fun r213 hr214 => ?_)
            obtain ⟨i241, ⟨u248, u249, u250⟩, p242, p243, p244, p245, p246, p247⟩ := hr214
            have u251 := kp_t u209 u248
            have v252 : q_V r213 = q_V δ := (u249).trans v210
            have v253 := kr_t v211 u250
            have f254 := cb_12_4 i241 k_a0
            have f255 := cb_12_5 i241 k_a0
            have f256 := ti_b (q_I r213 12 7 a0)
            have f257 := cb_12_26 i241 k_a0
            have us258 : US ad a0 δ r213 := US.pre us212 p247
            refine ok_bind (k_X12_sign L hN (a0 := a0) (x1 := (41 : Int32)) k_a0 (show (41 : Int) ≠ 0 by first | assumption | omega) i241) (fun r259 hr260 => ?_)
            obtain ⟨i261, ⟨u265, u266, u267, u268⟩, p262, p263, p264⟩ := hr260
            have u269 := kp_t u251 u265
            have v270 : q_V r259 = q_V δ := (u266).trans v252
            have v271 := kr_t v253 u268
            have f272 := cb_12_4 i261 k_a0
            have f273 := cb_12_5 i261 k_a0
            have us274 : US ad a0 δ r259 := US.post us258 (show NU ad a0 r213 r259 from ⟨u268 116 (by decide) (by decide) (by decide), u265 12 26 _ (by decide), u265 12 24 _ (by decide), fun z => by omega⟩)
            have f278 := ti_b (q_I r259 12 7 a0)
            have f279 : (q_I r259 12 7 a0).toInt = (q_I r213 12 7 a0).toInt := congrArg Int32.toInt (u265 12 7 a0 (by decide))
            first | (have q281 := te_subc (c := 1) (n := 1) rfl (q_I r259 12 7 a0) (by omega) (by omega); obtain ⟨f282, f283, f284⟩ := q281) | (obtain ⟨q281, f282, f283, f284⟩ := ti_subc (c := 1) (n := 1) rfl (q_I r259 12 7 a0))
            refine ok_bdv (fun d275 e276 => ?_)
            have i277 : RI ad h.1 δ0 d275 := by rw [e276]; exact cs_12_7 L i261
            have u285 := kp_I u269 e276
            have v286 : q_V d275 = q_V δ := ((show q_V d275 = q_V r259 by rw [e276]; rfl)).trans v270
            have v287 := kr_N v271 (show q_R d275 = q_R r259 by rw [e276]; rfl)
            have us288 : US ad a0 δ d275 := US.post us274 (show NU ad a0 r259 d275 from NU.w e276 (by decide))
            have f289 := cb_12_4 i277 k_a0
            have f290 : (q_I d275 12 4 a0).toInt = (q_I r259 12 4 a0).toInt := congrArg Int32.toInt (by rw [e276]; exact rI_o (by decide))
            have f291 := cb_12_5 i277 k_a0
            have f292 : (q_I d275 12 5 a0).toInt = (q_I r259 12 5 a0).toInt := congrArg Int32.toInt (by rw [e276]; exact rI_o (by decide))
            have f293 := ti_b (q_I d275 12 7 a0)
            have f294 : (q_I d275 12 7 a0).toInt = ((q_I r259 12 7 a0) - (1 : Int32)).toInt := congrArg Int32.toInt (show q_I d275 12 7 a0 = ((q_I r259 12 7 a0) - (1 : Int32)) by rw [e276]; exact rI_s)
            have f295 := cb_12_26 i277 k_a0
            have f296 : (q_I d275 12 26 a0).toInt = (q_I r259 12 26 a0).toInt := congrArg Int32.toInt (by rw [e276]; exact rI_o (by decide))
            have f297 := cb_12_26 i261 k_a0
            have f298 : (q_I r259 12 26 a0).toInt = (q_I r213 12 26 a0).toInt := congrArg Int32.toInt (u265 12 26 a0 (by decide))
            exact ok_some (show RI ad h.1 δ0 d275 ∧ (kp [(12, 4), (12, 5), (12, 6), (12, 7), (12, 26)] δ d275 ∧ q_V d275 = q_V δ ∧ kr ad [116, 117] δ d275) ∧ (q_I δ 12 4 a0).toInt ≤ (q_I d275 12 4 a0).toInt ∧ (q_I δ 12 5 a0).toInt ≤ (q_I d275 12 5 a0).toInt ∧ (q_I d275 12 7 a0).toInt = (q_I δ 12 7 a0).toInt ∧ (q_I δ 12 26 a0).toInt ≤ (q_I d275 12 26 a0).toInt ∧ (q_I d275 12 26 a0).toInt - (q_I δ 12 26 a0).toInt ≤ (q_I d275 12 4 a0).toInt - (q_I δ 12 4 a0).toInt ∧ US ad a0 δ d275 from ⟨i277, ⟨kp_w (by decide) u285, v286, kr_w (by decide) v287⟩, by first | assumption | omega, by first | assumption | omega, by first | assumption | omega, by first | assumption | omega, by first | assumption | omega, us288⟩)
        · have c299 : (q_I r18.2 12 7 a0).toInt ≠ (6 : Int) := o_ne h61
          unfold J_X12_unit_57
          refine ok_bind (k_X12_fine L hN (a0 := a0) k_a0 i20) (fun r300 hr301 => ?_)
          obtain ⟨i302, p303, p304, p305⟩ := hr301
          try rw [i302]
          have f306 := bo_l p303
          have f307 := ti_b r300.1
          have f308 := ti_b r300.1
          refine ok_ite (fun h309 => ?_) (fun h309 => ?_)
          · have c310 : r300.1.toInt = (0 : Int) := o_eq h309
            unfold J_X12_unit_74
            first | (have q315 := te_addc (c := 1) (n := 1) rfl (q_I r18.2 12 7 a0) (by omega) (by omega); obtain ⟨f316, f317, f318⟩ := q315) | (obtain ⟨q315, f316, f317, f318⟩ := ti_addc (c := 1) (n := 1) rfl (q_I r18.2 12 7 a0))
            refine ok_bdv (fun d311 e312 => ?_)
            have i313 : RI ad h.1 δ0 d311 := by rw [e312]; exact cs_12_7 L i20
            have u319 := kp_I u28 e312
            have v320 : q_V d311 = q_V δ := ((show q_V d311 = q_V r18.2 by rw [e312]; rfl)).trans v29
            have v321 := kr_N v30 (show q_R d311 = q_R r18.2 by rw [e312]; rfl)
            have us322 : NU ad a0 δ d311 := NU.t us45 (show NU ad a0 r18.2 d311 from NU.w e312 (by decide))
            have f325 := cb_12_24 i313 k_a0
            have f326 : (q_I d311 12 24 a0).toInt = (q_I r18.2 12 24 a0).toInt := congrArg Int32.toInt (by rw [e312]; exact rI_o (by decide))
            have f327 := cb_12_24 i20 k_a0
            have f328 : (q_I r18.2 12 24 a0).toInt = (q_I δ 12 24 a0).toInt := congrArg Int32.toInt (u24 12 24 a0 (by decide))
            have f329 := cb_12_26 i313 k_a0
            have f330 : (q_I d311 12 26 a0).toInt = (q_I r18.2 12 26 a0).toInt := congrArg Int32.toInt (by rw [e312]; exact rI_o (by decide))
            have f331 := cb_12_26 i20 k_a0
            have f332 : (q_I r18.2 12 26 a0).toInt = (q_I δ 12 26 a0).toInt := congrArg Int32.toInt (u24 12 26 a0 (by decide))
            have f333 := cb_12_4 i313 k_a0
            have f334 : (q_I d311 12 4 a0).toInt = (q_I r18.2 12 4 a0).toInt := congrArg Int32.toInt (by rw [e312]; exact rI_o (by decide))
            have f335 := ti_b (q_I d311 12 7 a0)
            have f336 : (q_I d311 12 7 a0).toInt = ((q_I r18.2 12 7 a0) + (1 : Int32)).toInt := congrArg Int32.toInt (show q_I d311 12 7 a0 = ((q_I r18.2 12 7 a0) + (1 : Int32)) by rw [e312]; exact rI_s)
            have f337 := cb_12_5 i313 k_a0
            have f338 : (q_I d311 12 5 a0).toInt = (q_I r18.2 12 5 a0).toInt := congrArg Int32.toInt (by rw [e312]; exact rI_o (by decide))
            refine ok_bind (hT a0 d311 k_a0 (show (q_I d311 12 24 a0).toInt ≤ 3 by first | assumption | omega) (show (q_I d311 12 26 a0).toInt ≤ (q_I d311 12 4 a0).toInt by first | assumption | omega) (show 0 ≤ (q_I d311 12 7 a0).toInt by first | assumption | omega) (show (q_I d311 12 7 a0).toInt ≤ 7 by first | assumption | omega) (show (q_I d311 12 7 a0).toInt = 7 → 0 ≤ (q_I d311 12 5 a0).toInt by first | assumption | omega) (show 8 - (q_I d311 12 7 a0).toInt < _ by first | assumption | omega) i313) (fun r323 hr324 => ?_)
            obtain ⟨i339, ⟨u346, u347, u348⟩, p340, p341, p342, p343, p344, p345⟩ := hr324
            have u349 := kp_t u319 u346
            have v350 : q_V r323 = q_V δ := (u347).trans v320
            have v351 := kr_t v321 u348
            have f352 := cb_12_4 i339 k_a0
            have f353 := cb_12_5 i339 k_a0
            have f354 := ti_b (q_I r323 12 7 a0)
            have f355 := cb_12_26 i339 k_a0
            have us356 : US ad a0 δ r323 := US.pre us322 p345
            refine ok_bind (k_X12_sign L hN (a0 := a0) (x1 := (41 : Int32)) k_a0 (show (41 : Int) ≠ 0 by first | assumption | omega) i339) (fun r357 hr358 => ?_)
            obtain ⟨i359, ⟨u363, u364, u365, u366⟩, p360, p361, p362⟩ := hr358
            have u367 := kp_t u349 u363
            have v368 : q_V r357 = q_V δ := (u364).trans v350
            have v369 := kr_t v351 u366
            have f370 := cb_12_4 i359 k_a0
            have f371 := cb_12_5 i359 k_a0
            have us372 : US ad a0 δ r357 := US.post us356 (show NU ad a0 r323 r357 from ⟨u366 116 (by decide) (by decide) (by decide), u363 12 26 _ (by decide), u363 12 24 _ (by decide), fun z => by omega⟩)
            have f376 := ti_b (q_I r357 12 7 a0)
            have f377 : (q_I r357 12 7 a0).toInt = (q_I r323 12 7 a0).toInt := congrArg Int32.toInt (u363 12 7 a0 (by decide))
            first | (have q379 := te_subc (c := 1) (n := 1) rfl (q_I r357 12 7 a0) (by omega) (by omega); obtain ⟨f380, f381, f382⟩ := q379) | (obtain ⟨q379, f380, f381, f382⟩ := ti_subc (c := 1) (n := 1) rfl (q_I r357 12 7 a0))
            refine ok_bdv (fun d373 e374 => ?_)
            have i375 : RI ad h.1 δ0 d373 := by rw [e374]; exact cs_12_7 L i359
            have u383 := kp_I u367 e374
            have v384 : q_V d373 = q_V δ := ((show q_V d373 = q_V r357 by rw [e374]; rfl)).trans v368
            have v385 := kr_N v369 (show q_R d373 = q_R r357 by rw [e374]; rfl)
            have us386 : US ad a0 δ d373 := US.post us372 (show NU ad a0 r357 d373 from NU.w e374 (by decide))
            have f387 := cb_12_4 i375 k_a0
            have f388 : (q_I d373 12 4 a0).toInt = (q_I r357 12 4 a0).toInt := congrArg Int32.toInt (by rw [e374]; exact rI_o (by decide))
            have f389 := cb_12_5 i375 k_a0
            have f390 : (q_I d373 12 5 a0).toInt = (q_I r357 12 5 a0).toInt := congrArg Int32.toInt (by rw [e374]; exact rI_o (by decide))
            have f391 := ti_b (q_I d373 12 7 a0)
            have f392 : (q_I d373 12 7 a0).toInt = ((q_I r357 12 7 a0) - (1 : Int32)).toInt := congrArg Int32.toInt (show q_I d373 12 7 a0 = ((q_I r357 12 7 a0) - (1 : Int32)) by rw [e374]; exact rI_s)
            have f393 := cb_12_26 i375 k_a0
            have f394 : (q_I d373 12 26 a0).toInt = (q_I r357 12 26 a0).toInt := congrArg Int32.toInt (by rw [e374]; exact rI_o (by decide))
            have f395 := cb_12_26 i359 k_a0
            have f396 : (q_I r357 12 26 a0).toInt = (q_I r323 12 26 a0).toInt := congrArg Int32.toInt (u363 12 26 a0 (by decide))
            exact ok_some (show RI ad h.1 δ0 d373 ∧ (kp [(12, 4), (12, 5), (12, 6), (12, 7), (12, 26)] δ d373 ∧ q_V d373 = q_V δ ∧ kr ad [116, 117] δ d373) ∧ (q_I δ 12 4 a0).toInt ≤ (q_I d373 12 4 a0).toInt ∧ (q_I δ 12 5 a0).toInt ≤ (q_I d373 12 5 a0).toInt ∧ (q_I d373 12 7 a0).toInt = (q_I δ 12 7 a0).toInt ∧ (q_I δ 12 26 a0).toInt ≤ (q_I d373 12 26 a0).toInt ∧ (q_I d373 12 26 a0).toInt - (q_I δ 12 26 a0).toInt ≤ (q_I d373 12 4 a0).toInt - (q_I δ 12 4 a0).toInt ∧ US ad a0 δ d373 from ⟨i375, ⟨kp_w (by decide) u383, v384, kr_w (by decide) v385⟩, by first | assumption | omega, by first | assumption | omega, by first | assumption | omega, by first | assumption | omega, by first | assumption | omega, us386⟩)
          · have c397 : r300.1.toInt ≠ (0 : Int) := o_ne h309
            first | (have q402 := te_addc (c := 1) (n := 1) rfl (q_I r18.2 12 4 a0) (by omega) (by omega); obtain ⟨f403, f404, f405⟩ := q402) | (obtain ⟨q402, f403, f404, f405⟩ := ti_addc (c := 1) (n := 1) rfl (q_I r18.2 12 4 a0))
            refine ok_bdv (fun d398 e399 => ?_)
            have i400 : RI ad h.1 δ0 d398 := by rw [e399]; exact cs_12_4 L i20 k_a0 (show 0 ≤ ((q_I r18.2 12 4 a0) + (1 : Int32)).toInt by omega) (show ((q_I r18.2 12 4 a0) + (1 : Int32)).toInt ≤ 500 by omega)
            have u406 := kp_I u28 e399
            have v407 : q_V d398 = q_V δ := ((show q_V d398 = q_V r18.2 by rw [e399]; rfl)).trans v29
            have v408 := kr_N v30 (show q_R d398 = q_R r18.2 by rw [e399]; rfl)
            have us409 : NU ad a0 δ d398 := NU.t us45 (show NU ad a0 r18.2 d398 from NU.w e399 (by decide))
            unfold J_X12_unit_74
            have f413 := ti_b (q_I d398 12 7 a0)
            have f414 : (q_I d398 12 7 a0).toInt = (q_I r18.2 12 7 a0).toInt := congrArg Int32.toInt (by rw [e399]; exact rI_o (by decide))
            first | (have q416 := te_addc (c := 1) (n := 1) rfl (q_I d398 12 7 a0) (by omega) (by omega); obtain ⟨f417, f418, f419⟩ := q416) | (obtain ⟨q416, f417, f418, f419⟩ := ti_addc (c := 1) (n := 1) rfl (q_I d398 12 7 a0))
            refine ok_bdv (fun d410 e411 => ?_)
            have i412 : RI ad h.1 δ0 d410 := by rw [e411]; exact cs_12_7 L i400
            have u420 := kp_I u406 e411
            have v421 : q_V d410 = q_V δ := ((show q_V d410 = q_V d398 by rw [e411]; rfl)).trans v407
            have v422 := kr_N v408 (show q_R d410 = q_R d398 by rw [e411]; rfl)
            have us423 : NU ad a0 δ d410 := NU.t us409 (show NU ad a0 d398 d410 from NU.w e411 (by decide))
            have f426 := cb_12_24 i412 k_a0
            have f427 : (q_I d410 12 24 a0).toInt = (q_I d398 12 24 a0).toInt := congrArg Int32.toInt (by rw [e411]; exact rI_o (by decide))
            have f428 := cb_12_24 i400 k_a0
            have f429 : (q_I d398 12 24 a0).toInt = (q_I r18.2 12 24 a0).toInt := congrArg Int32.toInt (by rw [e399]; exact rI_o (by decide))
            have f430 := cb_12_24 i20 k_a0
            have f431 : (q_I r18.2 12 24 a0).toInt = (q_I δ 12 24 a0).toInt := congrArg Int32.toInt (u24 12 24 a0 (by decide))
            have f432 := cb_12_26 i412 k_a0
            have f433 : (q_I d410 12 26 a0).toInt = (q_I d398 12 26 a0).toInt := congrArg Int32.toInt (by rw [e411]; exact rI_o (by decide))
            have f434 := cb_12_26 i400 k_a0
            have f435 : (q_I d398 12 26 a0).toInt = (q_I r18.2 12 26 a0).toInt := congrArg Int32.toInt (by rw [e399]; exact rI_o (by decide))
            have f436 := cb_12_26 i20 k_a0
            have f437 : (q_I r18.2 12 26 a0).toInt = (q_I δ 12 26 a0).toInt := congrArg Int32.toInt (u24 12 26 a0 (by decide))
            have f438 := cb_12_4 i412 k_a0
            have f439 : (q_I d410 12 4 a0).toInt = (q_I d398 12 4 a0).toInt := congrArg Int32.toInt (by rw [e411]; exact rI_o (by decide))
            have f440 := cb_12_4 i400 k_a0
            have f441 : (q_I d398 12 4 a0).toInt = ((q_I r18.2 12 4 a0) + (1 : Int32)).toInt := congrArg Int32.toInt (show q_I d398 12 4 a0 = ((q_I r18.2 12 4 a0) + (1 : Int32)) by rw [e399]; exact rI_s)
            have f442 := ti_b (q_I d410 12 7 a0)
            have f443 : (q_I d410 12 7 a0).toInt = ((q_I d398 12 7 a0) + (1 : Int32)).toInt := congrArg Int32.toInt (show q_I d410 12 7 a0 = ((q_I d398 12 7 a0) + (1 : Int32)) by rw [e411]; exact rI_s)
            have f444 := cb_12_5 i412 k_a0
            have f445 : (q_I d410 12 5 a0).toInt = (q_I d398 12 5 a0).toInt := congrArg Int32.toInt (by rw [e411]; exact rI_o (by decide))
            have f446 := cb_12_5 i400 k_a0
            have f447 : (q_I d398 12 5 a0).toInt = (q_I r18.2 12 5 a0).toInt := congrArg Int32.toInt (by rw [e399]; exact rI_o (by decide))
            refine ok_bind (hT a0 d410 k_a0 (show (q_I d410 12 24 a0).toInt ≤ 3 by first | assumption | omega) (show (q_I d410 12 26 a0).toInt ≤ (q_I d410 12 4 a0).toInt by first | assumption | omega) (show 0 ≤ (q_I d410 12 7 a0).toInt by first | assumption | omega) (show (q_I d410 12 7 a0).toInt ≤ 7 by first | assumption | omega) (show (q_I d410 12 7 a0).toInt = 7 → 0 ≤ (q_I d410 12 5 a0).toInt by first | assumption | omega) (show 8 - (q_I d410 12 7 a0).toInt < _ by first | assumption | omega) i412) (fun r424 hr425 => ?_)
            obtain ⟨i448, ⟨u455, u456, u457⟩, p449, p450, p451, p452, p453, p454⟩ := hr425
            have u458 := kp_t u420 u455
            have v459 : q_V r424 = q_V δ := (u456).trans v421
            have v460 := kr_t v422 u457
            have f461 := cb_12_4 i448 k_a0
            have f462 := cb_12_5 i448 k_a0
            have f463 := ti_b (q_I r424 12 7 a0)
            have f464 := cb_12_26 i448 k_a0
            have us465 : US ad a0 δ r424 := US.pre us423 p454
            refine ok_bind (k_X12_sign L hN (a0 := a0) (x1 := (41 : Int32)) k_a0 (show (41 : Int) ≠ 0 by first | assumption | omega) i448) (fun r466 hr467 => ?_)
            obtain ⟨i468, ⟨u472, u473, u474, u475⟩, p469, p470, p471⟩ := hr467
            have u476 := kp_t u458 u472
            have v477 : q_V r466 = q_V δ := (u473).trans v459
            have v478 := kr_t v460 u475
            have f479 := cb_12_4 i468 k_a0
            have f480 := cb_12_5 i468 k_a0
            have us481 : US ad a0 δ r466 := US.post us465 (show NU ad a0 r424 r466 from ⟨u475 116 (by decide) (by decide) (by decide), u472 12 26 _ (by decide), u472 12 24 _ (by decide), fun z => by omega⟩)
            have f485 := ti_b (q_I r466 12 7 a0)
            have f486 : (q_I r466 12 7 a0).toInt = (q_I r424 12 7 a0).toInt := congrArg Int32.toInt (u472 12 7 a0 (by decide))
            first | (have q488 := te_subc (c := 1) (n := 1) rfl (q_I r466 12 7 a0) (by omega) (by omega); obtain ⟨f489, f490, f491⟩ := q488) | (obtain ⟨q488, f489, f490, f491⟩ := ti_subc (c := 1) (n := 1) rfl (q_I r466 12 7 a0))
            refine ok_bdv (fun d482 e483 => ?_)
            have i484 : RI ad h.1 δ0 d482 := by rw [e483]; exact cs_12_7 L i468
            have u492 := kp_I u476 e483
            have v493 : q_V d482 = q_V δ := ((show q_V d482 = q_V r466 by rw [e483]; rfl)).trans v477
            have v494 := kr_N v478 (show q_R d482 = q_R r466 by rw [e483]; rfl)
            have us495 : US ad a0 δ d482 := US.post us481 (show NU ad a0 r466 d482 from NU.w e483 (by decide))
            have f496 := cb_12_4 i484 k_a0
            have f497 : (q_I d482 12 4 a0).toInt = (q_I r466 12 4 a0).toInt := congrArg Int32.toInt (by rw [e483]; exact rI_o (by decide))
            have f498 := cb_12_5 i484 k_a0
            have f499 : (q_I d482 12 5 a0).toInt = (q_I r466 12 5 a0).toInt := congrArg Int32.toInt (by rw [e483]; exact rI_o (by decide))
            have f500 := ti_b (q_I d482 12 7 a0)
            have f501 : (q_I d482 12 7 a0).toInt = ((q_I r466 12 7 a0) - (1 : Int32)).toInt := congrArg Int32.toInt (show q_I d482 12 7 a0 = ((q_I r466 12 7 a0) - (1 : Int32)) by rw [e483]; exact rI_s)
            have f502 := cb_12_26 i484 k_a0
            have f503 : (q_I d482 12 26 a0).toInt = (q_I r466 12 26 a0).toInt := congrArg Int32.toInt (by rw [e483]; exact rI_o (by decide))
            have f504 := cb_12_26 i468 k_a0
            have f505 : (q_I r466 12 26 a0).toInt = (q_I r424 12 26 a0).toInt := congrArg Int32.toInt (u472 12 26 a0 (by decide))
            exact ok_some (show RI ad h.1 δ0 d482 ∧ (kp [(12, 4), (12, 5), (12, 6), (12, 7), (12, 26)] δ d482 ∧ q_V d482 = q_V δ ∧ kr ad [116, 117] δ d482) ∧ (q_I δ 12 4 a0).toInt ≤ (q_I d482 12 4 a0).toInt ∧ (q_I δ 12 5 a0).toInt ≤ (q_I d482 12 5 a0).toInt ∧ (q_I d482 12 7 a0).toInt = (q_I δ 12 7 a0).toInt ∧ (q_I δ 12 26 a0).toInt ≤ (q_I d482 12 26 a0).toInt ∧ (q_I d482 12 26 a0).toInt - (q_I δ 12 26 a0).toInt ≤ (q_I d482 12 4 a0).toInt - (q_I δ 12 4 a0).toInt ∧ US ad a0 δ d482 from ⟨i484, ⟨kp_w (by decide) u492, v493, kr_w (by decide) v494⟩, by first | assumption | omega, by first | assumption | omega, by first | assumption | omega, by first | assumption | omega, by first | assumption | omega, us495⟩)
      · have c506 : r18.1.toInt ≠ (40 : Int) := o_ne h57
        refine ok_bind (k_X12_word L hN (a0 := a0) k_a0 i20) (fun r507 hr508 => ?_)
        obtain ⟨i509, ⟨u512, u513, u514, u515⟩, p510, p511⟩ := hr508
        have u516 := kp_t u28 u512
        have v517 : q_V r507.2 = q_V δ := (u513).trans v29
        have v518 := kr_t v30 u515
        have f519 := cb_12_4 i509 k_a0
        have f520 : hc ad r507.2 a0 = (q_R r507.2 (Ad ad 101) (q_I r507.2 12 4 a0).toNatClampNeg).toInt := rfl
        have t521 := ti_tn (q_I r507.2 12 4 a0)
        have f522 : (q_R r507.2 (Ad ad 101) (q_I r507.2 12 4 a0).toNatClampNeg).toInt = (q_R r18.2 (Ad ad 101) (q_I r507.2 12 4 a0).toNatClampNeg).toInt := congrArg Int32.toInt (congrFun (u515 101 (by decide) (by decide) (by decide)) _)
        have f523 : (q_R r18.2 (Ad ad 101) (q_I r507.2 12 4 a0).toNatClampNeg).toInt = (q_R δ (Ad ad 101) (q_I r507.2 12 4 a0).toNatClampNeg).toInt := congrArg Int32.toInt (congrFun (u27 101 (by decide) (by decide) (by decide)) _)
        have f524 := ti_b (q_R δ (Ad ad 101) (q_I r507.2 12 4 a0).toNatClampNeg)
        have f525 := ti_b (q_R r18.2 (Ad ad 101) (q_I r507.2 12 4 a0).toNatClampNeg)
        have f526 := ti_b (q_R r507.2 (Ad ad 101) (q_I r507.2 12 4 a0).toNatClampNeg)
        have f527 := ti_b r507.1
        have f528 := cb_12_3 i20 k_a0
        have f529 : (q_I r18.2 12 3 a0).toInt = (q_I δ 12 3 a0).toInt := congrArg Int32.toInt (u24 12 3 a0 (by decide))
        have f530 := ti_b r507.1
        have f531 := cb_12_5 i509 k_a0
        have f532 : (q_I r507.2 12 5 a0).toInt = (q_I r18.2 12 5 a0).toInt := congrArg Int32.toInt (u512 12 5 a0 (by decide))
        have us533 : NU ad a0 δ r507.2 := NU.t us45 (show NU ad a0 r18.2 r507.2 from ⟨u515 116 (by decide) (by decide) (by decide), u512 12 26 _ (by decide), u512 12 24 _ (by decide), fun z => by omega⟩)
        refine ok_bind (k_X12_of L hN (a0 := 11) (show 11 < 16 by first | assumption | omega) i509) (fun r534 hr535 => ?_)
        obtain ⟨i536, p537⟩ := hr535
        try rw [i536]
        have f538 := ti_b r534.1
        have f539 := ti_b r534.1
        refine ok_ite (fun h540 => ?_) (fun h540 => ?_)
        · have c541 : r507.1.toInt = r534.1.toInt := o_eq h540
          unfold J_X12_unit_176
          refine ok_ite (fun h542 => absurd h542 (by decide)) (fun h542 => ?_)
          refine ok_bind (k_X12_pass L hN (a0 := a0) k_a0 i509) (fun r543 hr544 => ?_)
          obtain ⟨i545, ⟨u548, u549, u550, u551⟩, p546, p547⟩ := hr544
          have u552 := kp_t u516 u548
          have v553 : q_V r543 = q_V δ := (u549).trans v517
          have v554 := kr_t v518 u551
          have f555 := cb_12_4 i545 k_a0
          have f556 := cb_12_3 i509 k_a0
          have f557 : (q_I r507.2 12 3 a0).toInt = (q_I r18.2 12 3 a0).toInt := congrArg Int32.toInt (u512 12 3 a0 (by decide))
          have f558 := cb_12_5 i545 k_a0
          have f559 : (q_I r543 12 5 a0).toInt = (q_I r507.2 12 5 a0).toInt := congrArg Int32.toInt (u548 12 5 a0 (by decide))
          have us560 : NU ad a0 δ r543 := NU.t us533 (show NU ad a0 r507.2 r543 from ⟨u551 116 (by decide) (by decide) (by decide), u548 12 26 _ (by decide), u548 12 24 _ (by decide), fun z => by omega⟩)
          have f563 := cb_12_24 i545 k_a0
          have f564 : (q_I r543 12 24 a0).toInt = (q_I r507.2 12 24 a0).toInt := congrArg Int32.toInt (u548 12 24 a0 (by decide))
          have f565 := cb_12_24 i509 k_a0
          have f566 : (q_I r507.2 12 24 a0).toInt = (q_I r18.2 12 24 a0).toInt := congrArg Int32.toInt (u512 12 24 a0 (by decide))
          have f567 := cb_12_24 i20 k_a0
          have f568 : (q_I r18.2 12 24 a0).toInt = (q_I δ 12 24 a0).toInt := congrArg Int32.toInt (u24 12 24 a0 (by decide))
          have f569 := cb_12_26 i545 k_a0
          have f570 : (q_I r543 12 26 a0).toInt = (q_I r507.2 12 26 a0).toInt := congrArg Int32.toInt (u548 12 26 a0 (by decide))
          have f571 := cb_12_26 i509 k_a0
          have f572 : (q_I r507.2 12 26 a0).toInt = (q_I r18.2 12 26 a0).toInt := congrArg Int32.toInt (u512 12 26 a0 (by decide))
          have f573 := cb_12_26 i20 k_a0
          have f574 : (q_I r18.2 12 26 a0).toInt = (q_I δ 12 26 a0).toInt := congrArg Int32.toInt (u24 12 26 a0 (by decide))
          refine ok_bind (k_X12_emit L hN (a0 := a0) (x1 := (1 : Int32)) (x2 := (0 : Int32)) k_a0 (show (q_I r543 12 24 a0).toInt ≤ 3 by first | assumption | omega) (show (q_I r543 12 5 a0).toInt < 0 → (q_I r543 12 26 a0).toInt < 500 by first | assumption | omega) i545) (fun r561 hr562 => ?_)
          obtain ⟨i575, ⟨u580, u581, u582⟩, p576, p577, p578, p579⟩ := hr562
          have u583 := kp_t u552 u580
          have v584 : q_V r561 = q_V δ := (u581).trans v553
          have v585 := kr_t v554 u582
          have f586 := cb_12_26 i575 k_a0
          have us587 : US ad a0 δ r561 := US.em us560 p579 (by decide) (by decide)
          have f588 := cb_12_4 i575 k_a0
          have f589 : (q_I r561 12 4 a0).toInt = (q_I r543 12 4 a0).toInt := congrArg Int32.toInt (u580 12 4 a0 (by decide))
          have f590 := cb_12_5 i575 k_a0
          have f591 : (q_I r561 12 5 a0).toInt = (q_I r543 12 5 a0).toInt := congrArg Int32.toInt (u580 12 5 a0 (by decide))
          have f592 := ti_b (q_I r561 12 7 a0)
          have f593 : (q_I r561 12 7 a0).toInt = (q_I r543 12 7 a0).toInt := congrArg Int32.toInt (u580 12 7 a0 (by decide))
          have f594 := ti_b (q_I r543 12 7 a0)
          have f595 : (q_I r543 12 7 a0).toInt = (q_I r507.2 12 7 a0).toInt := congrArg Int32.toInt (u548 12 7 a0 (by decide))
          have f596 := ti_b (q_I r507.2 12 7 a0)
          have f597 : (q_I r507.2 12 7 a0).toInt = (q_I r18.2 12 7 a0).toInt := congrArg Int32.toInt (u512 12 7 a0 (by decide))
          have f598 := ti_b (q_I r18.2 12 7 a0)
          have f599 : (q_I r18.2 12 7 a0).toInt = (q_I δ 12 7 a0).toInt := congrArg Int32.toInt (u24 12 7 a0 (by decide))
          exact ok_some (show RI ad h.1 δ0 r561 ∧ (kp [(12, 4), (12, 5), (12, 6), (12, 7), (12, 26)] δ r561 ∧ q_V r561 = q_V δ ∧ kr ad [116, 117] δ r561) ∧ (q_I δ 12 4 a0).toInt ≤ (q_I r561 12 4 a0).toInt ∧ (q_I δ 12 5 a0).toInt ≤ (q_I r561 12 5 a0).toInt ∧ (q_I r561 12 7 a0).toInt = (q_I δ 12 7 a0).toInt ∧ (q_I δ 12 26 a0).toInt ≤ (q_I r561 12 26 a0).toInt ∧ (q_I r561 12 26 a0).toInt - (q_I δ 12 26 a0).toInt ≤ (q_I r561 12 4 a0).toInt - (q_I δ 12 4 a0).toInt ∧ US ad a0 δ r561 from ⟨i575, ⟨kp_w (by decide) u583, v584, kr_w (by decide) v585⟩, by first | assumption | omega, by first | assumption | omega, by first | assumption | omega, by first | assumption | omega, by first | assumption | omega, us587⟩)
        · have c600 : r507.1.toInt ≠ r534.1.toInt := o_ne h540
          refine ok_bind (k_X12_of L hN (a0 := 12) (show 12 < 16 by first | assumption | omega) i509) (fun r601 hr602 => ?_)
          obtain ⟨i603, p604⟩ := hr602
          try rw [i603]
          have f605 := ti_b r601.1
          have f606 := ti_b r601.1
          refine ok_ite (fun h607 => ?_) (fun h607 => ?_)
          · have c608 : r507.1.toInt = r601.1.toInt := o_eq h607
            unfold J_X12_unit_176
            refine ok_ite (fun h609 => absurd h609 (by decide)) (fun h609 => ?_)
            refine ok_bind (k_X12_pass L hN (a0 := a0) k_a0 i509) (fun r610 hr611 => ?_)
            obtain ⟨i612, ⟨u615, u616, u617, u618⟩, p613, p614⟩ := hr611
            have u619 := kp_t u516 u615
            have v620 : q_V r610 = q_V δ := (u616).trans v517
            have v621 := kr_t v518 u618
            have f622 := cb_12_4 i612 k_a0
            have f623 := cb_12_3 i509 k_a0
            have f624 : (q_I r507.2 12 3 a0).toInt = (q_I r18.2 12 3 a0).toInt := congrArg Int32.toInt (u512 12 3 a0 (by decide))
            have f625 := cb_12_5 i612 k_a0
            have f626 : (q_I r610 12 5 a0).toInt = (q_I r507.2 12 5 a0).toInt := congrArg Int32.toInt (u615 12 5 a0 (by decide))
            have us627 : NU ad a0 δ r610 := NU.t us533 (show NU ad a0 r507.2 r610 from ⟨u618 116 (by decide) (by decide) (by decide), u615 12 26 _ (by decide), u615 12 24 _ (by decide), fun z => by omega⟩)
            have f630 := cb_12_24 i612 k_a0
            have f631 : (q_I r610 12 24 a0).toInt = (q_I r507.2 12 24 a0).toInt := congrArg Int32.toInt (u615 12 24 a0 (by decide))
            have f632 := cb_12_24 i509 k_a0
            have f633 : (q_I r507.2 12 24 a0).toInt = (q_I r18.2 12 24 a0).toInt := congrArg Int32.toInt (u512 12 24 a0 (by decide))
            have f634 := cb_12_24 i20 k_a0
            have f635 : (q_I r18.2 12 24 a0).toInt = (q_I δ 12 24 a0).toInt := congrArg Int32.toInt (u24 12 24 a0 (by decide))
            have f636 := cb_12_26 i612 k_a0
            have f637 : (q_I r610 12 26 a0).toInt = (q_I r507.2 12 26 a0).toInt := congrArg Int32.toInt (u615 12 26 a0 (by decide))
            have f638 := cb_12_26 i509 k_a0
            have f639 : (q_I r507.2 12 26 a0).toInt = (q_I r18.2 12 26 a0).toInt := congrArg Int32.toInt (u512 12 26 a0 (by decide))
            have f640 := cb_12_26 i20 k_a0
            have f641 : (q_I r18.2 12 26 a0).toInt = (q_I δ 12 26 a0).toInt := congrArg Int32.toInt (u24 12 26 a0 (by decide))
            refine ok_bind (k_X12_emit L hN (a0 := a0) (x1 := (2 : Int32)) (x2 := (0 : Int32)) k_a0 (show (q_I r610 12 24 a0).toInt ≤ 3 by first | assumption | omega) (show (q_I r610 12 5 a0).toInt < 0 → (q_I r610 12 26 a0).toInt < 500 by first | assumption | omega) i612) (fun r628 hr629 => ?_)
            obtain ⟨i642, ⟨u647, u648, u649⟩, p643, p644, p645, p646⟩ := hr629
            have u650 := kp_t u619 u647
            have v651 : q_V r628 = q_V δ := (u648).trans v620
            have v652 := kr_t v621 u649
            have f653 := cb_12_26 i642 k_a0
            have us654 : US ad a0 δ r628 := US.em us627 p646 (by decide) (by decide)
            have f655 := cb_12_4 i642 k_a0
            have f656 : (q_I r628 12 4 a0).toInt = (q_I r610 12 4 a0).toInt := congrArg Int32.toInt (u647 12 4 a0 (by decide))
            have f657 := cb_12_5 i642 k_a0
            have f658 : (q_I r628 12 5 a0).toInt = (q_I r610 12 5 a0).toInt := congrArg Int32.toInt (u647 12 5 a0 (by decide))
            have f659 := ti_b (q_I r628 12 7 a0)
            have f660 : (q_I r628 12 7 a0).toInt = (q_I r610 12 7 a0).toInt := congrArg Int32.toInt (u647 12 7 a0 (by decide))
            have f661 := ti_b (q_I r610 12 7 a0)
            have f662 : (q_I r610 12 7 a0).toInt = (q_I r507.2 12 7 a0).toInt := congrArg Int32.toInt (u615 12 7 a0 (by decide))
            have f663 := ti_b (q_I r507.2 12 7 a0)
            have f664 : (q_I r507.2 12 7 a0).toInt = (q_I r18.2 12 7 a0).toInt := congrArg Int32.toInt (u512 12 7 a0 (by decide))
            have f665 := ti_b (q_I r18.2 12 7 a0)
            have f666 : (q_I r18.2 12 7 a0).toInt = (q_I δ 12 7 a0).toInt := congrArg Int32.toInt (u24 12 7 a0 (by decide))
            exact ok_some (show RI ad h.1 δ0 r628 ∧ (kp [(12, 4), (12, 5), (12, 6), (12, 7), (12, 26)] δ r628 ∧ q_V r628 = q_V δ ∧ kr ad [116, 117] δ r628) ∧ (q_I δ 12 4 a0).toInt ≤ (q_I r628 12 4 a0).toInt ∧ (q_I δ 12 5 a0).toInt ≤ (q_I r628 12 5 a0).toInt ∧ (q_I r628 12 7 a0).toInt = (q_I δ 12 7 a0).toInt ∧ (q_I δ 12 26 a0).toInt ≤ (q_I r628 12 26 a0).toInt ∧ (q_I r628 12 26 a0).toInt - (q_I δ 12 26 a0).toInt ≤ (q_I r628 12 4 a0).toInt - (q_I δ 12 4 a0).toInt ∧ US ad a0 δ r628 from ⟨i642, ⟨kp_w (by decide) u650, v651, kr_w (by decide) v652⟩, by first | assumption | omega, by first | assumption | omega, by first | assumption | omega, by first | assumption | omega, by first | assumption | omega, us654⟩)
          · have c667 : r507.1.toInt ≠ r601.1.toInt := o_ne h607
            refine ok_bind (k_X12_of L hN (a0 := 13) (show 13 < 16 by first | assumption | omega) i509) (fun r668 hr669 => ?_)
            obtain ⟨i670, p671⟩ := hr669
            try rw [i670]
            have f672 := ti_b r668.1
            have f673 := ti_b r668.1
            refine ok_ite (fun h674 => ?_) (fun h674 => ?_)
            · have c675 : r507.1.toInt = r668.1.toInt := o_eq h674
              unfold J_X12_unit_176
              refine ok_ite (fun h676 => absurd h676 (by decide)) (fun h676 => ?_)
              refine ok_bind (k_X12_pass L hN (a0 := a0) k_a0 i509) (fun r677 hr678 => ?_)
              obtain ⟨i679, ⟨u682, u683, u684, u685⟩, p680, p681⟩ := hr678
              have u686 := kp_t u516 u682
              have v687 : q_V r677 = q_V δ := (u683).trans v517
              have v688 := kr_t v518 u685
              have f689 := cb_12_4 i679 k_a0
              have f690 := cb_12_3 i509 k_a0
              have f691 : (q_I r507.2 12 3 a0).toInt = (q_I r18.2 12 3 a0).toInt := congrArg Int32.toInt (u512 12 3 a0 (by decide))
              have f692 := cb_12_5 i679 k_a0
              have f693 : (q_I r677 12 5 a0).toInt = (q_I r507.2 12 5 a0).toInt := congrArg Int32.toInt (u682 12 5 a0 (by decide))
              have us694 : NU ad a0 δ r677 := NU.t us533 (show NU ad a0 r507.2 r677 from ⟨u685 116 (by decide) (by decide) (by decide), u682 12 26 _ (by decide), u682 12 24 _ (by decide), fun z => by omega⟩)
              have f697 := cb_12_24 i679 k_a0
              have f698 : (q_I r677 12 24 a0).toInt = (q_I r507.2 12 24 a0).toInt := congrArg Int32.toInt (u682 12 24 a0 (by decide))
              have f699 := cb_12_24 i509 k_a0
              have f700 : (q_I r507.2 12 24 a0).toInt = (q_I r18.2 12 24 a0).toInt := congrArg Int32.toInt (u512 12 24 a0 (by decide))
              have f701 := cb_12_24 i20 k_a0
              have f702 : (q_I r18.2 12 24 a0).toInt = (q_I δ 12 24 a0).toInt := congrArg Int32.toInt (u24 12 24 a0 (by decide))
              have f703 := cb_12_26 i679 k_a0
              have f704 : (q_I r677 12 26 a0).toInt = (q_I r507.2 12 26 a0).toInt := congrArg Int32.toInt (u682 12 26 a0 (by decide))
              have f705 := cb_12_26 i509 k_a0
              have f706 : (q_I r507.2 12 26 a0).toInt = (q_I r18.2 12 26 a0).toInt := congrArg Int32.toInt (u512 12 26 a0 (by decide))
              have f707 := cb_12_26 i20 k_a0
              have f708 : (q_I r18.2 12 26 a0).toInt = (q_I δ 12 26 a0).toInt := congrArg Int32.toInt (u24 12 26 a0 (by decide))
              refine ok_bind (k_X12_emit L hN (a0 := a0) (x1 := (3 : Int32)) (x2 := (0 : Int32)) k_a0 (show (q_I r677 12 24 a0).toInt ≤ 3 by first | assumption | omega) (show (q_I r677 12 5 a0).toInt < 0 → (q_I r677 12 26 a0).toInt < 500 by first | assumption | omega) i679) (fun r695 hr696 => ?_)
              obtain ⟨i709, ⟨u714, u715, u716⟩, p710, p711, p712, p713⟩ := hr696
              have u717 := kp_t u686 u714
              have v718 : q_V r695 = q_V δ := (u715).trans v687
              have v719 := kr_t v688 u716
              have f720 := cb_12_26 i709 k_a0
              have us721 : US ad a0 δ r695 := US.em us694 p713 (by decide) (by decide)
              have f722 := cb_12_4 i709 k_a0
              have f723 : (q_I r695 12 4 a0).toInt = (q_I r677 12 4 a0).toInt := congrArg Int32.toInt (u714 12 4 a0 (by decide))
              have f724 := cb_12_5 i709 k_a0
              have f725 : (q_I r695 12 5 a0).toInt = (q_I r677 12 5 a0).toInt := congrArg Int32.toInt (u714 12 5 a0 (by decide))
              have f726 := ti_b (q_I r695 12 7 a0)
              have f727 : (q_I r695 12 7 a0).toInt = (q_I r677 12 7 a0).toInt := congrArg Int32.toInt (u714 12 7 a0 (by decide))
              have f728 := ti_b (q_I r677 12 7 a0)
              have f729 : (q_I r677 12 7 a0).toInt = (q_I r507.2 12 7 a0).toInt := congrArg Int32.toInt (u682 12 7 a0 (by decide))
              have f730 := ti_b (q_I r507.2 12 7 a0)
              have f731 : (q_I r507.2 12 7 a0).toInt = (q_I r18.2 12 7 a0).toInt := congrArg Int32.toInt (u512 12 7 a0 (by decide))
              have f732 := ti_b (q_I r18.2 12 7 a0)
              have f733 : (q_I r18.2 12 7 a0).toInt = (q_I δ 12 7 a0).toInt := congrArg Int32.toInt (u24 12 7 a0 (by decide))
              exact ok_some (show RI ad h.1 δ0 r695 ∧ (kp [(12, 4), (12, 5), (12, 6), (12, 7), (12, 26)] δ r695 ∧ q_V r695 = q_V δ ∧ kr ad [116, 117] δ r695) ∧ (q_I δ 12 4 a0).toInt ≤ (q_I r695 12 4 a0).toInt ∧ (q_I δ 12 5 a0).toInt ≤ (q_I r695 12 5 a0).toInt ∧ (q_I r695 12 7 a0).toInt = (q_I δ 12 7 a0).toInt ∧ (q_I δ 12 26 a0).toInt ≤ (q_I r695 12 26 a0).toInt ∧ (q_I r695 12 26 a0).toInt - (q_I δ 12 26 a0).toInt ≤ (q_I r695 12 4 a0).toInt - (q_I δ 12 4 a0).toInt ∧ US ad a0 δ r695 from ⟨i709, ⟨kp_w (by decide) u717, v718, kr_w (by decide) v719⟩, by first | assumption | omega, by first | assumption | omega, by first | assumption | omega, by first | assumption | omega, by first | assumption | omega, us721⟩)
            · have c734 : r507.1.toInt ≠ r668.1.toInt := o_ne h674
              refine ok_bind (k_X12_of L hN (a0 := 14) (show 14 < 16 by first | assumption | omega) i509) (fun r735 hr736 => ?_)
              obtain ⟨i737, p738⟩ := hr736
              try rw [i737]
              have f739 := ti_b r735.1
              have f740 := ti_b r735.1
              refine ok_ite (fun h741 => ?_) (fun h741 => ?_)
              · have c742 : r507.1.toInt = r735.1.toInt := o_eq h741
                unfold J_X12_unit_176
                refine ok_ite (fun h743 => absurd h743 (by decide)) (fun h743 => ?_)
                refine ok_bind (k_X12_pass L hN (a0 := a0) k_a0 i509) (fun r744 hr745 => ?_)
                obtain ⟨i746, ⟨u749, u750, u751, u752⟩, p747, p748⟩ := hr745
                have u753 := kp_t u516 u749
                have v754 : q_V r744 = q_V δ := (u750).trans v517
                have v755 := kr_t v518 u752
                have f756 := cb_12_4 i746 k_a0
                have f757 := cb_12_3 i509 k_a0
                have f758 : (q_I r507.2 12 3 a0).toInt = (q_I r18.2 12 3 a0).toInt := congrArg Int32.toInt (u512 12 3 a0 (by decide))
                have f759 := cb_12_5 i746 k_a0
                have f760 : (q_I r744 12 5 a0).toInt = (q_I r507.2 12 5 a0).toInt := congrArg Int32.toInt (u749 12 5 a0 (by decide))
                have us761 : NU ad a0 δ r744 := NU.t us533 (show NU ad a0 r507.2 r744 from ⟨u752 116 (by decide) (by decide) (by decide), u749 12 26 _ (by decide), u749 12 24 _ (by decide), fun z => by omega⟩)
                have f764 := cb_12_24 i746 k_a0
                have f765 : (q_I r744 12 24 a0).toInt = (q_I r507.2 12 24 a0).toInt := congrArg Int32.toInt (u749 12 24 a0 (by decide))
                have f766 := cb_12_24 i509 k_a0
                have f767 : (q_I r507.2 12 24 a0).toInt = (q_I r18.2 12 24 a0).toInt := congrArg Int32.toInt (u512 12 24 a0 (by decide))
                have f768 := cb_12_24 i20 k_a0
                have f769 : (q_I r18.2 12 24 a0).toInt = (q_I δ 12 24 a0).toInt := congrArg Int32.toInt (u24 12 24 a0 (by decide))
                have f770 := cb_12_26 i746 k_a0
                have f771 : (q_I r744 12 26 a0).toInt = (q_I r507.2 12 26 a0).toInt := congrArg Int32.toInt (u749 12 26 a0 (by decide))
                have f772 := cb_12_26 i509 k_a0
                have f773 : (q_I r507.2 12 26 a0).toInt = (q_I r18.2 12 26 a0).toInt := congrArg Int32.toInt (u512 12 26 a0 (by decide))
                have f774 := cb_12_26 i20 k_a0
                have f775 : (q_I r18.2 12 26 a0).toInt = (q_I δ 12 26 a0).toInt := congrArg Int32.toInt (u24 12 26 a0 (by decide))
                refine ok_bind (k_X12_emit L hN (a0 := a0) (x1 := (4 : Int32)) (x2 := (0 : Int32)) k_a0 (show (q_I r744 12 24 a0).toInt ≤ 3 by first | assumption | omega) (show (q_I r744 12 5 a0).toInt < 0 → (q_I r744 12 26 a0).toInt < 500 by first | assumption | omega) i746) (fun r762 hr763 => ?_)
                obtain ⟨i776, ⟨u781, u782, u783⟩, p777, p778, p779, p780⟩ := hr763
                have u784 := kp_t u753 u781
                have v785 : q_V r762 = q_V δ := (u782).trans v754
                have v786 := kr_t v755 u783
                have f787 := cb_12_26 i776 k_a0
                have us788 : US ad a0 δ r762 := US.em us761 p780 (by decide) (by decide)
                have f789 := cb_12_4 i776 k_a0
                have f790 : (q_I r762 12 4 a0).toInt = (q_I r744 12 4 a0).toInt := congrArg Int32.toInt (u781 12 4 a0 (by decide))
                have f791 := cb_12_5 i776 k_a0
                have f792 : (q_I r762 12 5 a0).toInt = (q_I r744 12 5 a0).toInt := congrArg Int32.toInt (u781 12 5 a0 (by decide))
                have f793 := ti_b (q_I r762 12 7 a0)
                have f794 : (q_I r762 12 7 a0).toInt = (q_I r744 12 7 a0).toInt := congrArg Int32.toInt (u781 12 7 a0 (by decide))
                have f795 := ti_b (q_I r744 12 7 a0)
                have f796 : (q_I r744 12 7 a0).toInt = (q_I r507.2 12 7 a0).toInt := congrArg Int32.toInt (u749 12 7 a0 (by decide))
                have f797 := ti_b (q_I r507.2 12 7 a0)
                have f798 : (q_I r507.2 12 7 a0).toInt = (q_I r18.2 12 7 a0).toInt := congrArg Int32.toInt (u512 12 7 a0 (by decide))
                have f799 := ti_b (q_I r18.2 12 7 a0)
                have f800 : (q_I r18.2 12 7 a0).toInt = (q_I δ 12 7 a0).toInt := congrArg Int32.toInt (u24 12 7 a0 (by decide))
                exact ok_some (show RI ad h.1 δ0 r762 ∧ (kp [(12, 4), (12, 5), (12, 6), (12, 7), (12, 26)] δ r762 ∧ q_V r762 = q_V δ ∧ kr ad [116, 117] δ r762) ∧ (q_I δ 12 4 a0).toInt ≤ (q_I r762 12 4 a0).toInt ∧ (q_I δ 12 5 a0).toInt ≤ (q_I r762 12 5 a0).toInt ∧ (q_I r762 12 7 a0).toInt = (q_I δ 12 7 a0).toInt ∧ (q_I δ 12 26 a0).toInt ≤ (q_I r762 12 26 a0).toInt ∧ (q_I r762 12 26 a0).toInt - (q_I δ 12 26 a0).toInt ≤ (q_I r762 12 4 a0).toInt - (q_I δ 12 4 a0).toInt ∧ US ad a0 δ r762 from ⟨i776, ⟨kp_w (by decide) u784, v785, kr_w (by decide) v786⟩, by first | assumption | omega, by first | assumption | omega, by first | assumption | omega, by first | assumption | omega, by first | assumption | omega, us788⟩)
              · have c801 : r507.1.toInt ≠ r735.1.toInt := o_ne h741
                refine ok_bind (k_X12_of L hN (a0 := 15) (show 15 < 16 by first | assumption | omega) i509) (fun r802 hr803 => ?_)
                obtain ⟨i804, p805⟩ := hr803
                try rw [i804]
                have f806 := ti_b r802.1
                have f807 := ti_b r802.1
                refine ok_ite (fun h808 => ?_) (fun h808 => ?_)
                · have c809 : r507.1.toInt = r802.1.toInt := o_eq h808
                  unfold J_X12_unit_176
                  refine ok_ite (fun h810 => absurd h810 (by decide)) (fun h810 => ?_)
                  refine ok_bind (k_X12_pass L hN (a0 := a0) k_a0 i509) (fun r811 hr812 => ?_)
                  obtain ⟨i813, ⟨u816, u817, u818, u819⟩, p814, p815⟩ := hr812
                  have u820 := kp_t u516 u816
                  have v821 : q_V r811 = q_V δ := (u817).trans v517
                  have v822 := kr_t v518 u819
                  have f823 := cb_12_4 i813 k_a0
                  have f824 := cb_12_3 i509 k_a0
                  have f825 : (q_I r507.2 12 3 a0).toInt = (q_I r18.2 12 3 a0).toInt := congrArg Int32.toInt (u512 12 3 a0 (by decide))
                  have f826 := cb_12_5 i813 k_a0
                  have f827 : (q_I r811 12 5 a0).toInt = (q_I r507.2 12 5 a0).toInt := congrArg Int32.toInt (u816 12 5 a0 (by decide))
                  have us828 : NU ad a0 δ r811 := NU.t us533 (show NU ad a0 r507.2 r811 from ⟨u819 116 (by decide) (by decide) (by decide), u816 12 26 _ (by decide), u816 12 24 _ (by decide), fun z => by omega⟩)
                  have f831 := cb_12_24 i813 k_a0
                  have f832 : (q_I r811 12 24 a0).toInt = (q_I r507.2 12 24 a0).toInt := congrArg Int32.toInt (u816 12 24 a0 (by decide))
                  have f833 := cb_12_24 i509 k_a0
                  have f834 : (q_I r507.2 12 24 a0).toInt = (q_I r18.2 12 24 a0).toInt := congrArg Int32.toInt (u512 12 24 a0 (by decide))
                  have f835 := cb_12_24 i20 k_a0
                  have f836 : (q_I r18.2 12 24 a0).toInt = (q_I δ 12 24 a0).toInt := congrArg Int32.toInt (u24 12 24 a0 (by decide))
                  have f837 := cb_12_26 i813 k_a0
                  have f838 : (q_I r811 12 26 a0).toInt = (q_I r507.2 12 26 a0).toInt := congrArg Int32.toInt (u816 12 26 a0 (by decide))
                  have f839 := cb_12_26 i509 k_a0
                  have f840 : (q_I r507.2 12 26 a0).toInt = (q_I r18.2 12 26 a0).toInt := congrArg Int32.toInt (u512 12 26 a0 (by decide))
                  have f841 := cb_12_26 i20 k_a0
                  have f842 : (q_I r18.2 12 26 a0).toInt = (q_I δ 12 26 a0).toInt := congrArg Int32.toInt (u24 12 26 a0 (by decide))
                  refine ok_bind (k_X12_emit L hN (a0 := a0) (x1 := (5 : Int32)) (x2 := (0 : Int32)) k_a0 (show (q_I r811 12 24 a0).toInt ≤ 3 by first | assumption | omega) (show (q_I r811 12 5 a0).toInt < 0 → (q_I r811 12 26 a0).toInt < 500 by first | assumption | omega) i813) (fun r829 hr830 => ?_)
                  obtain ⟨i843, ⟨u848, u849, u850⟩, p844, p845, p846, p847⟩ := hr830
                  have u851 := kp_t u820 u848
                  have v852 : q_V r829 = q_V δ := (u849).trans v821
                  have v853 := kr_t v822 u850
                  have f854 := cb_12_26 i843 k_a0
                  have us855 : US ad a0 δ r829 := US.em us828 p847 (by decide) (by decide)
                  have f856 := cb_12_4 i843 k_a0
                  have f857 : (q_I r829 12 4 a0).toInt = (q_I r811 12 4 a0).toInt := congrArg Int32.toInt (u848 12 4 a0 (by decide))
                  have f858 := cb_12_5 i843 k_a0
                  have f859 : (q_I r829 12 5 a0).toInt = (q_I r811 12 5 a0).toInt := congrArg Int32.toInt (u848 12 5 a0 (by decide))
                  have f860 := ti_b (q_I r829 12 7 a0)
                  have f861 : (q_I r829 12 7 a0).toInt = (q_I r811 12 7 a0).toInt := congrArg Int32.toInt (u848 12 7 a0 (by decide))
                  have f862 := ti_b (q_I r811 12 7 a0)
                  have f863 : (q_I r811 12 7 a0).toInt = (q_I r507.2 12 7 a0).toInt := congrArg Int32.toInt (u816 12 7 a0 (by decide))
                  have f864 := ti_b (q_I r507.2 12 7 a0)
                  have f865 : (q_I r507.2 12 7 a0).toInt = (q_I r18.2 12 7 a0).toInt := congrArg Int32.toInt (u512 12 7 a0 (by decide))
                  have f866 := ti_b (q_I r18.2 12 7 a0)
                  have f867 : (q_I r18.2 12 7 a0).toInt = (q_I δ 12 7 a0).toInt := congrArg Int32.toInt (u24 12 7 a0 (by decide))
                  exact ok_some (show RI ad h.1 δ0 r829 ∧ (kp [(12, 4), (12, 5), (12, 6), (12, 7), (12, 26)] δ r829 ∧ q_V r829 = q_V δ ∧ kr ad [116, 117] δ r829) ∧ (q_I δ 12 4 a0).toInt ≤ (q_I r829 12 4 a0).toInt ∧ (q_I δ 12 5 a0).toInt ≤ (q_I r829 12 5 a0).toInt ∧ (q_I r829 12 7 a0).toInt = (q_I δ 12 7 a0).toInt ∧ (q_I δ 12 26 a0).toInt ≤ (q_I r829 12 26 a0).toInt ∧ (q_I r829 12 26 a0).toInt - (q_I δ 12 26 a0).toInt ≤ (q_I r829 12 4 a0).toInt - (q_I δ 12 4 a0).toInt ∧ US ad a0 δ r829 from ⟨i843, ⟨kp_w (by decide) u851, v852, kr_w (by decide) v853⟩, by first | assumption | omega, by first | assumption | omega, by first | assumption | omega, by first | assumption | omega, by first | assumption | omega, us855⟩)
                · have c868 : r507.1.toInt ≠ r802.1.toInt := o_ne h808
                  unfold J_X12_unit_176
                  refine ok_ite (fun h869 => ?_) (fun h869 => absurd (by decide) h869)
                  refine ok_bind (k_X12_wrong L hN (a0 := a0) (x1 := (1 : Int32)) (x2 := (q_I r507.2 12 4 a0)) k_a0 (show 0 ≤ ((q_I r507.2 12 4 a0)).toInt by first | assumption | omega) (show ((q_I r507.2 12 4 a0)).toInt ≤ 500 by first | assumption | omega) (show 0 ≤ (1 : Int) by first | assumption | omega) (show (1 : Int) ≤ 4 by first | assumption | omega) i509) (fun r870 hr871 => ?_)
                  obtain ⟨i872, ⟨u875, u876, u877, u878⟩, p873, p874⟩ := hr871
                  have u879 := kp_t u516 u875
                  have v880 : q_V r870 = q_V δ := (u876).trans v517
                  have v881 := kr_t v518 u878
                  have f882 := cb_12_5 i872 k_a0
                  have us883 : NU ad a0 δ r870 := NU.t us533 (show NU ad a0 r507.2 r870 from ⟨u878 116 (by decide) (by decide) (by decide), u875 12 26 _ (by decide), u875 12 24 _ (by decide), fun z => by omega⟩)
                  have f884 := cb_12_4 i872 k_a0
                  have f885 : (q_I r870 12 4 a0).toInt = (q_I r507.2 12 4 a0).toInt := congrArg Int32.toInt (u875 12 4 a0 (by decide))
                  have f886 := ti_b (q_I r870 12 7 a0)
                  have f887 : (q_I r870 12 7 a0).toInt = (q_I r507.2 12 7 a0).toInt := congrArg Int32.toInt (u875 12 7 a0 (by decide))
                  have f888 := ti_b (q_I r507.2 12 7 a0)
                  have f889 : (q_I r507.2 12 7 a0).toInt = (q_I r18.2 12 7 a0).toInt := congrArg Int32.toInt (u512 12 7 a0 (by decide))
                  have f890 := ti_b (q_I r18.2 12 7 a0)
                  have f891 : (q_I r18.2 12 7 a0).toInt = (q_I δ 12 7 a0).toInt := congrArg Int32.toInt (u24 12 7 a0 (by decide))
                  have f892 := cb_12_26 i872 k_a0
                  have f893 : (q_I r870 12 26 a0).toInt = (q_I r507.2 12 26 a0).toInt := congrArg Int32.toInt (u875 12 26 a0 (by decide))
                  have f894 := cb_12_26 i509 k_a0
                  have f895 : (q_I r507.2 12 26 a0).toInt = (q_I r18.2 12 26 a0).toInt := congrArg Int32.toInt (u512 12 26 a0 (by decide))
                  have f896 := cb_12_26 i20 k_a0
                  have f897 : (q_I r18.2 12 26 a0).toInt = (q_I δ 12 26 a0).toInt := congrArg Int32.toInt (u24 12 26 a0 (by decide))
                  exact ok_some (show RI ad h.1 δ0 r870 ∧ (kp [(12, 4), (12, 5), (12, 6), (12, 7), (12, 26)] δ r870 ∧ q_V r870 = q_V δ ∧ kr ad [116, 117] δ r870) ∧ (q_I δ 12 4 a0).toInt ≤ (q_I r870 12 4 a0).toInt ∧ (q_I δ 12 5 a0).toInt ≤ (q_I r870 12 5 a0).toInt ∧ (q_I r870 12 7 a0).toInt = (q_I δ 12 7 a0).toInt ∧ (q_I δ 12 26 a0).toInt ≤ (q_I r870 12 26 a0).toInt ∧ (q_I r870 12 26 a0).toInt - (q_I δ 12 26 a0).toInt ≤ (q_I r870 12 4 a0).toInt - (q_I δ 12 4 a0).toInt ∧ US ad a0 δ r870 from ⟨i872, ⟨kp_w (by decide) u879, v880, kr_w (by decide) v881⟩, by first | assumption | omega, by first | assumption | omega, by first | assumption | omega, by first | assumption | omega, by first | assumption | omega, US.bad us883 (by omega)⟩)
    · have c898 : r46.1.toInt ≠ (0 : Int) := o_ne h55
      refine ok_bind (k_X12_readNumber L hN (a0 := a0) (x1 := (0 : Int32)) (x2 := (99999 : Int32)) k_a0 i20) (fun r899 hr900 => ?_)
      obtain ⟨i901, ⟨u908, u909, u910, u911⟩, p902, p903, p904, p905, p906, p907⟩ := hr900
      have u912 := kp_t u28 u908
      have v913 : q_V r899.2 = q_V δ := (u909).trans v29
      have v914 := kr_t v30 u911
      have f915 := cb_12_4 i901 k_a0
      have f916 := cb_12_5 i901 k_a0
      have f917 := ti_b r899.1
      replace p907 : ((q_I r899.2 12 5 a0).toInt < 0 → (0 : Int) ≤ (r899.1).toInt ∧ (r899.1).toInt ≤ (99999 : Int)) := p907
      have f918 := ti_b r899.1
      have us919 : NU ad a0 δ r899.2 := NU.t us45 (show NU ad a0 r18.2 r899.2 from ⟨u911 116 (by decide) (by decide) (by decide), u908 12 26 _ (by decide), u908 12 24 _ (by decide), fun z => by omega⟩)
      have f922 := cb_12_24 i901 k_a0
      have f923 : (q_I r899.2 12 24 a0).toInt = (q_I r18.2 12 24 a0).toInt := congrArg Int32.toInt (u908 12 24 a0 (by decide))
      have f924 := cb_12_24 i20 k_a0
      have f925 : (q_I r18.2 12 24 a0).toInt = (q_I δ 12 24 a0).toInt := congrArg Int32.toInt (u24 12 24 a0 (by decide))
      have f926 := cb_12_26 i901 k_a0
      have f927 : (q_I r899.2 12 26 a0).toInt = (q_I r18.2 12 26 a0).toInt := congrArg Int32.toInt (u908 12 26 a0 (by decide))
      have f928 := cb_12_26 i20 k_a0
      have f929 : (q_I r18.2 12 26 a0).toInt = (q_I δ 12 26 a0).toInt := congrArg Int32.toInt (u24 12 26 a0 (by decide))
      refine ok_bind (k_X12_emit L hN (a0 := a0) (x1 := (0 : Int32)) (x2 := r899.1) k_a0 (show (q_I r899.2 12 24 a0).toInt ≤ 3 by first | assumption | omega) (show (q_I r899.2 12 5 a0).toInt < 0 → (q_I r899.2 12 26 a0).toInt < 500 by first | assumption | omega) i901) (fun r920 hr921 => ?_)
      obtain ⟨i930, ⟨u935, u936, u937⟩, p931, p932, p933, p934⟩ := hr921
      have u938 := kp_t u912 u935
      have v939 : q_V r920 = q_V δ := (u936).trans v913
      have v940 := kr_t v914 u937
      have f941 := cb_12_26 i930 k_a0
      have us942 : US ad a0 δ r920 := US.em us919 p934 (by decide) (by decide)
      have f943 := cb_12_4 i930 k_a0
      have f944 : (q_I r920 12 4 a0).toInt = (q_I r899.2 12 4 a0).toInt := congrArg Int32.toInt (u935 12 4 a0 (by decide))
      have f945 := cb_12_5 i930 k_a0
      have f946 : (q_I r920 12 5 a0).toInt = (q_I r899.2 12 5 a0).toInt := congrArg Int32.toInt (u935 12 5 a0 (by decide))
      have f947 := ti_b (q_I r920 12 7 a0)
      have f948 : (q_I r920 12 7 a0).toInt = (q_I r899.2 12 7 a0).toInt := congrArg Int32.toInt (u935 12 7 a0 (by decide))
      have f949 := ti_b (q_I r899.2 12 7 a0)
      have f950 : (q_I r899.2 12 7 a0).toInt = (q_I r18.2 12 7 a0).toInt := congrArg Int32.toInt (u908 12 7 a0 (by decide))
      have f951 := ti_b (q_I r18.2 12 7 a0)
      have f952 : (q_I r18.2 12 7 a0).toInt = (q_I δ 12 7 a0).toInt := congrArg Int32.toInt (u24 12 7 a0 (by decide))
      exact ok_some (show RI ad h.1 δ0 r920 ∧ (kp [(12, 4), (12, 5), (12, 6), (12, 7), (12, 26)] δ r920 ∧ q_V r920 = q_V δ ∧ kr ad [116, 117] δ r920) ∧ (q_I δ 12 4 a0).toInt ≤ (q_I r920 12 4 a0).toInt ∧ (q_I δ 12 5 a0).toInt ≤ (q_I r920 12 5 a0).toInt ∧ (q_I r920 12 7 a0).toInt = (q_I δ 12 7 a0).toInt ∧ (q_I δ 12 26 a0).toInt ≤ (q_I r920 12 26 a0).toInt ∧ (q_I r920 12 26 a0).toInt - (q_I δ 12 26 a0).toInt ≤ (q_I r920 12 4 a0).toInt - (q_I δ 12 4 a0).toInt ∧ US ad a0 δ r920 from ⟨i930, ⟨kp_w (by decide) u938, v939, kr_w (by decide) v940⟩, by first | assumption | omega, by first | assumption | omega, by first | assumption | omega, by first | assumption | omega, by first | assumption | omega, us942⟩)
set_option maxHeartbeats 4000000 in
theorem kl_X12_product_4 {ad : List Nat} {h : hp} (L : Lay TLx ad h) {δ0 : dp} {N : Nat} (hN : 10000000 ≤ N) {T : Nat → dp → Option (dp)} {K : Int} (hT : ∀ (a0 : Nat) (δ : dp), q_K h.1 a0 = 12 → (q_I δ 12 24 a0).toInt ≤ 3 → (q_I δ 12 26 a0).toInt ≤ (q_I δ 12 4 a0).toInt → 0 ≤ (q_I δ 12 7 a0).toInt → (q_I δ 12 7 a0).toInt ≤ 7 → ((q_I δ 12 7 a0).toInt = 7 → 0 ≤ (q_I δ 12 5 a0).toInt) → 8 - (q_I δ 12 7 a0).toInt < K → RI ad h.1 δ0 δ → ok (T a0 δ) (fun r => RI ad h.1 δ0 r ∧ (kp [(12, 4), (12, 5), (12, 6), (12, 7), (12, 26)] δ r ∧ q_V r = q_V δ ∧ kr ad [116, 117] δ r) ∧ (q_I δ 12 4 a0).toInt ≤ (q_I r 12 4 a0).toInt ∧ (q_I δ 12 5 a0).toInt ≤ (q_I r 12 5 a0).toInt ∧ (q_I r 12 7 a0).toInt = (q_I δ 12 7 a0).toInt ∧ (q_I δ 12 26 a0).toInt ≤ (q_I r 12 26 a0).toInt ∧ (q_I r 12 26 a0).toInt - (q_I δ 12 26 a0).toInt ≤ (q_I r 12 4 a0).toInt - (q_I δ 12 4 a0).toInt ∧ US ad a0 δ r)) {a0 : Nat} (k_a0 : q_K h.1 a0 = 12) : ∀ (n : Nat) (δ : dp), RI ad h.1 δ0 δ → (q_I δ 12 24 a0).toInt ≤ 3 → (q_I δ 12 26 a0).toInt ≤ (q_I δ 12 4 a0).toInt → 0 ≤ (q_I δ 12 7 a0).toInt → (q_I δ 12 7 a0).toInt ≤ 7 → ((q_I δ 12 7 a0).toInt = 7 → 0 ≤ (q_I δ 12 5 a0).toInt) → 8 - (q_I δ 12 7 a0).toInt ≤ K → 501 - (q_I δ 12 4 a0).toInt < (n : Int) → ok (L_X12_product_4 N h.1 T a0 n δ) (fun r => RI ad h.1 δ0 r ∧ (kp [(12, 4), (12, 5), (12, 6), (12, 7), (12, 26)] δ r ∧ q_V r = q_V δ ∧ kr ad [116, 117] δ r) ∧ (q_I δ 12 4 a0).toInt ≤ (q_I r 12 4 a0).toInt ∧ (q_I δ 12 5 a0).toInt ≤ (q_I r 12 5 a0).toInt ∧ (q_I r 12 7 a0).toInt = (q_I δ 12 7 a0).toInt ∧ (q_I δ 12 26 a0).toInt ≤ (q_I r 12 26 a0).toInt ∧ (q_I r 12 26 a0).toInt - (q_I δ 12 26 a0).toInt ≤ (q_I r 12 4 a0).toInt - (q_I δ 12 4 a0).toInt ∧ LU ad a0 δ r) := by
  intro n
  induction n with
  | zero =>
    intro δ I j0 j1 j2 j3 j4 j5 hm
    have f1 := cb_12_24 I k_a0
    have f2 := cb_12_26 I k_a0
    have f3 := cb_12_4 I k_a0
    have f4 := ti_b (q_I δ 12 7 a0)
    have f5 := cb_12_5 I k_a0
    exfalso; omega
  | succ n ih =>
    intro δ I j0 j1 j2 j3 j4 j5 hm
    unfold L_X12_product_4
    have f1 := cb_12_24 I k_a0
    have f2 := cb_12_26 I k_a0
    have f3 := cb_12_4 I k_a0
    have f4 := ti_b (q_I δ 12 7 a0)
    have f5 := cb_12_5 I k_a0
    refine ok_bind (k_X12_fine L hN (a0 := a0) k_a0 I) (fun r6 hr7 => ?_)
    obtain ⟨i8, p9, p10, p11⟩ := hr7
    try rw [i8]
    have f12 := bo_l p9
    have f13 := ti_b r6.1
    have f14 := ti_b r6.1
    refine ok_ite (fun h15 => ?_) (fun h15 => ?_)
    · have c16 : r6.1.toInt = (0 : Int) := o_eq h15
      unfold J_X12_product_69
      exact ok_some (show RI ad h.1 δ0 δ ∧ (kp [(12, 4), (12, 5), (12, 6), (12, 7), (12, 26)] δ δ ∧ q_V δ = q_V δ ∧ kr ad [116, 117] δ δ) ∧ (q_I δ 12 4 a0).toInt ≤ (q_I δ 12 4 a0).toInt ∧ (q_I δ 12 5 a0).toInt ≤ (q_I δ 12 5 a0).toInt ∧ (q_I δ 12 7 a0).toInt = (q_I δ 12 7 a0).toInt ∧ (q_I δ 12 26 a0).toInt ≤ (q_I δ 12 26 a0).toInt ∧ (q_I δ 12 26 a0).toInt - (q_I δ 12 26 a0).toInt ≤ (q_I δ 12 4 a0).toInt - (q_I δ 12 4 a0).toInt ∧ LU ad a0 δ δ from ⟨I, ⟨kp_w (by decide) kp_r, rfl, kr_w (by decide) (kr_r (ad := ad))⟩, by first | assumption | omega, by first | assumption | omega, by first | assumption | omega, by first | assumption | omega, by first | assumption | omega, LU.n NU.r⟩)
    · have c17 : r6.1.toInt ≠ (0 : Int) := o_ne h15
      refine ok_bind (k_X12_here L hN (a0 := a0) k_a0 I) (fun r18 hr19 => ?_)
      obtain ⟨i20, ⟨u24, u25, u26, u27⟩, p21, p22, p23⟩ := hr19
      have u28 := kp_t kp_r u24
      have v29 : q_V r18.2 = q_V δ := (u25).trans rfl
      have v30 := kr_t (kr_r (ad := ad)) u27
      have f31 := cb_12_4 i20 k_a0
      have f32 : hc ad r18.2 a0 = (q_R r18.2 (Ad ad 101) (q_I r18.2 12 4 a0).toNatClampNeg).toInt := rfl
      have t33 := ti_tn (q_I r18.2 12 4 a0)
      have f34 : (q_R r18.2 (Ad ad 101) (q_I r18.2 12 4 a0).toNatClampNeg).toInt = (q_R δ (Ad ad 101) (q_I r18.2 12 4 a0).toNatClampNeg).toInt := congrArg Int32.toInt (congrFun (u27 101 (by decide) (by decide) (by decide)) _)
      have f35 := ti_b (q_R δ (Ad ad 101) (q_I r18.2 12 4 a0).toNatClampNeg)
      have f36 := ti_b (q_R r18.2 (Ad ad 101) (q_I r18.2 12 4 a0).toNatClampNeg)
      have f37 := ti_b r18.1
      have f38 := cb_12_3 I k_a0
      have f39 : hc ad δ a0 = (q_R δ (Ad ad 101) (q_I δ 12 4 a0).toNatClampNeg).toInt := rfl
      have t40 := ti_tn (q_I δ 12 4 a0)
      have f41 := ti_b (q_R δ (Ad ad 101) (q_I δ 12 4 a0).toNatClampNeg)
      have f42 := ti_b r18.1
      have f43 := cb_12_5 i20 k_a0
      have f44 : (q_I r18.2 12 5 a0).toInt = (q_I δ 12 5 a0).toInt := congrArg Int32.toInt (u24 12 5 a0 (by decide))
      have us45 : NU ad a0 δ r18.2 := NU.t NU.r (show NU ad a0 δ r18.2 from ⟨u27 116 (by decide) (by decide) (by decide), u24 12 26 _ (by decide), u24 12 24 _ (by decide), fun z => by omega⟩)
      refine ok_ite (fun h46 => ?_) (fun h46 => ?_)
      · have c47 : r18.1.toInt = (42 : Int) := o_eq h46
        unfold J_X12_product_29
        refine ok_bind (k_X12_here L hN (a0 := a0) k_a0 i20) (fun r48 hr49 => ?_)
        obtain ⟨i50, ⟨u54, u55, u56, u57⟩, p51, p52, p53⟩ := hr49
        have u58 := kp_t u28 u54
        have v59 : q_V r48.2 = q_V δ := (u55).trans v29
        have v60 := kr_t v30 u57
        have f61 := cb_12_4 i50 k_a0
        have f62 : hc ad r48.2 a0 = (q_R r48.2 (Ad ad 101) (q_I r48.2 12 4 a0).toNatClampNeg).toInt := rfl
        have t63 := ti_tn (q_I r48.2 12 4 a0)
        have f64 : (q_R r48.2 (Ad ad 101) (q_I r48.2 12 4 a0).toNatClampNeg).toInt = (q_R r18.2 (Ad ad 101) (q_I r48.2 12 4 a0).toNatClampNeg).toInt := congrArg Int32.toInt (congrFun (u57 101 (by decide) (by decide) (by decide)) _)
        have f65 : (q_R r18.2 (Ad ad 101) (q_I r48.2 12 4 a0).toNatClampNeg).toInt = (q_R δ (Ad ad 101) (q_I r48.2 12 4 a0).toNatClampNeg).toInt := congrArg Int32.toInt (congrFun (u27 101 (by decide) (by decide) (by decide)) _)
        have f66 := ti_b (q_R δ (Ad ad 101) (q_I r48.2 12 4 a0).toNatClampNeg)
        have f67 := ti_b (q_R r18.2 (Ad ad 101) (q_I r48.2 12 4 a0).toNatClampNeg)
        have f68 := ti_b (q_R r48.2 (Ad ad 101) (q_I r48.2 12 4 a0).toNatClampNeg)
        have f69 := ti_b r48.1
        have f70 := cb_12_3 i20 k_a0
        have f71 : (q_I r18.2 12 3 a0).toInt = (q_I δ 12 3 a0).toInt := congrArg Int32.toInt (u24 12 3 a0 (by decide))
        have f72 := ti_b r48.1
        have f73 := cb_12_5 i50 k_a0
        have f74 : (q_I r48.2 12 5 a0).toInt = (q_I r18.2 12 5 a0).toInt := congrArg Int32.toInt (u54 12 5 a0 (by decide))
        have us75 : NU ad a0 δ r48.2 := NU.t us45 (show NU ad a0 r18.2 r48.2 from ⟨u57 116 (by decide) (by decide) (by decide), u54 12 26 _ (by decide), u54 12 24 _ (by decide), fun z => by omega⟩)
        first | (have q80 := te_addc (c := 1) (n := 1) rfl (q_I r48.2 12 4 a0) (by omega) (by omega); obtain ⟨f81, f82, f83⟩ := q80) | (obtain ⟨q80, f81, f82, f83⟩ := ti_addc (c := 1) (n := 1) rfl (q_I r48.2 12 4 a0))
        refine ok_bdv (fun d76 e77 => ?_)
        have i78 : RI ad h.1 δ0 d76 := by rw [e77]; exact cs_12_4 L i50 k_a0 (show 0 ≤ ((q_I r48.2 12 4 a0) + (1 : Int32)).toInt by omega) (show ((q_I r48.2 12 4 a0) + (1 : Int32)).toInt ≤ 500 by omega)
        have u84 := kp_I u58 e77
        have v85 : q_V d76 = q_V δ := ((show q_V d76 = q_V r48.2 by rw [e77]; rfl)).trans v59
        have v86 := kr_N v60 (show q_R d76 = q_R r48.2 by rw [e77]; rfl)
        have us87 : NU ad a0 δ d76 := NU.t us75 (show NU ad a0 r48.2 d76 from NU.w e77 (by decide))
        have f90 := cb_12_24 i78 k_a0
        have f91 : (q_I d76 12 24 a0).toInt = (q_I r48.2 12 24 a0).toInt := congrArg Int32.toInt (by rw [e77]; exact rI_o (by decide))
        have f92 := cb_12_24 i50 k_a0
        have f93 : (q_I r48.2 12 24 a0).toInt = (q_I r18.2 12 24 a0).toInt := congrArg Int32.toInt (u54 12 24 a0 (by decide))
        have f94 := cb_12_24 i20 k_a0
        have f95 : (q_I r18.2 12 24 a0).toInt = (q_I δ 12 24 a0).toInt := congrArg Int32.toInt (u24 12 24 a0 (by decide))
        have f96 := cb_12_26 i78 k_a0
        have f97 : (q_I d76 12 26 a0).toInt = (q_I r48.2 12 26 a0).toInt := congrArg Int32.toInt (by rw [e77]; exact rI_o (by decide))
        have f98 := cb_12_26 i50 k_a0
        have f99 : (q_I r48.2 12 26 a0).toInt = (q_I r18.2 12 26 a0).toInt := congrArg Int32.toInt (u54 12 26 a0 (by decide))
        have f100 := cb_12_26 i20 k_a0
        have f101 : (q_I r18.2 12 26 a0).toInt = (q_I δ 12 26 a0).toInt := congrArg Int32.toInt (u24 12 26 a0 (by decide))
        have f102 := cb_12_4 i78 k_a0
        have f103 : (q_I d76 12 4 a0).toInt = ((q_I r48.2 12 4 a0) + (1 : Int32)).toInt := congrArg Int32.toInt (show q_I d76 12 4 a0 = ((q_I r48.2 12 4 a0) + (1 : Int32)) by rw [e77]; exact rI_s)
        have f104 := ti_b (q_I d76 12 7 a0)
        have f105 : (q_I d76 12 7 a0).toInt = (q_I r48.2 12 7 a0).toInt := congrArg Int32.toInt (by rw [e77]; exact rI_o (by decide))
        have f106 := ti_b (q_I r48.2 12 7 a0)
        have f107 : (q_I r48.2 12 7 a0).toInt = (q_I r18.2 12 7 a0).toInt := congrArg Int32.toInt (u54 12 7 a0 (by decide))
        have f108 := ti_b (q_I r18.2 12 7 a0)
        have f109 : (q_I r18.2 12 7 a0).toInt = (q_I δ 12 7 a0).toInt := congrArg Int32.toInt (u24 12 7 a0 (by decide))
        have f110 := cb_12_5 i78 k_a0
        have f111 : (q_I d76 12 5 a0).toInt = (q_I r48.2 12 5 a0).toInt := congrArg Int32.toInt (by rw [e77]; exact rI_o (by decide))
        refine ok_bind (k_bX12_unit L hN (a0 := a0) hT k_a0 (show (q_I d76 12 24 a0).toInt ≤ 3 by first | assumption | omega) (show (q_I d76 12 26 a0).toInt ≤ (q_I d76 12 4 a0).toInt by first | assumption | omega) (show 0 ≤ (q_I d76 12 7 a0).toInt by first | assumption | omega) (show (q_I d76 12 7 a0).toInt ≤ 7 by first | assumption | omega) (show (q_I d76 12 7 a0).toInt = 7 → 0 ≤ (q_I d76 12 5 a0).toInt by first | assumption | omega) (show 8 - (q_I d76 12 7 a0).toInt ≤ K by first | assumption | omega) i78) (fun r88 hr89 => ?_)
        obtain ⟨i112, ⟨u119, u120, u121⟩, p113, p114, p115, p116, p117, p118⟩ := hr89
        have u122 := kp_t u84 u119
        have v123 : q_V r88 = q_V δ := (u120).trans v85
        have v124 := kr_t v86 u121
        have f125 := cb_12_4 i112 k_a0
        have f126 := cb_12_5 i112 k_a0
        have f127 := ti_b (q_I r88 12 7 a0)
        have f128 := cb_12_26 i112 k_a0
        have us129 : US ad a0 δ r88 := US.pre us87 p118
        refine ok_ite (fun h130 => ?_) (fun h130 => ?_)
        · have c131 : r48.1.toInt = (42 : Int) := o_eq h130
          unfold J_X12_product_62
          have f134 := cb_12_24 i112 k_a0
          have f135 : (q_I r88 12 24 a0).toInt = (q_I d76 12 24 a0).toInt := congrArg Int32.toInt (u119 12 24 a0 (by decide))
          refine ok_bind (k_X12_emit L hN (a0 := a0) (x1 := (8 : Int32)) (x2 := (0 : Int32)) k_a0 (show (q_I r88 12 24 a0).toInt ≤ 3 by first | assumption | omega) (show (q_I r88 12 5 a0).toInt < 0 → (q_I r88 12 26 a0).toInt < 500 by first | assumption | omega) i112) (fun r132 hr133 => ?_)
          obtain ⟨i136, ⟨u141, u142, u143⟩, p137, p138, p139, p140⟩ := hr133
          have u144 := kp_t u122 u141
          have v145 : q_V r132 = q_V δ := (u142).trans v123
          have v146 := kr_t v124 u143
          have f147 := cb_12_26 i136 k_a0
          have us148 : LU ad a0 δ r132 := LU.em us129 p140 (by decide)
          have f149 := cb_12_24 i136 k_a0
          have f150 : (q_I r132 12 24 a0).toInt = (q_I r88 12 24 a0).toInt := congrArg Int32.toInt (u141 12 24 a0 (by decide))
          have f151 := cb_12_4 i136 k_a0
          have f152 : (q_I r132 12 4 a0).toInt = (q_I r88 12 4 a0).toInt := congrArg Int32.toInt (u141 12 4 a0 (by decide))
          have f153 := ti_b (q_I r132 12 7 a0)
          have f154 : (q_I r132 12 7 a0).toInt = (q_I r88 12 7 a0).toInt := congrArg Int32.toInt (u141 12 7 a0 (by decide))
          have f155 := cb_12_5 i136 k_a0
          have f156 : (q_I r132 12 5 a0).toInt = (q_I r88 12 5 a0).toInt := congrArg Int32.toInt (u141 12 5 a0 (by decide))
          refine ok_mono (ih r132 i136 (show (q_I r132 12 24 a0).toInt ≤ 3 by first | assumption | omega) (show (q_I r132 12 26 a0).toInt ≤ (q_I r132 12 4 a0).toInt by first | assumption | omega) (show 0 ≤ (q_I r132 12 7 a0).toInt by first | assumption | omega) (show (q_I r132 12 7 a0).toInt ≤ 7 by first | assumption | omega) (show (q_I r132 12 7 a0).toInt = 7 → 0 ≤ (q_I r132 12 5 a0).toInt by first | assumption | omega) (show 8 - (q_I r132 12 7 a0).toInt ≤ K by first | assumption | omega) (show 501 - (q_I r132 12 4 a0).toInt < _ by omega)) (fun r157 hr158 => ?_)
          obtain ⟨i159, ⟨u166, u167, u168⟩, p160, p161, p162, p163, p164, p165⟩ := hr158
          have u169 := kp_t u144 u166
          have v170 : q_V r157 = q_V δ := (u167).trans v145
          have v171 := kr_t v146 u168
          have f172 := cb_12_4 i159 k_a0
          have f173 := cb_12_5 i159 k_a0
          have f174 := ti_b (q_I r157 12 7 a0)
          have f175 := cb_12_26 i159 k_a0
          have us176 : LU ad a0 δ r157 := LU.t us148 p165
          exact ⟨by assumption, ⟨kp_w (by decide) u169, v170, kr_w (by decide) v171⟩, by first | assumption | omega, by first | assumption | omega, by first | assumption | omega, by first | assumption | omega, by first | assumption | omega, us176⟩
        · have c177 : r48.1.toInt ≠ (42 : Int) := o_ne h130
          unfold J_X12_product_62
          have f180 := cb_12_24 i112 k_a0
          have f181 : (q_I r88 12 24 a0).toInt = (q_I d76 12 24 a0).toInt := congrArg Int32.toInt (u119 12 24 a0 (by decide))
          refine ok_bind (k_X12_emit L hN (a0 := a0) (x1 := (9 : Int32)) (x2 := (0 : Int32)) k_a0 (show (q_I r88 12 24 a0).toInt ≤ 3 by first | assumption | omega) (show (q_I r88 12 5 a0).toInt < 0 → (q_I r88 12 26 a0).toInt < 500 by first | assumption | omega) i112) (fun r178 hr179 => ?_)
          obtain ⟨i182, ⟨u187, u188, u189⟩, p183, p184, p185, p186⟩ := hr179
          have u190 := kp_t u122 u187
          have v191 : q_V r178 = q_V δ := (u188).trans v123
          have v192 := kr_t v124 u189
          have f193 := cb_12_26 i182 k_a0
          have us194 : LU ad a0 δ r178 := LU.em us129 p186 (by decide)
          have f195 := cb_12_24 i182 k_a0
          have f196 : (q_I r178 12 24 a0).toInt = (q_I r88 12 24 a0).toInt := congrArg Int32.toInt (u187 12 24 a0 (by decide))
          have f197 := cb_12_4 i182 k_a0
          have f198 : (q_I r178 12 4 a0).toInt = (q_I r88 12 4 a0).toInt := congrArg Int32.toInt (u187 12 4 a0 (by decide))
          have f199 := ti_b (q_I r178 12 7 a0)
          have f200 : (q_I r178 12 7 a0).toInt = (q_I r88 12 7 a0).toInt := congrArg Int32.toInt (u187 12 7 a0 (by decide))
          have f201 := cb_12_5 i182 k_a0
          have f202 : (q_I r178 12 5 a0).toInt = (q_I r88 12 5 a0).toInt := congrArg Int32.toInt (u187 12 5 a0 (by decide))
          refine ok_mono (ih r178 i182 (show (q_I r178 12 24 a0).toInt ≤ 3 by first | assumption | omega) (show (q_I r178 12 26 a0).toInt ≤ (q_I r178 12 4 a0).toInt by first | assumption | omega) (show 0 ≤ (q_I r178 12 7 a0).toInt by first | assumption | omega) (show (q_I r178 12 7 a0).toInt ≤ 7 by first | assumption | omega) (show (q_I r178 12 7 a0).toInt = 7 → 0 ≤ (q_I r178 12 5 a0).toInt by first | assumption | omega) (show 8 - (q_I r178 12 7 a0).toInt ≤ K by first | assumption | omega) (show 501 - (q_I r178 12 4 a0).toInt < _ by omega)) (fun r203 hr204 => ?_)
          obtain ⟨i205, ⟨u212, u213, u214⟩, p206, p207, p208, p209, p210, p211⟩ := hr204
          have u215 := kp_t u190 u212
          have v216 : q_V r203 = q_V δ := (u213).trans v191
          have v217 := kr_t v192 u214
          have f218 := cb_12_4 i205 k_a0
          have f219 := cb_12_5 i205 k_a0
          have f220 := ti_b (q_I r203 12 7 a0)
          have f221 := cb_12_26 i205 k_a0
          have us222 : LU ad a0 δ r203 := LU.t us194 p211
          exact ⟨by assumption, ⟨kp_w (by decide) u215, v216, kr_w (by decide) v217⟩, by first | assumption | omega, by first | assumption | omega, by first | assumption | omega, by first | assumption | omega, by first | assumption | omega, us222⟩
      · have c223 : r18.1.toInt ≠ (42 : Int) := o_ne h46
        refine ok_bind (k_X12_here L hN (a0 := a0) k_a0 i20) (fun r224 hr225 => ?_)
        obtain ⟨i226, ⟨u230, u231, u232, u233⟩, p227, p228, p229⟩ := hr225
        have u234 := kp_t u28 u230
        have v235 : q_V r224.2 = q_V δ := (u231).trans v29
        have v236 := kr_t v30 u233
        have f237 := cb_12_4 i226 k_a0
        have f238 : hc ad r224.2 a0 = (q_R r224.2 (Ad ad 101) (q_I r224.2 12 4 a0).toNatClampNeg).toInt := rfl
        have t239 := ti_tn (q_I r224.2 12 4 a0)
        have f240 : (q_R r224.2 (Ad ad 101) (q_I r224.2 12 4 a0).toNatClampNeg).toInt = (q_R r18.2 (Ad ad 101) (q_I r224.2 12 4 a0).toNatClampNeg).toInt := congrArg Int32.toInt (congrFun (u233 101 (by decide) (by decide) (by decide)) _)
        have f241 : (q_R r18.2 (Ad ad 101) (q_I r224.2 12 4 a0).toNatClampNeg).toInt = (q_R δ (Ad ad 101) (q_I r224.2 12 4 a0).toNatClampNeg).toInt := congrArg Int32.toInt (congrFun (u27 101 (by decide) (by decide) (by decide)) _)
        have f242 := ti_b (q_R δ (Ad ad 101) (q_I r224.2 12 4 a0).toNatClampNeg)
        have f243 := ti_b (q_R r18.2 (Ad ad 101) (q_I r224.2 12 4 a0).toNatClampNeg)
        have f244 := ti_b (q_R r224.2 (Ad ad 101) (q_I r224.2 12 4 a0).toNatClampNeg)
        have f245 := ti_b r224.1
        have f246 := cb_12_3 i20 k_a0
        have f247 : (q_I r18.2 12 3 a0).toInt = (q_I δ 12 3 a0).toInt := congrArg Int32.toInt (u24 12 3 a0 (by decide))
        have f248 := ti_b r224.1
        have f249 := cb_12_5 i226 k_a0
        have f250 : (q_I r224.2 12 5 a0).toInt = (q_I r18.2 12 5 a0).toInt := congrArg Int32.toInt (u230 12 5 a0 (by decide))
        have us251 : NU ad a0 δ r224.2 := NU.t us45 (show NU ad a0 r18.2 r224.2 from ⟨u233 116 (by decide) (by decide) (by decide), u230 12 26 _ (by decide), u230 12 24 _ (by decide), fun z => by omega⟩)
        refine ok_ite (fun h252 => ?_) (fun h252 => ?_)
        · have c253 : r224.1.toInt = (37 : Int) := o_eq h252
          unfold J_X12_product_29
          refine ok_bind (k_X12_here L hN (a0 := a0) k_a0 i226) (fun r254 hr255 => ?_)
          obtain ⟨i256, ⟨u260, u261, u262, u263⟩, p257, p258, p259⟩ := hr255
          have u264 := kp_t u234 u260
          have v265 : q_V r254.2 = q_V δ := (u261).trans v235
          have v266 := kr_t v236 u263
          have f267 := cb_12_4 i256 k_a0
          have f268 : hc ad r254.2 a0 = (q_R r254.2 (Ad ad 101) (q_I r254.2 12 4 a0).toNatClampNeg).toInt := rfl
          have t269 := ti_tn (q_I r254.2 12 4 a0)
          have f270 : (q_R r254.2 (Ad ad 101) (q_I r254.2 12 4 a0).toNatClampNeg).toInt = (q_R r224.2 (Ad ad 101) (q_I r254.2 12 4 a0).toNatClampNeg).toInt := congrArg Int32.toInt (congrFun (u263 101 (by decide) (by decide) (by decide)) _)
          have f271 : (q_R r224.2 (Ad ad 101) (q_I r254.2 12 4 a0).toNatClampNeg).toInt = (q_R r18.2 (Ad ad 101) (q_I r254.2 12 4 a0).toNatClampNeg).toInt := congrArg Int32.toInt (congrFun (u233 101 (by decide) (by decide) (by decide)) _)
          have f272 : (q_R r18.2 (Ad ad 101) (q_I r254.2 12 4 a0).toNatClampNeg).toInt = (q_R δ (Ad ad 101) (q_I r254.2 12 4 a0).toNatClampNeg).toInt := congrArg Int32.toInt (congrFun (u27 101 (by decide) (by decide) (by decide)) _)
          have f273 := ti_b (q_R δ (Ad ad 101) (q_I r254.2 12 4 a0).toNatClampNeg)
          have f274 := ti_b (q_R r18.2 (Ad ad 101) (q_I r254.2 12 4 a0).toNatClampNeg)
          have f275 := ti_b (q_R r224.2 (Ad ad 101) (q_I r254.2 12 4 a0).toNatClampNeg)
          have f276 := ti_b (q_R r254.2 (Ad ad 101) (q_I r254.2 12 4 a0).toNatClampNeg)
          have f277 := ti_b r254.1
          have f278 := cb_12_3 i226 k_a0
          have f279 : (q_I r224.2 12 3 a0).toInt = (q_I r18.2 12 3 a0).toInt := congrArg Int32.toInt (u230 12 3 a0 (by decide))
          have f280 := ti_b r254.1
          have f281 := cb_12_5 i256 k_a0
          have f282 : (q_I r254.2 12 5 a0).toInt = (q_I r224.2 12 5 a0).toInt := congrArg Int32.toInt (u260 12 5 a0 (by decide))
          have us283 : NU ad a0 δ r254.2 := NU.t us251 (show NU ad a0 r224.2 r254.2 from ⟨u263 116 (by decide) (by decide) (by decide), u260 12 26 _ (by decide), u260 12 24 _ (by decide), fun z => by omega⟩)
          first | (have q288 := te_addc (c := 1) (n := 1) rfl (q_I r254.2 12 4 a0) (by omega) (by omega); obtain ⟨f289, f290, f291⟩ := q288) | (obtain ⟨q288, f289, f290, f291⟩ := ti_addc (c := 1) (n := 1) rfl (q_I r254.2 12 4 a0))
          refine ok_bdv (fun d284 e285 => ?_)
          have i286 : RI ad h.1 δ0 d284 := by rw [e285]; exact cs_12_4 L i256 k_a0 (show 0 ≤ ((q_I r254.2 12 4 a0) + (1 : Int32)).toInt by omega) (show ((q_I r254.2 12 4 a0) + (1 : Int32)).toInt ≤ 500 by omega)
          have u292 := kp_I u264 e285
          have v293 : q_V d284 = q_V δ := ((show q_V d284 = q_V r254.2 by rw [e285]; rfl)).trans v265
          have v294 := kr_N v266 (show q_R d284 = q_R r254.2 by rw [e285]; rfl)
          have us295 : NU ad a0 δ d284 := NU.t us283 (show NU ad a0 r254.2 d284 from NU.w e285 (by decide))
          have f298 := cb_12_24 i286 k_a0
          have f299 : (q_I d284 12 24 a0).toInt = (q_I r254.2 12 24 a0).toInt := congrArg Int32.toInt (by rw [e285]; exact rI_o (by decide))
          have f300 := cb_12_24 i256 k_a0
          have f301 : (q_I r254.2 12 24 a0).toInt = (q_I r224.2 12 24 a0).toInt := congrArg Int32.toInt (u260 12 24 a0 (by decide))
          have f302 := cb_12_24 i226 k_a0
          have f303 : (q_I r224.2 12 24 a0).toInt = (q_I r18.2 12 24 a0).toInt := congrArg Int32.toInt (u230 12 24 a0 (by decide))
          have f304 := cb_12_24 i20 k_a0
          have f305 : (q_I r18.2 12 24 a0).toInt = (q_I δ 12 24 a0).toInt := congrArg Int32.toInt (u24 12 24 a0 (by decide))
          have f306 := cb_12_26 i286 k_a0
          have f307 : (q_I d284 12 26 a0).toInt = (q_I r254.2 12 26 a0).toInt := congrArg Int32.toInt (by rw [e285]; exact rI_o (by decide))
          have f308 := cb_12_26 i256 k_a0
          have f309 : (q_I r254.2 12 26 a0).toInt = (q_I r224.2 12 26 a0).toInt := congrArg Int32.toInt (u260 12 26 a0 (by decide))
          have f310 := cb_12_26 i226 k_a0
          have f311 : (q_I r224.2 12 26 a0).toInt = (q_I r18.2 12 26 a0).toInt := congrArg Int32.toInt (u230 12 26 a0 (by decide))
          have f312 := cb_12_26 i20 k_a0
          have f313 : (q_I r18.2 12 26 a0).toInt = (q_I δ 12 26 a0).toInt := congrArg Int32.toInt (u24 12 26 a0 (by decide))
          have f314 := cb_12_4 i286 k_a0
          have f315 : (q_I d284 12 4 a0).toInt = ((q_I r254.2 12 4 a0) + (1 : Int32)).toInt := congrArg Int32.toInt (show q_I d284 12 4 a0 = ((q_I r254.2 12 4 a0) + (1 : Int32)) by rw [e285]; exact rI_s)
          have f316 := ti_b (q_I d284 12 7 a0)
          have f317 : (q_I d284 12 7 a0).toInt = (q_I r254.2 12 7 a0).toInt := congrArg Int32.toInt (by rw [e285]; exact rI_o (by decide))
          have f318 := ti_b (q_I r254.2 12 7 a0)
          have f319 : (q_I r254.2 12 7 a0).toInt = (q_I r224.2 12 7 a0).toInt := congrArg Int32.toInt (u260 12 7 a0 (by decide))
          have f320 := ti_b (q_I r224.2 12 7 a0)
          have f321 : (q_I r224.2 12 7 a0).toInt = (q_I r18.2 12 7 a0).toInt := congrArg Int32.toInt (u230 12 7 a0 (by decide))
          have f322 := ti_b (q_I r18.2 12 7 a0)
          have f323 : (q_I r18.2 12 7 a0).toInt = (q_I δ 12 7 a0).toInt := congrArg Int32.toInt (u24 12 7 a0 (by decide))
          have f324 := cb_12_5 i286 k_a0
          have f325 : (q_I d284 12 5 a0).toInt = (q_I r254.2 12 5 a0).toInt := congrArg Int32.toInt (by rw [e285]; exact rI_o (by decide))
          refine ok_bind (k_bX12_unit L hN (a0 := a0) hT k_a0 (show (q_I d284 12 24 a0).toInt ≤ 3 by first | assumption | omega) (show (q_I d284 12 26 a0).toInt ≤ (q_I d284 12 4 a0).toInt by first | assumption | omega) (show 0 ≤ (q_I d284 12 7 a0).toInt by first | assumption | omega) (show (q_I d284 12 7 a0).toInt ≤ 7 by first | assumption | omega) (show (q_I d284 12 7 a0).toInt = 7 → 0 ≤ (q_I d284 12 5 a0).toInt by first | assumption | omega) (show 8 - (q_I d284 12 7 a0).toInt ≤ K by first | assumption | omega) i286) (fun r296 hr297 => ?_)
          obtain ⟨i326, ⟨u333, u334, u335⟩, p327, p328, p329, p330, p331, p332⟩ := hr297
          have u336 := kp_t u292 u333
          have v337 : q_V r296 = q_V δ := (u334).trans v293
          have v338 := kr_t v294 u335
          have f339 := cb_12_4 i326 k_a0
          have f340 := cb_12_5 i326 k_a0
          have f341 := ti_b (q_I r296 12 7 a0)
          have f342 := cb_12_26 i326 k_a0
          have us343 : US ad a0 δ r296 := US.pre us295 p332
          refine ok_ite (fun h344 => ?_) (fun h344 => ?_)
          · have c345 : r254.1.toInt = (42 : Int) := o_eq h344
            unfold J_X12_product_62
            have f348 := cb_12_24 i326 k_a0
            have f349 : (q_I r296 12 24 a0).toInt = (q_I d284 12 24 a0).toInt := congrArg Int32.toInt (u333 12 24 a0 (by decide))
            refine ok_bind (k_X12_emit L hN (a0 := a0) (x1 := (8 : Int32)) (x2 := (0 : Int32)) k_a0 (show (q_I r296 12 24 a0).toInt ≤ 3 by first | assumption | omega) (show (q_I r296 12 5 a0).toInt < 0 → (q_I r296 12 26 a0).toInt < 500 by first | assumption | omega) i326) (fun r346 hr347 => ?_)
            obtain ⟨i350, ⟨u355, u356, u357⟩, p351, p352, p353, p354⟩ := hr347
            have u358 := kp_t u336 u355
            have v359 : q_V r346 = q_V δ := (u356).trans v337
            have v360 := kr_t v338 u357
            have f361 := cb_12_26 i350 k_a0
            have us362 : LU ad a0 δ r346 := LU.em us343 p354 (by decide)
            have f363 := cb_12_24 i350 k_a0
            have f364 : (q_I r346 12 24 a0).toInt = (q_I r296 12 24 a0).toInt := congrArg Int32.toInt (u355 12 24 a0 (by decide))
            have f365 := cb_12_4 i350 k_a0
            have f366 : (q_I r346 12 4 a0).toInt = (q_I r296 12 4 a0).toInt := congrArg Int32.toInt (u355 12 4 a0 (by decide))
            have f367 := ti_b (q_I r346 12 7 a0)
            have f368 : (q_I r346 12 7 a0).toInt = (q_I r296 12 7 a0).toInt := congrArg Int32.toInt (u355 12 7 a0 (by decide))
            have f369 := cb_12_5 i350 k_a0
            have f370 : (q_I r346 12 5 a0).toInt = (q_I r296 12 5 a0).toInt := congrArg Int32.toInt (u355 12 5 a0 (by decide))
            refine ok_mono (ih r346 i350 (show (q_I r346 12 24 a0).toInt ≤ 3 by first | assumption | omega) (show (q_I r346 12 26 a0).toInt ≤ (q_I r346 12 4 a0).toInt by first | assumption | omega) (show 0 ≤ (q_I r346 12 7 a0).toInt by first | assumption | omega) (show (q_I r346 12 7 a0).toInt ≤ 7 by first | assumption | omega) (show (q_I r346 12 7 a0).toInt = 7 → 0 ≤ (q_I r346 12 5 a0).toInt by first | assumption | omega) (show 8 - (q_I r346 12 7 a0).toInt ≤ K by first | assumption | omega) (show 501 - (q_I r346 12 4 a0).toInt < _ by omega)) (fun r371 hr372 => ?_)
            obtain ⟨i373, ⟨u380, u381, u382⟩, p374, p375, p376, p377, p378, p379⟩ := hr372
            have u383 := kp_t u358 u380
            have v384 : q_V r371 = q_V δ := (u381).trans v359
            have v385 := kr_t v360 u382
            have f386 := cb_12_4 i373 k_a0
            have f387 := cb_12_5 i373 k_a0
            have f388 := ti_b (q_I r371 12 7 a0)
            have f389 := cb_12_26 i373 k_a0
            have us390 : LU ad a0 δ r371 := LU.t us362 p379
            exact ⟨by assumption, ⟨kp_w (by decide) u383, v384, kr_w (by decide) v385⟩, by first | assumption | omega, by first | assumption | omega, by first | assumption | omega, by first | assumption | omega, by first | assumption | omega, us390⟩
          · have c391 : r254.1.toInt ≠ (42 : Int) := o_ne h344
            unfold J_X12_product_62
            have f394 := cb_12_24 i326 k_a0
            have f395 : (q_I r296 12 24 a0).toInt = (q_I d284 12 24 a0).toInt := congrArg Int32.toInt (u333 12 24 a0 (by decide))
            refine ok_bind (k_X12_emit L hN (a0 := a0) (x1 := (9 : Int32)) (x2 := (0 : Int32)) k_a0 (show (q_I r296 12 24 a0).toInt ≤ 3 by first | assumption | omega) (show (q_I r296 12 5 a0).toInt < 0 → (q_I r296 12 26 a0).toInt < 500 by first | assumption | omega) i326) (fun r392 hr393 => ?_)
            obtain ⟨i396, ⟨u401, u402, u403⟩, p397, p398, p399, p400⟩ := hr393
            have u404 := kp_t u336 u401
            have v405 : q_V r392 = q_V δ := (u402).trans v337
            have v406 := kr_t v338 u403
            have f407 := cb_12_26 i396 k_a0
            have us408 : LU ad a0 δ r392 := LU.em us343 p400 (by decide)
            have f409 := cb_12_24 i396 k_a0
            have f410 : (q_I r392 12 24 a0).toInt = (q_I r296 12 24 a0).toInt := congrArg Int32.toInt (u401 12 24 a0 (by decide))
            have f411 := cb_12_4 i396 k_a0
            have f412 : (q_I r392 12 4 a0).toInt = (q_I r296 12 4 a0).toInt := congrArg Int32.toInt (u401 12 4 a0 (by decide))
            have f413 := ti_b (q_I r392 12 7 a0)
            have f414 : (q_I r392 12 7 a0).toInt = (q_I r296 12 7 a0).toInt := congrArg Int32.toInt (u401 12 7 a0 (by decide))
            have f415 := cb_12_5 i396 k_a0
            have f416 : (q_I r392 12 5 a0).toInt = (q_I r296 12 5 a0).toInt := congrArg Int32.toInt (u401 12 5 a0 (by decide))
            refine ok_mono (ih r392 i396 (show (q_I r392 12 24 a0).toInt ≤ 3 by first | assumption | omega) (show (q_I r392 12 26 a0).toInt ≤ (q_I r392 12 4 a0).toInt by first | assumption | omega) (show 0 ≤ (q_I r392 12 7 a0).toInt by first | assumption | omega) (show (q_I r392 12 7 a0).toInt ≤ 7 by first | assumption | omega) (show (q_I r392 12 7 a0).toInt = 7 → 0 ≤ (q_I r392 12 5 a0).toInt by first | assumption | omega) (show 8 - (q_I r392 12 7 a0).toInt ≤ K by first | assumption | omega) (show 501 - (q_I r392 12 4 a0).toInt < _ by omega)) (fun r417 hr418 => ?_)
            obtain ⟨i419, ⟨u426, u427, u428⟩, p420, p421, p422, p423, p424, p425⟩ := hr418
            have u429 := kp_t u404 u426
            have v430 : q_V r417 = q_V δ := (u427).trans v405
            have v431 := kr_t v406 u428
            have f432 := cb_12_4 i419 k_a0
            have f433 := cb_12_5 i419 k_a0
            have f434 := ti_b (q_I r417 12 7 a0)
            have f435 := cb_12_26 i419 k_a0
            have us436 : LU ad a0 δ r417 := LU.t us408 p425
            exact ⟨by assumption, ⟨kp_w (by decide) u429, v430, kr_w (by decide) v431⟩, by first | assumption | omega, by first | assumption | omega, by first | assumption | omega, by first | assumption | omega, by first | assumption | omega, us436⟩
        · have c437 : r224.1.toInt ≠ (37 : Int) := o_ne h252
          unfold J_X12_product_69
          have f438 := ti_b (q_I r224.2 12 7 a0)
          have f439 : (q_I r224.2 12 7 a0).toInt = (q_I r18.2 12 7 a0).toInt := congrArg Int32.toInt (u230 12 7 a0 (by decide))
          have f440 := ti_b (q_I r18.2 12 7 a0)
          have f441 : (q_I r18.2 12 7 a0).toInt = (q_I δ 12 7 a0).toInt := congrArg Int32.toInt (u24 12 7 a0 (by decide))
          have f442 := cb_12_26 i226 k_a0
          have f443 : (q_I r224.2 12 26 a0).toInt = (q_I r18.2 12 26 a0).toInt := congrArg Int32.toInt (u230 12 26 a0 (by decide))
          have f444 := cb_12_26 i20 k_a0
          have f445 : (q_I r18.2 12 26 a0).toInt = (q_I δ 12 26 a0).toInt := congrArg Int32.toInt (u24 12 26 a0 (by decide))
          exact ok_some (show RI ad h.1 δ0 r224.2 ∧ (kp [(12, 4), (12, 5), (12, 6), (12, 7), (12, 26)] δ r224.2 ∧ q_V r224.2 = q_V δ ∧ kr ad [116, 117] δ r224.2) ∧ (q_I δ 12 4 a0).toInt ≤ (q_I r224.2 12 4 a0).toInt ∧ (q_I δ 12 5 a0).toInt ≤ (q_I r224.2 12 5 a0).toInt ∧ (q_I r224.2 12 7 a0).toInt = (q_I δ 12 7 a0).toInt ∧ (q_I δ 12 26 a0).toInt ≤ (q_I r224.2 12 26 a0).toInt ∧ (q_I r224.2 12 26 a0).toInt - (q_I δ 12 26 a0).toInt ≤ (q_I r224.2 12 4 a0).toInt - (q_I δ 12 4 a0).toInt ∧ LU ad a0 δ r224.2 from ⟨i226, ⟨kp_w (by decide) u234, v235, kr_w (by decide) v236⟩, by first | assumption | omega, by first | assumption | omega, by first | assumption | omega, by first | assumption | omega, by first | assumption | omega, LU.n us251⟩)
set_option maxHeartbeats 4000000 in
theorem k_bX12_product {ad : List Nat} {h : hp} (L : Lay TLx ad h) {δ0 : dp} {N : Nat} (hN : 10000000 ≤ N) {T : Nat → dp → Option (dp)} {K : Int} (hT : ∀ (a0 : Nat) (δ : dp), q_K h.1 a0 = 12 → (q_I δ 12 24 a0).toInt ≤ 3 → (q_I δ 12 26 a0).toInt ≤ (q_I δ 12 4 a0).toInt → 0 ≤ (q_I δ 12 7 a0).toInt → (q_I δ 12 7 a0).toInt ≤ 7 → ((q_I δ 12 7 a0).toInt = 7 → 0 ≤ (q_I δ 12 5 a0).toInt) → 8 - (q_I δ 12 7 a0).toInt < K → RI ad h.1 δ0 δ → ok (T a0 δ) (fun r => RI ad h.1 δ0 r ∧ (kp [(12, 4), (12, 5), (12, 6), (12, 7), (12, 26)] δ r ∧ q_V r = q_V δ ∧ kr ad [116, 117] δ r) ∧ (q_I δ 12 4 a0).toInt ≤ (q_I r 12 4 a0).toInt ∧ (q_I δ 12 5 a0).toInt ≤ (q_I r 12 5 a0).toInt ∧ (q_I r 12 7 a0).toInt = (q_I δ 12 7 a0).toInt ∧ (q_I δ 12 26 a0).toInt ≤ (q_I r 12 26 a0).toInt ∧ (q_I r 12 26 a0).toInt - (q_I δ 12 26 a0).toInt ≤ (q_I r 12 4 a0).toInt - (q_I δ 12 4 a0).toInt ∧ US ad a0 δ r)) {a0 : Nat} (k_a0 : q_K h.1 a0 = 12) {δ : dp} (z0 : (q_I δ 12 24 a0).toInt ≤ 3) (z1 : (q_I δ 12 26 a0).toInt ≤ (q_I δ 12 4 a0).toInt) (z2 : 0 ≤ (q_I δ 12 7 a0).toInt) (z3 : (q_I δ 12 7 a0).toInt ≤ 7) (z4 : (q_I δ 12 7 a0).toInt = 7 → 0 ≤ (q_I δ 12 5 a0).toInt) (z5 : 8 - (q_I δ 12 7 a0).toInt ≤ K) (I : RI ad h.1 δ0 δ) : ok (B_X12_product N h.1 T a0 δ) (fun r => RI ad h.1 δ0 r ∧ (kp [(12, 4), (12, 5), (12, 6), (12, 7), (12, 26)] δ r ∧ q_V r = q_V δ ∧ kr ad [116, 117] δ r) ∧ (q_I δ 12 4 a0).toInt ≤ (q_I r 12 4 a0).toInt ∧ (q_I δ 12 5 a0).toInt ≤ (q_I r 12 5 a0).toInt ∧ (q_I r 12 7 a0).toInt = (q_I δ 12 7 a0).toInt ∧ (q_I δ 12 26 a0).toInt ≤ (q_I r 12 26 a0).toInt ∧ (q_I r 12 26 a0).toInt - (q_I δ 12 26 a0).toInt ≤ (q_I r 12 4 a0).toInt - (q_I δ 12 4 a0).toInt ∧ US ad a0 δ r) := by
  unfold B_X12_product
  have f1 := cb_12_24 I k_a0
  have f2 := cb_12_26 I k_a0
  have f3 := cb_12_4 I k_a0
  have f4 := ti_b (q_I δ 12 7 a0)
  have f5 := cb_12_5 I k_a0
  refine ok_bind (k_bX12_unit L hN (a0 := a0) hT k_a0 (show (q_I δ 12 24 a0).toInt ≤ 3 by first | assumption | omega) (show (q_I δ 12 26 a0).toInt ≤ (q_I δ 12 4 a0).toInt by first | assumption | omega) (show 0 ≤ (q_I δ 12 7 a0).toInt by first | assumption | omega) (show (q_I δ 12 7 a0).toInt ≤ 7 by first | assumption | omega) (show (q_I δ 12 7 a0).toInt = 7 → 0 ≤ (q_I δ 12 5 a0).toInt by first | assumption | omega) (show 8 - (q_I δ 12 7 a0).toInt ≤ K by first | assumption | omega) I) (fun r6 hr7 => ?_)
  obtain ⟨i8, ⟨u15, u16, u17⟩, p9, p10, p11, p12, p13, p14⟩ := hr7
  have u18 := kp_t kp_r u15
  have v19 : q_V r6 = q_V δ := (u16).trans rfl
  have v20 := kr_t (kr_r (ad := ad)) u17
  have f21 := cb_12_4 i8 k_a0
  have f22 := cb_12_5 i8 k_a0
  have f23 := ti_b (q_I r6 12 7 a0)
  have f24 := cb_12_26 i8 k_a0
  have us25 : US ad a0 δ r6 := US.pre NU.r p14
  have f26 := cb_12_24 i8 k_a0
  have f27 : (q_I r6 12 24 a0).toInt = (q_I δ 12 24 a0).toInt := congrArg Int32.toInt (u15 12 24 a0 (by decide))
  refine ok_mono (kl_X12_product_4 L hN   hT k_a0 _ r6 i8 (show (q_I r6 12 24 a0).toInt ≤ 3 by first | assumption | omega) (show (q_I r6 12 26 a0).toInt ≤ (q_I r6 12 4 a0).toInt by first | assumption | omega) (show 0 ≤ (q_I r6 12 7 a0).toInt by first | assumption | omega) (show (q_I r6 12 7 a0).toInt ≤ 7 by first | assumption | omega) (show (q_I r6 12 7 a0).toInt = 7 → 0 ≤ (q_I r6 12 5 a0).toInt by first | assumption | omega) (show 8 - (q_I r6 12 7 a0).toInt ≤ K by first | assumption | omega) (show 501 - (q_I r6 12 4 a0).toInt < _ by omega)) (fun r28 hr29 => ?_)
  obtain ⟨i30, ⟨u37, u38, u39⟩, p31, p32, p33, p34, p35, p36⟩ := hr29
  have u40 := kp_t u18 u37
  have v41 : q_V r28 = q_V δ := (u38).trans v19
  have v42 := kr_t v20 u39
  have f43 := cb_12_4 i30 k_a0
  have f44 := cb_12_5 i30 k_a0
  have f45 := ti_b (q_I r28 12 7 a0)
  have f46 := cb_12_26 i30 k_a0
  have us47 : US ad a0 δ r28 := US.l us25 p36
  exact ⟨by assumption, ⟨kp_w (by decide) u40, v41, kr_w (by decide) v42⟩, by first | assumption | omega, by first | assumption | omega, by first | assumption | omega, by first | assumption | omega, by first | assumption | omega, us47⟩
set_option maxHeartbeats 4000000 in
theorem kl_X12_sum_4 {ad : List Nat} {h : hp} (L : Lay TLx ad h) {δ0 : dp} {N : Nat} (hN : 10000000 ≤ N) {T : Nat → dp → Option (dp)} {K : Int} (hT : ∀ (a0 : Nat) (δ : dp), q_K h.1 a0 = 12 → (q_I δ 12 24 a0).toInt ≤ 3 → (q_I δ 12 26 a0).toInt ≤ (q_I δ 12 4 a0).toInt → 0 ≤ (q_I δ 12 7 a0).toInt → (q_I δ 12 7 a0).toInt ≤ 7 → ((q_I δ 12 7 a0).toInt = 7 → 0 ≤ (q_I δ 12 5 a0).toInt) → 8 - (q_I δ 12 7 a0).toInt < K → RI ad h.1 δ0 δ → ok (T a0 δ) (fun r => RI ad h.1 δ0 r ∧ (kp [(12, 4), (12, 5), (12, 6), (12, 7), (12, 26)] δ r ∧ q_V r = q_V δ ∧ kr ad [116, 117] δ r) ∧ (q_I δ 12 4 a0).toInt ≤ (q_I r 12 4 a0).toInt ∧ (q_I δ 12 5 a0).toInt ≤ (q_I r 12 5 a0).toInt ∧ (q_I r 12 7 a0).toInt = (q_I δ 12 7 a0).toInt ∧ (q_I δ 12 26 a0).toInt ≤ (q_I r 12 26 a0).toInt ∧ (q_I r 12 26 a0).toInt - (q_I δ 12 26 a0).toInt ≤ (q_I r 12 4 a0).toInt - (q_I δ 12 4 a0).toInt ∧ US ad a0 δ r)) {a0 : Nat} (k_a0 : q_K h.1 a0 = 12) : ∀ (n : Nat) (δ : dp), RI ad h.1 δ0 δ → (q_I δ 12 24 a0).toInt ≤ 3 → (q_I δ 12 26 a0).toInt ≤ (q_I δ 12 4 a0).toInt → 0 ≤ (q_I δ 12 7 a0).toInt → (q_I δ 12 7 a0).toInt ≤ 7 → ((q_I δ 12 7 a0).toInt = 7 → 0 ≤ (q_I δ 12 5 a0).toInt) → 8 - (q_I δ 12 7 a0).toInt ≤ K → 501 - (q_I δ 12 4 a0).toInt < (n : Int) → ok (L_X12_sum_4 N h.1 T a0 n δ) (fun r => RI ad h.1 δ0 r ∧ (kp [(12, 4), (12, 5), (12, 6), (12, 7), (12, 26)] δ r ∧ q_V r = q_V δ ∧ kr ad [116, 117] δ r) ∧ (q_I δ 12 4 a0).toInt ≤ (q_I r 12 4 a0).toInt ∧ (q_I δ 12 5 a0).toInt ≤ (q_I r 12 5 a0).toInt ∧ (q_I r 12 7 a0).toInt = (q_I δ 12 7 a0).toInt ∧ (q_I δ 12 26 a0).toInt ≤ (q_I r 12 26 a0).toInt ∧ (q_I r 12 26 a0).toInt - (q_I δ 12 26 a0).toInt ≤ (q_I r 12 4 a0).toInt - (q_I δ 12 4 a0).toInt ∧ LU ad a0 δ r) := by
  intro n
  induction n with
  | zero =>
    intro δ I j0 j1 j2 j3 j4 j5 hm
    have f1 := cb_12_24 I k_a0
    have f2 := cb_12_26 I k_a0
    have f3 := cb_12_4 I k_a0
    have f4 := ti_b (q_I δ 12 7 a0)
    have f5 := cb_12_5 I k_a0
    exfalso; omega
  | succ n ih =>
    intro δ I j0 j1 j2 j3 j4 j5 hm
    unfold L_X12_sum_4
    have f1 := cb_12_24 I k_a0
    have f2 := cb_12_26 I k_a0
    have f3 := cb_12_4 I k_a0
    have f4 := ti_b (q_I δ 12 7 a0)
    have f5 := cb_12_5 I k_a0
    refine ok_bind (k_X12_fine L hN (a0 := a0) k_a0 I) (fun r6 hr7 => ?_)
    obtain ⟨i8, p9, p10, p11⟩ := hr7
    try rw [i8]
    have f12 := bo_l p9
    have f13 := ti_b r6.1
    have f14 := ti_b r6.1
    refine ok_ite (fun h15 => ?_) (fun h15 => ?_)
    · have c16 : r6.1.toInt = (0 : Int) := o_eq h15
      unfold J_X12_sum_69
      exact ok_some (show RI ad h.1 δ0 δ ∧ (kp [(12, 4), (12, 5), (12, 6), (12, 7), (12, 26)] δ δ ∧ q_V δ = q_V δ ∧ kr ad [116, 117] δ δ) ∧ (q_I δ 12 4 a0).toInt ≤ (q_I δ 12 4 a0).toInt ∧ (q_I δ 12 5 a0).toInt ≤ (q_I δ 12 5 a0).toInt ∧ (q_I δ 12 7 a0).toInt = (q_I δ 12 7 a0).toInt ∧ (q_I δ 12 26 a0).toInt ≤ (q_I δ 12 26 a0).toInt ∧ (q_I δ 12 26 a0).toInt - (q_I δ 12 26 a0).toInt ≤ (q_I δ 12 4 a0).toInt - (q_I δ 12 4 a0).toInt ∧ LU ad a0 δ δ from ⟨I, ⟨kp_w (by decide) kp_r, rfl, kr_w (by decide) (kr_r (ad := ad))⟩, by first | assumption | omega, by first | assumption | omega, by first | assumption | omega, by first | assumption | omega, by first | assumption | omega, LU.n NU.r⟩)
    · have c17 : r6.1.toInt ≠ (0 : Int) := o_ne h15
      refine ok_bind (k_X12_here L hN (a0 := a0) k_a0 I) (fun r18 hr19 => ?_)
      obtain ⟨i20, ⟨u24, u25, u26, u27⟩, p21, p22, p23⟩ := hr19
      have u28 := kp_t kp_r u24
      have v29 : q_V r18.2 = q_V δ := (u25).trans rfl
      have v30 := kr_t (kr_r (ad := ad)) u27
      have f31 := cb_12_4 i20 k_a0
      have f32 : hc ad r18.2 a0 = (q_R r18.2 (Ad ad 101) (q_I r18.2 12 4 a0).toNatClampNeg).toInt := rfl
      have t33 := ti_tn (q_I r18.2 12 4 a0)
      have f34 : (q_R r18.2 (Ad ad 101) (q_I r18.2 12 4 a0).toNatClampNeg).toInt = (q_R δ (Ad ad 101) (q_I r18.2 12 4 a0).toNatClampNeg).toInt := congrArg Int32.toInt (congrFun (u27 101 (by decide) (by decide) (by decide)) _)
      have f35 := ti_b (q_R δ (Ad ad 101) (q_I r18.2 12 4 a0).toNatClampNeg)
      have f36 := ti_b (q_R r18.2 (Ad ad 101) (q_I r18.2 12 4 a0).toNatClampNeg)
      have f37 := ti_b r18.1
      have f38 := cb_12_3 I k_a0
      have f39 : hc ad δ a0 = (q_R δ (Ad ad 101) (q_I δ 12 4 a0).toNatClampNeg).toInt := rfl
      have t40 := ti_tn (q_I δ 12 4 a0)
      have f41 := ti_b (q_R δ (Ad ad 101) (q_I δ 12 4 a0).toNatClampNeg)
      have f42 := ti_b r18.1
      have f43 := cb_12_5 i20 k_a0
      have f44 : (q_I r18.2 12 5 a0).toInt = (q_I δ 12 5 a0).toInt := congrArg Int32.toInt (u24 12 5 a0 (by decide))
      have us45 : NU ad a0 δ r18.2 := NU.t NU.r (show NU ad a0 δ r18.2 from ⟨u27 116 (by decide) (by decide) (by decide), u24 12 26 _ (by decide), u24 12 24 _ (by decide), fun z => by omega⟩)
      refine ok_ite (fun h46 => ?_) (fun h46 => ?_)
      · have c47 : r18.1.toInt = (43 : Int) := o_eq h46
        unfold J_X12_sum_29
        refine ok_bind (k_X12_here L hN (a0 := a0) k_a0 i20) (fun r48 hr49 => ?_)
        obtain ⟨i50, ⟨u54, u55, u56, u57⟩, p51, p52, p53⟩ := hr49
        have u58 := kp_t u28 u54
        have v59 : q_V r48.2 = q_V δ := (u55).trans v29
        have v60 := kr_t v30 u57
        have f61 := cb_12_4 i50 k_a0
        have f62 : hc ad r48.2 a0 = (q_R r48.2 (Ad ad 101) (q_I r48.2 12 4 a0).toNatClampNeg).toInt := rfl
        have t63 := ti_tn (q_I r48.2 12 4 a0)
        have f64 : (q_R r48.2 (Ad ad 101) (q_I r48.2 12 4 a0).toNatClampNeg).toInt = (q_R r18.2 (Ad ad 101) (q_I r48.2 12 4 a0).toNatClampNeg).toInt := congrArg Int32.toInt (congrFun (u57 101 (by decide) (by decide) (by decide)) _)
        have f65 : (q_R r18.2 (Ad ad 101) (q_I r48.2 12 4 a0).toNatClampNeg).toInt = (q_R δ (Ad ad 101) (q_I r48.2 12 4 a0).toNatClampNeg).toInt := congrArg Int32.toInt (congrFun (u27 101 (by decide) (by decide) (by decide)) _)
        have f66 := ti_b (q_R δ (Ad ad 101) (q_I r48.2 12 4 a0).toNatClampNeg)
        have f67 := ti_b (q_R r18.2 (Ad ad 101) (q_I r48.2 12 4 a0).toNatClampNeg)
        have f68 := ti_b (q_R r48.2 (Ad ad 101) (q_I r48.2 12 4 a0).toNatClampNeg)
        have f69 := ti_b r48.1
        have f70 := cb_12_3 i20 k_a0
        have f71 : (q_I r18.2 12 3 a0).toInt = (q_I δ 12 3 a0).toInt := congrArg Int32.toInt (u24 12 3 a0 (by decide))
        have f72 := ti_b r48.1
        have f73 := cb_12_5 i50 k_a0
        have f74 : (q_I r48.2 12 5 a0).toInt = (q_I r18.2 12 5 a0).toInt := congrArg Int32.toInt (u54 12 5 a0 (by decide))
        have us75 : NU ad a0 δ r48.2 := NU.t us45 (show NU ad a0 r18.2 r48.2 from ⟨u57 116 (by decide) (by decide) (by decide), u54 12 26 _ (by decide), u54 12 24 _ (by decide), fun z => by omega⟩)
        first | (have q80 := te_addc (c := 1) (n := 1) rfl (q_I r48.2 12 4 a0) (by omega) (by omega); obtain ⟨f81, f82, f83⟩ := q80) | (obtain ⟨q80, f81, f82, f83⟩ := ti_addc (c := 1) (n := 1) rfl (q_I r48.2 12 4 a0))
        refine ok_bdv (fun d76 e77 => ?_)
        have i78 : RI ad h.1 δ0 d76 := by rw [e77]; exact cs_12_4 L i50 k_a0 (show 0 ≤ ((q_I r48.2 12 4 a0) + (1 : Int32)).toInt by omega) (show ((q_I r48.2 12 4 a0) + (1 : Int32)).toInt ≤ 500 by omega)
        have u84 := kp_I u58 e77
        have v85 : q_V d76 = q_V δ := ((show q_V d76 = q_V r48.2 by rw [e77]; rfl)).trans v59
        have v86 := kr_N v60 (show q_R d76 = q_R r48.2 by rw [e77]; rfl)
        have us87 : NU ad a0 δ d76 := NU.t us75 (show NU ad a0 r48.2 d76 from NU.w e77 (by decide))
        have f90 := cb_12_24 i78 k_a0
        have f91 : (q_I d76 12 24 a0).toInt = (q_I r48.2 12 24 a0).toInt := congrArg Int32.toInt (by rw [e77]; exact rI_o (by decide))
        have f92 := cb_12_24 i50 k_a0
        have f93 : (q_I r48.2 12 24 a0).toInt = (q_I r18.2 12 24 a0).toInt := congrArg Int32.toInt (u54 12 24 a0 (by decide))
        have f94 := cb_12_24 i20 k_a0
        have f95 : (q_I r18.2 12 24 a0).toInt = (q_I δ 12 24 a0).toInt := congrArg Int32.toInt (u24 12 24 a0 (by decide))
        have f96 := cb_12_26 i78 k_a0
        have f97 : (q_I d76 12 26 a0).toInt = (q_I r48.2 12 26 a0).toInt := congrArg Int32.toInt (by rw [e77]; exact rI_o (by decide))
        have f98 := cb_12_26 i50 k_a0
        have f99 : (q_I r48.2 12 26 a0).toInt = (q_I r18.2 12 26 a0).toInt := congrArg Int32.toInt (u54 12 26 a0 (by decide))
        have f100 := cb_12_26 i20 k_a0
        have f101 : (q_I r18.2 12 26 a0).toInt = (q_I δ 12 26 a0).toInt := congrArg Int32.toInt (u24 12 26 a0 (by decide))
        have f102 := cb_12_4 i78 k_a0
        have f103 : (q_I d76 12 4 a0).toInt = ((q_I r48.2 12 4 a0) + (1 : Int32)).toInt := congrArg Int32.toInt (show q_I d76 12 4 a0 = ((q_I r48.2 12 4 a0) + (1 : Int32)) by rw [e77]; exact rI_s)
        have f104 := ti_b (q_I d76 12 7 a0)
        have f105 : (q_I d76 12 7 a0).toInt = (q_I r48.2 12 7 a0).toInt := congrArg Int32.toInt (by rw [e77]; exact rI_o (by decide))
        have f106 := ti_b (q_I r48.2 12 7 a0)
        have f107 : (q_I r48.2 12 7 a0).toInt = (q_I r18.2 12 7 a0).toInt := congrArg Int32.toInt (u54 12 7 a0 (by decide))
        have f108 := ti_b (q_I r18.2 12 7 a0)
        have f109 : (q_I r18.2 12 7 a0).toInt = (q_I δ 12 7 a0).toInt := congrArg Int32.toInt (u24 12 7 a0 (by decide))
        have f110 := cb_12_5 i78 k_a0
        have f111 : (q_I d76 12 5 a0).toInt = (q_I r48.2 12 5 a0).toInt := congrArg Int32.toInt (by rw [e77]; exact rI_o (by decide))
        refine ok_bind (k_bX12_product L hN (a0 := a0) hT k_a0 (show (q_I d76 12 24 a0).toInt ≤ 3 by first | assumption | omega) (show (q_I d76 12 26 a0).toInt ≤ (q_I d76 12 4 a0).toInt by first | assumption | omega) (show 0 ≤ (q_I d76 12 7 a0).toInt by first | assumption | omega) (show (q_I d76 12 7 a0).toInt ≤ 7 by first | assumption | omega) (show (q_I d76 12 7 a0).toInt = 7 → 0 ≤ (q_I d76 12 5 a0).toInt by first | assumption | omega) (show 8 - (q_I d76 12 7 a0).toInt ≤ K by first | assumption | omega) i78) (fun r88 hr89 => ?_)
        obtain ⟨i112, ⟨u119, u120, u121⟩, p113, p114, p115, p116, p117, p118⟩ := hr89
        have u122 := kp_t u84 u119
        have v123 : q_V r88 = q_V δ := (u120).trans v85
        have v124 := kr_t v86 u121
        have f125 := cb_12_4 i112 k_a0
        have f126 := cb_12_5 i112 k_a0
        have f127 := ti_b (q_I r88 12 7 a0)
        have f128 := cb_12_26 i112 k_a0
        have us129 : US ad a0 δ r88 := US.pre us87 p118
        refine ok_ite (fun h130 => ?_) (fun h130 => ?_)
        · have c131 : r48.1.toInt = (43 : Int) := o_eq h130
          unfold J_X12_sum_62
          have f134 := cb_12_24 i112 k_a0
          have f135 : (q_I r88 12 24 a0).toInt = (q_I d76 12 24 a0).toInt := congrArg Int32.toInt (u119 12 24 a0 (by decide))
          refine ok_bind (k_X12_emit L hN (a0 := a0) (x1 := (6 : Int32)) (x2 := (0 : Int32)) k_a0 (show (q_I r88 12 24 a0).toInt ≤ 3 by first | assumption | omega) (show (q_I r88 12 5 a0).toInt < 0 → (q_I r88 12 26 a0).toInt < 500 by first | assumption | omega) i112) (fun r132 hr133 => ?_)
          obtain ⟨i136, ⟨u141, u142, u143⟩, p137, p138, p139, p140⟩ := hr133
          have u144 := kp_t u122 u141
          have v145 : q_V r132 = q_V δ := (u142).trans v123
          have v146 := kr_t v124 u143
          have f147 := cb_12_26 i136 k_a0
          have us148 : LU ad a0 δ r132 := LU.em us129 p140 (by decide)
          have f149 := cb_12_24 i136 k_a0
          have f150 : (q_I r132 12 24 a0).toInt = (q_I r88 12 24 a0).toInt := congrArg Int32.toInt (u141 12 24 a0 (by decide))
          have f151 := cb_12_4 i136 k_a0
          have f152 : (q_I r132 12 4 a0).toInt = (q_I r88 12 4 a0).toInt := congrArg Int32.toInt (u141 12 4 a0 (by decide))
          have f153 := ti_b (q_I r132 12 7 a0)
          have f154 : (q_I r132 12 7 a0).toInt = (q_I r88 12 7 a0).toInt := congrArg Int32.toInt (u141 12 7 a0 (by decide))
          have f155 := cb_12_5 i136 k_a0
          have f156 : (q_I r132 12 5 a0).toInt = (q_I r88 12 5 a0).toInt := congrArg Int32.toInt (u141 12 5 a0 (by decide))
          refine ok_mono (ih r132 i136 (show (q_I r132 12 24 a0).toInt ≤ 3 by first | assumption | omega) (show (q_I r132 12 26 a0).toInt ≤ (q_I r132 12 4 a0).toInt by first | assumption | omega) (show 0 ≤ (q_I r132 12 7 a0).toInt by first | assumption | omega) (show (q_I r132 12 7 a0).toInt ≤ 7 by first | assumption | omega) (show (q_I r132 12 7 a0).toInt = 7 → 0 ≤ (q_I r132 12 5 a0).toInt by first | assumption | omega) (show 8 - (q_I r132 12 7 a0).toInt ≤ K by first | assumption | omega) (show 501 - (q_I r132 12 4 a0).toInt < _ by omega)) (fun r157 hr158 => ?_)
          obtain ⟨i159, ⟨u166, u167, u168⟩, p160, p161, p162, p163, p164, p165⟩ := hr158
          have u169 := kp_t u144 u166
          have v170 : q_V r157 = q_V δ := (u167).trans v145
          have v171 := kr_t v146 u168
          have f172 := cb_12_4 i159 k_a0
          have f173 := cb_12_5 i159 k_a0
          have f174 := ti_b (q_I r157 12 7 a0)
          have f175 := cb_12_26 i159 k_a0
          have us176 : LU ad a0 δ r157 := LU.t us148 p165
          exact ⟨by assumption, ⟨kp_w (by decide) u169, v170, kr_w (by decide) v171⟩, by first | assumption | omega, by first | assumption | omega, by first | assumption | omega, by first | assumption | omega, by first | assumption | omega, us176⟩
        · have c177 : r48.1.toInt ≠ (43 : Int) := o_ne h130
          unfold J_X12_sum_62
          have f180 := cb_12_24 i112 k_a0
          have f181 : (q_I r88 12 24 a0).toInt = (q_I d76 12 24 a0).toInt := congrArg Int32.toInt (u119 12 24 a0 (by decide))
          refine ok_bind (k_X12_emit L hN (a0 := a0) (x1 := (7 : Int32)) (x2 := (0 : Int32)) k_a0 (show (q_I r88 12 24 a0).toInt ≤ 3 by first | assumption | omega) (show (q_I r88 12 5 a0).toInt < 0 → (q_I r88 12 26 a0).toInt < 500 by first | assumption | omega) i112) (fun r178 hr179 => ?_)
          obtain ⟨i182, ⟨u187, u188, u189⟩, p183, p184, p185, p186⟩ := hr179
          have u190 := kp_t u122 u187
          have v191 : q_V r178 = q_V δ := (u188).trans v123
          have v192 := kr_t v124 u189
          have f193 := cb_12_26 i182 k_a0
          have us194 : LU ad a0 δ r178 := LU.em us129 p186 (by decide)
          have f195 := cb_12_24 i182 k_a0
          have f196 : (q_I r178 12 24 a0).toInt = (q_I r88 12 24 a0).toInt := congrArg Int32.toInt (u187 12 24 a0 (by decide))
          have f197 := cb_12_4 i182 k_a0
          have f198 : (q_I r178 12 4 a0).toInt = (q_I r88 12 4 a0).toInt := congrArg Int32.toInt (u187 12 4 a0 (by decide))
          have f199 := ti_b (q_I r178 12 7 a0)
          have f200 : (q_I r178 12 7 a0).toInt = (q_I r88 12 7 a0).toInt := congrArg Int32.toInt (u187 12 7 a0 (by decide))
          have f201 := cb_12_5 i182 k_a0
          have f202 : (q_I r178 12 5 a0).toInt = (q_I r88 12 5 a0).toInt := congrArg Int32.toInt (u187 12 5 a0 (by decide))
          refine ok_mono (ih r178 i182 (show (q_I r178 12 24 a0).toInt ≤ 3 by first | assumption | omega) (show (q_I r178 12 26 a0).toInt ≤ (q_I r178 12 4 a0).toInt by first | assumption | omega) (show 0 ≤ (q_I r178 12 7 a0).toInt by first | assumption | omega) (show (q_I r178 12 7 a0).toInt ≤ 7 by first | assumption | omega) (show (q_I r178 12 7 a0).toInt = 7 → 0 ≤ (q_I r178 12 5 a0).toInt by first | assumption | omega) (show 8 - (q_I r178 12 7 a0).toInt ≤ K by first | assumption | omega) (show 501 - (q_I r178 12 4 a0).toInt < _ by omega)) (fun r203 hr204 => ?_)
          obtain ⟨i205, ⟨u212, u213, u214⟩, p206, p207, p208, p209, p210, p211⟩ := hr204
          have u215 := kp_t u190 u212
          have v216 : q_V r203 = q_V δ := (u213).trans v191
          have v217 := kr_t v192 u214
          have f218 := cb_12_4 i205 k_a0
          have f219 := cb_12_5 i205 k_a0
          have f220 := ti_b (q_I r203 12 7 a0)
          have f221 := cb_12_26 i205 k_a0
          have us222 : LU ad a0 δ r203 := LU.t us194 p211
          exact ⟨by assumption, ⟨kp_w (by decide) u215, v216, kr_w (by decide) v217⟩, by first | assumption | omega, by first | assumption | omega, by first | assumption | omega, by first | assumption | omega, by first | assumption | omega, us222⟩
      · have c223 : r18.1.toInt ≠ (43 : Int) := o_ne h46
        refine ok_bind (k_X12_here L hN (a0 := a0) k_a0 i20) (fun r224 hr225 => ?_)
        obtain ⟨i226, ⟨u230, u231, u232, u233⟩, p227, p228, p229⟩ := hr225
        have u234 := kp_t u28 u230
        have v235 : q_V r224.2 = q_V δ := (u231).trans v29
        have v236 := kr_t v30 u233
        have f237 := cb_12_4 i226 k_a0
        have f238 : hc ad r224.2 a0 = (q_R r224.2 (Ad ad 101) (q_I r224.2 12 4 a0).toNatClampNeg).toInt := rfl
        have t239 := ti_tn (q_I r224.2 12 4 a0)
        have f240 : (q_R r224.2 (Ad ad 101) (q_I r224.2 12 4 a0).toNatClampNeg).toInt = (q_R r18.2 (Ad ad 101) (q_I r224.2 12 4 a0).toNatClampNeg).toInt := congrArg Int32.toInt (congrFun (u233 101 (by decide) (by decide) (by decide)) _)
        have f241 : (q_R r18.2 (Ad ad 101) (q_I r224.2 12 4 a0).toNatClampNeg).toInt = (q_R δ (Ad ad 101) (q_I r224.2 12 4 a0).toNatClampNeg).toInt := congrArg Int32.toInt (congrFun (u27 101 (by decide) (by decide) (by decide)) _)
        have f242 := ti_b (q_R δ (Ad ad 101) (q_I r224.2 12 4 a0).toNatClampNeg)
        have f243 := ti_b (q_R r18.2 (Ad ad 101) (q_I r224.2 12 4 a0).toNatClampNeg)
        have f244 := ti_b (q_R r224.2 (Ad ad 101) (q_I r224.2 12 4 a0).toNatClampNeg)
        have f245 := ti_b r224.1
        have f246 := cb_12_3 i20 k_a0
        have f247 : (q_I r18.2 12 3 a0).toInt = (q_I δ 12 3 a0).toInt := congrArg Int32.toInt (u24 12 3 a0 (by decide))
        have f248 := ti_b r224.1
        have f249 := cb_12_5 i226 k_a0
        have f250 : (q_I r224.2 12 5 a0).toInt = (q_I r18.2 12 5 a0).toInt := congrArg Int32.toInt (u230 12 5 a0 (by decide))
        have us251 : NU ad a0 δ r224.2 := NU.t us45 (show NU ad a0 r18.2 r224.2 from ⟨u233 116 (by decide) (by decide) (by decide), u230 12 26 _ (by decide), u230 12 24 _ (by decide), fun z => by omega⟩)
        refine ok_ite (fun h252 => ?_) (fun h252 => ?_)
        · have c253 : r224.1.toInt = (45 : Int) := o_eq h252
          unfold J_X12_sum_29
          refine ok_bind (k_X12_here L hN (a0 := a0) k_a0 i226) (fun r254 hr255 => ?_)
          obtain ⟨i256, ⟨u260, u261, u262, u263⟩, p257, p258, p259⟩ := hr255
          have u264 := kp_t u234 u260
          have v265 : q_V r254.2 = q_V δ := (u261).trans v235
          have v266 := kr_t v236 u263
          have f267 := cb_12_4 i256 k_a0
          have f268 : hc ad r254.2 a0 = (q_R r254.2 (Ad ad 101) (q_I r254.2 12 4 a0).toNatClampNeg).toInt := rfl
          have t269 := ti_tn (q_I r254.2 12 4 a0)
          have f270 : (q_R r254.2 (Ad ad 101) (q_I r254.2 12 4 a0).toNatClampNeg).toInt = (q_R r224.2 (Ad ad 101) (q_I r254.2 12 4 a0).toNatClampNeg).toInt := congrArg Int32.toInt (congrFun (u263 101 (by decide) (by decide) (by decide)) _)
          have f271 : (q_R r224.2 (Ad ad 101) (q_I r254.2 12 4 a0).toNatClampNeg).toInt = (q_R r18.2 (Ad ad 101) (q_I r254.2 12 4 a0).toNatClampNeg).toInt := congrArg Int32.toInt (congrFun (u233 101 (by decide) (by decide) (by decide)) _)
          have f272 : (q_R r18.2 (Ad ad 101) (q_I r254.2 12 4 a0).toNatClampNeg).toInt = (q_R δ (Ad ad 101) (q_I r254.2 12 4 a0).toNatClampNeg).toInt := congrArg Int32.toInt (congrFun (u27 101 (by decide) (by decide) (by decide)) _)
          have f273 := ti_b (q_R δ (Ad ad 101) (q_I r254.2 12 4 a0).toNatClampNeg)
          have f274 := ti_b (q_R r18.2 (Ad ad 101) (q_I r254.2 12 4 a0).toNatClampNeg)
          have f275 := ti_b (q_R r224.2 (Ad ad 101) (q_I r254.2 12 4 a0).toNatClampNeg)
          have f276 := ti_b (q_R r254.2 (Ad ad 101) (q_I r254.2 12 4 a0).toNatClampNeg)
          have f277 := ti_b r254.1
          have f278 := cb_12_3 i226 k_a0
          have f279 : (q_I r224.2 12 3 a0).toInt = (q_I r18.2 12 3 a0).toInt := congrArg Int32.toInt (u230 12 3 a0 (by decide))
          have f280 := ti_b r254.1
          have f281 := cb_12_5 i256 k_a0
          have f282 : (q_I r254.2 12 5 a0).toInt = (q_I r224.2 12 5 a0).toInt := congrArg Int32.toInt (u260 12 5 a0 (by decide))
          have us283 : NU ad a0 δ r254.2 := NU.t us251 (show NU ad a0 r224.2 r254.2 from ⟨u263 116 (by decide) (by decide) (by decide), u260 12 26 _ (by decide), u260 12 24 _ (by decide), fun z => by omega⟩)
          first | (have q288 := te_addc (c := 1) (n := 1) rfl (q_I r254.2 12 4 a0) (by omega) (by omega); obtain ⟨f289, f290, f291⟩ := q288) | (obtain ⟨q288, f289, f290, f291⟩ := ti_addc (c := 1) (n := 1) rfl (q_I r254.2 12 4 a0))
          refine ok_bdv (fun d284 e285 => ?_)
          have i286 : RI ad h.1 δ0 d284 := by rw [e285]; exact cs_12_4 L i256 k_a0 (show 0 ≤ ((q_I r254.2 12 4 a0) + (1 : Int32)).toInt by omega) (show ((q_I r254.2 12 4 a0) + (1 : Int32)).toInt ≤ 500 by omega)
          have u292 := kp_I u264 e285
          have v293 : q_V d284 = q_V δ := ((show q_V d284 = q_V r254.2 by rw [e285]; rfl)).trans v265
          have v294 := kr_N v266 (show q_R d284 = q_R r254.2 by rw [e285]; rfl)
          have us295 : NU ad a0 δ d284 := NU.t us283 (show NU ad a0 r254.2 d284 from NU.w e285 (by decide))
          have f298 := cb_12_24 i286 k_a0
          have f299 : (q_I d284 12 24 a0).toInt = (q_I r254.2 12 24 a0).toInt := congrArg Int32.toInt (by rw [e285]; exact rI_o (by decide))
          have f300 := cb_12_24 i256 k_a0
          have f301 : (q_I r254.2 12 24 a0).toInt = (q_I r224.2 12 24 a0).toInt := congrArg Int32.toInt (u260 12 24 a0 (by decide))
          have f302 := cb_12_24 i226 k_a0
          have f303 : (q_I r224.2 12 24 a0).toInt = (q_I r18.2 12 24 a0).toInt := congrArg Int32.toInt (u230 12 24 a0 (by decide))
          have f304 := cb_12_24 i20 k_a0
          have f305 : (q_I r18.2 12 24 a0).toInt = (q_I δ 12 24 a0).toInt := congrArg Int32.toInt (u24 12 24 a0 (by decide))
          have f306 := cb_12_26 i286 k_a0
          have f307 : (q_I d284 12 26 a0).toInt = (q_I r254.2 12 26 a0).toInt := congrArg Int32.toInt (by rw [e285]; exact rI_o (by decide))
          have f308 := cb_12_26 i256 k_a0
          have f309 : (q_I r254.2 12 26 a0).toInt = (q_I r224.2 12 26 a0).toInt := congrArg Int32.toInt (u260 12 26 a0 (by decide))
          have f310 := cb_12_26 i226 k_a0
          have f311 : (q_I r224.2 12 26 a0).toInt = (q_I r18.2 12 26 a0).toInt := congrArg Int32.toInt (u230 12 26 a0 (by decide))
          have f312 := cb_12_26 i20 k_a0
          have f313 : (q_I r18.2 12 26 a0).toInt = (q_I δ 12 26 a0).toInt := congrArg Int32.toInt (u24 12 26 a0 (by decide))
          have f314 := cb_12_4 i286 k_a0
          have f315 : (q_I d284 12 4 a0).toInt = ((q_I r254.2 12 4 a0) + (1 : Int32)).toInt := congrArg Int32.toInt (show q_I d284 12 4 a0 = ((q_I r254.2 12 4 a0) + (1 : Int32)) by rw [e285]; exact rI_s)
          have f316 := ti_b (q_I d284 12 7 a0)
          have f317 : (q_I d284 12 7 a0).toInt = (q_I r254.2 12 7 a0).toInt := congrArg Int32.toInt (by rw [e285]; exact rI_o (by decide))
          have f318 := ti_b (q_I r254.2 12 7 a0)
          have f319 : (q_I r254.2 12 7 a0).toInt = (q_I r224.2 12 7 a0).toInt := congrArg Int32.toInt (u260 12 7 a0 (by decide))
          have f320 := ti_b (q_I r224.2 12 7 a0)
          have f321 : (q_I r224.2 12 7 a0).toInt = (q_I r18.2 12 7 a0).toInt := congrArg Int32.toInt (u230 12 7 a0 (by decide))
          have f322 := ti_b (q_I r18.2 12 7 a0)
          have f323 : (q_I r18.2 12 7 a0).toInt = (q_I δ 12 7 a0).toInt := congrArg Int32.toInt (u24 12 7 a0 (by decide))
          have f324 := cb_12_5 i286 k_a0
          have f325 : (q_I d284 12 5 a0).toInt = (q_I r254.2 12 5 a0).toInt := congrArg Int32.toInt (by rw [e285]; exact rI_o (by decide))
          refine ok_bind (k_bX12_product L hN (a0 := a0) hT k_a0 (show (q_I d284 12 24 a0).toInt ≤ 3 by first | assumption | omega) (show (q_I d284 12 26 a0).toInt ≤ (q_I d284 12 4 a0).toInt by first | assumption | omega) (show 0 ≤ (q_I d284 12 7 a0).toInt by first | assumption | omega) (show (q_I d284 12 7 a0).toInt ≤ 7 by first | assumption | omega) (show (q_I d284 12 7 a0).toInt = 7 → 0 ≤ (q_I d284 12 5 a0).toInt by first | assumption | omega) (show 8 - (q_I d284 12 7 a0).toInt ≤ K by first | assumption | omega) i286) (fun r296 hr297 => ?_)
          obtain ⟨i326, ⟨u333, u334, u335⟩, p327, p328, p329, p330, p331, p332⟩ := hr297
          have u336 := kp_t u292 u333
          have v337 : q_V r296 = q_V δ := (u334).trans v293
          have v338 := kr_t v294 u335
          have f339 := cb_12_4 i326 k_a0
          have f340 := cb_12_5 i326 k_a0
          have f341 := ti_b (q_I r296 12 7 a0)
          have f342 := cb_12_26 i326 k_a0
          have us343 : US ad a0 δ r296 := US.pre us295 p332
          refine ok_ite (fun h344 => ?_) (fun h344 => ?_)
          · have c345 : r254.1.toInt = (43 : Int) := o_eq h344
            unfold J_X12_sum_62
            have f348 := cb_12_24 i326 k_a0
            have f349 : (q_I r296 12 24 a0).toInt = (q_I d284 12 24 a0).toInt := congrArg Int32.toInt (u333 12 24 a0 (by decide))
            refine ok_bind (k_X12_emit L hN (a0 := a0) (x1 := (6 : Int32)) (x2 := (0 : Int32)) k_a0 (show (q_I r296 12 24 a0).toInt ≤ 3 by first | assumption | omega) (show (q_I r296 12 5 a0).toInt < 0 → (q_I r296 12 26 a0).toInt < 500 by first | assumption | omega) i326) (fun r346 hr347 => ?_)
            obtain ⟨i350, ⟨u355, u356, u357⟩, p351, p352, p353, p354⟩ := hr347
            have u358 := kp_t u336 u355
            have v359 : q_V r346 = q_V δ := (u356).trans v337
            have v360 := kr_t v338 u357
            have f361 := cb_12_26 i350 k_a0
            have us362 : LU ad a0 δ r346 := LU.em us343 p354 (by decide)
            have f363 := cb_12_24 i350 k_a0
            have f364 : (q_I r346 12 24 a0).toInt = (q_I r296 12 24 a0).toInt := congrArg Int32.toInt (u355 12 24 a0 (by decide))
            have f365 := cb_12_4 i350 k_a0
            have f366 : (q_I r346 12 4 a0).toInt = (q_I r296 12 4 a0).toInt := congrArg Int32.toInt (u355 12 4 a0 (by decide))
            have f367 := ti_b (q_I r346 12 7 a0)
            have f368 : (q_I r346 12 7 a0).toInt = (q_I r296 12 7 a0).toInt := congrArg Int32.toInt (u355 12 7 a0 (by decide))
            have f369 := cb_12_5 i350 k_a0
            have f370 : (q_I r346 12 5 a0).toInt = (q_I r296 12 5 a0).toInt := congrArg Int32.toInt (u355 12 5 a0 (by decide))
            refine ok_mono (ih r346 i350 (show (q_I r346 12 24 a0).toInt ≤ 3 by first | assumption | omega) (show (q_I r346 12 26 a0).toInt ≤ (q_I r346 12 4 a0).toInt by first | assumption | omega) (show 0 ≤ (q_I r346 12 7 a0).toInt by first | assumption | omega) (show (q_I r346 12 7 a0).toInt ≤ 7 by first | assumption | omega) (show (q_I r346 12 7 a0).toInt = 7 → 0 ≤ (q_I r346 12 5 a0).toInt by first | assumption | omega) (show 8 - (q_I r346 12 7 a0).toInt ≤ K by first | assumption | omega) (show 501 - (q_I r346 12 4 a0).toInt < _ by omega)) (fun r371 hr372 => ?_)
            obtain ⟨i373, ⟨u380, u381, u382⟩, p374, p375, p376, p377, p378, p379⟩ := hr372
            have u383 := kp_t u358 u380
            have v384 : q_V r371 = q_V δ := (u381).trans v359
            have v385 := kr_t v360 u382
            have f386 := cb_12_4 i373 k_a0
            have f387 := cb_12_5 i373 k_a0
            have f388 := ti_b (q_I r371 12 7 a0)
            have f389 := cb_12_26 i373 k_a0
            have us390 : LU ad a0 δ r371 := LU.t us362 p379
            exact ⟨by assumption, ⟨kp_w (by decide) u383, v384, kr_w (by decide) v385⟩, by first | assumption | omega, by first | assumption | omega, by first | assumption | omega, by first | assumption | omega, by first | assumption | omega, us390⟩
          · have c391 : r254.1.toInt ≠ (43 : Int) := o_ne h344
            unfold J_X12_sum_62
            have f394 := cb_12_24 i326 k_a0
            have f395 : (q_I r296 12 24 a0).toInt = (q_I d284 12 24 a0).toInt := congrArg Int32.toInt (u333 12 24 a0 (by decide))
            refine ok_bind (k_X12_emit L hN (a0 := a0) (x1 := (7 : Int32)) (x2 := (0 : Int32)) k_a0 (show (q_I r296 12 24 a0).toInt ≤ 3 by first | assumption | omega) (show (q_I r296 12 5 a0).toInt < 0 → (q_I r296 12 26 a0).toInt < 500 by first | assumption | omega) i326) (fun r392 hr393 => ?_)
            obtain ⟨i396, ⟨u401, u402, u403⟩, p397, p398, p399, p400⟩ := hr393
            have u404 := kp_t u336 u401
            have v405 : q_V r392 = q_V δ := (u402).trans v337
            have v406 := kr_t v338 u403
            have f407 := cb_12_26 i396 k_a0
            have us408 : LU ad a0 δ r392 := LU.em us343 p400 (by decide)
            have f409 := cb_12_24 i396 k_a0
            have f410 : (q_I r392 12 24 a0).toInt = (q_I r296 12 24 a0).toInt := congrArg Int32.toInt (u401 12 24 a0 (by decide))
            have f411 := cb_12_4 i396 k_a0
            have f412 : (q_I r392 12 4 a0).toInt = (q_I r296 12 4 a0).toInt := congrArg Int32.toInt (u401 12 4 a0 (by decide))
            have f413 := ti_b (q_I r392 12 7 a0)
            have f414 : (q_I r392 12 7 a0).toInt = (q_I r296 12 7 a0).toInt := congrArg Int32.toInt (u401 12 7 a0 (by decide))
            have f415 := cb_12_5 i396 k_a0
            have f416 : (q_I r392 12 5 a0).toInt = (q_I r296 12 5 a0).toInt := congrArg Int32.toInt (u401 12 5 a0 (by decide))
            refine ok_mono (ih r392 i396 (show (q_I r392 12 24 a0).toInt ≤ 3 by first | assumption | omega) (show (q_I r392 12 26 a0).toInt ≤ (q_I r392 12 4 a0).toInt by first | assumption | omega) (show 0 ≤ (q_I r392 12 7 a0).toInt by first | assumption | omega) (show (q_I r392 12 7 a0).toInt ≤ 7 by first | assumption | omega) (show (q_I r392 12 7 a0).toInt = 7 → 0 ≤ (q_I r392 12 5 a0).toInt by first | assumption | omega) (show 8 - (q_I r392 12 7 a0).toInt ≤ K by first | assumption | omega) (show 501 - (q_I r392 12 4 a0).toInt < _ by omega)) (fun r417 hr418 => ?_)
            obtain ⟨i419, ⟨u426, u427, u428⟩, p420, p421, p422, p423, p424, p425⟩ := hr418
            have u429 := kp_t u404 u426
            have v430 : q_V r417 = q_V δ := (u427).trans v405
            have v431 := kr_t v406 u428
            have f432 := cb_12_4 i419 k_a0
            have f433 := cb_12_5 i419 k_a0
            have f434 := ti_b (q_I r417 12 7 a0)
            have f435 := cb_12_26 i419 k_a0
            have us436 : LU ad a0 δ r417 := LU.t us408 p425
            exact ⟨by assumption, ⟨kp_w (by decide) u429, v430, kr_w (by decide) v431⟩, by first | assumption | omega, by first | assumption | omega, by first | assumption | omega, by first | assumption | omega, by first | assumption | omega, us436⟩
        · have c437 : r224.1.toInt ≠ (45 : Int) := o_ne h252
          unfold J_X12_sum_69
          have f438 := ti_b (q_I r224.2 12 7 a0)
          have f439 : (q_I r224.2 12 7 a0).toInt = (q_I r18.2 12 7 a0).toInt := congrArg Int32.toInt (u230 12 7 a0 (by decide))
          have f440 := ti_b (q_I r18.2 12 7 a0)
          have f441 : (q_I r18.2 12 7 a0).toInt = (q_I δ 12 7 a0).toInt := congrArg Int32.toInt (u24 12 7 a0 (by decide))
          have f442 := cb_12_26 i226 k_a0
          have f443 : (q_I r224.2 12 26 a0).toInt = (q_I r18.2 12 26 a0).toInt := congrArg Int32.toInt (u230 12 26 a0 (by decide))
          have f444 := cb_12_26 i20 k_a0
          have f445 : (q_I r18.2 12 26 a0).toInt = (q_I δ 12 26 a0).toInt := congrArg Int32.toInt (u24 12 26 a0 (by decide))
          exact ok_some (show RI ad h.1 δ0 r224.2 ∧ (kp [(12, 4), (12, 5), (12, 6), (12, 7), (12, 26)] δ r224.2 ∧ q_V r224.2 = q_V δ ∧ kr ad [116, 117] δ r224.2) ∧ (q_I δ 12 4 a0).toInt ≤ (q_I r224.2 12 4 a0).toInt ∧ (q_I δ 12 5 a0).toInt ≤ (q_I r224.2 12 5 a0).toInt ∧ (q_I r224.2 12 7 a0).toInt = (q_I δ 12 7 a0).toInt ∧ (q_I δ 12 26 a0).toInt ≤ (q_I r224.2 12 26 a0).toInt ∧ (q_I r224.2 12 26 a0).toInt - (q_I δ 12 26 a0).toInt ≤ (q_I r224.2 12 4 a0).toInt - (q_I δ 12 4 a0).toInt ∧ LU ad a0 δ r224.2 from ⟨i226, ⟨kp_w (by decide) u234, v235, kr_w (by decide) v236⟩, by first | assumption | omega, by first | assumption | omega, by first | assumption | omega, by first | assumption | omega, by first | assumption | omega, LU.n us251⟩)
set_option maxHeartbeats 4000000 in
theorem ke_X12_sum {ad : List Nat} {h : hp} (L : Lay TLx ad h) {δ0 : dp} {N : Nat} (hN : 10000000 ≤ N) : ∀ (k : Nat), ∀ (a0 : Nat) (δ : dp), q_K h.1 a0 = 12 → (q_I δ 12 24 a0).toInt ≤ 3 → (q_I δ 12 26 a0).toInt ≤ (q_I δ 12 4 a0).toInt → 0 ≤ (q_I δ 12 7 a0).toInt → (q_I δ 12 7 a0).toInt ≤ 7 → ((q_I δ 12 7 a0).toInt = 7 → 0 ≤ (q_I δ 12 5 a0).toInt) → 8 - (q_I δ 12 7 a0).toInt < (k : Int) → RI ad h.1 δ0 δ → ok (E_X12_sum N h.1 k a0 δ) (fun r => RI ad h.1 δ0 r ∧ (kp [(12, 4), (12, 5), (12, 6), (12, 7), (12, 26)] δ r ∧ q_V r = q_V δ ∧ kr ad [116, 117] δ r) ∧ (q_I δ 12 4 a0).toInt ≤ (q_I r 12 4 a0).toInt ∧ (q_I δ 12 5 a0).toInt ≤ (q_I r 12 5 a0).toInt ∧ (q_I r 12 7 a0).toInt = (q_I δ 12 7 a0).toInt ∧ (q_I δ 12 26 a0).toInt ≤ (q_I r 12 26 a0).toInt ∧ (q_I r 12 26 a0).toInt - (q_I δ 12 26 a0).toInt ≤ (q_I r 12 4 a0).toInt - (q_I δ 12 4 a0).toInt ∧ US ad a0 δ r) := by
  intro k
  induction k with
  | zero =>
    intro a0 δ k_a0 z0 z1 z2 z3 z4 hd I
    have f48 := ti_b (q_I δ 12 7 a0)
    exfalso; omega
  | succ k ih =>
    intro a0 δ k_a0 z0 z1 z2 z3 z4 hd I
    unfold E_X12_sum B_X12_sum
    have f1 := cb_12_24 I k_a0
    have f2 := cb_12_26 I k_a0
    have f3 := cb_12_4 I k_a0
    have f4 := ti_b (q_I δ 12 7 a0)
    have f5 := cb_12_5 I k_a0
    refine ok_bind (k_bX12_product L hN (a0 := a0) ih k_a0 (show (q_I δ 12 24 a0).toInt ≤ 3 by first | assumption | omega) (show (q_I δ 12 26 a0).toInt ≤ (q_I δ 12 4 a0).toInt by first | assumption | omega) (show 0 ≤ (q_I δ 12 7 a0).toInt by first | assumption | omega) (show (q_I δ 12 7 a0).toInt ≤ 7 by first | assumption | omega) (show (q_I δ 12 7 a0).toInt = 7 → 0 ≤ (q_I δ 12 5 a0).toInt by first | assumption | omega) (show 8 - (q_I δ 12 7 a0).toInt ≤ (k : Int) by first | assumption | omega) I) (fun r6 hr7 => ?_)
    obtain ⟨i8, ⟨u15, u16, u17⟩, p9, p10, p11, p12, p13, p14⟩ := hr7
    have u18 := kp_t kp_r u15
    have v19 : q_V r6 = q_V δ := (u16).trans rfl
    have v20 := kr_t (kr_r (ad := ad)) u17
    have f21 := cb_12_4 i8 k_a0
    have f22 := cb_12_5 i8 k_a0
    have f23 := ti_b (q_I r6 12 7 a0)
    have f24 := cb_12_26 i8 k_a0
    have us25 : US ad a0 δ r6 := US.pre NU.r p14
    have f26 := cb_12_24 i8 k_a0
    have f27 : (q_I r6 12 24 a0).toInt = (q_I δ 12 24 a0).toInt := congrArg Int32.toInt (u15 12 24 a0 (by decide))
    refine ok_mono (kl_X12_sum_4 L hN   ih k_a0 _ r6 i8 (show (q_I r6 12 24 a0).toInt ≤ 3 by first | assumption | omega) (show (q_I r6 12 26 a0).toInt ≤ (q_I r6 12 4 a0).toInt by first | assumption | omega) (show 0 ≤ (q_I r6 12 7 a0).toInt by first | assumption | omega) (show (q_I r6 12 7 a0).toInt ≤ 7 by first | assumption | omega) (show (q_I r6 12 7 a0).toInt = 7 → 0 ≤ (q_I r6 12 5 a0).toInt by first | assumption | omega) (show 8 - (q_I r6 12 7 a0).toInt ≤ (k : Int) by first | assumption | omega) (show 501 - (q_I r6 12 4 a0).toInt < _ by omega)) (fun r28 hr29 => ?_)
    obtain ⟨i30, ⟨u37, u38, u39⟩, p31, p32, p33, p34, p35, p36⟩ := hr29
    have u40 := kp_t u18 u37
    have v41 : q_V r28 = q_V δ := (u38).trans v19
    have v42 := kr_t v20 u39
    have f43 := cb_12_4 i30 k_a0
    have f44 := cb_12_5 i30 k_a0
    have f45 := ti_b (q_I r28 12 7 a0)
    have f46 := cb_12_26 i30 k_a0
    have us47 : US ad a0 δ r28 := US.l us25 p36
    exact ⟨by assumption, ⟨kp_w (by decide) u40, v41, kr_w (by decide) v42⟩, by first | assumption | omega, by first | assumption | omega, by first | assumption | omega, by first | assumption | omega, by first | assumption | omega, us47⟩
set_option maxHeartbeats 4000000 in
theorem k_X12_sum {ad : List Nat} {h : hp} (L : Lay TLx ad h) {δ0 : dp} {N : Nat} (hN : 10000000 ≤ N) {a0 : Nat} (k_a0 : q_K h.1 a0 = 12) {δ : dp} (z0 : (q_I δ 12 24 a0).toInt ≤ 3) (z1 : (q_I δ 12 26 a0).toInt ≤ (q_I δ 12 4 a0).toInt) (z2 : 0 ≤ (q_I δ 12 7 a0).toInt) (z3 : (q_I δ 12 7 a0).toInt ≤ 7) (z4 : (q_I δ 12 7 a0).toInt = 7 → 0 ≤ (q_I δ 12 5 a0).toInt) (hd : 8 - (q_I δ 12 7 a0).toInt < 20) (I : RI ad h.1 δ0 δ) : ok (D_X12_sum N h.1 a0 δ) (fun r => RI ad h.1 δ0 r ∧ (kp [(12, 4), (12, 5), (12, 6), (12, 7), (12, 26)] δ r ∧ q_V r = q_V δ ∧ kr ad [116, 117] δ r) ∧ (q_I δ 12 4 a0).toInt ≤ (q_I r 12 4 a0).toInt ∧ (q_I δ 12 5 a0).toInt ≤ (q_I r 12 5 a0).toInt ∧ (q_I r 12 7 a0).toInt = (q_I δ 12 7 a0).toInt ∧ (q_I δ 12 26 a0).toInt ≤ (q_I r 12 26 a0).toInt ∧ (q_I r 12 26 a0).toInt - (q_I δ 12 26 a0).toInt ≤ (q_I r 12 4 a0).toInt - (q_I δ 12 4 a0).toInt ∧ US ad a0 δ r) := ke_X12_sum L hN 20 a0 δ k_a0 z0 z1 z2 z3 z4 hd I
set_option maxHeartbeats 4000000 in
theorem k_X12_stepOf {ad : List Nat} {h : hp} (L : Lay TLx ad h) {δ0 : dp} {N : Nat} (hN : 10000000 ≤ N) {x0 : Int32} {δ : dp} (I : RI ad h.1 δ0 δ) : ok (D_X12_stepOf N h.1 x0 δ) (fun r => r.2 = δ ∧ -1 ≤ (r.1).toInt ∧ (r.1).toInt ≤ 5 ∧ ((r.1).toInt = -1 ∨ (x0).toInt ≠ 0)) := by
  unfold D_X12_stepOf
  refine ok_bind (k_X12_of L hN (a0 := 5) (show 5 < 16 by first | assumption | omega) I) (fun r1 hr2 => ?_)
  obtain ⟨i3, p4⟩ := hr2
  try rw [i3]
  have f5 := ti_b r1.1
  have f6 := ti_b r1.1
  have f7 := ti_b x0
  refine ok_ite (fun h8 => ?_) (fun h8 => ?_)
  · have c9 : x0.toInt = r1.1.toInt := o_eq h8
    unfold J_X12_stepOf_79
    exact ok_some (show δ = δ ∧ -1 ≤ (0 : Int) ∧ (0 : Int) ≤ 5 ∧ ((0 : Int) = -1 ∨ (x0).toInt ≠ 0) from ⟨rfl, by first | assumption | omega, by first | assumption | omega, by first | assumption | omega⟩)
  · have c10 : x0.toInt ≠ r1.1.toInt := o_ne h8
    refine ok_bind (k_X12_of L hN (a0 := 6) (show 6 < 16 by first | assumption | omega) I) (fun r11 hr12 => ?_)
    obtain ⟨i13, p14⟩ := hr12
    try rw [i13]
    have f15 := ti_b r11.1
    have f16 := ti_b r11.1
    refine ok_ite (fun h17 => ?_) (fun h17 => ?_)
    · have c18 : x0.toInt = r11.1.toInt := o_eq h17
      unfold J_X12_stepOf_79
      exact ok_some (show δ = δ ∧ -1 ≤ (1 : Int) ∧ (1 : Int) ≤ 5 ∧ ((1 : Int) = -1 ∨ (x0).toInt ≠ 0) from ⟨rfl, by first | assumption | omega, by first | assumption | omega, by first | assumption | omega⟩)
    · have c19 : x0.toInt ≠ r11.1.toInt := o_ne h17
      refine ok_bind (k_X12_of L hN (a0 := 7) (show 7 < 16 by first | assumption | omega) I) (fun r20 hr21 => ?_)
      obtain ⟨i22, p23⟩ := hr21
      try rw [i22]
      have f24 := ti_b r20.1
      have f25 := ti_b r20.1
      refine ok_ite (fun h26 => ?_) (fun h26 => ?_)
      · have c27 : x0.toInt = r20.1.toInt := o_eq h26
        unfold J_X12_stepOf_79
        exact ok_some (show δ = δ ∧ -1 ≤ (2 : Int) ∧ (2 : Int) ≤ 5 ∧ ((2 : Int) = -1 ∨ (x0).toInt ≠ 0) from ⟨rfl, by first | assumption | omega, by first | assumption | omega, by first | assumption | omega⟩)
      · have c28 : x0.toInt ≠ r20.1.toInt := o_ne h26
        refine ok_bind (k_X12_of L hN (a0 := 8) (show 8 < 16 by first | assumption | omega) I) (fun r29 hr30 => ?_)
        obtain ⟨i31, p32⟩ := hr30
        try rw [i31]
        have f33 := ti_b r29.1
        have f34 := ti_b r29.1
        refine ok_ite (fun h35 => ?_) (fun h35 => ?_)
        · have c36 : x0.toInt = r29.1.toInt := o_eq h35
          unfold J_X12_stepOf_79
          exact ok_some (show δ = δ ∧ -1 ≤ (3 : Int) ∧ (3 : Int) ≤ 5 ∧ ((3 : Int) = -1 ∨ (x0).toInt ≠ 0) from ⟨rfl, by first | assumption | omega, by first | assumption | omega, by first | assumption | omega⟩)
        · have c37 : x0.toInt ≠ r29.1.toInt := o_ne h35
          refine ok_bind (k_X12_of L hN (a0 := 9) (show 9 < 16 by first | assumption | omega) I) (fun r38 hr39 => ?_)
          obtain ⟨i40, p41⟩ := hr39
          try rw [i40]
          have f42 := ti_b r38.1
          have f43 := ti_b r38.1
          refine ok_ite (fun h44 => ?_) (fun h44 => ?_)
          · have c45 : x0.toInt = r38.1.toInt := o_eq h44
            unfold J_X12_stepOf_79
            exact ok_some (show δ = δ ∧ -1 ≤ (4 : Int) ∧ (4 : Int) ≤ 5 ∧ ((4 : Int) = -1 ∨ (x0).toInt ≠ 0) from ⟨rfl, by first | assumption | omega, by first | assumption | omega, by first | assumption | omega⟩)
          · have c46 : x0.toInt ≠ r38.1.toInt := o_ne h44
            refine ok_bind (k_X12_of L hN (a0 := 10) (show 10 < 16 by first | assumption | omega) I) (fun r47 hr48 => ?_)
            obtain ⟨i49, p50⟩ := hr48
            try rw [i49]
            have f51 := ti_b r47.1
            have f52 := ti_b r47.1
            refine ok_ite (fun h53 => ?_) (fun h53 => ?_)
            · have c54 : x0.toInt = r47.1.toInt := o_eq h53
              unfold J_X12_stepOf_79
              exact ok_some (show δ = δ ∧ -1 ≤ (5 : Int) ∧ (5 : Int) ≤ 5 ∧ ((5 : Int) = -1 ∨ (x0).toInt ≠ 0) from ⟨rfl, by first | assumption | omega, by first | assumption | omega, by first | assumption | omega⟩)
            · have c55 : x0.toInt ≠ r47.1.toInt := o_ne h53
              unfold J_X12_stepOf_79
              exact ok_some (show δ = δ ∧ -1 ≤ (-1 : Int) ∧ (-1 : Int) ≤ 5 ∧ ((-1 : Int) = -1 ∨ (x0).toInt ≠ 0) from ⟨rfl, by first | assumption | omega, by first | assumption | omega, by first | assumption | omega⟩)
set_option maxHeartbeats 4000000 in
theorem kj_X12_readSteps_79 {ad : List Nat} {h : hp} (L : Lay TLx ad h) {δ0 : dp} {N : Nat} (hN : 10000000 ≤ N) {T : Nat → dp → Option (dp)} {K : Int} (hT : ∀ (a0 : Nat) (δ : dp), q_K h.1 a0 = 12 → (q_I δ 12 24 a0).toInt ≤ 3 → (q_I δ 12 26 a0).toInt ≤ (q_I δ 12 4 a0).toInt → (q_I δ 12 7 a0).toInt = 0 → 4 - (q_I δ 12 27 a0).toInt < K → RI ad h.1 δ0 δ → ok (T a0 δ) (fun r => RI ad h.1 δ0 r ∧ (kp [(12, 4), (12, 5), (12, 6), (12, 7), (12, 25), (12, 26), (12, 27)] δ r ∧ q_V r = q_V δ ∧ kr ad [113, 114, 115, 116, 117] δ r) ∧ (q_I δ 12 4 a0).toInt ≤ (q_I r 12 4 a0).toInt ∧ (q_I δ 12 5 a0).toInt ≤ (q_I r 12 5 a0).toInt ∧ (q_I r 12 7 a0).toInt = (q_I δ 12 7 a0).toInt ∧ (q_I r 12 27 a0).toInt = (q_I δ 12 27 a0).toInt ∧ (q_I r 12 26 a0).toInt ≤ (q_I r 12 4 a0).toInt ∧ SS ad a0 δ r)) {a0 : Nat} {kt0 : dp → Option (dp)} {K0 : Int} (h_kt0 : ∀ (δ : dp), RI ad h.1 δ0 δ → (q_I δ 12 24 a0).toInt ≤ 3 → (q_I δ 12 26 a0).toInt ≤ (q_I δ 12 4 a0).toInt → (q_I δ 12 7 a0).toInt = 0 → 4 - (q_I δ 12 27 a0).toInt ≤ K → 501 - (q_I δ 12 4 a0).toInt < K0 → ok (kt0 δ) (fun r => RI ad h.1 δ0 r ∧ (kp [(12, 4), (12, 5), (12, 6), (12, 7), (12, 25), (12, 26), (12, 27)] δ r ∧ q_V r = q_V δ ∧ kr ad [113, 114, 115, 116, 117] δ r) ∧ (q_I δ 12 4 a0).toInt ≤ (q_I r 12 4 a0).toInt ∧ (q_I δ 12 5 a0).toInt ≤ (q_I r 12 5 a0).toInt ∧ (q_I r 12 7 a0).toInt = (q_I δ 12 7 a0).toInt ∧ (q_I r 12 27 a0).toInt = (q_I δ 12 27 a0).toInt ∧ (q_I r 12 26 a0).toInt ≤ (q_I r 12 4 a0).toInt ∧ SS ad a0 δ r)) {x1v : Int32} (k_a0 : q_K h.1 a0 = 12) {δ : dp} (z0 : (q_I δ 12 24 a0).toInt ≤ 3) (z1 : (q_I δ 12 26 a0).toInt ≤ (q_I δ 12 4 a0).toInt) (z2 : (q_I δ 12 7 a0).toInt = 0) (z3 : 4 - (q_I δ 12 27 a0).toInt ≤ K) (z4 : -1 ≤ (x1v).toInt) (z5 : (x1v).toInt ≤ 5) (z6 : (q_I δ 12 5 a0).toInt < 0 → 0 ≤ (x1v).toInt) (z7 : (q_I δ 12 5 a0).toInt < 0 → (q_I δ 12 25 a0).toInt ≤ 59) (z8 : (q_I δ 12 5 a0).toInt < 0 → (x1v).toInt = 5 → (q_I δ 12 27 a0).toInt ≤ 2) (z9 : (q_I δ 12 5 a0).toInt < 0 → (q_I δ 12 4 a0).toInt < (q_I δ 12 3 a0).toInt ∧ 97 ≤ hc ad δ a0 ∧ hc ad δ a0 ≤ 122) (z10 : 501 - (q_I δ 12 4 a0).toInt ≤ K0) (I : RI ad h.1 δ0 δ) : ok (J_X12_readSteps_79 N h.1 T a0 kt0 x1v δ) (fun r => RI ad h.1 δ0 r ∧ (kp [(12, 4), (12, 5), (12, 6), (12, 7), (12, 25), (12, 26), (12, 27)] δ r ∧ q_V r = q_V δ ∧ kr ad [113, 114, 115, 116, 117] δ r) ∧ (q_I δ 12 4 a0).toInt ≤ (q_I r 12 4 a0).toInt ∧ (q_I δ 12 5 a0).toInt ≤ (q_I r 12 5 a0).toInt ∧ (q_I r 12 7 a0).toInt = (q_I δ 12 7 a0).toInt ∧ (q_I r 12 27 a0).toInt = (q_I δ 12 27 a0).toInt ∧ (q_I r 12 26 a0).toInt ≤ (q_I r 12 4 a0).toInt ∧ SS ad a0 δ r) := by
  unfold J_X12_readSteps_79
  have f1 : hc ad δ a0 = (q_R δ (Ad ad 101) (q_I δ 12 4 a0).toNatClampNeg).toInt := rfl
  have f2 := cb_12_4 I k_a0
  have t3 := ti_tn (q_I δ 12 4 a0)
  have f4 := ti_b (q_R δ (Ad ad 101) (q_I δ 12 4 a0).toNatClampNeg)
  have f5 := cb_12_24 I k_a0
  have f6 := cb_12_26 I k_a0
  have f7 := ti_b (q_I δ 12 7 a0)
  have f8 := cb_12_27 I k_a0
  have f9 := ti_b x1v
  have f10 := cb_12_5 I k_a0
  have f11 := cb_12_25 I k_a0
  have f12 := cb_12_3 I k_a0
  refine ok_bind (k_X12_fine L hN (a0 := a0) k_a0 I) (fun r13 hr14 => ?_)
  obtain ⟨i15, p16, p17, p18⟩ := hr14
  try rw [i15]
  have f19 := bo_l p16
  have f20 := ti_b r13.1
  have f21 := ti_b r13.1
  refine ok_ite (fun h22 => ?_) (fun h22 => ?_)
  · have c23 : r13.1.toInt = (0 : Int) := o_eq h22
    exact ok_some (show RI ad h.1 δ0 δ ∧ (kp [(12, 4), (12, 5), (12, 6), (12, 7), (12, 25), (12, 26), (12, 27)] δ δ ∧ q_V δ = q_V δ ∧ kr ad [113, 114, 115, 116, 117] δ δ) ∧ (q_I δ 12 4 a0).toInt ≤ (q_I δ 12 4 a0).toInt ∧ (q_I δ 12 5 a0).toInt ≤ (q_I δ 12 5 a0).toInt ∧ (q_I δ 12 7 a0).toInt = (q_I δ 12 7 a0).toInt ∧ (q_I δ 12 27 a0).toInt = (q_I δ 12 27 a0).toInt ∧ (q_I δ 12 26 a0).toInt ≤ (q_I δ 12 4 a0).toInt ∧ SS ad a0 δ δ from ⟨I, ⟨kp_w (by decide) kp_r, rfl, kr_w (by decide) (kr_r (ad := ad))⟩, by first | assumption | omega, by first | assumption | omega, by first | assumption | omega, by first | assumption | omega, by first | assumption | omega, SS.n NS.r⟩)
  · have c24 : r13.1.toInt ≠ (0 : Int) := o_ne h22
    refine ok_bind (k_X12_pass L hN (a0 := a0) k_a0 I) (fun r25 hr26 => ?_)
    obtain ⟨i27, ⟨u30, u31, u32, u33⟩, p28, p29⟩ := hr26
    have u34 := kp_t kp_r u30
    have v35 : q_V r25 = q_V δ := (u31).trans rfl
    have v36 := kr_t (kr_r (ad := ad)) u33
    have f37 := cb_12_4 i27 k_a0
    have f39 := cb_12_5 i27 k_a0
    have f40 : (q_I r25 12 5 a0).toInt = (q_I δ 12 5 a0).toInt := congrArg Int32.toInt (u30 12 5 a0 (by decide))
    have ns38 : NS ad a0 δ r25 := ⟨u33 112 (by decide) (by decide) (by decide), u33 113 (by decide) (by decide) (by decide), u33 114 (by decide) (by decide) (by decide), u33 115 (by decide) (by decide) (by decide), u33 116 (by decide) (by decide) (by decide), u30 12 24 _ (by decide), u30 12 25 _ (by decide), u30 12 26 _ (by decide), u30 12 27 _ (by decide), fun z => by omega⟩
    have f44 := cb_12_24 i27 k_a0
    have f45 : (q_I r25 12 24 a0).toInt = (q_I δ 12 24 a0).toInt := congrArg Int32.toInt (u30 12 24 a0 (by decide))
    first | (have q46 := te_mulc (c := 60) (n := 60) rfl (q_I r25 12 24 a0) (by omega) (by omega); obtain ⟨f47, f48, f49⟩ := q46) | (obtain ⟨q46, f47, f48, f49⟩ := ti_mulc (c := 60) (n := 60) rfl (q_I r25 12 24 a0))
    have f50 := cb_12_25 i27 k_a0
    have f51 : (q_I r25 12 25 a0).toInt = (q_I δ 12 25 a0).toInt := congrArg Int32.toInt (u30 12 25 a0 (by decide))
    refine ok_biv (fun vx41 e42 => ?_)
    first | (have q52 := te_add ((60 : Int32) * (q_I r25 12 24 a0)) (q_I r25 12 25 a0) (by omega) (by omega); rw [← e42] at q52; obtain ⟨f53, f54, f55⟩ := q52) | (obtain ⟨q52, f53, f54, f55⟩ : ∃ q : Int, vx41.toInt = ((60 : Int32) * (q_I r25 12 24 a0)).toInt + (q_I r25 12 25 a0).toInt + 4294967296 * q ∧ -2147483648 ≤ vx41.toInt ∧ vx41.toInt ≤ 2147483647 := by rw [e42]; exact ti_add ((60 : Int32) * (q_I r25 12 24 a0)) (q_I r25 12 25 a0))
    first | (have q60 := te_addc (c := 1) (n := 1) rfl (q_I r25 12 25 a0) (by omega) (by omega); obtain ⟨f61, f62, f63⟩ := q60) | (obtain ⟨q60, f61, f62, f63⟩ := ti_addc (c := 1) (n := 1) rfl (q_I r25 12 25 a0))
    refine ok_bdv (fun d56 e57 => ?_)
    have i58 : RI ad h.1 δ0 d56 := by rw [e57]; exact cs_12_25 L i27 k_a0 (show 0 ≤ ((q_I r25 12 25 a0) + (1 : Int32)).toInt by omega) (show ((q_I r25 12 25 a0) + (1 : Int32)).toInt ≤ 60 by omega)
    have u64 := kp_I u34 e57
    have v65 : q_V d56 = q_V δ := ((show q_V d56 = q_V r25 by rw [e57]; rfl)).trans v35
    have v66 := kr_N v36 (show q_R d56 = q_R r25 by rw [e57]; rfl)
    obtain ⟨b67, o68, k69, n70, w71⟩ := gO_12_29 L k_a0
    obtain rfl := gS_12_29 L k_a0 o68
    refine ok_at o68 ?_
    have t72 := ti_tn vx41
    refine ok_gd (fun hc73 => ?_) ?_
    · rcases hc73 with hc73 | hc73
      · have c74 : vx41.toInt < (0 : Int) := o_lt hc73
        omega
      · omega
    refine ok_bdv (fun d75 e76 => ?_)
    have i77 : RI ad h.1 δ0 d75 := by rw [e76]; exact RI.sR L i58 w71
    have u78 := kp_N u64 (show q_I d75 = q_I d56 by rw [e76]; rfl)
    have v79 : q_V d75 = q_V δ := ((show q_V d75 = q_V d56 by rw [e76]; rfl)).trans v65
    have v80 := kr_s L (by decide) v66 e76
    refine ok_ite (fun h81 => ?_) (fun h81 => ?_)
    · have c82 : x1v.toInt = (5 : Int) := o_eq h81
      obtain ⟨b83, o84, k85, n86, w87⟩ := gO_12_30 L k_a0
      obtain rfl := gS_12_30 L k_a0 o84
      refine ok_at o84 ?_
      refine ok_bind (k_X12_readNumber L hN (a0 := a0) (x1 := (1 : Int32)) (x2 := (99 : Int32)) k_a0 i77) (fun r88 hr89 => ?_)
      obtain ⟨i90, ⟨u97, u98, u99, u100⟩, p91, p92, p93, p94, p95, p96⟩ := hr89
      have u101 := kp_t u78 u97
      have v102 : q_V r88.2 = q_V δ := (u98).trans v79
      have v103 := kr_t v80 u100
      have f104 := cb_12_4 i77 k_a0
      have f105 : (q_I d75 12 4 a0).toInt = (q_I d56 12 4 a0).toInt := congrArg Int32.toInt (by rw [e76]; rfl)
      have f106 := cb_12_4 i58 k_a0
      have f107 : (q_I d56 12 4 a0).toInt = (q_I r25 12 4 a0).toInt := congrArg Int32.toInt (by rw [e57]; exact rI_o (by decide))
      have f108 := cb_12_4 i90 k_a0
      have f109 := cb_12_5 i77 k_a0
      have f110 : (q_I d75 12 5 a0).toInt = (q_I d56 12 5 a0).toInt := congrArg Int32.toInt (by rw [e76]; rfl)
      have f111 := cb_12_5 i58 k_a0
      have f112 : (q_I d56 12 5 a0).toInt = (q_I r25 12 5 a0).toInt := congrArg Int32.toInt (by rw [e57]; exact rI_o (by decide))
      have f113 := cb_12_5 i90 k_a0
      have f114 := ti_b r88.1
      replace p96 : ((q_I r88.2 12 5 a0).toInt < 0 → (1 : Int) ≤ (r88.1).toInt ∧ (r88.1).toInt ≤ (99 : Int)) := p96
      have f115 := ti_b r88.1
      have ns116 : NS ad a0 d75 r88.2 := ⟨u100 112 (by decide) (by decide) (by decide), u100 113 (by decide) (by decide) (by decide), u100 114 (by decide) (by decide) (by decide), u100 115 (by decide) (by decide) (by decide), u100 116 (by decide) (by decide) (by decide), u97 12 24 _ (by decide), u97 12 25 _ (by decide), u97 12 26 _ (by decide), u97 12 27 _ (by decide), fun z => by omega⟩
      refine ok_gd (fun hc117 => ?_) ?_
      · rcases hc117 with hc117 | hc117
        · have c118 : vx41.toInt < (0 : Int) := o_lt hc117
          omega
        · omega
      refine ok_bdv (fun d119 e120 => ?_)
      have i121 : RI ad h.1 δ0 d119 := by rw [e120]; exact RI.sR L i90 w87
      have u122 := kp_N u101 (show q_I d119 = q_I r88.2 by rw [e120]; rfl)
      have v123 : q_V d119 = q_V δ := ((show q_V d119 = q_V r88.2 by rw [e120]; rfl)).trans v102
      have v124 := kr_s L (by decide) v103 e120
      refine ok_bind (k_X12_sign L hN (a0 := a0) (x1 := (91 : Int32)) k_a0 (show (91 : Int) ≠ 0 by first | assumption | omega) i121) (fun r125 hr126 => ?_)
      obtain ⟨i127, ⟨u131, u132, u133, u134⟩, p128, p129, p130⟩ := hr126
      have u135 := kp_t u122 u131
      have v136 : q_V r125 = q_V δ := (u132).trans v123
      have v137 := kr_t v124 u134
      have f138 := cb_12_4 i121 k_a0
      have f139 : (q_I d119 12 4 a0).toInt = (q_I r88.2 12 4 a0).toInt := congrArg Int32.toInt (by rw [e120]; rfl)
      have f140 := cb_12_4 i127 k_a0
      have f141 := cb_12_5 i121 k_a0
      have f142 : (q_I d119 12 5 a0).toInt = (q_I r88.2 12 5 a0).toInt := congrArg Int32.toInt (by rw [e120]; rfl)
      have f143 := cb_12_5 i127 k_a0
      have ns144 : NS ad a0 d119 r125 := ⟨u134 112 (by decide) (by decide) (by decide), u134 113 (by decide) (by decide) (by decide), u134 114 (by decide) (by decide) (by decide), u134 115 (by decide) (by decide) (by decide), u134 116 (by decide) (by decide) (by decide), u131 12 24 _ (by decide), u131 12 25 _ (by decide), u131 12 26 _ (by decide), u131 12 27 _ (by decide), fun z => by omega⟩
      have f148 := cb_12_27 i127 k_a0
      have f149 : (q_I r125 12 27 a0).toInt = (q_I d119 12 27 a0).toInt := congrArg Int32.toInt (u131 12 27 a0 (by decide))
      have f150 := cb_12_27 i121 k_a0
      have f151 : (q_I d119 12 27 a0).toInt = (q_I r88.2 12 27 a0).toInt := congrArg Int32.toInt (by rw [e120]; rfl)
      have f152 := cb_12_27 i90 k_a0
      have f153 : (q_I r88.2 12 27 a0).toInt = (q_I d75 12 27 a0).toInt := congrArg Int32.toInt (u97 12 27 a0 (by decide))
      have f154 := cb_12_27 i77 k_a0
      have f155 : (q_I d75 12 27 a0).toInt = (q_I d56 12 27 a0).toInt := congrArg Int32.toInt (by rw [e76]; rfl)
      have f156 := cb_12_27 i58 k_a0
      have f157 : (q_I d56 12 27 a0).toInt = (q_I r25 12 27 a0).toInt := congrArg Int32.toInt (by rw [e57]; exact rI_o (by decide))
      have f158 := cb_12_27 i27 k_a0
      have f159 : (q_I r25 12 27 a0).toInt = (q_I δ 12 27 a0).toInt := congrArg Int32.toInt (u30 12 27 a0 (by decide))
      first | (have q161 := te_addc (c := 1) (n := 1) rfl (q_I r125 12 27 a0) (by omega) (by omega); obtain ⟨f162, f163, f164⟩ := q161) | (obtain ⟨q161, f162, f163, f164⟩ := ti_addc (c := 1) (n := 1) rfl (q_I r125 12 27 a0))
      refine ok_bdv (fun d145 e146 => ?_)
      have i147 : RI ad h.1 δ0 d145 := by rw [e146]; exact cs_12_27 L i127 k_a0 (show 0 ≤ ((q_I r125 12 27 a0) + (1 : Int32)).toInt by omega) (show ((q_I r125 12 27 a0) + (1 : Int32)).toInt ≤ 3 by omega)
      have u165 := kp_I u135 e146
      have v166 : q_V d145 = q_V δ := ((show q_V d145 = q_V r125 by rw [e146]; rfl)).trans v136
      have v167 := kr_N v137 (show q_R d145 = q_R r125 by rw [e146]; rfl)
      have f170 := cb_12_24 i147 k_a0
      have f171 : (q_I d145 12 24 a0).toInt = (q_I r125 12 24 a0).toInt := congrArg Int32.toInt (by rw [e146]; exact rI_o (by decide))
      have f172 := cb_12_24 i127 k_a0
      have f173 : (q_I r125 12 24 a0).toInt = (q_I d119 12 24 a0).toInt := congrArg Int32.toInt (u131 12 24 a0 (by decide))
      have f174 := cb_12_24 i121 k_a0
      have f175 : (q_I d119 12 24 a0).toInt = (q_I r88.2 12 24 a0).toInt := congrArg Int32.toInt (by rw [e120]; rfl)
      have f176 := cb_12_24 i90 k_a0
      have f177 : (q_I r88.2 12 24 a0).toInt = (q_I d75 12 24 a0).toInt := congrArg Int32.toInt (u97 12 24 a0 (by decide))
      have f178 := cb_12_24 i77 k_a0
      have f179 : (q_I d75 12 24 a0).toInt = (q_I d56 12 24 a0).toInt := congrArg Int32.toInt (by rw [e76]; rfl)
      have f180 := cb_12_24 i58 k_a0
      have f181 : (q_I d56 12 24 a0).toInt = (q_I r25 12 24 a0).toInt := congrArg Int32.toInt (by rw [e57]; exact rI_o (by decide))
      have f182 := cb_12_26 i147 k_a0
      have f183 : (q_I d145 12 26 a0).toInt = (q_I r125 12 26 a0).toInt := congrArg Int32.toInt (by rw [e146]; exact rI_o (by decide))
      have f184 := cb_12_26 i127 k_a0
      have f185 : (q_I r125 12 26 a0).toInt = (q_I d119 12 26 a0).toInt := congrArg Int32.toInt (u131 12 26 a0 (by decide))
      have f186 := cb_12_26 i121 k_a0
      have f187 : (q_I d119 12 26 a0).toInt = (q_I r88.2 12 26 a0).toInt := congrArg Int32.toInt (by rw [e120]; rfl)
      have f188 := cb_12_26 i90 k_a0
      have f189 : (q_I r88.2 12 26 a0).toInt = (q_I d75 12 26 a0).toInt := congrArg Int32.toInt (u97 12 26 a0 (by decide))
      have f190 := cb_12_26 i77 k_a0
      have f191 : (q_I d75 12 26 a0).toInt = (q_I d56 12 26 a0).toInt := congrArg Int32.toInt (by rw [e76]; rfl)
      have f192 := cb_12_26 i58 k_a0
      have f193 : (q_I d56 12 26 a0).toInt = (q_I r25 12 26 a0).toInt := congrArg Int32.toInt (by rw [e57]; exact rI_o (by decide))
      have f194 := cb_12_26 i27 k_a0
      have f195 : (q_I r25 12 26 a0).toInt = (q_I δ 12 26 a0).toInt := congrArg Int32.toInt (u30 12 26 a0 (by decide))
      have f196 := cb_12_4 i147 k_a0
      have f197 : (q_I d145 12 4 a0).toInt = (q_I r125 12 4 a0).toInt := congrArg Int32.toInt (by rw [e146]; exact rI_o (by decide))
      have f198 := ti_b (q_I d145 12 7 a0)
      have f199 : (q_I d145 12 7 a0).toInt = (q_I r125 12 7 a0).toInt := congrArg Int32.toInt (by rw [e146]; exact rI_o (by decide))
      have f200 := ti_b (q_I r125 12 7 a0)
      have f201 : (q_I r125 12 7 a0).toInt = (q_I d119 12 7 a0).toInt := congrArg Int32.toInt (u131 12 7 a0 (by decide))
      have f202 := ti_b (q_I d119 12 7 a0)
      have f203 : (q_I d119 12 7 a0).toInt = (q_I r88.2 12 7 a0).toInt := congrArg Int32.toInt (by rw [e120]; rfl)
      have f204 := ti_b (q_I r88.2 12 7 a0)
      have f205 : (q_I r88.2 12 7 a0).toInt = (q_I d75 12 7 a0).toInt := congrArg Int32.toInt (u97 12 7 a0 (by decide))
      have f206 := ti_b (q_I d75 12 7 a0)
      have f207 : (q_I d75 12 7 a0).toInt = (q_I d56 12 7 a0).toInt := congrArg Int32.toInt (by rw [e76]; rfl)
      have f208 := ti_b (q_I d56 12 7 a0)
      have f209 : (q_I d56 12 7 a0).toInt = (q_I r25 12 7 a0).toInt := congrArg Int32.toInt (by rw [e57]; exact rI_o (by decide))
      have f210 := ti_b (q_I r25 12 7 a0)
      have f211 : (q_I r25 12 7 a0).toInt = (q_I δ 12 7 a0).toInt := congrArg Int32.toInt (u30 12 7 a0 (by decide))
      have f212 := cb_12_27 i147 k_a0
      have f213 : (q_I d145 12 27 a0).toInt = ((q_I r125 12 27 a0) + (1 : Int32)).toInt := congrArg Int32.toInt (show q_I d145 12 27 a0 = ((q_I r125 12 27 a0) + (1 : Int32)) by rw [e146]; exact rI_s)
      refine ok_bind (hT a0 d145 k_a0 (show (q_I d145 12 24 a0).toInt ≤ 3 by first | assumption | omega) (show (q_I d145 12 26 a0).toInt ≤ (q_I d145 12 4 a0).toInt by first | assumption | omega) (show (q_I d145 12 7 a0).toInt = 0 by first | assumption | omega) (show 4 - (q_I d145 12 27 a0).toInt < _ by first | assumption | omega) i147) (fun r168 hr169 => ?_)
      obtain ⟨i214, ⟨u221, u222, u223⟩, p215, p216, p217, p218, p219, p220⟩ := hr169
      have u224 := kp_t u165 u221
      have v225 : q_V r168 = q_V δ := (u222).trans v166
      have v226 := kr_t v167 u223
      have f227 := cb_12_4 i214 k_a0
      have f228 := cb_12_5 i147 k_a0
      have f229 : (q_I d145 12 5 a0).toInt = (q_I r125 12 5 a0).toInt := congrArg Int32.toInt (by rw [e146]; exact rI_o (by decide))
      have f230 := cb_12_5 i214 k_a0
      have f231 := ti_b (q_I r168 12 7 a0)
      have f232 := cb_12_27 i214 k_a0
      have f233 := cb_12_26 i214 k_a0
      first | (have q238 := te_subc (c := 1) (n := 1) rfl (q_I r168 12 27 a0) (by omega) (by omega); obtain ⟨f239, f240, f241⟩ := q238) | (obtain ⟨q238, f239, f240, f241⟩ := ti_subc (c := 1) (n := 1) rfl (q_I r168 12 27 a0))
      refine ok_bdv (fun d234 e235 => ?_)
      have i236 : RI ad h.1 δ0 d234 := by rw [e235]; exact cs_12_27 L i214 k_a0 (show 0 ≤ ((q_I r168 12 27 a0) - (1 : Int32)).toInt by omega) (show ((q_I r168 12 27 a0) - (1 : Int32)).toInt ≤ 3 by omega)
      have u242 := kp_I u224 e235
      have v243 : q_V d234 = q_V δ := ((show q_V d234 = q_V r168 by rw [e235]; rfl)).trans v225
      have v244 := kr_N v226 (show q_R d234 = q_R r168 by rw [e235]; rfl)
      refine ok_bind (k_X12_sign L hN (a0 := a0) (x1 := (93 : Int32)) k_a0 (show (93 : Int) ≠ 0 by first | assumption | omega) i236) (fun r245 hr246 => ?_)
      obtain ⟨i247, ⟨u251, u252, u253, u254⟩, p248, p249, p250⟩ := hr246
      have u255 := kp_t u242 u251
      have v256 : q_V r245 = q_V δ := (u252).trans v243
      have v257 := kr_t v244 u254
      have f258 := cb_12_4 i236 k_a0
      have f259 : (q_I d234 12 4 a0).toInt = (q_I r168 12 4 a0).toInt := congrArg Int32.toInt (by rw [e235]; exact rI_o (by decide))
      have f260 := cb_12_4 i247 k_a0
      have f261 := cb_12_5 i236 k_a0
      have f262 : (q_I d234 12 5 a0).toInt = (q_I r168 12 5 a0).toInt := congrArg Int32.toInt (by rw [e235]; exact rI_o (by decide))
      have f263 := cb_12_5 i247 k_a0
      have ns264 : NS ad a0 d234 r245 := ⟨u254 112 (by decide) (by decide) (by decide), u254 113 (by decide) (by decide) (by decide), u254 114 (by decide) (by decide) (by decide), u254 115 (by decide) (by decide) (by decide), u254 116 (by decide) (by decide) (by decide), u251 12 24 _ (by decide), u251 12 25 _ (by decide), u251 12 26 _ (by decide), u251 12 27 _ (by decide), fun z => by omega⟩
      obtain ⟨b265, o266, k267, n268, w269⟩ := gO_12_31 L k_a0
      obtain rfl := gS_12_31 L k_a0 o266
      refine ok_at o266 ?_
      refine ok_gd (fun hc270 => ?_) ?_
      · rcases hc270 with hc270 | hc270
        · have c271 : vx41.toInt < (0 : Int) := o_lt hc270
          omega
        · omega
      refine ok_bdv (fun d272 e273 => ?_)
      have i274 : RI ad h.1 δ0 d272 := by rw [e273]; exact RI.sR L i247 w269
      have u275 := kp_N u255 (show q_I d272 = q_I r245 by rw [e273]; rfl)
      have v276 : q_V d272 = q_V δ := ((show q_V d272 = q_V r245 by rw [e273]; rfl)).trans v256
      have v277 := kr_s L (by decide) v257 e273
      unfold J_X12_readSteps_236
      have f278 := cb_12_24 i274 k_a0
      have f279 : (q_I d272 12 24 a0).toInt = (q_I r245 12 24 a0).toInt := congrArg Int32.toInt (by rw [e273]; rfl)
      have f280 := cb_12_24 i247 k_a0
      have f281 : (q_I r245 12 24 a0).toInt = (q_I d234 12 24 a0).toInt := congrArg Int32.toInt (u251 12 24 a0 (by decide))
      have f282 := cb_12_24 i236 k_a0
      have f283 : (q_I d234 12 24 a0).toInt = (q_I r168 12 24 a0).toInt := congrArg Int32.toInt (by rw [e235]; exact rI_o (by decide))
      have f284 := cb_12_24 i214 k_a0
      have f285 : (q_I r168 12 24 a0).toInt = (q_I d145 12 24 a0).toInt := congrArg Int32.toInt (u221 12 24 a0 (by decide))
      have f286 := cb_12_26 i274 k_a0
      have f287 : (q_I d272 12 26 a0).toInt = (q_I r245 12 26 a0).toInt := congrArg Int32.toInt (by rw [e273]; rfl)
      have f288 := cb_12_26 i247 k_a0
      have f289 : (q_I r245 12 26 a0).toInt = (q_I d234 12 26 a0).toInt := congrArg Int32.toInt (u251 12 26 a0 (by decide))
      have f290 := cb_12_26 i236 k_a0
      have f291 : (q_I d234 12 26 a0).toInt = (q_I r168 12 26 a0).toInt := congrArg Int32.toInt (by rw [e235]; exact rI_o (by decide))
      have f292 := cb_12_4 i274 k_a0
      have f293 : (q_I d272 12 4 a0).toInt = (q_I r245 12 4 a0).toInt := congrArg Int32.toInt (by rw [e273]; rfl)
      have f294 := ti_b (q_I d272 12 7 a0)
      have f295 : (q_I d272 12 7 a0).toInt = (q_I r245 12 7 a0).toInt := congrArg Int32.toInt (by rw [e273]; rfl)
      have f296 := ti_b (q_I r245 12 7 a0)
      have f297 : (q_I r245 12 7 a0).toInt = (q_I d234 12 7 a0).toInt := congrArg Int32.toInt (u251 12 7 a0 (by decide))
      have f298 := ti_b (q_I d234 12 7 a0)
      have f299 : (q_I d234 12 7 a0).toInt = (q_I r168 12 7 a0).toInt := congrArg Int32.toInt (by rw [e235]; exact rI_o (by decide))
      have f300 := cb_12_27 i274 k_a0
      have f301 : (q_I d272 12 27 a0).toInt = (q_I r245 12 27 a0).toInt := congrArg Int32.toInt (by rw [e273]; rfl)
      have f302 := cb_12_27 i247 k_a0
      have f303 : (q_I r245 12 27 a0).toInt = (q_I d234 12 27 a0).toInt := congrArg Int32.toInt (u251 12 27 a0 (by decide))
      have f304 := cb_12_27 i236 k_a0
      have f305 : (q_I d234 12 27 a0).toInt = ((q_I r168 12 27 a0) - (1 : Int32)).toInt := congrArg Int32.toInt (show q_I d234 12 27 a0 = ((q_I r168 12 27 a0) - (1 : Int32)) by rw [e235]; exact rI_s)
      refine ok_mono (h_kt0 d272 i274 (show (q_I d272 12 24 a0).toInt ≤ 3 by first | assumption | omega) (show (q_I d272 12 26 a0).toInt ≤ (q_I d272 12 4 a0).toInt by first | assumption | omega) (show (q_I d272 12 7 a0).toInt = 0 by first | assumption | omega) (show 4 - (q_I d272 12 27 a0).toInt ≤ K by first | assumption | omega) (show 501 - (q_I d272 12 4 a0).toInt < _ by omega)) (fun r306 hr307 => ?_)
      obtain ⟨i308, ⟨u315, u316, u317⟩, p309, p310, p311, p312, p313, p314⟩ := hr307
      have u318 := kp_t u275 u315
      have v319 : q_V r306 = q_V δ := (u316).trans v276
      have v320 := kr_t v277 u317
      have f321 := cb_12_4 i308 k_a0
      have f322 := cb_12_5 i274 k_a0
      have f323 : (q_I d272 12 5 a0).toInt = (q_I r245 12 5 a0).toInt := congrArg Int32.toInt (by rw [e273]; rfl)
      have f324 := cb_12_5 i308 k_a0
      have f325 := ti_b (q_I r306 12 7 a0)
      have f326 := cb_12_27 i308 k_a0
      have f327 := cb_12_26 i308 k_a0
      have ss328 : NS ad a0 δ r25 := NS.t NS.r ns38
      have f330 := cb_12_25 i214 k_a0
      have f331 := cb_12_25 i247 k_a0
      have f332 : (q_I r245 12 25 a0).toInt = (q_I d234 12 25 a0).toInt := congrArg Int32.toInt (u251 12 25 a0 (by decide))
      have f333 := cb_12_25 i236 k_a0
      have f334 : (q_I d234 12 25 a0).toInt = (q_I r168 12 25 a0).toInt := congrArg Int32.toInt (by rw [e235]; exact rI_o (by decide))
      have ss329 : SS ad a0 δ d272 := SS.times L ss328 e57 e76 ns116 e120 ns144 e146 p220 e235 ns264 e273 (by omega) (by omega) (by omega) (by omega) (show ((vx41.toNatClampNeg : Nat) : Int) = 60 * (q_I δ 12 24 a0).toInt + (q_I δ 12 25 a0).toInt by omega) (show ((q_I r25 12 25 a0) + (1 : Int32)).toInt = (q_I δ 12 25 a0).toInt + 1 by omega) (show x1v.toInt = 5 by omega) (show r88.1.toInt ≤ 1000000 by omega) (show ((q_I r125 12 27 a0) + (1 : Int32)).toInt = (q_I δ 12 27 a0).toInt + 1 by omega) (show ((q_I r168 12 27 a0) - (1 : Int32)).toInt = (q_I r168 12 27 a0).toInt - 1 by omega) (show (q_I r245 12 25 a0).toInt = (q_I r245 12 25 a0).toInt by omega)
      have ss335 : SS ad a0 δ r306 := SS.t ss329 p314
      exact ⟨by assumption, ⟨kp_w (by decide) u318, v319, kr_w (by decide) v320⟩, by first | assumption | omega, by first | assumption | omega, by first | assumption | omega, by first | assumption | omega, by first | assumption | omega, ss335⟩
    · have c336 : x1v.toInt ≠ (5 : Int) := o_ne h81
      obtain ⟨b337, o338, k339, n340, w341⟩ := gO_12_30 L k_a0
      obtain rfl := gS_12_30 L k_a0 o338
      refine ok_at o338 ?_
      refine ok_gd (fun hc342 => ?_) ?_
      · rcases hc342 with hc342 | hc342
        · have c343 : vx41.toInt < (0 : Int) := o_lt hc342
          omega
        · omega
      refine ok_bdv (fun d344 e345 => ?_)
      have i346 : RI ad h.1 δ0 d344 := by rw [e345]; exact RI.sR L i77 w341
      have u347 := kp_N u78 (show q_I d344 = q_I d75 by rw [e345]; rfl)
      have v348 : q_V d344 = q_V δ := ((show q_V d344 = q_V d75 by rw [e345]; rfl)).trans v79
      have v349 := kr_s L (by decide) v80 e345
      have f352 := cb_12_24 i346 k_a0
      have f353 : (q_I d344 12 24 a0).toInt = (q_I d75 12 24 a0).toInt := congrArg Int32.toInt (by rw [e345]; rfl)
      have f354 := cb_12_24 i77 k_a0
      have f355 : (q_I d75 12 24 a0).toInt = (q_I d56 12 24 a0).toInt := congrArg Int32.toInt (by rw [e76]; rfl)
      have f356 := cb_12_24 i58 k_a0
      have f357 : (q_I d56 12 24 a0).toInt = (q_I r25 12 24 a0).toInt := congrArg Int32.toInt (by rw [e57]; exact rI_o (by decide))
      have f358 := cb_12_26 i346 k_a0
      have f359 : (q_I d344 12 26 a0).toInt = (q_I d75 12 26 a0).toInt := congrArg Int32.toInt (by rw [e345]; rfl)
      have f360 := cb_12_26 i77 k_a0
      have f361 : (q_I d75 12 26 a0).toInt = (q_I d56 12 26 a0).toInt := congrArg Int32.toInt (by rw [e76]; rfl)
      have f362 := cb_12_26 i58 k_a0
      have f363 : (q_I d56 12 26 a0).toInt = (q_I r25 12 26 a0).toInt := congrArg Int32.toInt (by rw [e57]; exact rI_o (by decide))
      have f364 := cb_12_26 i27 k_a0
      have f365 : (q_I r25 12 26 a0).toInt = (q_I δ 12 26 a0).toInt := congrArg Int32.toInt (u30 12 26 a0 (by decide))
      have f366 := cb_12_4 i346 k_a0
      have f367 : (q_I d344 12 4 a0).toInt = (q_I d75 12 4 a0).toInt := congrArg Int32.toInt (by rw [e345]; rfl)
      have f368 := cb_12_4 i77 k_a0
      have f369 : (q_I d75 12 4 a0).toInt = (q_I d56 12 4 a0).toInt := congrArg Int32.toInt (by rw [e76]; rfl)
      have f370 := cb_12_4 i58 k_a0
      have f371 : (q_I d56 12 4 a0).toInt = (q_I r25 12 4 a0).toInt := congrArg Int32.toInt (by rw [e57]; exact rI_o (by decide))
      have f372 := ti_b (q_I d344 12 7 a0)
      have f373 : (q_I d344 12 7 a0).toInt = (q_I d75 12 7 a0).toInt := congrArg Int32.toInt (by rw [e345]; rfl)
      have f374 := ti_b (q_I d75 12 7 a0)
      have f375 : (q_I d75 12 7 a0).toInt = (q_I d56 12 7 a0).toInt := congrArg Int32.toInt (by rw [e76]; rfl)
      have f376 := ti_b (q_I d56 12 7 a0)
      have f377 : (q_I d56 12 7 a0).toInt = (q_I r25 12 7 a0).toInt := congrArg Int32.toInt (by rw [e57]; exact rI_o (by decide))
      have f378 := ti_b (q_I r25 12 7 a0)
      have f379 : (q_I r25 12 7 a0).toInt = (q_I δ 12 7 a0).toInt := congrArg Int32.toInt (u30 12 7 a0 (by decide))
      have f380 := cb_12_5 i346 k_a0
      have f381 : (q_I d344 12 5 a0).toInt = (q_I d75 12 5 a0).toInt := congrArg Int32.toInt (by rw [e345]; rfl)
      have f382 := cb_12_5 i77 k_a0
      have f383 : (q_I d75 12 5 a0).toInt = (q_I d56 12 5 a0).toInt := congrArg Int32.toInt (by rw [e76]; rfl)
      have f384 := cb_12_5 i58 k_a0
      have f385 : (q_I d56 12 5 a0).toInt = (q_I r25 12 5 a0).toInt := congrArg Int32.toInt (by rw [e57]; exact rI_o (by decide))
      refine ok_bind (k_X12_sum L hN (a0 := a0) k_a0 (show (q_I d344 12 24 a0).toInt ≤ 3 by first | assumption | omega) (show (q_I d344 12 26 a0).toInt ≤ (q_I d344 12 4 a0).toInt by first | assumption | omega) (show 0 ≤ (q_I d344 12 7 a0).toInt by first | assumption | omega) (show (q_I d344 12 7 a0).toInt ≤ 7 by first | assumption | omega) (show (q_I d344 12 7 a0).toInt = 7 → 0 ≤ (q_I d344 12 5 a0).toInt by first | assumption | omega) (show 8 - (q_I d344 12 7 a0).toInt < 20 by first | assumption | omega) i346) (fun r350 hr351 => ?_)
      obtain ⟨i386, ⟨u393, u394, u395⟩, p387, p388, p389, p390, p391, p392⟩ := hr351
      have u396 := kp_t u347 u393
      have v397 : q_V r350 = q_V δ := (u394).trans v348
      have v398 := kr_t v349 u395
      have f399 := cb_12_4 i386 k_a0
      have f400 := cb_12_5 i386 k_a0
      have f401 := ti_b (q_I r350 12 7 a0)
      have f402 := cb_12_26 i386 k_a0
      obtain ⟨b403, o404, k405, n406, w407⟩ := gO_12_31 L k_a0
      obtain rfl := gS_12_31 L k_a0 o404
      refine ok_at o404 ?_
      refine ok_gd (fun hc408 => ?_) ?_
      · rcases hc408 with hc408 | hc408
        · have c409 : vx41.toInt < (0 : Int) := o_lt hc408
          omega
        · omega
      refine ok_bdv (fun d410 e411 => ?_)
      have i412 : RI ad h.1 δ0 d410 := by rw [e411]; exact RI.sR L i386 w407
      have u413 := kp_N u396 (show q_I d410 = q_I r350 by rw [e411]; rfl)
      have v414 : q_V d410 = q_V δ := ((show q_V d410 = q_V r350 by rw [e411]; rfl)).trans v397
      have v415 := kr_s L (by decide) v398 e411
      refine ok_bind (k_X12_sign L hN (a0 := a0) (x1 := (59 : Int32)) k_a0 (show (59 : Int) ≠ 0 by first | assumption | omega) i412) (fun r416 hr417 => ?_)
      obtain ⟨i418, ⟨u422, u423, u424, u425⟩, p419, p420, p421⟩ := hr417
      have u426 := kp_t u413 u422
      have v427 : q_V r416 = q_V δ := (u423).trans v414
      have v428 := kr_t v415 u425
      have f429 := cb_12_4 i412 k_a0
      have f430 : (q_I d410 12 4 a0).toInt = (q_I r350 12 4 a0).toInt := congrArg Int32.toInt (by rw [e411]; rfl)
      have f431 := cb_12_4 i418 k_a0
      have f432 := cb_12_5 i412 k_a0
      have f433 : (q_I d410 12 5 a0).toInt = (q_I r350 12 5 a0).toInt := congrArg Int32.toInt (by rw [e411]; rfl)
      have f434 := cb_12_5 i418 k_a0
      have ns435 : NS ad a0 d410 r416 := ⟨u425 112 (by decide) (by decide) (by decide), u425 113 (by decide) (by decide) (by decide), u425 114 (by decide) (by decide) (by decide), u425 115 (by decide) (by decide) (by decide), u425 116 (by decide) (by decide) (by decide), u422 12 24 _ (by decide), u422 12 25 _ (by decide), u422 12 26 _ (by decide), u422 12 27 _ (by decide), fun z => by omega⟩
      unfold J_X12_readSteps_236
      have f436 := cb_12_24 i418 k_a0
      have f437 : (q_I r416 12 24 a0).toInt = (q_I d410 12 24 a0).toInt := congrArg Int32.toInt (u422 12 24 a0 (by decide))
      have f438 := cb_12_24 i412 k_a0
      have f439 : (q_I d410 12 24 a0).toInt = (q_I r350 12 24 a0).toInt := congrArg Int32.toInt (by rw [e411]; rfl)
      have f440 := cb_12_24 i386 k_a0
      have f441 : (q_I r350 12 24 a0).toInt = (q_I d344 12 24 a0).toInt := congrArg Int32.toInt (u393 12 24 a0 (by decide))
      have f442 := cb_12_26 i418 k_a0
      have f443 : (q_I r416 12 26 a0).toInt = (q_I d410 12 26 a0).toInt := congrArg Int32.toInt (u422 12 26 a0 (by decide))
      have f444 := cb_12_26 i412 k_a0
      have f445 : (q_I d410 12 26 a0).toInt = (q_I r350 12 26 a0).toInt := congrArg Int32.toInt (by rw [e411]; rfl)
      have f446 := ti_b (q_I r416 12 7 a0)
      have f447 : (q_I r416 12 7 a0).toInt = (q_I d410 12 7 a0).toInt := congrArg Int32.toInt (u422 12 7 a0 (by decide))
      have f448 := ti_b (q_I d410 12 7 a0)
      have f449 : (q_I d410 12 7 a0).toInt = (q_I r350 12 7 a0).toInt := congrArg Int32.toInt (by rw [e411]; rfl)
      have f450 := cb_12_27 i418 k_a0
      have f451 : (q_I r416 12 27 a0).toInt = (q_I d410 12 27 a0).toInt := congrArg Int32.toInt (u422 12 27 a0 (by decide))
      have f452 := cb_12_27 i412 k_a0
      have f453 : (q_I d410 12 27 a0).toInt = (q_I r350 12 27 a0).toInt := congrArg Int32.toInt (by rw [e411]; rfl)
      have f454 := cb_12_27 i386 k_a0
      have f455 : (q_I r350 12 27 a0).toInt = (q_I d344 12 27 a0).toInt := congrArg Int32.toInt (u393 12 27 a0 (by decide))
      have f456 := cb_12_27 i346 k_a0
      have f457 : (q_I d344 12 27 a0).toInt = (q_I d75 12 27 a0).toInt := congrArg Int32.toInt (by rw [e345]; rfl)
      have f458 := cb_12_27 i77 k_a0
      have f459 : (q_I d75 12 27 a0).toInt = (q_I d56 12 27 a0).toInt := congrArg Int32.toInt (by rw [e76]; rfl)
      have f460 := cb_12_27 i58 k_a0
      have f461 : (q_I d56 12 27 a0).toInt = (q_I r25 12 27 a0).toInt := congrArg Int32.toInt (by rw [e57]; exact rI_o (by decide))
      have f462 := cb_12_27 i27 k_a0
      have f463 : (q_I r25 12 27 a0).toInt = (q_I δ 12 27 a0).toInt := congrArg Int32.toInt (u30 12 27 a0 (by decide))
      refine ok_mono (h_kt0 r416 i418 (show (q_I r416 12 24 a0).toInt ≤ 3 by first | assumption | omega) (show (q_I r416 12 26 a0).toInt ≤ (q_I r416 12 4 a0).toInt by first | assumption | omega) (show (q_I r416 12 7 a0).toInt = 0 by first | assumption | omega) (show 4 - (q_I r416 12 27 a0).toInt ≤ K by first | assumption | omega) (show 501 - (q_I r416 12 4 a0).toInt < _ by omega)) (fun r464 hr465 => ?_)
      obtain ⟨i466, ⟨u473, u474, u475⟩, p467, p468, p469, p470, p471, p472⟩ := hr465
      have u476 := kp_t u426 u473
      have v477 : q_V r464 = q_V δ := (u474).trans v427
      have v478 := kr_t v428 u475
      have f479 := cb_12_4 i466 k_a0
      have f480 := cb_12_5 i466 k_a0
      have f481 := ti_b (q_I r464 12 7 a0)
      have f482 := cb_12_27 i466 k_a0
      have f483 := cb_12_26 i466 k_a0
      have ss484 : NS ad a0 δ r25 := NS.t NS.r ns38
      first | (have q487 := te_mulc (c := 500) (n := 500) rfl (q_I d75 12 24 a0) (by omega) (by omega); obtain ⟨f488, f489, f490⟩ := q487) | (obtain ⟨q487, f488, f489, f490⟩ := ti_mulc (c := 500) (n := 500) rfl (q_I d75 12 24 a0))
      first | (have q492 := te_add ((500 : Int32) * (q_I d75 12 24 a0)) (q_I d75 12 26 a0) (by omega) (by omega); obtain ⟨f493, f494, f495⟩ := q492) | (obtain ⟨q492, f493, f494, f495⟩ := ti_add ((500 : Int32) * (q_I d75 12 24 a0)) (q_I d75 12 26 a0))
      first | (have q497 := te_mulc (c := 500) (n := 500) rfl (q_I r350 12 24 a0) (by omega) (by omega); obtain ⟨f498, f499, f500⟩ := q497) | (obtain ⟨q497, f498, f499, f500⟩ := ti_mulc (c := 500) (n := 500) rfl (q_I r350 12 24 a0))
      first | (have q502 := te_add ((500 : Int32) * (q_I r350 12 24 a0)) (q_I r350 12 26 a0) (by omega) (by omega); obtain ⟨f503, f504, f505⟩ := q502) | (obtain ⟨q502, f503, f504, f505⟩ := ti_add ((500 : Int32) * (q_I r350 12 24 a0)) (q_I r350 12 26 a0))
      have ss485 : SS ad a0 δ r416 := SS.call L ss484 e57 e76 e345 p392 (u395 113 (by decide) (by decide) (by decide)) (u395 114 (by decide) (by decide) (by decide)) (u395 115 (by decide) (by decide) (by decide)) (u393 12 25 _ (by decide)) (u393 12 27 _ (by decide)) e411 ns435 (by omega) (by omega) (by omega) (by omega) (by omega) (by omega) (show ((vx41.toNatClampNeg : Nat) : Int) = 60 * (q_I δ 12 24 a0).toInt + (q_I δ 12 25 a0).toInt by omega) (show ((q_I r25 12 25 a0) + (1 : Int32)).toInt = (q_I δ 12 25 a0).toInt + 1 by omega) (show 0 ≤ x1v.toInt by omega) (show x1v.toInt ≤ 4 by omega) (show (((500 : Int32) * (q_I d75 12 24 a0)) + (q_I d75 12 26 a0)).toInt = 500 * (q_I d344 12 24 a0).toInt + (q_I d344 12 26 a0).toInt by omega) (show (((500 : Int32) * (q_I r350 12 24 a0)) + (q_I r350 12 26 a0)).toInt = 500 * (q_I r350 12 24 a0).toInt + (q_I r350 12 26 a0).toInt by omega)
      have ss506 : SS ad a0 δ r464 := SS.t ss485 p472
      exact ⟨by assumption, ⟨kp_w (by decide) u476, v477, kr_w (by decide) v478⟩, by first | assumption | omega, by first | assumption | omega, by first | assumption | omega, by first | assumption | omega, by first | assumption | omega, ss506⟩
set_option maxHeartbeats 4000000 in
theorem kl_X12_readSteps_0 {ad : List Nat} {h : hp} (L : Lay TLx ad h) {δ0 : dp} {N : Nat} (hN : 10000000 ≤ N) {T : Nat → dp → Option (dp)} {K : Int} (hT : ∀ (a0 : Nat) (δ : dp), q_K h.1 a0 = 12 → (q_I δ 12 24 a0).toInt ≤ 3 → (q_I δ 12 26 a0).toInt ≤ (q_I δ 12 4 a0).toInt → (q_I δ 12 7 a0).toInt = 0 → 4 - (q_I δ 12 27 a0).toInt < K → RI ad h.1 δ0 δ → ok (T a0 δ) (fun r => RI ad h.1 δ0 r ∧ (kp [(12, 4), (12, 5), (12, 6), (12, 7), (12, 25), (12, 26), (12, 27)] δ r ∧ q_V r = q_V δ ∧ kr ad [113, 114, 115, 116, 117] δ r) ∧ (q_I δ 12 4 a0).toInt ≤ (q_I r 12 4 a0).toInt ∧ (q_I δ 12 5 a0).toInt ≤ (q_I r 12 5 a0).toInt ∧ (q_I r 12 7 a0).toInt = (q_I δ 12 7 a0).toInt ∧ (q_I r 12 27 a0).toInt = (q_I δ 12 27 a0).toInt ∧ (q_I r 12 26 a0).toInt ≤ (q_I r 12 4 a0).toInt ∧ SS ad a0 δ r)) {a0 : Nat} (k_a0 : q_K h.1 a0 = 12) : ∀ (n : Nat) (δ : dp), RI ad h.1 δ0 δ → (q_I δ 12 24 a0).toInt ≤ 3 → (q_I δ 12 26 a0).toInt ≤ (q_I δ 12 4 a0).toInt → (q_I δ 12 7 a0).toInt = 0 → 4 - (q_I δ 12 27 a0).toInt ≤ K → 501 - (q_I δ 12 4 a0).toInt < (n : Int) → ok (L_X12_readSteps_0 N h.1 T a0 n δ) (fun r => RI ad h.1 δ0 r ∧ (kp [(12, 4), (12, 5), (12, 6), (12, 7), (12, 25), (12, 26), (12, 27)] δ r ∧ q_V r = q_V δ ∧ kr ad [113, 114, 115, 116, 117] δ r) ∧ (q_I δ 12 4 a0).toInt ≤ (q_I r 12 4 a0).toInt ∧ (q_I δ 12 5 a0).toInt ≤ (q_I r 12 5 a0).toInt ∧ (q_I r 12 7 a0).toInt = (q_I δ 12 7 a0).toInt ∧ (q_I r 12 27 a0).toInt = (q_I δ 12 27 a0).toInt ∧ (q_I r 12 26 a0).toInt ≤ (q_I r 12 4 a0).toInt ∧ SS ad a0 δ r) := by
  intro n
  induction n with
  | zero =>
    intro δ I j0 j1 j2 j3 hm
    have f1 := cb_12_24 I k_a0
    have f2 := cb_12_26 I k_a0
    have f3 := cb_12_4 I k_a0
    have f4 := ti_b (q_I δ 12 7 a0)
    have f5 := cb_12_27 I k_a0
    exfalso; omega
  | succ n ih =>
    intro δ I j0 j1 j2 j3 hm
    unfold L_X12_readSteps_0
    have f1 := cb_12_24 I k_a0
    have f2 := cb_12_26 I k_a0
    have f3 := cb_12_4 I k_a0
    have f4 := ti_b (q_I δ 12 7 a0)
    have f5 := cb_12_27 I k_a0
    refine ok_bind (k_X12_fine L hN (a0 := a0) k_a0 I) (fun r6 hr7 => ?_)
    obtain ⟨i8, p9, p10, p11⟩ := hr7
    try rw [i8]
    have f12 := bo_l p9
    have f13 := cb_12_5 I k_a0
    have f14 := ti_b r6.1
    have f15 := ti_b r6.1
    refine ok_ite (fun h16 => ?_) (fun h16 => ?_)
    · have c17 : r6.1.toInt = (0 : Int) := o_eq h16
      unfold J_X12_readSteps_239
      exact ok_some (show RI ad h.1 δ0 δ ∧ (kp [(12, 4), (12, 5), (12, 6), (12, 7), (12, 25), (12, 26), (12, 27)] δ δ ∧ q_V δ = q_V δ ∧ kr ad [113, 114, 115, 116, 117] δ δ) ∧ (q_I δ 12 4 a0).toInt ≤ (q_I δ 12 4 a0).toInt ∧ (q_I δ 12 5 a0).toInt ≤ (q_I δ 12 5 a0).toInt ∧ (q_I δ 12 7 a0).toInt = (q_I δ 12 7 a0).toInt ∧ (q_I δ 12 27 a0).toInt = (q_I δ 12 27 a0).toInt ∧ (q_I δ 12 26 a0).toInt ≤ (q_I δ 12 4 a0).toInt ∧ SS ad a0 δ δ from ⟨I, ⟨kp_w (by decide) kp_r, rfl, kr_w (by decide) (kr_r (ad := ad))⟩, by first | assumption | omega, by first | assumption | omega, by first | assumption | omega, by first | assumption | omega, by first | assumption | omega, SS.n NS.r⟩)
    · have c18 : r6.1.toInt ≠ (0 : Int) := o_ne h16
      refine ok_bind (k_X12_isMore L hN (a0 := a0) k_a0 I) (fun r19 hr20 => ?_)
      obtain ⟨i21, ⟨u25, u26, u27, u28⟩, p22, p23, p24⟩ := hr20
      have u29 := kp_t kp_r u25
      have v30 : q_V r19.2 = q_V δ := (u26).trans rfl
      have v31 := kr_t (kr_r (ad := ad)) u28
      have f32 := bo_l p22
      have f33 := cb_12_4 i21 k_a0
      have f34 := ti_b r19.1
      have f35 := cb_12_3 I k_a0
      have f36 := ti_b r19.1
      have f38 := cb_12_5 i21 k_a0
      have f39 : (q_I r19.2 12 5 a0).toInt = (q_I δ 12 5 a0).toInt := congrArg Int32.toInt (u25 12 5 a0 (by decide))
      have ns37 : NS ad a0 δ r19.2 := ⟨u28 112 (by decide) (by decide) (by decide), u28 113 (by decide) (by decide) (by decide), u28 114 (by decide) (by decide) (by decide), u28 115 (by decide) (by decide) (by decide), u28 116 (by decide) (by decide) (by decide), u25 12 24 _ (by decide), u25 12 25 _ (by decide), u25 12 26 _ (by decide), u25 12 27 _ (by decide), fun z => by omega⟩
      refine ok_ite (fun h40 => ?_) (fun h40 => ?_)
      · have c41 : r19.1.toInt = (0 : Int) := o_eq h40
        unfold J_X12_readSteps_239
        have f42 := ti_b (q_I r19.2 12 7 a0)
        have f43 : (q_I r19.2 12 7 a0).toInt = (q_I δ 12 7 a0).toInt := congrArg Int32.toInt (u25 12 7 a0 (by decide))
        have f44 := cb_12_27 i21 k_a0
        have f45 : (q_I r19.2 12 27 a0).toInt = (q_I δ 12 27 a0).toInt := congrArg Int32.toInt (u25 12 27 a0 (by decide))
        have f46 := cb_12_26 i21 k_a0
        have f47 : (q_I r19.2 12 26 a0).toInt = (q_I δ 12 26 a0).toInt := congrArg Int32.toInt (u25 12 26 a0 (by decide))
        have ss48 : NS ad a0 δ r19.2 := NS.t NS.r ns37
        exact ok_some (show RI ad h.1 δ0 r19.2 ∧ (kp [(12, 4), (12, 5), (12, 6), (12, 7), (12, 25), (12, 26), (12, 27)] δ r19.2 ∧ q_V r19.2 = q_V δ ∧ kr ad [113, 114, 115, 116, 117] δ r19.2) ∧ (q_I δ 12 4 a0).toInt ≤ (q_I r19.2 12 4 a0).toInt ∧ (q_I δ 12 5 a0).toInt ≤ (q_I r19.2 12 5 a0).toInt ∧ (q_I r19.2 12 7 a0).toInt = (q_I δ 12 7 a0).toInt ∧ (q_I r19.2 12 27 a0).toInt = (q_I δ 12 27 a0).toInt ∧ (q_I r19.2 12 26 a0).toInt ≤ (q_I r19.2 12 4 a0).toInt ∧ SS ad a0 δ r19.2 from ⟨i21, ⟨kp_w (by decide) u29, v30, kr_w (by decide) v31⟩, by first | assumption | omega, by first | assumption | omega, by first | assumption | omega, by first | assumption | omega, by first | assumption | omega, SS.n ss48⟩)
      · have c49 : r19.1.toInt ≠ (0 : Int) := o_ne h40
        refine ok_bind (k_X12_here L hN (a0 := a0) k_a0 i21) (fun r50 hr51 => ?_)
        obtain ⟨i52, ⟨u56, u57, u58, u59⟩, p53, p54, p55⟩ := hr51
        have u60 := kp_t u29 u56
        have v61 : q_V r50.2 = q_V δ := (u57).trans v30
        have v62 := kr_t v31 u59
        have f63 := cb_12_4 i52 k_a0
        have f64 : hc ad r50.2 a0 = (q_R r50.2 (Ad ad 101) (q_I r50.2 12 4 a0).toNatClampNeg).toInt := rfl
        have t65 := ti_tn (q_I r50.2 12 4 a0)
        have f66 : (q_R r50.2 (Ad ad 101) (q_I r50.2 12 4 a0).toNatClampNeg).toInt = (q_R r19.2 (Ad ad 101) (q_I r50.2 12 4 a0).toNatClampNeg).toInt := congrArg Int32.toInt (congrFun (u59 101 (by decide) (by decide) (by decide)) _)
        have f67 : (q_R r19.2 (Ad ad 101) (q_I r50.2 12 4 a0).toNatClampNeg).toInt = (q_R δ (Ad ad 101) (q_I r50.2 12 4 a0).toNatClampNeg).toInt := congrArg Int32.toInt (congrFun (u28 101 (by decide) (by decide) (by decide)) _)
        have f68 := ti_b (q_R δ (Ad ad 101) (q_I r50.2 12 4 a0).toNatClampNeg)
        have f69 := ti_b (q_R r19.2 (Ad ad 101) (q_I r50.2 12 4 a0).toNatClampNeg)
        have f70 := ti_b (q_R r50.2 (Ad ad 101) (q_I r50.2 12 4 a0).toNatClampNeg)
        have f71 := ti_b r50.1
        have f72 := cb_12_3 i21 k_a0
        have f73 : (q_I r19.2 12 3 a0).toInt = (q_I δ 12 3 a0).toInt := congrArg Int32.toInt (u25 12 3 a0 (by decide))
        have f74 : hc ad r19.2 a0 = (q_R r19.2 (Ad ad 101) (q_I r19.2 12 4 a0).toNatClampNeg).toInt := rfl
        have t75 := ti_tn (q_I r19.2 12 4 a0)
        have f76 : (q_R r19.2 (Ad ad 101) (q_I r19.2 12 4 a0).toNatClampNeg).toInt = (q_R δ (Ad ad 101) (q_I r19.2 12 4 a0).toNatClampNeg).toInt := congrArg Int32.toInt (congrFun (u28 101 (by decide) (by decide) (by decide)) _)
        have f77 := ti_b (q_R δ (Ad ad 101) (q_I r19.2 12 4 a0).toNatClampNeg)
        have f78 := ti_b (q_R r19.2 (Ad ad 101) (q_I r19.2 12 4 a0).toNatClampNeg)
        have f79 := ti_b r50.1
        have f81 := cb_12_5 i52 k_a0
        have f82 : (q_I r50.2 12 5 a0).toInt = (q_I r19.2 12 5 a0).toInt := congrArg Int32.toInt (u56 12 5 a0 (by decide))
        have ns80 : NS ad a0 r19.2 r50.2 := ⟨u59 112 (by decide) (by decide) (by decide), u59 113 (by decide) (by decide) (by decide), u59 114 (by decide) (by decide) (by decide), u59 115 (by decide) (by decide) (by decide), u59 116 (by decide) (by decide) (by decide), u56 12 24 _ (by decide), u56 12 25 _ (by decide), u56 12 26 _ (by decide), u56 12 27 _ (by decide), fun z => by omega⟩
        refine ok_ite (fun h83 => ?_) (fun h83 => ?_)
        · have c84 : r50.1.toInt = (93 : Int) := o_eq h83
          unfold J_X12_readSteps_239
          have f85 := ti_b (q_I r50.2 12 7 a0)
          have f86 : (q_I r50.2 12 7 a0).toInt = (q_I r19.2 12 7 a0).toInt := congrArg Int32.toInt (u56 12 7 a0 (by decide))
          have f87 := ti_b (q_I r19.2 12 7 a0)
          have f88 : (q_I r19.2 12 7 a0).toInt = (q_I δ 12 7 a0).toInt := congrArg Int32.toInt (u25 12 7 a0 (by decide))
          have f89 := cb_12_27 i52 k_a0
          have f90 : (q_I r50.2 12 27 a0).toInt = (q_I r19.2 12 27 a0).toInt := congrArg Int32.toInt (u56 12 27 a0 (by decide))
          have f91 := cb_12_27 i21 k_a0
          have f92 : (q_I r19.2 12 27 a0).toInt = (q_I δ 12 27 a0).toInt := congrArg Int32.toInt (u25 12 27 a0 (by decide))
          have f93 := cb_12_26 i52 k_a0
          have f94 : (q_I r50.2 12 26 a0).toInt = (q_I r19.2 12 26 a0).toInt := congrArg Int32.toInt (u56 12 26 a0 (by decide))
          have f95 := cb_12_26 i21 k_a0
          have f96 : (q_I r19.2 12 26 a0).toInt = (q_I δ 12 26 a0).toInt := congrArg Int32.toInt (u25 12 26 a0 (by decide))
          have ss97 : NS ad a0 δ r19.2 := NS.t NS.r ns37
          have ss98 : NS ad a0 δ r50.2 := NS.t ss97 ns80
          exact ok_some (show RI ad h.1 δ0 r50.2 ∧ (kp [(12, 4), (12, 5), (12, 6), (12, 7), (12, 25), (12, 26), (12, 27)] δ r50.2 ∧ q_V r50.2 = q_V δ ∧ kr ad [113, 114, 115, 116, 117] δ r50.2) ∧ (q_I δ 12 4 a0).toInt ≤ (q_I r50.2 12 4 a0).toInt ∧ (q_I δ 12 5 a0).toInt ≤ (q_I r50.2 12 5 a0).toInt ∧ (q_I r50.2 12 7 a0).toInt = (q_I δ 12 7 a0).toInt ∧ (q_I r50.2 12 27 a0).toInt = (q_I δ 12 27 a0).toInt ∧ (q_I r50.2 12 26 a0).toInt ≤ (q_I r50.2 12 4 a0).toInt ∧ SS ad a0 δ r50.2 from ⟨i52, ⟨kp_w (by decide) u60, v61, kr_w (by decide) v62⟩, by first | assumption | omega, by first | assumption | omega, by first | assumption | omega, by first | assumption | omega, by first | assumption | omega, SS.n ss98⟩)
        · have c99 : r50.1.toInt ≠ (93 : Int) := o_ne h83
          refine ok_bind (k_X12_word L hN (a0 := a0) k_a0 i52) (fun r100 hr101 => ?_)
          obtain ⟨i102, ⟨u105, u106, u107, u108⟩, p103, p104⟩ := hr101
          have u109 := kp_t u60 u105
          have v110 : q_V r100.2 = q_V δ := (u106).trans v61
          have v111 := kr_t v62 u108
          have f112 := cb_12_4 i102 k_a0
          have f113 : hc ad r100.2 a0 = (q_R r100.2 (Ad ad 101) (q_I r100.2 12 4 a0).toNatClampNeg).toInt := rfl
          have t114 := ti_tn (q_I r100.2 12 4 a0)
          have f115 : (q_R r100.2 (Ad ad 101) (q_I r100.2 12 4 a0).toNatClampNeg).toInt = (q_R r50.2 (Ad ad 101) (q_I r100.2 12 4 a0).toNatClampNeg).toInt := congrArg Int32.toInt (congrFun (u108 101 (by decide) (by decide) (by decide)) _)
          have f116 : (q_R r50.2 (Ad ad 101) (q_I r100.2 12 4 a0).toNatClampNeg).toInt = (q_R r19.2 (Ad ad 101) (q_I r100.2 12 4 a0).toNatClampNeg).toInt := congrArg Int32.toInt (congrFun (u59 101 (by decide) (by decide) (by decide)) _)
          have f117 : (q_R r19.2 (Ad ad 101) (q_I r100.2 12 4 a0).toNatClampNeg).toInt = (q_R δ (Ad ad 101) (q_I r100.2 12 4 a0).toNatClampNeg).toInt := congrArg Int32.toInt (congrFun (u28 101 (by decide) (by decide) (by decide)) _)
          have f118 := ti_b (q_R δ (Ad ad 101) (q_I r100.2 12 4 a0).toNatClampNeg)
          have f119 := ti_b (q_R r19.2 (Ad ad 101) (q_I r100.2 12 4 a0).toNatClampNeg)
          have f120 := ti_b (q_R r50.2 (Ad ad 101) (q_I r100.2 12 4 a0).toNatClampNeg)
          have f121 := ti_b (q_R r100.2 (Ad ad 101) (q_I r100.2 12 4 a0).toNatClampNeg)
          have f122 := ti_b r100.1
          have f123 := cb_12_3 i52 k_a0
          have f124 : (q_I r50.2 12 3 a0).toInt = (q_I r19.2 12 3 a0).toInt := congrArg Int32.toInt (u56 12 3 a0 (by decide))
          have f125 := ti_b r100.1
          have f127 := cb_12_5 i102 k_a0
          have f128 : (q_I r100.2 12 5 a0).toInt = (q_I r50.2 12 5 a0).toInt := congrArg Int32.toInt (u105 12 5 a0 (by decide))
          have ns126 : NS ad a0 r50.2 r100.2 := ⟨u108 112 (by decide) (by decide) (by decide), u108 113 (by decide) (by decide) (by decide), u108 114 (by decide) (by decide) (by decide), u108 115 (by decide) (by decide) (by decide), u108 116 (by decide) (by decide) (by decide), u105 12 24 _ (by decide), u105 12 25 _ (by decide), u105 12 26 _ (by decide), u105 12 27 _ (by decide), fun z => by omega⟩
          refine ok_bind (k_X12_stepOf L hN (x0 := r100.1)  i102) (fun r129 hr130 => ?_)
          obtain ⟨i131, p132, p133, p134⟩ := hr130
          try rw [i131]
          have f135 := ti_b r129.1
          have f136 := ti_b r129.1
          refine ok_ite (fun h137 => ?_) (fun h137 => ?_)
          · have c138 : r129.1.toInt = (-1 : Int) := o_eq h137
            refine ok_bind (k_X12_wrong L hN (a0 := a0) (x1 := (1 : Int32)) (x2 := (q_I r100.2 12 4 a0)) k_a0 (show 0 ≤ ((q_I r100.2 12 4 a0)).toInt by first | assumption | omega) (show ((q_I r100.2 12 4 a0)).toInt ≤ 500 by first | assumption | omega) (show 0 ≤ (1 : Int) by first | assumption | omega) (show (1 : Int) ≤ 4 by first | assumption | omega) i102) (fun r139 hr140 => ?_)
            obtain ⟨i141, ⟨u144, u145, u146, u147⟩, p142, p143⟩ := hr140
            have u148 := kp_t u109 u144
            have v149 : q_V r139 = q_V δ := (u145).trans v110
            have v150 := kr_t v111 u147
            have f151 := cb_12_5 i141 k_a0
            have ns152 : NS ad a0 r100.2 r139 := ⟨u147 112 (by decide) (by decide) (by decide), u147 113 (by decide) (by decide) (by decide), u147 114 (by decide) (by decide) (by decide), u147 115 (by decide) (by decide) (by decide), u147 116 (by decide) (by decide) (by decide), u144 12 24 _ (by decide), u144 12 25 _ (by decide), u144 12 26 _ (by decide), u144 12 27 _ (by decide), fun z => by omega⟩
            have f153 := cb_12_24 i141 k_a0
            have f154 : (q_I r139 12 24 a0).toInt = (q_I r100.2 12 24 a0).toInt := congrArg Int32.toInt (u144 12 24 a0 (by decide))
            have f155 := cb_12_24 i102 k_a0
            have f156 : (q_I r100.2 12 24 a0).toInt = (q_I r50.2 12 24 a0).toInt := congrArg Int32.toInt (u105 12 24 a0 (by decide))
            have f157 := cb_12_24 i52 k_a0
            have f158 : (q_I r50.2 12 24 a0).toInt = (q_I r19.2 12 24 a0).toInt := congrArg Int32.toInt (u56 12 24 a0 (by decide))
            have f159 := cb_12_24 i21 k_a0
            have f160 : (q_I r19.2 12 24 a0).toInt = (q_I δ 12 24 a0).toInt := congrArg Int32.toInt (u25 12 24 a0 (by decide))
            have f161 := cb_12_26 i141 k_a0
            have f162 : (q_I r139 12 26 a0).toInt = (q_I r100.2 12 26 a0).toInt := congrArg Int32.toInt (u144 12 26 a0 (by decide))
            have f163 := cb_12_26 i102 k_a0
            have f164 : (q_I r100.2 12 26 a0).toInt = (q_I r50.2 12 26 a0).toInt := congrArg Int32.toInt (u105 12 26 a0 (by decide))
            have f165 := cb_12_26 i52 k_a0
            have f166 : (q_I r50.2 12 26 a0).toInt = (q_I r19.2 12 26 a0).toInt := congrArg Int32.toInt (u56 12 26 a0 (by decide))
            have f167 := cb_12_26 i21 k_a0
            have f168 : (q_I r19.2 12 26 a0).toInt = (q_I δ 12 26 a0).toInt := congrArg Int32.toInt (u25 12 26 a0 (by decide))
            have f169 := cb_12_4 i141 k_a0
            have f170 : (q_I r139 12 4 a0).toInt = (q_I r100.2 12 4 a0).toInt := congrArg Int32.toInt (u144 12 4 a0 (by decide))
            have f171 := ti_b (q_I r139 12 7 a0)
            have f172 : (q_I r139 12 7 a0).toInt = (q_I r100.2 12 7 a0).toInt := congrArg Int32.toInt (u144 12 7 a0 (by decide))
            have f173 := ti_b (q_I r100.2 12 7 a0)
            have f174 : (q_I r100.2 12 7 a0).toInt = (q_I r50.2 12 7 a0).toInt := congrArg Int32.toInt (u105 12 7 a0 (by decide))
            have f175 := ti_b (q_I r50.2 12 7 a0)
            have f176 : (q_I r50.2 12 7 a0).toInt = (q_I r19.2 12 7 a0).toInt := congrArg Int32.toInt (u56 12 7 a0 (by decide))
            have f177 := ti_b (q_I r19.2 12 7 a0)
            have f178 : (q_I r19.2 12 7 a0).toInt = (q_I δ 12 7 a0).toInt := congrArg Int32.toInt (u25 12 7 a0 (by decide))
            have f179 := cb_12_27 i141 k_a0
            have f180 : (q_I r139 12 27 a0).toInt = (q_I r100.2 12 27 a0).toInt := congrArg Int32.toInt (u144 12 27 a0 (by decide))
            have f181 := cb_12_27 i102 k_a0
            have f182 : (q_I r100.2 12 27 a0).toInt = (q_I r50.2 12 27 a0).toInt := congrArg Int32.toInt (u105 12 27 a0 (by decide))
            have f183 := cb_12_27 i52 k_a0
            have f184 : (q_I r50.2 12 27 a0).toInt = (q_I r19.2 12 27 a0).toInt := congrArg Int32.toInt (u56 12 27 a0 (by decide))
            have f185 := cb_12_27 i21 k_a0
            have f186 : (q_I r19.2 12 27 a0).toInt = (q_I δ 12 27 a0).toInt := congrArg Int32.toInt (u25 12 27 a0 (by decide))
            have f187 := cb_12_25 i141 k_a0
            have f188 : (q_I r139 12 25 a0).toInt = (q_I r100.2 12 25 a0).toInt := congrArg Int32.toInt (u144 12 25 a0 (by decide))
            have f189 := cb_12_25 i102 k_a0
            have f190 : (q_I r100.2 12 25 a0).toInt = (q_I r50.2 12 25 a0).toInt := congrArg Int32.toInt (u105 12 25 a0 (by decide))
            have f191 := cb_12_25 i52 k_a0
            have f192 : (q_I r50.2 12 25 a0).toInt = (q_I r19.2 12 25 a0).toInt := congrArg Int32.toInt (u56 12 25 a0 (by decide))
            have f193 := cb_12_25 i21 k_a0
            have f194 : (q_I r19.2 12 25 a0).toInt = (q_I δ 12 25 a0).toInt := congrArg Int32.toInt (u25 12 25 a0 (by decide))
            have f195 := cb_12_25 I k_a0
            have f196 : hc ad r139 a0 = (q_R r139 (Ad ad 101) (q_I r139 12 4 a0).toNatClampNeg).toInt := rfl
            have t197 := ti_tn (q_I r139 12 4 a0)
            have f198 : (q_R r139 (Ad ad 101) (q_I r139 12 4 a0).toNatClampNeg).toInt = (q_R r100.2 (Ad ad 101) (q_I r139 12 4 a0).toNatClampNeg).toInt := congrArg Int32.toInt (congrFun (u147 101 (by decide) (by decide) (by decide)) _)
            have f199 : (q_R r100.2 (Ad ad 101) (q_I r139 12 4 a0).toNatClampNeg).toInt = (q_R r50.2 (Ad ad 101) (q_I r139 12 4 a0).toNatClampNeg).toInt := congrArg Int32.toInt (congrFun (u108 101 (by decide) (by decide) (by decide)) _)
            have f200 : (q_R r50.2 (Ad ad 101) (q_I r139 12 4 a0).toNatClampNeg).toInt = (q_R r19.2 (Ad ad 101) (q_I r139 12 4 a0).toNatClampNeg).toInt := congrArg Int32.toInt (congrFun (u59 101 (by decide) (by decide) (by decide)) _)
            have f201 : (q_R r19.2 (Ad ad 101) (q_I r139 12 4 a0).toNatClampNeg).toInt = (q_R δ (Ad ad 101) (q_I r139 12 4 a0).toNatClampNeg).toInt := congrArg Int32.toInt (congrFun (u28 101 (by decide) (by decide) (by decide)) _)
            have f202 := ti_b (q_R δ (Ad ad 101) (q_I r139 12 4 a0).toNatClampNeg)
            have f203 := ti_b (q_R r19.2 (Ad ad 101) (q_I r139 12 4 a0).toNatClampNeg)
            have f204 := ti_b (q_R r50.2 (Ad ad 101) (q_I r139 12 4 a0).toNatClampNeg)
            have f205 := ti_b (q_R r100.2 (Ad ad 101) (q_I r139 12 4 a0).toNatClampNeg)
            have f206 := ti_b (q_R r139 (Ad ad 101) (q_I r139 12 4 a0).toNatClampNeg)
            have f207 := cb_12_3 i141 k_a0
            have f208 : (q_I r139 12 3 a0).toInt = (q_I r100.2 12 3 a0).toInt := congrArg Int32.toInt (u144 12 3 a0 (by decide))
            have f209 := cb_12_3 i102 k_a0
            have f210 : (q_I r100.2 12 3 a0).toInt = (q_I r50.2 12 3 a0).toInt := congrArg Int32.toInt (u105 12 3 a0 (by decide))
            refine ok_mono (kj_X12_readSteps_79 L hN (K0 := (n : Int)) (a0 := a0) (x1v := r129.1) hT ih k_a0 (show (q_I r139 12 24 a0).toInt ≤ 3 by first | assumption | omega) (show (q_I r139 12 26 a0).toInt ≤ (q_I r139 12 4 a0).toInt by first | assumption | omega) (show (q_I r139 12 7 a0).toInt = 0 by first | assumption | omega) (show 4 - (q_I r139 12 27 a0).toInt ≤ K by first | assumption | omega) (show -1 ≤ (r129.1).toInt by first | assumption | omega) (show (r129.1).toInt ≤ 5 by first | assumption | omega) (show (q_I r139 12 5 a0).toInt < 0 → 0 ≤ (r129.1).toInt by first | assumption | omega) (show (q_I r139 12 5 a0).toInt < 0 → (q_I r139 12 25 a0).toInt ≤ 59 by first | assumption | omega) (show (q_I r139 12 5 a0).toInt < 0 → (r129.1).toInt = 5 → (q_I r139 12 27 a0).toInt ≤ 2 by first | assumption | omega) (show (q_I r139 12 5 a0).toInt < 0 → (q_I r139 12 4 a0).toInt < (q_I r139 12 3 a0).toInt ∧ 97 ≤ hc ad r139 a0 ∧ hc ad r139 a0 ≤ 122 by first | assumption | omega) (show 501 - (q_I r139 12 4 a0).toInt ≤ (n : Int) by first | assumption | omega) i141) (fun r211 hr212 => ?_)
            obtain ⟨i213, ⟨u220, u221, u222⟩, p214, p215, p216, p217, p218, p219⟩ := hr212
            have u223 := kp_t u148 u220
            have v224 : q_V r211 = q_V δ := (u221).trans v149
            have v225 := kr_t v150 u222
            have f226 := cb_12_4 i213 k_a0
            have f227 := cb_12_5 i213 k_a0
            have f228 := ti_b (q_I r211 12 7 a0)
            have f229 := cb_12_27 i213 k_a0
            have f230 := cb_12_26 i213 k_a0
            have ss231 : NS ad a0 δ r19.2 := NS.t NS.r ns37
            have ss232 : NS ad a0 δ r50.2 := NS.t ss231 ns80
            have ss233 : NS ad a0 δ r100.2 := NS.t ss232 ns126
            have ss234 : NS ad a0 δ r139 := NS.t ss233 ns152
            have ss235 : SS ad a0 δ r211 := SS.pre ss234 p219
            exact ⟨by assumption, ⟨kp_w (by decide) u223, v224, kr_w (by decide) v225⟩, by first | assumption | omega, by first | assumption | omega, by first | assumption | omega, by first | assumption | omega, by first | assumption | omega, ss235⟩
          · have c236 : r129.1.toInt ≠ (-1 : Int) := o_ne h137
            have f237 := cb_12_25 i102 k_a0
            have f238 : (q_I r100.2 12 25 a0).toInt = (q_I r50.2 12 25 a0).toInt := congrArg Int32.toInt (u105 12 25 a0 (by decide))
            have f239 := cb_12_25 i52 k_a0
            have f240 : (q_I r50.2 12 25 a0).toInt = (q_I r19.2 12 25 a0).toInt := congrArg Int32.toInt (u56 12 25 a0 (by decide))
            have f241 := cb_12_25 i21 k_a0
            have f242 : (q_I r19.2 12 25 a0).toInt = (q_I δ 12 25 a0).toInt := congrArg Int32.toInt (u25 12 25 a0 (by decide))
            have f243 := cb_12_25 I k_a0
            refine ok_ite (fun h244 => ?_) (fun h244 => ?_)
            · have c245 : (q_I r100.2 12 25 a0).toInt = (60 : Int) := o_eq h244
              unfold J_X12_readSteps_70
              refine ok_bind (k_X12_wrong L hN (a0 := a0) (x1 := (3 : Int32)) (x2 := (q_I r100.2 12 4 a0)) k_a0 (show 0 ≤ ((q_I r100.2 12 4 a0)).toInt by first | assumption | omega) (show ((q_I r100.2 12 4 a0)).toInt ≤ 500 by first | assumption | omega) (show 0 ≤ (3 : Int) by first | assumption | omega) (show (3 : Int) ≤ 4 by first | assumption | omega) i102) (fun r246 hr247 => ?_)
              obtain ⟨i248, ⟨u251, u252, u253, u254⟩, p249, p250⟩ := hr247
              have u255 := kp_t u109 u251
              have v256 : q_V r246 = q_V δ := (u252).trans v110
              have v257 := kr_t v111 u254
              have f258 := cb_12_5 i248 k_a0
              have ns259 : NS ad a0 r100.2 r246 := ⟨u254 112 (by decide) (by decide) (by decide), u254 113 (by decide) (by decide) (by decide), u254 114 (by decide) (by decide) (by decide), u254 115 (by decide) (by decide) (by decide), u254 116 (by decide) (by decide) (by decide), u251 12 24 _ (by decide), u251 12 25 _ (by decide), u251 12 26 _ (by decide), u251 12 27 _ (by decide), fun z => by omega⟩
              have f260 := cb_12_24 i248 k_a0
              have f261 : (q_I r246 12 24 a0).toInt = (q_I r100.2 12 24 a0).toInt := congrArg Int32.toInt (u251 12 24 a0 (by decide))
              have f262 := cb_12_24 i102 k_a0
              have f263 : (q_I r100.2 12 24 a0).toInt = (q_I r50.2 12 24 a0).toInt := congrArg Int32.toInt (u105 12 24 a0 (by decide))
              have f264 := cb_12_24 i52 k_a0
              have f265 : (q_I r50.2 12 24 a0).toInt = (q_I r19.2 12 24 a0).toInt := congrArg Int32.toInt (u56 12 24 a0 (by decide))
              have f266 := cb_12_24 i21 k_a0
              have f267 : (q_I r19.2 12 24 a0).toInt = (q_I δ 12 24 a0).toInt := congrArg Int32.toInt (u25 12 24 a0 (by decide))
              have f268 := cb_12_26 i248 k_a0
              have f269 : (q_I r246 12 26 a0).toInt = (q_I r100.2 12 26 a0).toInt := congrArg Int32.toInt (u251 12 26 a0 (by decide))
              have f270 := cb_12_26 i102 k_a0
              have f271 : (q_I r100.2 12 26 a0).toInt = (q_I r50.2 12 26 a0).toInt := congrArg Int32.toInt (u105 12 26 a0 (by decide))
              have f272 := cb_12_26 i52 k_a0
              have f273 : (q_I r50.2 12 26 a0).toInt = (q_I r19.2 12 26 a0).toInt := congrArg Int32.toInt (u56 12 26 a0 (by decide))
              have f274 := cb_12_26 i21 k_a0
              have f275 : (q_I r19.2 12 26 a0).toInt = (q_I δ 12 26 a0).toInt := congrArg Int32.toInt (u25 12 26 a0 (by decide))
              have f276 := cb_12_4 i248 k_a0
              have f277 : (q_I r246 12 4 a0).toInt = (q_I r100.2 12 4 a0).toInt := congrArg Int32.toInt (u251 12 4 a0 (by decide))
              have f278 := ti_b (q_I r246 12 7 a0)
              have f279 : (q_I r246 12 7 a0).toInt = (q_I r100.2 12 7 a0).toInt := congrArg Int32.toInt (u251 12 7 a0 (by decide))
              have f280 := ti_b (q_I r100.2 12 7 a0)
              have f281 : (q_I r100.2 12 7 a0).toInt = (q_I r50.2 12 7 a0).toInt := congrArg Int32.toInt (u105 12 7 a0 (by decide))
              have f282 := ti_b (q_I r50.2 12 7 a0)
              have f283 : (q_I r50.2 12 7 a0).toInt = (q_I r19.2 12 7 a0).toInt := congrArg Int32.toInt (u56 12 7 a0 (by decide))
              have f284 := ti_b (q_I r19.2 12 7 a0)
              have f285 : (q_I r19.2 12 7 a0).toInt = (q_I δ 12 7 a0).toInt := congrArg Int32.toInt (u25 12 7 a0 (by decide))
              have f286 := cb_12_27 i248 k_a0
              have f287 : (q_I r246 12 27 a0).toInt = (q_I r100.2 12 27 a0).toInt := congrArg Int32.toInt (u251 12 27 a0 (by decide))
              have f288 := cb_12_27 i102 k_a0
              have f289 : (q_I r100.2 12 27 a0).toInt = (q_I r50.2 12 27 a0).toInt := congrArg Int32.toInt (u105 12 27 a0 (by decide))
              have f290 := cb_12_27 i52 k_a0
              have f291 : (q_I r50.2 12 27 a0).toInt = (q_I r19.2 12 27 a0).toInt := congrArg Int32.toInt (u56 12 27 a0 (by decide))
              have f292 := cb_12_27 i21 k_a0
              have f293 : (q_I r19.2 12 27 a0).toInt = (q_I δ 12 27 a0).toInt := congrArg Int32.toInt (u25 12 27 a0 (by decide))
              have f294 := cb_12_25 i248 k_a0
              have f295 : (q_I r246 12 25 a0).toInt = (q_I r100.2 12 25 a0).toInt := congrArg Int32.toInt (u251 12 25 a0 (by decide))
              have f296 : hc ad r246 a0 = (q_R r246 (Ad ad 101) (q_I r246 12 4 a0).toNatClampNeg).toInt := rfl
              have t297 := ti_tn (q_I r246 12 4 a0)
              have f298 : (q_R r246 (Ad ad 101) (q_I r246 12 4 a0).toNatClampNeg).toInt = (q_R r100.2 (Ad ad 101) (q_I r246 12 4 a0).toNatClampNeg).toInt := congrArg Int32.toInt (congrFun (u254 101 (by decide) (by decide) (by decide)) _)
              have f299 : (q_R r100.2 (Ad ad 101) (q_I r246 12 4 a0).toNatClampNeg).toInt = (q_R r50.2 (Ad ad 101) (q_I r246 12 4 a0).toNatClampNeg).toInt := congrArg Int32.toInt (congrFun (u108 101 (by decide) (by decide) (by decide)) _)
              have f300 : (q_R r50.2 (Ad ad 101) (q_I r246 12 4 a0).toNatClampNeg).toInt = (q_R r19.2 (Ad ad 101) (q_I r246 12 4 a0).toNatClampNeg).toInt := congrArg Int32.toInt (congrFun (u59 101 (by decide) (by decide) (by decide)) _)
              have f301 : (q_R r19.2 (Ad ad 101) (q_I r246 12 4 a0).toNatClampNeg).toInt = (q_R δ (Ad ad 101) (q_I r246 12 4 a0).toNatClampNeg).toInt := congrArg Int32.toInt (congrFun (u28 101 (by decide) (by decide) (by decide)) _)
              have f302 := ti_b (q_R δ (Ad ad 101) (q_I r246 12 4 a0).toNatClampNeg)
              have f303 := ti_b (q_R r19.2 (Ad ad 101) (q_I r246 12 4 a0).toNatClampNeg)
              have f304 := ti_b (q_R r50.2 (Ad ad 101) (q_I r246 12 4 a0).toNatClampNeg)
              have f305 := ti_b (q_R r100.2 (Ad ad 101) (q_I r246 12 4 a0).toNatClampNeg)
              have f306 := ti_b (q_R r246 (Ad ad 101) (q_I r246 12 4 a0).toNatClampNeg)
              have f307 := cb_12_3 i248 k_a0
              have f308 : (q_I r246 12 3 a0).toInt = (q_I r100.2 12 3 a0).toInt := congrArg Int32.toInt (u251 12 3 a0 (by decide))
              have f309 := cb_12_3 i102 k_a0
              have f310 : (q_I r100.2 12 3 a0).toInt = (q_I r50.2 12 3 a0).toInt := congrArg Int32.toInt (u105 12 3 a0 (by decide))
              refine ok_mono (kj_X12_readSteps_79 L hN (K0 := (n : Int)) (a0 := a0) (x1v := r129.1) hT ih k_a0 (show (q_I r246 12 24 a0).toInt ≤ 3 by first | assumption | omega) (show (q_I r246 12 26 a0).toInt ≤ (q_I r246 12 4 a0).toInt by first | assumption | omega) (show (q_I r246 12 7 a0).toInt = 0 by first | assumption | omega) (show 4 - (q_I r246 12 27 a0).toInt ≤ K by first | assumption | omega) (show -1 ≤ (r129.1).toInt by first | assumption | omega) (show (r129.1).toInt ≤ 5 by first | assumption | omega) (show (q_I r246 12 5 a0).toInt < 0 → 0 ≤ (r129.1).toInt by first | assumption | omega) (show (q_I r246 12 5 a0).toInt < 0 → (q_I r246 12 25 a0).toInt ≤ 59 by first | assumption | omega) (show (q_I r246 12 5 a0).toInt < 0 → (r129.1).toInt = 5 → (q_I r246 12 27 a0).toInt ≤ 2 by first | assumption | omega) (show (q_I r246 12 5 a0).toInt < 0 → (q_I r246 12 4 a0).toInt < (q_I r246 12 3 a0).toInt ∧ 97 ≤ hc ad r246 a0 ∧ hc ad r246 a0 ≤ 122 by first | assumption | omega) (show 501 - (q_I r246 12 4 a0).toInt ≤ (n : Int) by first | assumption | omega) i248) (fun r311 hr312 => ?_)
              obtain ⟨i313, ⟨u320, u321, u322⟩, p314, p315, p316, p317, p318, p319⟩ := hr312
              have u323 := kp_t u255 u320
              have v324 : q_V r311 = q_V δ := (u321).trans v256
              have v325 := kr_t v257 u322
              have f326 := cb_12_4 i313 k_a0
              have f327 := cb_12_5 i313 k_a0
              have f328 := ti_b (q_I r311 12 7 a0)
              have f329 := cb_12_27 i313 k_a0
              have f330 := cb_12_26 i313 k_a0
              have ss331 : NS ad a0 δ r19.2 := NS.t NS.r ns37
              have ss332 : NS ad a0 δ r50.2 := NS.t ss331 ns80
              have ss333 : NS ad a0 δ r100.2 := NS.t ss332 ns126
              have ss334 : NS ad a0 δ r246 := NS.t ss333 ns259
              have ss335 : SS ad a0 δ r311 := SS.pre ss334 p319
              exact ⟨by assumption, ⟨kp_w (by decide) u323, v324, kr_w (by decide) v325⟩, by first | assumption | omega, by first | assumption | omega, by first | assumption | omega, by first | assumption | omega, by first | assumption | omega, ss335⟩
            · have c336 : (q_I r100.2 12 25 a0).toInt ≠ (60 : Int) := o_ne h244
              refine ok_ite (fun h337 => ?_) (fun h337 => ?_)
              · have c338 : r129.1.toInt = (5 : Int) := o_eq h337
                have f339 := cb_12_27 i102 k_a0
                have f340 : (q_I r100.2 12 27 a0).toInt = (q_I r50.2 12 27 a0).toInt := congrArg Int32.toInt (u105 12 27 a0 (by decide))
                have f341 := cb_12_27 i52 k_a0
                have f342 : (q_I r50.2 12 27 a0).toInt = (q_I r19.2 12 27 a0).toInt := congrArg Int32.toInt (u56 12 27 a0 (by decide))
                have f343 := cb_12_27 i21 k_a0
                have f344 : (q_I r19.2 12 27 a0).toInt = (q_I δ 12 27 a0).toInt := congrArg Int32.toInt (u25 12 27 a0 (by decide))
                refine ok_ite (fun h345 => ?_) (fun h345 => ?_)
                · have c346 : (q_I r100.2 12 27 a0).toInt = (3 : Int) := o_eq h345
                  unfold J_X12_readSteps_70
                  refine ok_bind (k_X12_wrong L hN (a0 := a0) (x1 := (3 : Int32)) (x2 := (q_I r100.2 12 4 a0)) k_a0 (show 0 ≤ ((q_I r100.2 12 4 a0)).toInt by first | assumption | omega) (show ((q_I r100.2 12 4 a0)).toInt ≤ 500 by first | assumption | omega) (show 0 ≤ (3 : Int) by first | assumption | omega) (show (3 : Int) ≤ 4 by first | assumption | omega) i102) (fun r347 hr348 => ?_)
                  obtain ⟨i349, ⟨u352, u353, u354, u355⟩, p350, p351⟩ := hr348
                  have u356 := kp_t u109 u352
                  have v357 : q_V r347 = q_V δ := (u353).trans v110
                  have v358 := kr_t v111 u355
                  have f359 := cb_12_5 i349 k_a0
                  have ns360 : NS ad a0 r100.2 r347 := ⟨u355 112 (by decide) (by decide) (by decide), u355 113 (by decide) (by decide) (by decide), u355 114 (by decide) (by decide) (by decide), u355 115 (by decide) (by decide) (by decide), u355 116 (by decide) (by decide) (by decide), u352 12 24 _ (by decide), u352 12 25 _ (by decide), u352 12 26 _ (by decide), u352 12 27 _ (by decide), fun z => by omega⟩
                  have f361 := cb_12_24 i349 k_a0
                  have f362 : (q_I r347 12 24 a0).toInt = (q_I r100.2 12 24 a0).toInt := congrArg Int32.toInt (u352 12 24 a0 (by decide))
                  have f363 := cb_12_24 i102 k_a0
                  have f364 : (q_I r100.2 12 24 a0).toInt = (q_I r50.2 12 24 a0).toInt := congrArg Int32.toInt (u105 12 24 a0 (by decide))
                  have f365 := cb_12_24 i52 k_a0
                  have f366 : (q_I r50.2 12 24 a0).toInt = (q_I r19.2 12 24 a0).toInt := congrArg Int32.toInt (u56 12 24 a0 (by decide))
                  have f367 := cb_12_24 i21 k_a0
                  have f368 : (q_I r19.2 12 24 a0).toInt = (q_I δ 12 24 a0).toInt := congrArg Int32.toInt (u25 12 24 a0 (by decide))
                  have f369 := cb_12_26 i349 k_a0
                  have f370 : (q_I r347 12 26 a0).toInt = (q_I r100.2 12 26 a0).toInt := congrArg Int32.toInt (u352 12 26 a0 (by decide))
                  have f371 := cb_12_26 i102 k_a0
                  have f372 : (q_I r100.2 12 26 a0).toInt = (q_I r50.2 12 26 a0).toInt := congrArg Int32.toInt (u105 12 26 a0 (by decide))
                  have f373 := cb_12_26 i52 k_a0
                  have f374 : (q_I r50.2 12 26 a0).toInt = (q_I r19.2 12 26 a0).toInt := congrArg Int32.toInt (u56 12 26 a0 (by decide))
                  have f375 := cb_12_26 i21 k_a0
                  have f376 : (q_I r19.2 12 26 a0).toInt = (q_I δ 12 26 a0).toInt := congrArg Int32.toInt (u25 12 26 a0 (by decide))
                  have f377 := cb_12_4 i349 k_a0
                  have f378 : (q_I r347 12 4 a0).toInt = (q_I r100.2 12 4 a0).toInt := congrArg Int32.toInt (u352 12 4 a0 (by decide))
                  have f379 := ti_b (q_I r347 12 7 a0)
                  have f380 : (q_I r347 12 7 a0).toInt = (q_I r100.2 12 7 a0).toInt := congrArg Int32.toInt (u352 12 7 a0 (by decide))
                  have f381 := ti_b (q_I r100.2 12 7 a0)
                  have f382 : (q_I r100.2 12 7 a0).toInt = (q_I r50.2 12 7 a0).toInt := congrArg Int32.toInt (u105 12 7 a0 (by decide))
                  have f383 := ti_b (q_I r50.2 12 7 a0)
                  have f384 : (q_I r50.2 12 7 a0).toInt = (q_I r19.2 12 7 a0).toInt := congrArg Int32.toInt (u56 12 7 a0 (by decide))
                  have f385 := ti_b (q_I r19.2 12 7 a0)
                  have f386 : (q_I r19.2 12 7 a0).toInt = (q_I δ 12 7 a0).toInt := congrArg Int32.toInt (u25 12 7 a0 (by decide))
                  have f387 := cb_12_27 i349 k_a0
                  have f388 : (q_I r347 12 27 a0).toInt = (q_I r100.2 12 27 a0).toInt := congrArg Int32.toInt (u352 12 27 a0 (by decide))
                  have f389 := cb_12_25 i349 k_a0
                  have f390 : (q_I r347 12 25 a0).toInt = (q_I r100.2 12 25 a0).toInt := congrArg Int32.toInt (u352 12 25 a0 (by decide))
                  have f391 : hc ad r347 a0 = (q_R r347 (Ad ad 101) (q_I r347 12 4 a0).toNatClampNeg).toInt := rfl
                  have t392 := ti_tn (q_I r347 12 4 a0)
                  have f393 : (q_R r347 (Ad ad 101) (q_I r347 12 4 a0).toNatClampNeg).toInt = (q_R r100.2 (Ad ad 101) (q_I r347 12 4 a0).toNatClampNeg).toInt := congrArg Int32.toInt (congrFun (u355 101 (by decide) (by decide) (by decide)) _)
                  have f394 : (q_R r100.2 (Ad ad 101) (q_I r347 12 4 a0).toNatClampNeg).toInt = (q_R r50.2 (Ad ad 101) (q_I r347 12 4 a0).toNatClampNeg).toInt := congrArg Int32.toInt (congrFun (u108 101 (by decide) (by decide) (by decide)) _)
                  have f395 : (q_R r50.2 (Ad ad 101) (q_I r347 12 4 a0).toNatClampNeg).toInt = (q_R r19.2 (Ad ad 101) (q_I r347 12 4 a0).toNatClampNeg).toInt := congrArg Int32.toInt (congrFun (u59 101 (by decide) (by decide) (by decide)) _)
                  have f396 : (q_R r19.2 (Ad ad 101) (q_I r347 12 4 a0).toNatClampNeg).toInt = (q_R δ (Ad ad 101) (q_I r347 12 4 a0).toNatClampNeg).toInt := congrArg Int32.toInt (congrFun (u28 101 (by decide) (by decide) (by decide)) _)
                  have f397 := ti_b (q_R δ (Ad ad 101) (q_I r347 12 4 a0).toNatClampNeg)
                  have f398 := ti_b (q_R r19.2 (Ad ad 101) (q_I r347 12 4 a0).toNatClampNeg)
                  have f399 := ti_b (q_R r50.2 (Ad ad 101) (q_I r347 12 4 a0).toNatClampNeg)
                  have f400 := ti_b (q_R r100.2 (Ad ad 101) (q_I r347 12 4 a0).toNatClampNeg)
                  have f401 := ti_b (q_R r347 (Ad ad 101) (q_I r347 12 4 a0).toNatClampNeg)
                  have f402 := cb_12_3 i349 k_a0
                  have f403 : (q_I r347 12 3 a0).toInt = (q_I r100.2 12 3 a0).toInt := congrArg Int32.toInt (u352 12 3 a0 (by decide))
                  have f404 := cb_12_3 i102 k_a0
                  have f405 : (q_I r100.2 12 3 a0).toInt = (q_I r50.2 12 3 a0).toInt := congrArg Int32.toInt (u105 12 3 a0 (by decide))
                  refine ok_mono (kj_X12_readSteps_79 L hN (K0 := (n : Int)) (a0 := a0) (x1v := r129.1) hT ih k_a0 (show (q_I r347 12 24 a0).toInt ≤ 3 by first | assumption | omega) (show (q_I r347 12 26 a0).toInt ≤ (q_I r347 12 4 a0).toInt by first | assumption | omega) (show (q_I r347 12 7 a0).toInt = 0 by first | assumption | omega) (show 4 - (q_I r347 12 27 a0).toInt ≤ K by first | assumption | omega) (show -1 ≤ (r129.1).toInt by first | assumption | omega) (show (r129.1).toInt ≤ 5 by first | assumption | omega) (show (q_I r347 12 5 a0).toInt < 0 → 0 ≤ (r129.1).toInt by first | assumption | omega) (show (q_I r347 12 5 a0).toInt < 0 → (q_I r347 12 25 a0).toInt ≤ 59 by first | assumption | omega) (show (q_I r347 12 5 a0).toInt < 0 → (r129.1).toInt = 5 → (q_I r347 12 27 a0).toInt ≤ 2 by first | assumption | omega) (show (q_I r347 12 5 a0).toInt < 0 → (q_I r347 12 4 a0).toInt < (q_I r347 12 3 a0).toInt ∧ 97 ≤ hc ad r347 a0 ∧ hc ad r347 a0 ≤ 122 by first | assumption | omega) (show 501 - (q_I r347 12 4 a0).toInt ≤ (n : Int) by first | assumption | omega) i349) (fun r406 hr407 => ?_)
                  obtain ⟨i408, ⟨u415, u416, u417⟩, p409, p410, p411, p412, p413, p414⟩ := hr407
                  have u418 := kp_t u356 u415
                  have v419 : q_V r406 = q_V δ := (u416).trans v357
                  have v420 := kr_t v358 u417
                  have f421 := cb_12_4 i408 k_a0
                  have f422 := cb_12_5 i408 k_a0
                  have f423 := ti_b (q_I r406 12 7 a0)
                  have f424 := cb_12_27 i408 k_a0
                  have f425 := cb_12_26 i408 k_a0
                  have ss426 : NS ad a0 δ r19.2 := NS.t NS.r ns37
                  have ss427 : NS ad a0 δ r50.2 := NS.t ss426 ns80
                  have ss428 : NS ad a0 δ r100.2 := NS.t ss427 ns126
                  have ss429 : NS ad a0 δ r347 := NS.t ss428 ns360
                  have ss430 : SS ad a0 δ r406 := SS.pre ss429 p414
                  exact ⟨by assumption, ⟨kp_w (by decide) u418, v419, kr_w (by decide) v420⟩, by first | assumption | omega, by first | assumption | omega, by first | assumption | omega, by first | assumption | omega, by first | assumption | omega, ss430⟩
                · have c431 : (q_I r100.2 12 27 a0).toInt ≠ (3 : Int) := o_ne h345
                  have f432 := cb_12_24 i102 k_a0
                  have f433 : (q_I r100.2 12 24 a0).toInt = (q_I r50.2 12 24 a0).toInt := congrArg Int32.toInt (u105 12 24 a0 (by decide))
                  have f434 := cb_12_24 i52 k_a0
                  have f435 : (q_I r50.2 12 24 a0).toInt = (q_I r19.2 12 24 a0).toInt := congrArg Int32.toInt (u56 12 24 a0 (by decide))
                  have f436 := cb_12_24 i21 k_a0
                  have f437 : (q_I r19.2 12 24 a0).toInt = (q_I δ 12 24 a0).toInt := congrArg Int32.toInt (u25 12 24 a0 (by decide))
                  have f438 := cb_12_26 i102 k_a0
                  have f439 : (q_I r100.2 12 26 a0).toInt = (q_I r50.2 12 26 a0).toInt := congrArg Int32.toInt (u105 12 26 a0 (by decide))
                  have f440 := cb_12_26 i52 k_a0
                  have f441 : (q_I r50.2 12 26 a0).toInt = (q_I r19.2 12 26 a0).toInt := congrArg Int32.toInt (u56 12 26 a0 (by decide))
                  have f442 := cb_12_26 i21 k_a0
                  have f443 : (q_I r19.2 12 26 a0).toInt = (q_I δ 12 26 a0).toInt := congrArg Int32.toInt (u25 12 26 a0 (by decide))
                  have f444 := ti_b (q_I r100.2 12 7 a0)
                  have f445 : (q_I r100.2 12 7 a0).toInt = (q_I r50.2 12 7 a0).toInt := congrArg Int32.toInt (u105 12 7 a0 (by decide))
                  have f446 := ti_b (q_I r50.2 12 7 a0)
                  have f447 : (q_I r50.2 12 7 a0).toInt = (q_I r19.2 12 7 a0).toInt := congrArg Int32.toInt (u56 12 7 a0 (by decide))
                  have f448 := ti_b (q_I r19.2 12 7 a0)
                  have f449 : (q_I r19.2 12 7 a0).toInt = (q_I δ 12 7 a0).toInt := congrArg Int32.toInt (u25 12 7 a0 (by decide))
                  have f450 := cb_12_3 i102 k_a0
                  have f451 : (q_I r100.2 12 3 a0).toInt = (q_I r50.2 12 3 a0).toInt := congrArg Int32.toInt (u105 12 3 a0 (by decide))
                  refine ok_mono (kj_X12_readSteps_79 L hN (K0 := (n : Int)) (a0 := a0) (x1v := r129.1) hT ih k_a0 (show (q_I r100.2 12 24 a0).toInt ≤ 3 by first | assumption | omega) (show (q_I r100.2 12 26 a0).toInt ≤ (q_I r100.2 12 4 a0).toInt by first | assumption | omega) (show (q_I r100.2 12 7 a0).toInt = 0 by first | assumption | omega) (show 4 - (q_I r100.2 12 27 a0).toInt ≤ K by first | assumption | omega) (show -1 ≤ (r129.1).toInt by first | assumption | omega) (show (r129.1).toInt ≤ 5 by first | assumption | omega) (show (q_I r100.2 12 5 a0).toInt < 0 → 0 ≤ (r129.1).toInt by first | assumption | omega) (show (q_I r100.2 12 5 a0).toInt < 0 → (q_I r100.2 12 25 a0).toInt ≤ 59 by first | assumption | omega) (show (q_I r100.2 12 5 a0).toInt < 0 → (r129.1).toInt = 5 → (q_I r100.2 12 27 a0).toInt ≤ 2 by first | assumption | omega) (show (q_I r100.2 12 5 a0).toInt < 0 → (q_I r100.2 12 4 a0).toInt < (q_I r100.2 12 3 a0).toInt ∧ 97 ≤ hc ad r100.2 a0 ∧ hc ad r100.2 a0 ≤ 122 by first | assumption | omega) (show 501 - (q_I r100.2 12 4 a0).toInt ≤ (n : Int) by first | assumption | omega) i102) (fun r452 hr453 => ?_)
                  obtain ⟨i454, ⟨u461, u462, u463⟩, p455, p456, p457, p458, p459, p460⟩ := hr453
                  have u464 := kp_t u109 u461
                  have v465 : q_V r452 = q_V δ := (u462).trans v110
                  have v466 := kr_t v111 u463
                  have f467 := cb_12_4 i454 k_a0
                  have f468 := cb_12_5 i454 k_a0
                  have f469 := ti_b (q_I r452 12 7 a0)
                  have f470 := cb_12_27 i454 k_a0
                  have f471 := cb_12_26 i454 k_a0
                  have ss472 : NS ad a0 δ r19.2 := NS.t NS.r ns37
                  have ss473 : NS ad a0 δ r50.2 := NS.t ss472 ns80
                  have ss474 : NS ad a0 δ r100.2 := NS.t ss473 ns126
                  have ss475 : SS ad a0 δ r452 := SS.pre ss474 p460
                  exact ⟨by assumption, ⟨kp_w (by decide) u464, v465, kr_w (by decide) v466⟩, by first | assumption | omega, by first | assumption | omega, by first | assumption | omega, by first | assumption | omega, by first | assumption | omega, ss475⟩
              · have c476 : r129.1.toInt ≠ (5 : Int) := o_ne h337
                have f477 := cb_12_24 i102 k_a0
                have f478 : (q_I r100.2 12 24 a0).toInt = (q_I r50.2 12 24 a0).toInt := congrArg Int32.toInt (u105 12 24 a0 (by decide))
                have f479 := cb_12_24 i52 k_a0
                have f480 : (q_I r50.2 12 24 a0).toInt = (q_I r19.2 12 24 a0).toInt := congrArg Int32.toInt (u56 12 24 a0 (by decide))
                have f481 := cb_12_24 i21 k_a0
                have f482 : (q_I r19.2 12 24 a0).toInt = (q_I δ 12 24 a0).toInt := congrArg Int32.toInt (u25 12 24 a0 (by decide))
                have f483 := cb_12_26 i102 k_a0
                have f484 : (q_I r100.2 12 26 a0).toInt = (q_I r50.2 12 26 a0).toInt := congrArg Int32.toInt (u105 12 26 a0 (by decide))
                have f485 := cb_12_26 i52 k_a0
                have f486 : (q_I r50.2 12 26 a0).toInt = (q_I r19.2 12 26 a0).toInt := congrArg Int32.toInt (u56 12 26 a0 (by decide))
                have f487 := cb_12_26 i21 k_a0
                have f488 : (q_I r19.2 12 26 a0).toInt = (q_I δ 12 26 a0).toInt := congrArg Int32.toInt (u25 12 26 a0 (by decide))
                have f489 := ti_b (q_I r100.2 12 7 a0)
                have f490 : (q_I r100.2 12 7 a0).toInt = (q_I r50.2 12 7 a0).toInt := congrArg Int32.toInt (u105 12 7 a0 (by decide))
                have f491 := ti_b (q_I r50.2 12 7 a0)
                have f492 : (q_I r50.2 12 7 a0).toInt = (q_I r19.2 12 7 a0).toInt := congrArg Int32.toInt (u56 12 7 a0 (by decide))
                have f493 := ti_b (q_I r19.2 12 7 a0)
                have f494 : (q_I r19.2 12 7 a0).toInt = (q_I δ 12 7 a0).toInt := congrArg Int32.toInt (u25 12 7 a0 (by decide))
                have f495 := cb_12_27 i102 k_a0
                have f496 : (q_I r100.2 12 27 a0).toInt = (q_I r50.2 12 27 a0).toInt := congrArg Int32.toInt (u105 12 27 a0 (by decide))
                have f497 := cb_12_27 i52 k_a0
                have f498 : (q_I r50.2 12 27 a0).toInt = (q_I r19.2 12 27 a0).toInt := congrArg Int32.toInt (u56 12 27 a0 (by decide))
                have f499 := cb_12_27 i21 k_a0
                have f500 : (q_I r19.2 12 27 a0).toInt = (q_I δ 12 27 a0).toInt := congrArg Int32.toInt (u25 12 27 a0 (by decide))
                have f501 := cb_12_3 i102 k_a0
                have f502 : (q_I r100.2 12 3 a0).toInt = (q_I r50.2 12 3 a0).toInt := congrArg Int32.toInt (u105 12 3 a0 (by decide))
                refine ok_mono (kj_X12_readSteps_79 L hN (K0 := (n : Int)) (a0 := a0) (x1v := r129.1) hT ih k_a0 (show (q_I r100.2 12 24 a0).toInt ≤ 3 by first | assumption | omega) (show (q_I r100.2 12 26 a0).toInt ≤ (q_I r100.2 12 4 a0).toInt by first | assumption | omega) (show (q_I r100.2 12 7 a0).toInt = 0 by first | assumption | omega) (show 4 - (q_I r100.2 12 27 a0).toInt ≤ K by first | assumption | omega) (show -1 ≤ (r129.1).toInt by first | assumption | omega) (show (r129.1).toInt ≤ 5 by first | assumption | omega) (show (q_I r100.2 12 5 a0).toInt < 0 → 0 ≤ (r129.1).toInt by first | assumption | omega) (show (q_I r100.2 12 5 a0).toInt < 0 → (q_I r100.2 12 25 a0).toInt ≤ 59 by first | assumption | omega) (show (q_I r100.2 12 5 a0).toInt < 0 → (r129.1).toInt = 5 → (q_I r100.2 12 27 a0).toInt ≤ 2 by first | assumption | omega) (show (q_I r100.2 12 5 a0).toInt < 0 → (q_I r100.2 12 4 a0).toInt < (q_I r100.2 12 3 a0).toInt ∧ 97 ≤ hc ad r100.2 a0 ∧ hc ad r100.2 a0 ≤ 122 by first | assumption | omega) (show 501 - (q_I r100.2 12 4 a0).toInt ≤ (n : Int) by first | assumption | omega) i102) (fun r503 hr504 => ?_)
                obtain ⟨i505, ⟨u512, u513, u514⟩, p506, p507, p508, p509, p510, p511⟩ := hr504
                have u515 := kp_t u109 u512
                have v516 : q_V r503 = q_V δ := (u513).trans v110
                have v517 := kr_t v111 u514
                have f518 := cb_12_4 i505 k_a0
                have f519 := cb_12_5 i505 k_a0
                have f520 := ti_b (q_I r503 12 7 a0)
                have f521 := cb_12_27 i505 k_a0
                have f522 := cb_12_26 i505 k_a0
                have ss523 : NS ad a0 δ r19.2 := NS.t NS.r ns37
                have ss524 : NS ad a0 δ r50.2 := NS.t ss523 ns80
                have ss525 : NS ad a0 δ r100.2 := NS.t ss524 ns126
                have ss526 : SS ad a0 δ r503 := SS.pre ss525 p511
                exact ⟨by assumption, ⟨kp_w (by decide) u515, v516, kr_w (by decide) v517⟩, by first | assumption | omega, by first | assumption | omega, by first | assumption | omega, by first | assumption | omega, by first | assumption | omega, ss526⟩
set_option maxHeartbeats 4000000 in
theorem ke_X12_readSteps {ad : List Nat} {h : hp} (L : Lay TLx ad h) {δ0 : dp} {N : Nat} (hN : 10000000 ≤ N) : ∀ (k : Nat), ∀ (a0 : Nat) (δ : dp), q_K h.1 a0 = 12 → (q_I δ 12 24 a0).toInt ≤ 3 → (q_I δ 12 26 a0).toInt ≤ (q_I δ 12 4 a0).toInt → (q_I δ 12 7 a0).toInt = 0 → 4 - (q_I δ 12 27 a0).toInt < (k : Int) → RI ad h.1 δ0 δ → ok (E_X12_readSteps N h.1 k a0 δ) (fun r => RI ad h.1 δ0 r ∧ (kp [(12, 4), (12, 5), (12, 6), (12, 7), (12, 25), (12, 26), (12, 27)] δ r ∧ q_V r = q_V δ ∧ kr ad [113, 114, 115, 116, 117] δ r) ∧ (q_I δ 12 4 a0).toInt ≤ (q_I r 12 4 a0).toInt ∧ (q_I δ 12 5 a0).toInt ≤ (q_I r 12 5 a0).toInt ∧ (q_I r 12 7 a0).toInt = (q_I δ 12 7 a0).toInt ∧ (q_I r 12 27 a0).toInt = (q_I δ 12 27 a0).toInt ∧ (q_I r 12 26 a0).toInt ≤ (q_I r 12 4 a0).toInt ∧ SS ad a0 δ r) := by
  intro k
  induction k with
  | zero =>
    intro a0 δ k_a0 z0 z1 z2 hd I
    have f28 := cb_12_27 I k_a0
    exfalso; omega
  | succ k ih =>
    intro a0 δ k_a0 z0 z1 z2 hd I
    unfold E_X12_readSteps B_X12_readSteps
    have f1 := cb_12_24 I k_a0
    have f2 := cb_12_26 I k_a0
    have f3 := cb_12_4 I k_a0
    have f4 := ti_b (q_I δ 12 7 a0)
    have f5 := cb_12_27 I k_a0
    refine ok_mono (kl_X12_readSteps_0 L hN   ih k_a0 _ δ I (show (q_I δ 12 24 a0).toInt ≤ 3 by first | assumption | omega) (show (q_I δ 12 26 a0).toInt ≤ (q_I δ 12 4 a0).toInt by first | assumption | omega) (show (q_I δ 12 7 a0).toInt = 0 by first | assumption | omega) (show 4 - (q_I δ 12 27 a0).toInt ≤ (k : Int) by first | assumption | omega) (show 501 - (q_I δ 12 4 a0).toInt < _ by omega)) (fun r6 hr7 => ?_)
    obtain ⟨i8, ⟨u15, u16, u17⟩, p9, p10, p11, p12, p13, p14⟩ := hr7
    have u18 := kp_t kp_r u15
    have v19 : q_V r6 = q_V δ := (u16).trans rfl
    have v20 := kr_t (kr_r (ad := ad)) u17
    have f21 := cb_12_4 i8 k_a0
    have f22 := cb_12_5 I k_a0
    have f23 := cb_12_5 i8 k_a0
    have f24 := ti_b (q_I r6 12 7 a0)
    have f25 := cb_12_27 i8 k_a0
    have f26 := cb_12_26 i8 k_a0
    have ss27 : SS ad a0 δ r6 := SS.pre NS.r p14
    exact ⟨by assumption, ⟨kp_w (by decide) u18, v19, kr_w (by decide) v20⟩, by first | assumption | omega, by first | assumption | omega, by first | assumption | omega, by first | assumption | omega, by first | assumption | omega, ss27⟩
set_option maxHeartbeats 4000000 in
theorem k_X12_readSteps {ad : List Nat} {h : hp} (L : Lay TLx ad h) {δ0 : dp} {N : Nat} (hN : 10000000 ≤ N) {a0 : Nat} (k_a0 : q_K h.1 a0 = 12) {δ : dp} (z0 : (q_I δ 12 24 a0).toInt ≤ 3) (z1 : (q_I δ 12 26 a0).toInt ≤ (q_I δ 12 4 a0).toInt) (z2 : (q_I δ 12 7 a0).toInt = 0) (hd : 4 - (q_I δ 12 27 a0).toInt < 20) (I : RI ad h.1 δ0 δ) : ok (D_X12_readSteps N h.1 a0 δ) (fun r => RI ad h.1 δ0 r ∧ (kp [(12, 4), (12, 5), (12, 6), (12, 7), (12, 25), (12, 26), (12, 27)] δ r ∧ q_V r = q_V δ ∧ kr ad [113, 114, 115, 116, 117] δ r) ∧ (q_I δ 12 4 a0).toInt ≤ (q_I r 12 4 a0).toInt ∧ (q_I δ 12 5 a0).toInt ≤ (q_I r 12 5 a0).toInt ∧ (q_I r 12 7 a0).toInt = (q_I δ 12 7 a0).toInt ∧ (q_I r 12 27 a0).toInt = (q_I δ 12 27 a0).toInt ∧ (q_I r 12 26 a0).toInt ≤ (q_I r 12 4 a0).toInt ∧ SS ad a0 δ r) := ke_X12_readSteps L hN 20 a0 δ k_a0 z0 z1 z2 hd I
set_option maxHeartbeats 4000000 in
theorem k_X12_thief {ad : List Nat} {h : hp} (L : Lay TLx ad h) {δ0 : dp} {N : Nat} (hN : 10000000 ≤ N) {a0 : Nat} {x1 : Int32} (k_a0 : q_K h.1 a0 = 12) {δ : dp} (I : RI ad h.1 δ0 δ) : ok (D_X12_thief N h.1 a0 x1 δ) (fun r => RI ad h.1 δ0 r.2 ∧ (kp [(12, 0), (12, 2), (12, 3), (12, 4), (12, 5), (12, 6), (12, 7), (12, 8), (12, 24), (12, 25), (12, 26), (12, 27)] δ r.2 ∧ q_V r.2 = q_V δ ∧ kr ad [100, 112, 113, 114, 115, 116, 117] δ r.2) ∧ TK ad a0 δ r.2 ∧ (0 ≤ (x1).toInt ∧ (x1).toInt ≤ (q_I δ 12 2 a0).toInt → (q_I r.2 12 2 a0).toInt = 0) ∧ ((x1).toInt < 0 ∨ (q_I δ 12 2 a0).toInt < (x1).toInt → (q_I r.2 12 2 a0).toInt = (q_I δ 12 2 a0).toInt)) := by
  unfold D_X12_thief
  refine ok_bdv (fun d1 e2 => ?_)
  have i3 : RI ad h.1 δ0 d1 := by rw [e2]; exact cs_12_0 L I
  have u4 := kp_I kp_r e2
  have v5 : q_V d1 = q_V δ := ((show q_V d1 = q_V δ by rw [e2]; rfl)).trans rfl
  have v6 := kr_N (kr_r (ad := ad)) (show q_R d1 = q_R δ by rw [e2]; rfl)
  have f7 := ti_b x1
  refine ok_ite (fun h8 => ?_) (fun h8 => ?_)
  · have c9 : x1.toInt < (0 : Int) := o_lt h8
    unfold J_X12_thief_22
    unfold J_X12_thief_23
    refine ok_bind (k_X12_may L hN (a0 := a0) (x1 := (0 : Int32)) (x2 := (1 : Int32)) (x3 := (2 : Int32)) k_a0 (show (1 : Int) ≠ 0 by first | assumption | omega) (show 0 ≤ (2 : Int) by first | assumption | omega) (show (2 : Int) ≤ 2 by first | assumption | omega) i3) (fun r10 hr11 => ?_)
    obtain ⟨i12, ⟨u16, u17, u18⟩, p13, p14, p15⟩ := hr11
    have u19 := kp_t u4 u16
    have v20 : q_V r10.2 = q_V δ := (u17).trans v5
    have v21 := kr_t v6 u18
    have f22 := bo_l p13
    have f23 := ti_b r10.1
    replace p14 : ((r10.1).toInt = 1 → (0 : Int) ≠ 0) := p14
    have f24 := ti_b (q_I d1 12 0 a0)
    have f25 : (q_I d1 12 0 a0).toInt = (0 : Int) := congrArg Int32.toInt (show q_I d1 12 0 a0 = (0 : Int32) by rw [e2]; exact rI_s)
    replace p15 : ((q_I d1 12 0 a0).toInt = 0 → (r10.1).toInt = 0 → (0 : Int) = 0) := p15
    have f26 := ti_b r10.1
    have f28 := cb_12_5 i12 k_a0
    have f29 : (q_I r10.2 12 5 a0).toInt = (q_I d1 12 5 a0).toInt := congrArg Int32.toInt (u16 12 5 a0 (by decide))
    have f30 := cb_12_5 i3 k_a0
    have f31 : (q_I d1 12 5 a0).toInt = (q_I δ 12 5 a0).toInt := congrArg Int32.toInt (by rw [e2]; exact rI_o (by decide))
    have f32 := cb_12_5 I k_a0
    have ns27 : NS ad a0 d1 r10.2 := ⟨u18 112 (by decide) (by decide) (by decide), u18 113 (by decide) (by decide) (by decide), u18 114 (by decide) (by decide) (by decide), u18 115 (by decide) (by decide) (by decide), u18 116 (by decide) (by decide) (by decide), u16 12 24 _ (by decide), u16 12 25 _ (by decide), u16 12 26 _ (by decide), u16 12 27 _ (by decide), fun z => by omega⟩
    refine ok_ite (fun h33 => ?_) (fun h33 => ?_)
    · have c34 : r10.1.toInt = (0 : Int) := o_eq h33
      have ss35 : NS ad a0 δ d1 := NS.t NS.r (NS.w e2 (by decide))
      have ss36 : NS0 ad a0 δ r10.2 := NS0.t (NS.z ss35) (NS.z ns27)
      have f37 := cb_12_2 I k_a0
      have f38 := cb_12_2 i12 k_a0
      have f39 : (q_I r10.2 12 2 a0).toInt = (q_I d1 12 2 a0).toInt := congrArg Int32.toInt (u16 12 2 a0 (by decide))
      have f40 := cb_12_2 i3 k_a0
      have f41 : (q_I d1 12 2 a0).toInt = (q_I δ 12 2 a0).toInt := congrArg Int32.toInt (by rw [e2]; exact rI_o (by decide))
      exact ok_some (show RI ad h.1 δ0 r10.2 ∧ (kp [(12, 0), (12, 2), (12, 3), (12, 4), (12, 5), (12, 6), (12, 7), (12, 8), (12, 24), (12, 25), (12, 26), (12, 27)] δ r10.2 ∧ q_V r10.2 = q_V δ ∧ kr ad [100, 112, 113, 114, 115, 116, 117] δ r10.2) ∧ TK ad a0 δ r10.2 ∧ (0 ≤ (x1).toInt ∧ (x1).toInt ≤ (q_I δ 12 2 a0).toInt → (q_I r10.2 12 2 a0).toInt = 0) ∧ ((x1).toInt < 0 ∨ (q_I δ 12 2 a0).toInt < (x1).toInt → (q_I r10.2 12 2 a0).toInt = (q_I δ 12 2 a0).toInt) from ⟨i12, ⟨kp_w (by decide) u19, v20, kr_w (by decide) v21⟩, TK.n ss36, by first | assumption | omega, by first | assumption | omega⟩)
    · have c42 : r10.1.toInt ≠ (0 : Int) := o_ne h33
      refine ok_bind (k_X12_begins L hN (a0 := a0) (x1 := x1) k_a0 (show 0 ≤ (x1).toInt by first | assumption | omega) (show (x1).toInt ≤ 500 by first | assumption | omega) i12) (fun r43 hr44 => ?_)
      obtain ⟨i45, ⟨u51, u52, u53, u54⟩, p46, p47, p48, p49, p50⟩ := hr44
      have u55 := kp_t u19 u51
      have v56 : q_V r43 = q_V δ := (u52).trans v20
      have v57 := kr_t v21 u54
      have f58 := cb_12_2 i45 k_a0
      have f59 := cb_12_4 i45 k_a0
      have f60 := cb_12_3 i45 k_a0
      have f61 := cb_12_5 i45 k_a0
      have f62 := ti_b (q_I r43 12 7 a0)
      have ns63 : NS0 ad a0 r10.2 r43 := ⟨u54 112 (by decide) (by decide) (by decide), u54 113 (by decide) (by decide) (by decide), u54 114 (by decide) (by decide) (by decide), u54 115 (by decide) (by decide) (by decide), u54 116 (by decide) (by decide) (by decide), u51 12 24 _ (by decide)⟩
      have f64 := cb_12_24 i45 k_a0
      have f65 : (q_I r43 12 24 a0).toInt = (q_I r10.2 12 24 a0).toInt := congrArg Int32.toInt (u51 12 24 a0 (by decide))
      have f66 := cb_12_24 i12 k_a0
      have f67 : (q_I r10.2 12 24 a0).toInt = (q_I d1 12 24 a0).toInt := congrArg Int32.toInt (u16 12 24 a0 (by decide))
      have f68 := cb_12_24 i3 k_a0
      have f69 : (q_I d1 12 24 a0).toInt = (q_I δ 12 24 a0).toInt := congrArg Int32.toInt (by rw [e2]; exact rI_o (by decide))
      have f70 := cb_12_24 I k_a0
      refine ok_ite (fun h71 => ?_) (fun h71 => ?_)
      · have c72 : (q_I r43 12 24 a0).toInt = (4 : Int) := o_eq h71
        have ss73 : NS ad a0 δ d1 := NS.t NS.r (NS.w e2 (by decide))
        have ss74 : NS0 ad a0 δ r10.2 := NS0.t (NS.z ss73) (NS.z ns27)
        have ss75 : NS0 ad a0 δ r43 := NS0.t ss74 ns63
        have f76 := cb_12_2 I k_a0
        exact ok_some (show RI ad h.1 δ0 r43 ∧ (kp [(12, 0), (12, 2), (12, 3), (12, 4), (12, 5), (12, 6), (12, 7), (12, 8), (12, 24), (12, 25), (12, 26), (12, 27)] δ r43 ∧ q_V r43 = q_V δ ∧ kr ad [100, 112, 113, 114, 115, 116, 117] δ r43) ∧ TK ad a0 δ r43 ∧ (0 ≤ (x1).toInt ∧ (x1).toInt ≤ (q_I δ 12 2 a0).toInt → (q_I r43 12 2 a0).toInt = 0) ∧ ((x1).toInt < 0 ∨ (q_I δ 12 2 a0).toInt < (x1).toInt → (q_I r43 12 2 a0).toInt = (q_I δ 12 2 a0).toInt) from ⟨i45, ⟨kp_w (by decide) u55, v56, kr_w (by decide) v57⟩, TK.n ss75, by first | assumption | omega, by first | assumption | omega⟩)
      · have c77 : (q_I r43 12 24 a0).toInt ≠ (4 : Int) := o_ne h71
        refine ok_bdv (fun d78 e79 => ?_)
        have i80 : RI ad h.1 δ0 d78 := by rw [e79]; exact cs_12_25 L i45 k_a0 (show 0 ≤ (0 : Int) by omega) (show (0 : Int) ≤ 60 by omega)
        have u81 := kp_I u55 e79
        have v82 : q_V d78 = q_V δ := ((show q_V d78 = q_V r43 by rw [e79]; rfl)).trans v56
        have v83 := kr_N v57 (show q_R d78 = q_R r43 by rw [e79]; rfl)
        refine ok_bdv (fun d84 e85 => ?_)
        have i86 : RI ad h.1 δ0 d84 := by rw [e85]; exact cs_12_26 L i80 k_a0 (show 0 ≤ (0 : Int) by omega) (show (0 : Int) ≤ 500 by omega)
        have u87 := kp_I u81 e85
        have v88 : q_V d84 = q_V δ := ((show q_V d84 = q_V d78 by rw [e85]; rfl)).trans v82
        have v89 := kr_N v83 (show q_R d84 = q_R d78 by rw [e85]; rfl)
        refine ok_bdv (fun d90 e91 => ?_)
        have i92 : RI ad h.1 δ0 d90 := by rw [e91]; exact cs_12_27 L i86 k_a0 (show 0 ≤ (0 : Int) by omega) (show (0 : Int) ≤ 3 by omega)
        have u93 := kp_I u87 e91
        have v94 : q_V d90 = q_V δ := ((show q_V d90 = q_V d84 by rw [e91]; rfl)).trans v88
        have v95 := kr_N v89 (show q_R d90 = q_R d84 by rw [e91]; rfl)
        refine ok_bind (k_X12_isMore L hN (a0 := a0) k_a0 i92) (fun r96 hr97 => ?_)
        obtain ⟨i98, ⟨u102, u103, u104, u105⟩, p99, p100, p101⟩ := hr97
        have u106 := kp_t u93 u102
        have v107 : q_V r96.2 = q_V δ := (u103).trans v94
        have v108 := kr_t v95 u105
        have f109 := bo_l p99
        have f110 := cb_12_4 i92 k_a0
        have f111 : (q_I d90 12 4 a0).toInt = (q_I d84 12 4 a0).toInt := congrArg Int32.toInt (by rw [e91]; exact rI_o (by decide))
        have f112 := cb_12_4 i86 k_a0
        have f113 : (q_I d84 12 4 a0).toInt = (q_I d78 12 4 a0).toInt := congrArg Int32.toInt (by rw [e85]; exact rI_o (by decide))
        have f114 := cb_12_4 i80 k_a0
        have f115 : (q_I d78 12 4 a0).toInt = (q_I r43 12 4 a0).toInt := congrArg Int32.toInt (by rw [e79]; exact rI_o (by decide))
        have f116 := cb_12_4 i98 k_a0
        have f117 := ti_b r96.1
        have f118 := cb_12_3 i92 k_a0
        have f119 : (q_I d90 12 3 a0).toInt = (q_I d84 12 3 a0).toInt := congrArg Int32.toInt (by rw [e91]; exact rI_o (by decide))
        have f120 := cb_12_3 i86 k_a0
        have f121 : (q_I d84 12 3 a0).toInt = (q_I d78 12 3 a0).toInt := congrArg Int32.toInt (by rw [e85]; exact rI_o (by decide))
        have f122 := cb_12_3 i80 k_a0
        have f123 : (q_I d78 12 3 a0).toInt = (q_I r43 12 3 a0).toInt := congrArg Int32.toInt (by rw [e79]; exact rI_o (by decide))
        have f124 := ti_b r96.1
        have f126 := cb_12_5 i98 k_a0
        have f127 : (q_I r96.2 12 5 a0).toInt = (q_I d90 12 5 a0).toInt := congrArg Int32.toInt (u102 12 5 a0 (by decide))
        have f128 := cb_12_5 i92 k_a0
        have f129 : (q_I d90 12 5 a0).toInt = (q_I d84 12 5 a0).toInt := congrArg Int32.toInt (by rw [e91]; exact rI_o (by decide))
        have f130 := cb_12_5 i86 k_a0
        have f131 : (q_I d84 12 5 a0).toInt = (q_I d78 12 5 a0).toInt := congrArg Int32.toInt (by rw [e85]; exact rI_o (by decide))
        have f132 := cb_12_5 i80 k_a0
        have f133 : (q_I d78 12 5 a0).toInt = (q_I r43 12 5 a0).toInt := congrArg Int32.toInt (by rw [e79]; exact rI_o (by decide))
        have ns125 : NS ad a0 d90 r96.2 := ⟨u105 112 (by decide) (by decide) (by decide), u105 113 (by decide) (by decide) (by decide), u105 114 (by decide) (by decide) (by decide), u105 115 (by decide) (by decide) (by decide), u105 116 (by decide) (by decide) (by decide), u102 12 24 _ (by decide), u102 12 25 _ (by decide), u102 12 26 _ (by decide), u102 12 27 _ (by decide), fun z => by omega⟩
        refine ok_ite (fun h134 => ?_) (fun h134 => ?_)
        · have c135 : r96.1.toInt = (0 : Int) := o_eq h134
          have f138 := cb_12_3 i98 k_a0
          have f139 : (q_I r96.2 12 3 a0).toInt = (q_I d90 12 3 a0).toInt := congrArg Int32.toInt (u102 12 3 a0 (by decide))
          refine ok_bind (k_X12_wrong L hN (a0 := a0) (x1 := (1 : Int32)) (x2 := (q_I r96.2 12 3 a0)) k_a0 (show 0 ≤ ((q_I r96.2 12 3 a0)).toInt by first | assumption | omega) (show ((q_I r96.2 12 3 a0)).toInt ≤ 500 by first | assumption | omega) (show 0 ≤ (1 : Int) by first | assumption | omega) (show (1 : Int) ≤ 4 by first | assumption | omega) i98) (fun r136 hr137 => ?_)
          obtain ⟨i140, ⟨u143, u144, u145, u146⟩, p141, p142⟩ := hr137
          have u147 := kp_t u106 u143
          have v148 : q_V r136 = q_V δ := (u144).trans v107
          have v149 := kr_t v108 u146
          have f150 := cb_12_5 i140 k_a0
          have ns151 : NS ad a0 r96.2 r136 := ⟨u146 112 (by decide) (by decide) (by decide), u146 113 (by decide) (by decide) (by decide), u146 114 (by decide) (by decide) (by decide), u146 115 (by decide) (by decide) (by decide), u146 116 (by decide) (by decide) (by decide), u143 12 24 _ (by decide), u143 12 25 _ (by decide), u143 12 26 _ (by decide), u143 12 27 _ (by decide), fun z => by omega⟩
          unfold J_X12_thief_79
          have f154 := cb_12_24 i140 k_a0
          have f155 : (q_I r136 12 24 a0).toInt = (q_I r96.2 12 24 a0).toInt := congrArg Int32.toInt (u143 12 24 a0 (by decide))
          have f156 := cb_12_24 i98 k_a0
          have f157 : (q_I r96.2 12 24 a0).toInt = (q_I d90 12 24 a0).toInt := congrArg Int32.toInt (u102 12 24 a0 (by decide))
          have f158 := cb_12_24 i92 k_a0
          have f159 : (q_I d90 12 24 a0).toInt = (q_I d84 12 24 a0).toInt := congrArg Int32.toInt (by rw [e91]; exact rI_o (by decide))
          have f160 := cb_12_24 i86 k_a0
          have f161 : (q_I d84 12 24 a0).toInt = (q_I d78 12 24 a0).toInt := congrArg Int32.toInt (by rw [e85]; exact rI_o (by decide))
          have f162 := cb_12_24 i80 k_a0
          have f163 : (q_I d78 12 24 a0).toInt = (q_I r43 12 24 a0).toInt := congrArg Int32.toInt (by rw [e79]; exact rI_o (by decide))
          have f164 := cb_12_26 i140 k_a0
          have f165 : (q_I r136 12 26 a0).toInt = (q_I r96.2 12 26 a0).toInt := congrArg Int32.toInt (u143 12 26 a0 (by decide))
          have f166 := cb_12_26 i98 k_a0
          have f167 : (q_I r96.2 12 26 a0).toInt = (q_I d90 12 26 a0).toInt := congrArg Int32.toInt (u102 12 26 a0 (by decide))
          have f168 := cb_12_26 i92 k_a0
          have f169 : (q_I d90 12 26 a0).toInt = (q_I d84 12 26 a0).toInt := congrArg Int32.toInt (by rw [e91]; exact rI_o (by decide))
          have f170 := cb_12_26 i86 k_a0
          have f171 : (q_I d84 12 26 a0).toInt = (0 : Int) := congrArg Int32.toInt (show q_I d84 12 26 a0 = (0 : Int32) by rw [e85]; exact rI_s)
          have f172 := cb_12_4 i140 k_a0
          have f173 : (q_I r136 12 4 a0).toInt = (q_I r96.2 12 4 a0).toInt := congrArg Int32.toInt (u143 12 4 a0 (by decide))
          have f174 := ti_b (q_I r136 12 7 a0)
          have f175 : (q_I r136 12 7 a0).toInt = (q_I r96.2 12 7 a0).toInt := congrArg Int32.toInt (u143 12 7 a0 (by decide))
          have f176 := ti_b (q_I r96.2 12 7 a0)
          have f177 : (q_I r96.2 12 7 a0).toInt = (q_I d90 12 7 a0).toInt := congrArg Int32.toInt (u102 12 7 a0 (by decide))
          have f178 := ti_b (q_I d90 12 7 a0)
          have f179 : (q_I d90 12 7 a0).toInt = (q_I d84 12 7 a0).toInt := congrArg Int32.toInt (by rw [e91]; exact rI_o (by decide))
          have f180 := ti_b (q_I d84 12 7 a0)
          have f181 : (q_I d84 12 7 a0).toInt = (q_I d78 12 7 a0).toInt := congrArg Int32.toInt (by rw [e85]; exact rI_o (by decide))
          have f182 := ti_b (q_I d78 12 7 a0)
          have f183 : (q_I d78 12 7 a0).toInt = (q_I r43 12 7 a0).toInt := congrArg Int32.toInt (by rw [e79]; exact rI_o (by decide))
          have f184 := cb_12_27 i140 k_a0
          have f185 : (q_I r136 12 27 a0).toInt = (q_I r96.2 12 27 a0).toInt := congrArg Int32.toInt (u143 12 27 a0 (by decide))
          have f186 := cb_12_27 i98 k_a0
          have f187 : (q_I r96.2 12 27 a0).toInt = (q_I d90 12 27 a0).toInt := congrArg Int32.toInt (u102 12 27 a0 (by decide))
          have f188 := cb_12_27 i92 k_a0
          have f189 : (q_I d90 12 27 a0).toInt = (0 : Int) := congrArg Int32.toInt (show q_I d90 12 27 a0 = (0 : Int32) by rw [e91]; exact rI_s)
          refine ok_bind (k_X12_readSteps L hN (a0 := a0) k_a0 (show (q_I r136 12 24 a0).toInt ≤ 3 by first | assumption | omega) (show (q_I r136 12 26 a0).toInt ≤ (q_I r136 12 4 a0).toInt by first | assumption | omega) (show (q_I r136 12 7 a0).toInt = 0 by first | assumption | omega) (show 4 - (q_I r136 12 27 a0).toInt < 20 by first | assumption | omega) i140) (fun r152 hr153 => ?_)
          obtain ⟨i190, ⟨u197, u198, u199⟩, p191, p192, p193, p194, p195, p196⟩ := hr153
          have u200 := kp_t u147 u197
          have v201 : q_V r152 = q_V δ := (u198).trans v148
          have v202 := kr_t v149 u199
          have f203 := cb_12_4 i190 k_a0
          have f204 := cb_12_5 i190 k_a0
          have f205 := ti_b (q_I r152 12 7 a0)
          have f206 := cb_12_27 i190 k_a0
          have f207 := cb_12_26 i190 k_a0
          refine ok_bind (k_X12_fine L hN (a0 := a0) k_a0 i190) (fun r208 hr209 => ?_)
          obtain ⟨i210, p211, p212, p213⟩ := hr209
          try rw [i210]
          have f214 := bo_l p211
          have f215 := ti_b r208.1
          have f216 := ti_b r208.1
          refine ok_ite (fun h217 => ?_) (fun h217 => ?_)
          · have c218 : r208.1.toInt = (0 : Int) := o_eq h217
            unfold J_X12_thief_106
            refine ok_bind (k_X12_result L hN (a0 := a0) (x1 := (q_I r152 12 24 a0)) k_a0 i190) (fun r219 hr220 => ?_)
            obtain ⟨i221, ⟨u223, u224, u225, u226⟩, p222⟩ := hr220
            have u227 := kp_t u200 u223
            have v228 : q_V r219.2 = q_V δ := (u224).trans v201
            have v229 := kr_t v202 u226
            have f230 := ti_b r219.1
            have f231 := ti_b r219.1
            have f233 := cb_12_5 i221 k_a0
            have f234 : (q_I r219.2 12 5 a0).toInt = (q_I r152 12 5 a0).toInt := congrArg Int32.toInt (u223 12 5 a0 (by decide))
            have ns232 : NS ad a0 r152 r219.2 := ⟨u226 112 (by decide) (by decide) (by decide), u226 113 (by decide) (by decide) (by decide), u226 114 (by decide) (by decide) (by decide), u226 115 (by decide) (by decide) (by decide), u226 116 (by decide) (by decide) (by decide), u223 12 24 _ (by decide), u223 12 25 _ (by decide), u223 12 26 _ (by decide), u223 12 27 _ (by decide), fun z => by omega⟩
            have f235 := cb_12_24 i221 k_a0
            have f236 : (q_I r219.2 12 24 a0).toInt = (q_I r152 12 24 a0).toInt := congrArg Int32.toInt (u223 12 24 a0 (by decide))
            have f237 := cb_12_24 i190 k_a0
            have f238 : (q_I r152 12 24 a0).toInt = (q_I r136 12 24 a0).toInt := congrArg Int32.toInt (u197 12 24 a0 (by decide))
            refine ok_ite (fun h239 => ?_) (fun h239 => ?_)
            · have c240 : r219.1.toInt = (q_I r219.2 12 24 a0).toInt := o_eq h239
              obtain ⟨b241, o242, k243, n244⟩ := gO_12_28 L k_a0
              obtain rfl := gS_12_28 L k_a0 o242
              refine ok_at o242 ?_
              have t245 := ti_tn (q_I r219.2 12 24 a0)
              refine ok_gd (fun hc246 => ?_) ?_
              · rcases hc246 with hc246 | hc246
                · have c247 : (q_I r219.2 12 24 a0).toInt < (0 : Int) := o_lt hc246
                  omega
                · omega
              have f251 := cb_12_25 i221 k_a0
              have f252 : (q_I r219.2 12 25 a0).toInt = (q_I r152 12 25 a0).toInt := congrArg Int32.toInt (u223 12 25 a0 (by decide))
              have f253 := cb_12_25 i190 k_a0
              refine ok_bdv (fun d248 e249 => ?_)
              have i250 : RI ad h.1 δ0 d248 := by rw [e249]; exact cr_112 L i221 (show 0 ≤ (q_I r219.2 12 25 a0).toInt by omega) (show (q_I r219.2 12 25 a0).toInt ≤ 60 by omega)
              have u254 := kp_N u227 (show q_I d248 = q_I r219.2 by rw [e249]; rfl)
              have v255 : q_V d248 = q_V δ := ((show q_V d248 = q_V r219.2 by rw [e249]; rfl)).trans v228
              have v256 := kr_s L (by decide) v229 e249
              have f260 := cb_12_24 i250 k_a0
              have f261 : (q_I d248 12 24 a0).toInt = (q_I r219.2 12 24 a0).toInt := congrArg Int32.toInt (by rw [e249]; rfl)
              first | (have q263 := te_addc (c := 1) (n := 1) rfl (q_I d248 12 24 a0) (by omega) (by omega); obtain ⟨f264, f265, f266⟩ := q263) | (obtain ⟨q263, f264, f265, f266⟩ := ti_addc (c := 1) (n := 1) rfl (q_I d248 12 24 a0))
              refine ok_bdv (fun d257 e258 => ?_)
              have i259 : RI ad h.1 δ0 d257 := by rw [e258]; exact cs_12_24 L i250 k_a0 (show 0 ≤ ((q_I d248 12 24 a0) + (1 : Int32)).toInt by omega) (show ((q_I d248 12 24 a0) + (1 : Int32)).toInt ≤ 4 by omega)
              have u267 := kp_I u254 e258
              have v268 : q_V d257 = q_V δ := ((show q_V d257 = q_V d248 by rw [e258]; rfl)).trans v255
              have v269 := kr_N v256 (show q_R d257 = q_R d248 by rw [e258]; rfl)
              unfold J_X12_thief_146
              have ss270 : NS ad a0 δ d1 := NS.t NS.r (NS.w e2 (by decide))
              have ss271 : NS0 ad a0 δ r10.2 := NS0.t (NS.z ss270) (NS.z ns27)
              have ss272 : NS0 ad a0 δ r43 := NS0.t ss271 ns63
              have ns274 : NS ad a0 d90 r96.2 := NS.t NS.r ns125
              have ns275 : NS ad a0 d90 r136 := NS.t ns274 ns151
              have ns276 : NS ad a0 r152 r219.2 := NS.t NS.r ns232
              have f277 := cb_12_26 i221 k_a0
              have f278 : (q_I r219.2 12 26 a0).toInt = (q_I r152 12 26 a0).toInt := congrArg Int32.toInt (u223 12 26 a0 (by decide))
              have ss273 : TK ad a0 δ d257 := TK.good L ss272 e79 e85 e91 ns275 p196 (u199 112 (by decide) (by decide) (by decide)) ns276 (show (0 : Int) = 0 by omega) (show (0 : Int) = 0 by omega) (show (0 : Int) = 0 by omega) (by omega) e249 e258 (show (((q_I r219.2 12 24 a0).toNatClampNeg : Nat) : Int) = (q_I δ 12 24 a0).toInt by omega) (show (q_I r219.2 12 25 a0).toInt = (q_I r219.2 12 25 a0).toInt by omega) (show ((q_I d248 12 24 a0) + (1 : Int32)).toInt = (q_I δ 12 24 a0).toInt + 1 by omega) (show (q_I r219.2 12 5 a0).toInt = -1 by omega) (show (q_I r219.2 12 26 a0).toInt ≤ 500 by omega)
              have f279 := cb_12_2 I k_a0
              have f280 := cb_12_2 i259 k_a0
              have f281 : (q_I d257 12 2 a0).toInt = (q_I d248 12 2 a0).toInt := congrArg Int32.toInt (by rw [e258]; exact rI_o (by decide))
              have f282 := cb_12_2 i250 k_a0
              have f283 : (q_I d248 12 2 a0).toInt = (q_I r219.2 12 2 a0).toInt := congrArg Int32.toInt (by rw [e249]; rfl)
              have f284 := cb_12_2 i221 k_a0
              have f285 : (q_I r219.2 12 2 a0).toInt = (q_I r152 12 2 a0).toInt := congrArg Int32.toInt (u223 12 2 a0 (by decide))
              have f286 := cb_12_2 i190 k_a0
              have f287 : (q_I r152 12 2 a0).toInt = (q_I r136 12 2 a0).toInt := congrArg Int32.toInt (u197 12 2 a0 (by decide))
              have f288 := cb_12_2 i140 k_a0
              have f289 : (q_I r136 12 2 a0).toInt = (q_I r96.2 12 2 a0).toInt := congrArg Int32.toInt (u143 12 2 a0 (by decide))
              have f290 := cb_12_2 i98 k_a0
              have f291 : (q_I r96.2 12 2 a0).toInt = (q_I d90 12 2 a0).toInt := congrArg Int32.toInt (u102 12 2 a0 (by decide))
              have f292 := cb_12_2 i92 k_a0
              have f293 : (q_I d90 12 2 a0).toInt = (q_I d84 12 2 a0).toInt := congrArg Int32.toInt (by rw [e91]; exact rI_o (by decide))
              have f294 := cb_12_2 i86 k_a0
              have f295 : (q_I d84 12 2 a0).toInt = (q_I d78 12 2 a0).toInt := congrArg Int32.toInt (by rw [e85]; exact rI_o (by decide))
              have f296 := cb_12_2 i80 k_a0
              have f297 : (q_I d78 12 2 a0).toInt = (q_I r43 12 2 a0).toInt := congrArg Int32.toInt (by rw [e79]; exact rI_o (by decide))
              exact ok_some (show RI ad h.1 δ0 d257 ∧ (kp [(12, 0), (12, 2), (12, 3), (12, 4), (12, 5), (12, 6), (12, 7), (12, 8), (12, 24), (12, 25), (12, 26), (12, 27)] δ d257 ∧ q_V d257 = q_V δ ∧ kr ad [100, 112, 113, 114, 115, 116, 117] δ d257) ∧ TK ad a0 δ d257 ∧ (0 ≤ (x1).toInt ∧ (x1).toInt ≤ (q_I δ 12 2 a0).toInt → (q_I d257 12 2 a0).toInt = 0) ∧ ((x1).toInt < 0 ∨ (q_I δ 12 2 a0).toInt < (x1).toInt → (q_I d257 12 2 a0).toInt = (q_I δ 12 2 a0).toInt) from ⟨i259, ⟨kp_w (by decide) u267, v268, kr_w (by decide) v269⟩, ss273, by first | assumption | omega, by first | assumption | omega⟩)
            · have c298 : r219.1.toInt ≠ (q_I r219.2 12 24 a0).toInt := o_ne h239
              unfold J_X12_thief_146
              have ss299 : NS ad a0 δ d1 := NS.t NS.r (NS.w e2 (by decide))
              have ss300 : NS0 ad a0 δ r10.2 := NS0.t (NS.z ss299) (NS.z ns27)
              have ss301 : NS0 ad a0 δ r43 := NS0.t ss300 ns63
              have ns303 : NS ad a0 d90 r96.2 := NS.t NS.r ns125
              have ns304 : NS ad a0 d90 r136 := NS.t ns303 ns151
              have ns305 : NS ad a0 r152 r219.2 := NS.t NS.r ns232
              have ss302 : TK ad a0 δ r219.2 := TK.bad L ss301 e79 e85 e91 ns304 p196 (u199 112 (by decide) (by decide) (by decide)) ns305 (show (0 : Int) = 0 by omega) (show (0 : Int) = 0 by omega) (show (0 : Int) = 0 by omega) (by omega)
              have f306 := cb_12_2 I k_a0
              have f307 := cb_12_2 i221 k_a0
              have f308 : (q_I r219.2 12 2 a0).toInt = (q_I r152 12 2 a0).toInt := congrArg Int32.toInt (u223 12 2 a0 (by decide))
              have f309 := cb_12_2 i190 k_a0
              have f310 : (q_I r152 12 2 a0).toInt = (q_I r136 12 2 a0).toInt := congrArg Int32.toInt (u197 12 2 a0 (by decide))
              have f311 := cb_12_2 i140 k_a0
              have f312 : (q_I r136 12 2 a0).toInt = (q_I r96.2 12 2 a0).toInt := congrArg Int32.toInt (u143 12 2 a0 (by decide))
              have f313 := cb_12_2 i98 k_a0
              have f314 : (q_I r96.2 12 2 a0).toInt = (q_I d90 12 2 a0).toInt := congrArg Int32.toInt (u102 12 2 a0 (by decide))
              have f315 := cb_12_2 i92 k_a0
              have f316 : (q_I d90 12 2 a0).toInt = (q_I d84 12 2 a0).toInt := congrArg Int32.toInt (by rw [e91]; exact rI_o (by decide))
              have f317 := cb_12_2 i86 k_a0
              have f318 : (q_I d84 12 2 a0).toInt = (q_I d78 12 2 a0).toInt := congrArg Int32.toInt (by rw [e85]; exact rI_o (by decide))
              have f319 := cb_12_2 i80 k_a0
              have f320 : (q_I d78 12 2 a0).toInt = (q_I r43 12 2 a0).toInt := congrArg Int32.toInt (by rw [e79]; exact rI_o (by decide))
              exact ok_some (show RI ad h.1 δ0 r219.2 ∧ (kp [(12, 0), (12, 2), (12, 3), (12, 4), (12, 5), (12, 6), (12, 7), (12, 8), (12, 24), (12, 25), (12, 26), (12, 27)] δ r219.2 ∧ q_V r219.2 = q_V δ ∧ kr ad [100, 112, 113, 114, 115, 116, 117] δ r219.2) ∧ TK ad a0 δ r219.2 ∧ (0 ≤ (x1).toInt ∧ (x1).toInt ≤ (q_I δ 12 2 a0).toInt → (q_I r219.2 12 2 a0).toInt = 0) ∧ ((x1).toInt < 0 ∨ (q_I δ 12 2 a0).toInt < (x1).toInt → (q_I r219.2 12 2 a0).toInt = (q_I δ 12 2 a0).toInt) from ⟨i221, ⟨kp_w (by decide) u227, v228, kr_w (by decide) v229⟩, ss302, by first | assumption | omega, by first | assumption | omega⟩)
          · have c321 : r208.1.toInt ≠ (0 : Int) := o_ne h217
            refine ok_bind (k_X12_isMore L hN (a0 := a0) k_a0 i190) (fun r322 hr323 => ?_)
            obtain ⟨i324, ⟨u328, u329, u330, u331⟩, p325, p326, p327⟩ := hr323
            have u332 := kp_t u200 u328
            have v333 : q_V r322.2 = q_V δ := (u329).trans v201
            have v334 := kr_t v202 u331
            have f335 := bo_l p325
            have f336 := cb_12_4 i324 k_a0
            have f337 := ti_b r322.1
            have f338 := cb_12_3 i190 k_a0
            have f339 : (q_I r152 12 3 a0).toInt = (q_I r136 12 3 a0).toInt := congrArg Int32.toInt (u197 12 3 a0 (by decide))
            have f340 := cb_12_3 i140 k_a0
            have f341 : (q_I r136 12 3 a0).toInt = (q_I r96.2 12 3 a0).toInt := congrArg Int32.toInt (u143 12 3 a0 (by decide))
            have f342 := ti_b r322.1
            have f344 := cb_12_5 i324 k_a0
            have f345 : (q_I r322.2 12 5 a0).toInt = (q_I r152 12 5 a0).toInt := congrArg Int32.toInt (u328 12 5 a0 (by decide))
            have ns343 : NS ad a0 r152 r322.2 := ⟨u331 112 (by decide) (by decide) (by decide), u331 113 (by decide) (by decide) (by decide), u331 114 (by decide) (by decide) (by decide), u331 115 (by decide) (by decide) (by decide), u331 116 (by decide) (by decide) (by decide), u328 12 24 _ (by decide), u328 12 25 _ (by decide), u328 12 26 _ (by decide), u328 12 27 _ (by decide), fun z => by omega⟩
            refine ok_ite (fun h346 => ?_) (fun h346 => ?_)
            · have c347 : r322.1.toInt = (0 : Int) := o_eq h346
              unfold J_X12_thief_106
              refine ok_bind (k_X12_result L hN (a0 := a0) (x1 := (q_I r322.2 12 24 a0)) k_a0 i324) (fun r348 hr349 => ?_)
              obtain ⟨i350, ⟨u352, u353, u354, u355⟩, p351⟩ := hr349
              have u356 := kp_t u332 u352
              have v357 : q_V r348.2 = q_V δ := (u353).trans v333
              have v358 := kr_t v334 u355
              have f359 := ti_b r348.1
              have f360 := ti_b r348.1
              have f362 := cb_12_5 i350 k_a0
              have f363 : (q_I r348.2 12 5 a0).toInt = (q_I r322.2 12 5 a0).toInt := congrArg Int32.toInt (u352 12 5 a0 (by decide))
              have ns361 : NS ad a0 r322.2 r348.2 := ⟨u355 112 (by decide) (by decide) (by decide), u355 113 (by decide) (by decide) (by decide), u355 114 (by decide) (by decide) (by decide), u355 115 (by decide) (by decide) (by decide), u355 116 (by decide) (by decide) (by decide), u352 12 24 _ (by decide), u352 12 25 _ (by decide), u352 12 26 _ (by decide), u352 12 27 _ (by decide), fun z => by omega⟩
              have f364 := cb_12_24 i350 k_a0
              have f365 : (q_I r348.2 12 24 a0).toInt = (q_I r322.2 12 24 a0).toInt := congrArg Int32.toInt (u352 12 24 a0 (by decide))
              have f366 := cb_12_24 i324 k_a0
              have f367 : (q_I r322.2 12 24 a0).toInt = (q_I r152 12 24 a0).toInt := congrArg Int32.toInt (u328 12 24 a0 (by decide))
              have f368 := cb_12_24 i190 k_a0
              have f369 : (q_I r152 12 24 a0).toInt = (q_I r136 12 24 a0).toInt := congrArg Int32.toInt (u197 12 24 a0 (by decide))
              refine ok_ite (fun h370 => ?_) (fun h370 => ?_)
              · have c371 : r348.1.toInt = (q_I r348.2 12 24 a0).toInt := o_eq h370
                obtain ⟨b372, o373, k374, n375⟩ := gO_12_28 L k_a0
                obtain rfl := gS_12_28 L k_a0 o373
                refine ok_at o373 ?_
                have t376 := ti_tn (q_I r348.2 12 24 a0)
                refine ok_gd (fun hc377 => ?_) ?_
                · rcases hc377 with hc377 | hc377
                  · have c378 : (q_I r348.2 12 24 a0).toInt < (0 : Int) := o_lt hc377
                    omega
                  · omega
                have f382 := cb_12_25 i350 k_a0
                have f383 : (q_I r348.2 12 25 a0).toInt = (q_I r322.2 12 25 a0).toInt := congrArg Int32.toInt (u352 12 25 a0 (by decide))
                have f384 := cb_12_25 i324 k_a0
                have f385 : (q_I r322.2 12 25 a0).toInt = (q_I r152 12 25 a0).toInt := congrArg Int32.toInt (u328 12 25 a0 (by decide))
                have f386 := cb_12_25 i190 k_a0
                refine ok_bdv (fun d379 e380 => ?_)
                have i381 : RI ad h.1 δ0 d379 := by rw [e380]; exact cr_112 L i350 (show 0 ≤ (q_I r348.2 12 25 a0).toInt by omega) (show (q_I r348.2 12 25 a0).toInt ≤ 60 by omega)
                have u387 := kp_N u356 (show q_I d379 = q_I r348.2 by rw [e380]; rfl)
                have v388 : q_V d379 = q_V δ := ((show q_V d379 = q_V r348.2 by rw [e380]; rfl)).trans v357
                have v389 := kr_s L (by decide) v358 e380
                have f393 := cb_12_24 i381 k_a0
                have f394 : (q_I d379 12 24 a0).toInt = (q_I r348.2 12 24 a0).toInt := congrArg Int32.toInt (by rw [e380]; rfl)
                first | (have q396 := te_addc (c := 1) (n := 1) rfl (q_I d379 12 24 a0) (by omega) (by omega); obtain ⟨f397, f398, f399⟩ := q396) | (obtain ⟨q396, f397, f398, f399⟩ := ti_addc (c := 1) (n := 1) rfl (q_I d379 12 24 a0))
                refine ok_bdv (fun d390 e391 => ?_)
                have i392 : RI ad h.1 δ0 d390 := by rw [e391]; exact cs_12_24 L i381 k_a0 (show 0 ≤ ((q_I d379 12 24 a0) + (1 : Int32)).toInt by omega) (show ((q_I d379 12 24 a0) + (1 : Int32)).toInt ≤ 4 by omega)
                have u400 := kp_I u387 e391
                have v401 : q_V d390 = q_V δ := ((show q_V d390 = q_V d379 by rw [e391]; rfl)).trans v388
                have v402 := kr_N v389 (show q_R d390 = q_R d379 by rw [e391]; rfl)
                unfold J_X12_thief_146
                have ss403 : NS ad a0 δ d1 := NS.t NS.r (NS.w e2 (by decide))
                have ss404 : NS0 ad a0 δ r10.2 := NS0.t (NS.z ss403) (NS.z ns27)
                have ss405 : NS0 ad a0 δ r43 := NS0.t ss404 ns63
                have ns407 : NS ad a0 d90 r96.2 := NS.t NS.r ns125
                have ns408 : NS ad a0 d90 r136 := NS.t ns407 ns151
                have ns409 : NS ad a0 r152 r322.2 := NS.t NS.r ns343
                have ns410 : NS ad a0 r152 r348.2 := NS.t ns409 ns361
                have f411 := cb_12_26 i350 k_a0
                have f412 : (q_I r348.2 12 26 a0).toInt = (q_I r322.2 12 26 a0).toInt := congrArg Int32.toInt (u352 12 26 a0 (by decide))
                have f413 := cb_12_26 i324 k_a0
                have f414 : (q_I r322.2 12 26 a0).toInt = (q_I r152 12 26 a0).toInt := congrArg Int32.toInt (u328 12 26 a0 (by decide))
                have ss406 : TK ad a0 δ d390 := TK.good L ss405 e79 e85 e91 ns408 p196 (u199 112 (by decide) (by decide) (by decide)) ns410 (show (0 : Int) = 0 by omega) (show (0 : Int) = 0 by omega) (show (0 : Int) = 0 by omega) (by omega) e380 e391 (show (((q_I r348.2 12 24 a0).toNatClampNeg : Nat) : Int) = (q_I δ 12 24 a0).toInt by omega) (show (q_I r348.2 12 25 a0).toInt = (q_I r348.2 12 25 a0).toInt by omega) (show ((q_I d379 12 24 a0) + (1 : Int32)).toInt = (q_I δ 12 24 a0).toInt + 1 by omega) (show (q_I r348.2 12 5 a0).toInt = -1 by omega) (show (q_I r348.2 12 26 a0).toInt ≤ 500 by omega)
                have f415 := cb_12_2 I k_a0
                have f416 := cb_12_2 i392 k_a0
                have f417 : (q_I d390 12 2 a0).toInt = (q_I d379 12 2 a0).toInt := congrArg Int32.toInt (by rw [e391]; exact rI_o (by decide))
                have f418 := cb_12_2 i381 k_a0
                have f419 : (q_I d379 12 2 a0).toInt = (q_I r348.2 12 2 a0).toInt := congrArg Int32.toInt (by rw [e380]; rfl)
                have f420 := cb_12_2 i350 k_a0
                have f421 : (q_I r348.2 12 2 a0).toInt = (q_I r322.2 12 2 a0).toInt := congrArg Int32.toInt (u352 12 2 a0 (by decide))
                have f422 := cb_12_2 i324 k_a0
                have f423 : (q_I r322.2 12 2 a0).toInt = (q_I r152 12 2 a0).toInt := congrArg Int32.toInt (u328 12 2 a0 (by decide))
                have f424 := cb_12_2 i190 k_a0
                have f425 : (q_I r152 12 2 a0).toInt = (q_I r136 12 2 a0).toInt := congrArg Int32.toInt (u197 12 2 a0 (by decide))
                have f426 := cb_12_2 i140 k_a0
                have f427 : (q_I r136 12 2 a0).toInt = (q_I r96.2 12 2 a0).toInt := congrArg Int32.toInt (u143 12 2 a0 (by decide))
                have f428 := cb_12_2 i98 k_a0
                have f429 : (q_I r96.2 12 2 a0).toInt = (q_I d90 12 2 a0).toInt := congrArg Int32.toInt (u102 12 2 a0 (by decide))
                have f430 := cb_12_2 i92 k_a0
                have f431 : (q_I d90 12 2 a0).toInt = (q_I d84 12 2 a0).toInt := congrArg Int32.toInt (by rw [e91]; exact rI_o (by decide))
                have f432 := cb_12_2 i86 k_a0
                have f433 : (q_I d84 12 2 a0).toInt = (q_I d78 12 2 a0).toInt := congrArg Int32.toInt (by rw [e85]; exact rI_o (by decide))
                have f434 := cb_12_2 i80 k_a0
                have f435 : (q_I d78 12 2 a0).toInt = (q_I r43 12 2 a0).toInt := congrArg Int32.toInt (by rw [e79]; exact rI_o (by decide))
                exact ok_some (show RI ad h.1 δ0 d390 ∧ (kp [(12, 0), (12, 2), (12, 3), (12, 4), (12, 5), (12, 6), (12, 7), (12, 8), (12, 24), (12, 25), (12, 26), (12, 27)] δ d390 ∧ q_V d390 = q_V δ ∧ kr ad [100, 112, 113, 114, 115, 116, 117] δ d390) ∧ TK ad a0 δ d390 ∧ (0 ≤ (x1).toInt ∧ (x1).toInt ≤ (q_I δ 12 2 a0).toInt → (q_I d390 12 2 a0).toInt = 0) ∧ ((x1).toInt < 0 ∨ (q_I δ 12 2 a0).toInt < (x1).toInt → (q_I d390 12 2 a0).toInt = (q_I δ 12 2 a0).toInt) from ⟨i392, ⟨kp_w (by decide) u400, v401, kr_w (by decide) v402⟩, ss406, by first | assumption | omega, by first | assumption | omega⟩)
              · have c436 : r348.1.toInt ≠ (q_I r348.2 12 24 a0).toInt := o_ne h370
                unfold J_X12_thief_146
                have ss437 : NS ad a0 δ d1 := NS.t NS.r (NS.w e2 (by decide))
                have ss438 : NS0 ad a0 δ r10.2 := NS0.t (NS.z ss437) (NS.z ns27)
                have ss439 : NS0 ad a0 δ r43 := NS0.t ss438 ns63
                have ns441 : NS ad a0 d90 r96.2 := NS.t NS.r ns125
                have ns442 : NS ad a0 d90 r136 := NS.t ns441 ns151
                have ns443 : NS ad a0 r152 r322.2 := NS.t NS.r ns343
                have ns444 : NS ad a0 r152 r348.2 := NS.t ns443 ns361
                have ss440 : TK ad a0 δ r348.2 := TK.bad L ss439 e79 e85 e91 ns442 p196 (u199 112 (by decide) (by decide) (by decide)) ns444 (show (0 : Int) = 0 by omega) (show (0 : Int) = 0 by omega) (show (0 : Int) = 0 by omega) (by omega)
                have f445 := cb_12_2 I k_a0
                have f446 := cb_12_2 i350 k_a0
                have f447 : (q_I r348.2 12 2 a0).toInt = (q_I r322.2 12 2 a0).toInt := congrArg Int32.toInt (u352 12 2 a0 (by decide))
                have f448 := cb_12_2 i324 k_a0
                have f449 : (q_I r322.2 12 2 a0).toInt = (q_I r152 12 2 a0).toInt := congrArg Int32.toInt (u328 12 2 a0 (by decide))
                have f450 := cb_12_2 i190 k_a0
                have f451 : (q_I r152 12 2 a0).toInt = (q_I r136 12 2 a0).toInt := congrArg Int32.toInt (u197 12 2 a0 (by decide))
                have f452 := cb_12_2 i140 k_a0
                have f453 : (q_I r136 12 2 a0).toInt = (q_I r96.2 12 2 a0).toInt := congrArg Int32.toInt (u143 12 2 a0 (by decide))
                have f454 := cb_12_2 i98 k_a0
                have f455 : (q_I r96.2 12 2 a0).toInt = (q_I d90 12 2 a0).toInt := congrArg Int32.toInt (u102 12 2 a0 (by decide))
                have f456 := cb_12_2 i92 k_a0
                have f457 : (q_I d90 12 2 a0).toInt = (q_I d84 12 2 a0).toInt := congrArg Int32.toInt (by rw [e91]; exact rI_o (by decide))
                have f458 := cb_12_2 i86 k_a0
                have f459 : (q_I d84 12 2 a0).toInt = (q_I d78 12 2 a0).toInt := congrArg Int32.toInt (by rw [e85]; exact rI_o (by decide))
                have f460 := cb_12_2 i80 k_a0
                have f461 : (q_I d78 12 2 a0).toInt = (q_I r43 12 2 a0).toInt := congrArg Int32.toInt (by rw [e79]; exact rI_o (by decide))
                exact ok_some (show RI ad h.1 δ0 r348.2 ∧ (kp [(12, 0), (12, 2), (12, 3), (12, 4), (12, 5), (12, 6), (12, 7), (12, 8), (12, 24), (12, 25), (12, 26), (12, 27)] δ r348.2 ∧ q_V r348.2 = q_V δ ∧ kr ad [100, 112, 113, 114, 115, 116, 117] δ r348.2) ∧ TK ad a0 δ r348.2 ∧ (0 ≤ (x1).toInt ∧ (x1).toInt ≤ (q_I δ 12 2 a0).toInt → (q_I r348.2 12 2 a0).toInt = 0) ∧ ((x1).toInt < 0 ∨ (q_I δ 12 2 a0).toInt < (x1).toInt → (q_I r348.2 12 2 a0).toInt = (q_I δ 12 2 a0).toInt) from ⟨i350, ⟨kp_w (by decide) u356, v357, kr_w (by decide) v358⟩, ss440, by first | assumption | omega, by first | assumption | omega⟩)
            · have c462 : r322.1.toInt ≠ (0 : Int) := o_ne h346
              refine ok_bind (k_X12_wrong L hN (a0 := a0) (x1 := (1 : Int32)) (x2 := (q_I r322.2 12 4 a0)) k_a0 (show 0 ≤ ((q_I r322.2 12 4 a0)).toInt by first | assumption | omega) (show ((q_I r322.2 12 4 a0)).toInt ≤ 500 by first | assumption | omega) (show 0 ≤ (1 : Int) by first | assumption | omega) (show (1 : Int) ≤ 4 by first | assumption | omega) i324) (fun r463 hr464 => ?_)
              obtain ⟨i465, ⟨u468, u469, u470, u471⟩, p466, p467⟩ := hr464
              have u472 := kp_t u332 u468
              have v473 : q_V r463 = q_V δ := (u469).trans v333
              have v474 := kr_t v334 u471
              have f475 := cb_12_5 i465 k_a0
              have ns476 : NS ad a0 r322.2 r463 := ⟨u471 112 (by decide) (by decide) (by decide), u471 113 (by decide) (by decide) (by decide), u471 114 (by decide) (by decide) (by decide), u471 115 (by decide) (by decide) (by decide), u471 116 (by decide) (by decide) (by decide), u468 12 24 _ (by decide), u468 12 25 _ (by decide), u468 12 26 _ (by decide), u468 12 27 _ (by decide), fun z => by omega⟩
              unfold J_X12_thief_106
              refine ok_bind (k_X12_result L hN (a0 := a0) (x1 := (q_I r463 12 24 a0)) k_a0 i465) (fun r477 hr478 => ?_)
              obtain ⟨i479, ⟨u481, u482, u483, u484⟩, p480⟩ := hr478
              have u485 := kp_t u472 u481
              have v486 : q_V r477.2 = q_V δ := (u482).trans v473
              have v487 := kr_t v474 u484
              have f488 := ti_b r477.1
              have f489 := ti_b r477.1
              have f491 := cb_12_5 i479 k_a0
              have f492 : (q_I r477.2 12 5 a0).toInt = (q_I r463 12 5 a0).toInt := congrArg Int32.toInt (u481 12 5 a0 (by decide))
              have ns490 : NS ad a0 r463 r477.2 := ⟨u484 112 (by decide) (by decide) (by decide), u484 113 (by decide) (by decide) (by decide), u484 114 (by decide) (by decide) (by decide), u484 115 (by decide) (by decide) (by decide), u484 116 (by decide) (by decide) (by decide), u481 12 24 _ (by decide), u481 12 25 _ (by decide), u481 12 26 _ (by decide), u481 12 27 _ (by decide), fun z => by omega⟩
              have f493 := cb_12_24 i479 k_a0
              have f494 : (q_I r477.2 12 24 a0).toInt = (q_I r463 12 24 a0).toInt := congrArg Int32.toInt (u481 12 24 a0 (by decide))
              have f495 := cb_12_24 i465 k_a0
              have f496 : (q_I r463 12 24 a0).toInt = (q_I r322.2 12 24 a0).toInt := congrArg Int32.toInt (u468 12 24 a0 (by decide))
              have f497 := cb_12_24 i324 k_a0
              have f498 : (q_I r322.2 12 24 a0).toInt = (q_I r152 12 24 a0).toInt := congrArg Int32.toInt (u328 12 24 a0 (by decide))
              have f499 := cb_12_24 i190 k_a0
              have f500 : (q_I r152 12 24 a0).toInt = (q_I r136 12 24 a0).toInt := congrArg Int32.toInt (u197 12 24 a0 (by decide))
              refine ok_ite (fun h501 => ?_) (fun h501 => ?_)
              · have c502 : r477.1.toInt = (q_I r477.2 12 24 a0).toInt := o_eq h501
                obtain ⟨b503, o504, k505, n506⟩ := gO_12_28 L k_a0
                obtain rfl := gS_12_28 L k_a0 o504
                refine ok_at o504 ?_
                have t507 := ti_tn (q_I r477.2 12 24 a0)
                refine ok_gd (fun hc508 => ?_) ?_
                · rcases hc508 with hc508 | hc508
                  · have c509 : (q_I r477.2 12 24 a0).toInt < (0 : Int) := o_lt hc508
                    omega
                  · omega
                have f513 := cb_12_25 i479 k_a0
                have f514 : (q_I r477.2 12 25 a0).toInt = (q_I r463 12 25 a0).toInt := congrArg Int32.toInt (u481 12 25 a0 (by decide))
                have f515 := cb_12_25 i465 k_a0
                have f516 : (q_I r463 12 25 a0).toInt = (q_I r322.2 12 25 a0).toInt := congrArg Int32.toInt (u468 12 25 a0 (by decide))
                have f517 := cb_12_25 i324 k_a0
                have f518 : (q_I r322.2 12 25 a0).toInt = (q_I r152 12 25 a0).toInt := congrArg Int32.toInt (u328 12 25 a0 (by decide))
                have f519 := cb_12_25 i190 k_a0
                refine ok_bdv (fun d510 e511 => ?_)
                have i512 : RI ad h.1 δ0 d510 := by rw [e511]; exact cr_112 L i479 (show 0 ≤ (q_I r477.2 12 25 a0).toInt by omega) (show (q_I r477.2 12 25 a0).toInt ≤ 60 by omega)
                have u520 := kp_N u485 (show q_I d510 = q_I r477.2 by rw [e511]; rfl)
                have v521 : q_V d510 = q_V δ := ((show q_V d510 = q_V r477.2 by rw [e511]; rfl)).trans v486
                have v522 := kr_s L (by decide) v487 e511
                have f526 := cb_12_24 i512 k_a0
                have f527 : (q_I d510 12 24 a0).toInt = (q_I r477.2 12 24 a0).toInt := congrArg Int32.toInt (by rw [e511]; rfl)
                first | (have q529 := te_addc (c := 1) (n := 1) rfl (q_I d510 12 24 a0) (by omega) (by omega); obtain ⟨f530, f531, f532⟩ := q529) | (obtain ⟨q529, f530, f531, f532⟩ := ti_addc (c := 1) (n := 1) rfl (q_I d510 12 24 a0))
                refine ok_bdv (fun d523 e524 => ?_)
                have i525 : RI ad h.1 δ0 d523 := by rw [e524]; exact cs_12_24 L i512 k_a0 (show 0 ≤ ((q_I d510 12 24 a0) + (1 : Int32)).toInt by omega) (show ((q_I d510 12 24 a0) + (1 : Int32)).toInt ≤ 4 by omega)
                have u533 := kp_I u520 e524
                have v534 : q_V d523 = q_V δ := ((show q_V d523 = q_V d510 by rw [e524]; rfl)).trans v521
                have v535 := kr_N v522 (show q_R d523 = q_R d510 by rw [e524]; rfl)
                unfold J_X12_thief_146
                have ss536 : NS ad a0 δ d1 := NS.t NS.r (NS.w e2 (by decide))
                have ss537 : NS0 ad a0 δ r10.2 := NS0.t (NS.z ss536) (NS.z ns27)
                have ss538 : NS0 ad a0 δ r43 := NS0.t ss537 ns63
                have ns540 : NS ad a0 d90 r96.2 := NS.t NS.r ns125
                have ns541 : NS ad a0 d90 r136 := NS.t ns540 ns151
                have ns542 : NS ad a0 r152 r322.2 := NS.t NS.r ns343
                have ns543 : NS ad a0 r152 r463 := NS.t ns542 ns476
                have ns544 : NS ad a0 r152 r477.2 := NS.t ns543 ns490
                have f545 := cb_12_26 i479 k_a0
                have f546 : (q_I r477.2 12 26 a0).toInt = (q_I r463 12 26 a0).toInt := congrArg Int32.toInt (u481 12 26 a0 (by decide))
                have f547 := cb_12_26 i465 k_a0
                have f548 : (q_I r463 12 26 a0).toInt = (q_I r322.2 12 26 a0).toInt := congrArg Int32.toInt (u468 12 26 a0 (by decide))
                have f549 := cb_12_26 i324 k_a0
                have f550 : (q_I r322.2 12 26 a0).toInt = (q_I r152 12 26 a0).toInt := congrArg Int32.toInt (u328 12 26 a0 (by decide))
                have ss539 : TK ad a0 δ d523 := TK.good L ss538 e79 e85 e91 ns541 p196 (u199 112 (by decide) (by decide) (by decide)) ns544 (show (0 : Int) = 0 by omega) (show (0 : Int) = 0 by omega) (show (0 : Int) = 0 by omega) (by omega) e511 e524 (show (((q_I r477.2 12 24 a0).toNatClampNeg : Nat) : Int) = (q_I δ 12 24 a0).toInt by omega) (show (q_I r477.2 12 25 a0).toInt = (q_I r477.2 12 25 a0).toInt by omega) (show ((q_I d510 12 24 a0) + (1 : Int32)).toInt = (q_I δ 12 24 a0).toInt + 1 by omega) (show (q_I r477.2 12 5 a0).toInt = -1 by omega) (show (q_I r477.2 12 26 a0).toInt ≤ 500 by omega)
                have f551 := cb_12_2 I k_a0
                have f552 := cb_12_2 i525 k_a0
                have f553 : (q_I d523 12 2 a0).toInt = (q_I d510 12 2 a0).toInt := congrArg Int32.toInt (by rw [e524]; exact rI_o (by decide))
                have f554 := cb_12_2 i512 k_a0
                have f555 : (q_I d510 12 2 a0).toInt = (q_I r477.2 12 2 a0).toInt := congrArg Int32.toInt (by rw [e511]; rfl)
                have f556 := cb_12_2 i479 k_a0
                have f557 : (q_I r477.2 12 2 a0).toInt = (q_I r463 12 2 a0).toInt := congrArg Int32.toInt (u481 12 2 a0 (by decide))
                have f558 := cb_12_2 i465 k_a0
                have f559 : (q_I r463 12 2 a0).toInt = (q_I r322.2 12 2 a0).toInt := congrArg Int32.toInt (u468 12 2 a0 (by decide))
                have f560 := cb_12_2 i324 k_a0
                have f561 : (q_I r322.2 12 2 a0).toInt = (q_I r152 12 2 a0).toInt := congrArg Int32.toInt (u328 12 2 a0 (by decide))
                have f562 := cb_12_2 i190 k_a0
                have f563 : (q_I r152 12 2 a0).toInt = (q_I r136 12 2 a0).toInt := congrArg Int32.toInt (u197 12 2 a0 (by decide))
                have f564 := cb_12_2 i140 k_a0
                have f565 : (q_I r136 12 2 a0).toInt = (q_I r96.2 12 2 a0).toInt := congrArg Int32.toInt (u143 12 2 a0 (by decide))
                have f566 := cb_12_2 i98 k_a0
                have f567 : (q_I r96.2 12 2 a0).toInt = (q_I d90 12 2 a0).toInt := congrArg Int32.toInt (u102 12 2 a0 (by decide))
                have f568 := cb_12_2 i92 k_a0
                have f569 : (q_I d90 12 2 a0).toInt = (q_I d84 12 2 a0).toInt := congrArg Int32.toInt (by rw [e91]; exact rI_o (by decide))
                have f570 := cb_12_2 i86 k_a0
                have f571 : (q_I d84 12 2 a0).toInt = (q_I d78 12 2 a0).toInt := congrArg Int32.toInt (by rw [e85]; exact rI_o (by decide))
                have f572 := cb_12_2 i80 k_a0
                have f573 : (q_I d78 12 2 a0).toInt = (q_I r43 12 2 a0).toInt := congrArg Int32.toInt (by rw [e79]; exact rI_o (by decide))
                exact ok_some (show RI ad h.1 δ0 d523 ∧ (kp [(12, 0), (12, 2), (12, 3), (12, 4), (12, 5), (12, 6), (12, 7), (12, 8), (12, 24), (12, 25), (12, 26), (12, 27)] δ d523 ∧ q_V d523 = q_V δ ∧ kr ad [100, 112, 113, 114, 115, 116, 117] δ d523) ∧ TK ad a0 δ d523 ∧ (0 ≤ (x1).toInt ∧ (x1).toInt ≤ (q_I δ 12 2 a0).toInt → (q_I d523 12 2 a0).toInt = 0) ∧ ((x1).toInt < 0 ∨ (q_I δ 12 2 a0).toInt < (x1).toInt → (q_I d523 12 2 a0).toInt = (q_I δ 12 2 a0).toInt) from ⟨i525, ⟨kp_w (by decide) u533, v534, kr_w (by decide) v535⟩, ss539, by first | assumption | omega, by first | assumption | omega⟩)
              · have c574 : r477.1.toInt ≠ (q_I r477.2 12 24 a0).toInt := o_ne h501
                unfold J_X12_thief_146
                have ss575 : NS ad a0 δ d1 := NS.t NS.r (NS.w e2 (by decide))
                have ss576 : NS0 ad a0 δ r10.2 := NS0.t (NS.z ss575) (NS.z ns27)
                have ss577 : NS0 ad a0 δ r43 := NS0.t ss576 ns63
                have ns579 : NS ad a0 d90 r96.2 := NS.t NS.r ns125
                have ns580 : NS ad a0 d90 r136 := NS.t ns579 ns151
                have ns581 : NS ad a0 r152 r322.2 := NS.t NS.r ns343
                have ns582 : NS ad a0 r152 r463 := NS.t ns581 ns476
                have ns583 : NS ad a0 r152 r477.2 := NS.t ns582 ns490
                have ss578 : TK ad a0 δ r477.2 := TK.bad L ss577 e79 e85 e91 ns580 p196 (u199 112 (by decide) (by decide) (by decide)) ns583 (show (0 : Int) = 0 by omega) (show (0 : Int) = 0 by omega) (show (0 : Int) = 0 by omega) (by omega)
                have f584 := cb_12_2 I k_a0
                have f585 := cb_12_2 i479 k_a0
                have f586 : (q_I r477.2 12 2 a0).toInt = (q_I r463 12 2 a0).toInt := congrArg Int32.toInt (u481 12 2 a0 (by decide))
                have f587 := cb_12_2 i465 k_a0
                have f588 : (q_I r463 12 2 a0).toInt = (q_I r322.2 12 2 a0).toInt := congrArg Int32.toInt (u468 12 2 a0 (by decide))
                have f589 := cb_12_2 i324 k_a0
                have f590 : (q_I r322.2 12 2 a0).toInt = (q_I r152 12 2 a0).toInt := congrArg Int32.toInt (u328 12 2 a0 (by decide))
                have f591 := cb_12_2 i190 k_a0
                have f592 : (q_I r152 12 2 a0).toInt = (q_I r136 12 2 a0).toInt := congrArg Int32.toInt (u197 12 2 a0 (by decide))
                have f593 := cb_12_2 i140 k_a0
                have f594 : (q_I r136 12 2 a0).toInt = (q_I r96.2 12 2 a0).toInt := congrArg Int32.toInt (u143 12 2 a0 (by decide))
                have f595 := cb_12_2 i98 k_a0
                have f596 : (q_I r96.2 12 2 a0).toInt = (q_I d90 12 2 a0).toInt := congrArg Int32.toInt (u102 12 2 a0 (by decide))
                have f597 := cb_12_2 i92 k_a0
                have f598 : (q_I d90 12 2 a0).toInt = (q_I d84 12 2 a0).toInt := congrArg Int32.toInt (by rw [e91]; exact rI_o (by decide))
                have f599 := cb_12_2 i86 k_a0
                have f600 : (q_I d84 12 2 a0).toInt = (q_I d78 12 2 a0).toInt := congrArg Int32.toInt (by rw [e85]; exact rI_o (by decide))
                have f601 := cb_12_2 i80 k_a0
                have f602 : (q_I d78 12 2 a0).toInt = (q_I r43 12 2 a0).toInt := congrArg Int32.toInt (by rw [e79]; exact rI_o (by decide))
                exact ok_some (show RI ad h.1 δ0 r477.2 ∧ (kp [(12, 0), (12, 2), (12, 3), (12, 4), (12, 5), (12, 6), (12, 7), (12, 8), (12, 24), (12, 25), (12, 26), (12, 27)] δ r477.2 ∧ q_V r477.2 = q_V δ ∧ kr ad [100, 112, 113, 114, 115, 116, 117] δ r477.2) ∧ TK ad a0 δ r477.2 ∧ (0 ≤ (x1).toInt ∧ (x1).toInt ≤ (q_I δ 12 2 a0).toInt → (q_I r477.2 12 2 a0).toInt = 0) ∧ ((x1).toInt < 0 ∨ (q_I δ 12 2 a0).toInt < (x1).toInt → (q_I r477.2 12 2 a0).toInt = (q_I δ 12 2 a0).toInt) from ⟨i479, ⟨kp_w (by decide) u485, v486, kr_w (by decide) v487⟩, ss578, by first | assumption | omega, by first | assumption | omega⟩)
        · have c603 : r96.1.toInt ≠ (0 : Int) := o_ne h134
          unfold J_X12_thief_79
          have f606 := cb_12_24 i98 k_a0
          have f607 : (q_I r96.2 12 24 a0).toInt = (q_I d90 12 24 a0).toInt := congrArg Int32.toInt (u102 12 24 a0 (by decide))
          have f608 := cb_12_24 i92 k_a0
          have f609 : (q_I d90 12 24 a0).toInt = (q_I d84 12 24 a0).toInt := congrArg Int32.toInt (by rw [e91]; exact rI_o (by decide))
          have f610 := cb_12_24 i86 k_a0
          have f611 : (q_I d84 12 24 a0).toInt = (q_I d78 12 24 a0).toInt := congrArg Int32.toInt (by rw [e85]; exact rI_o (by decide))
          have f612 := cb_12_24 i80 k_a0
          have f613 : (q_I d78 12 24 a0).toInt = (q_I r43 12 24 a0).toInt := congrArg Int32.toInt (by rw [e79]; exact rI_o (by decide))
          have f614 := cb_12_26 i98 k_a0
          have f615 : (q_I r96.2 12 26 a0).toInt = (q_I d90 12 26 a0).toInt := congrArg Int32.toInt (u102 12 26 a0 (by decide))
          have f616 := cb_12_26 i92 k_a0
          have f617 : (q_I d90 12 26 a0).toInt = (q_I d84 12 26 a0).toInt := congrArg Int32.toInt (by rw [e91]; exact rI_o (by decide))
          have f618 := cb_12_26 i86 k_a0
          have f619 : (q_I d84 12 26 a0).toInt = (0 : Int) := congrArg Int32.toInt (show q_I d84 12 26 a0 = (0 : Int32) by rw [e85]; exact rI_s)
          have f620 := ti_b (q_I r96.2 12 7 a0)
          have f621 : (q_I r96.2 12 7 a0).toInt = (q_I d90 12 7 a0).toInt := congrArg Int32.toInt (u102 12 7 a0 (by decide))
          have f622 := ti_b (q_I d90 12 7 a0)
          have f623 : (q_I d90 12 7 a0).toInt = (q_I d84 12 7 a0).toInt := congrArg Int32.toInt (by rw [e91]; exact rI_o (by decide))
          have f624 := ti_b (q_I d84 12 7 a0)
          have f625 : (q_I d84 12 7 a0).toInt = (q_I d78 12 7 a0).toInt := congrArg Int32.toInt (by rw [e85]; exact rI_o (by decide))
          have f626 := ti_b (q_I d78 12 7 a0)
          have f627 : (q_I d78 12 7 a0).toInt = (q_I r43 12 7 a0).toInt := congrArg Int32.toInt (by rw [e79]; exact rI_o (by decide))
          have f628 := cb_12_27 i98 k_a0
          have f629 : (q_I r96.2 12 27 a0).toInt = (q_I d90 12 27 a0).toInt := congrArg Int32.toInt (u102 12 27 a0 (by decide))
          have f630 := cb_12_27 i92 k_a0
          have f631 : (q_I d90 12 27 a0).toInt = (0 : Int) := congrArg Int32.toInt (show q_I d90 12 27 a0 = (0 : Int32) by rw [e91]; exact rI_s)
          refine ok_bind (k_X12_readSteps L hN (a0 := a0) k_a0 (show (q_I r96.2 12 24 a0).toInt ≤ 3 by first | assumption | omega) (show (q_I r96.2 12 26 a0).toInt ≤ (q_I r96.2 12 4 a0).toInt by first | assumption | omega) (show (q_I r96.2 12 7 a0).toInt = 0 by first | assumption | omega) (show 4 - (q_I r96.2 12 27 a0).toInt < 20 by first | assumption | omega) i98) (fun r604 hr605 => ?_)
          obtain ⟨i632, ⟨u639, u640, u641⟩, p633, p634, p635, p636, p637, p638⟩ := hr605
          have u642 := kp_t u106 u639
          have v643 : q_V r604 = q_V δ := (u640).trans v107
          have v644 := kr_t v108 u641
          have f645 := cb_12_4 i632 k_a0
          have f646 := cb_12_5 i632 k_a0
          have f647 := ti_b (q_I r604 12 7 a0)
          have f648 := cb_12_27 i632 k_a0
          have f649 := cb_12_26 i632 k_a0
          refine ok_bind (k_X12_fine L hN (a0 := a0) k_a0 i632) (fun r650 hr651 => ?_)
          obtain ⟨i652, p653, p654, p655⟩ := hr651
          try rw [i652]
          have f656 := bo_l p653
          have f657 := ti_b r650.1
          have f658 := ti_b r650.1
          refine ok_ite (fun h659 => ?_) (fun h659 => ?_)
          · have c660 : r650.1.toInt = (0 : Int) := o_eq h659
            unfold J_X12_thief_106
            refine ok_bind (k_X12_result L hN (a0 := a0) (x1 := (q_I r604 12 24 a0)) k_a0 i632) (fun r661 hr662 => ?_)
            obtain ⟨i663, ⟨u665, u666, u667, u668⟩, p664⟩ := hr662
            have u669 := kp_t u642 u665
            have v670 : q_V r661.2 = q_V δ := (u666).trans v643
            have v671 := kr_t v644 u668
            have f672 := ti_b r661.1
            have f673 := ti_b r661.1
            have f675 := cb_12_5 i663 k_a0
            have f676 : (q_I r661.2 12 5 a0).toInt = (q_I r604 12 5 a0).toInt := congrArg Int32.toInt (u665 12 5 a0 (by decide))
            have ns674 : NS ad a0 r604 r661.2 := ⟨u668 112 (by decide) (by decide) (by decide), u668 113 (by decide) (by decide) (by decide), u668 114 (by decide) (by decide) (by decide), u668 115 (by decide) (by decide) (by decide), u668 116 (by decide) (by decide) (by decide), u665 12 24 _ (by decide), u665 12 25 _ (by decide), u665 12 26 _ (by decide), u665 12 27 _ (by decide), fun z => by omega⟩
            have f677 := cb_12_24 i663 k_a0
            have f678 : (q_I r661.2 12 24 a0).toInt = (q_I r604 12 24 a0).toInt := congrArg Int32.toInt (u665 12 24 a0 (by decide))
            have f679 := cb_12_24 i632 k_a0
            have f680 : (q_I r604 12 24 a0).toInt = (q_I r96.2 12 24 a0).toInt := congrArg Int32.toInt (u639 12 24 a0 (by decide))
            refine ok_ite (fun h681 => ?_) (fun h681 => ?_)
            · have c682 : r661.1.toInt = (q_I r661.2 12 24 a0).toInt := o_eq h681
              obtain ⟨b683, o684, k685, n686⟩ := gO_12_28 L k_a0
              obtain rfl := gS_12_28 L k_a0 o684
              refine ok_at o684 ?_
              have t687 := ti_tn (q_I r661.2 12 24 a0)
              refine ok_gd (fun hc688 => ?_) ?_
              · rcases hc688 with hc688 | hc688
                · have c689 : (q_I r661.2 12 24 a0).toInt < (0 : Int) := o_lt hc688
                  omega
                · omega
              have f693 := cb_12_25 i663 k_a0
              have f694 : (q_I r661.2 12 25 a0).toInt = (q_I r604 12 25 a0).toInt := congrArg Int32.toInt (u665 12 25 a0 (by decide))
              have f695 := cb_12_25 i632 k_a0
              refine ok_bdv (fun d690 e691 => ?_)
              have i692 : RI ad h.1 δ0 d690 := by rw [e691]; exact cr_112 L i663 (show 0 ≤ (q_I r661.2 12 25 a0).toInt by omega) (show (q_I r661.2 12 25 a0).toInt ≤ 60 by omega)
              have u696 := kp_N u669 (show q_I d690 = q_I r661.2 by rw [e691]; rfl)
              have v697 : q_V d690 = q_V δ := ((show q_V d690 = q_V r661.2 by rw [e691]; rfl)).trans v670
              have v698 := kr_s L (by decide) v671 e691
              have f702 := cb_12_24 i692 k_a0
              have f703 : (q_I d690 12 24 a0).toInt = (q_I r661.2 12 24 a0).toInt := congrArg Int32.toInt (by rw [e691]; rfl)
              first | (have q705 := te_addc (c := 1) (n := 1) rfl (q_I d690 12 24 a0) (by omega) (by omega); obtain ⟨f706, f707, f708⟩ := q705) | (obtain ⟨q705, f706, f707, f708⟩ := ti_addc (c := 1) (n := 1) rfl (q_I d690 12 24 a0))
              refine ok_bdv (fun d699 e700 => ?_)
              have i701 : RI ad h.1 δ0 d699 := by rw [e700]; exact cs_12_24 L i692 k_a0 (show 0 ≤ ((q_I d690 12 24 a0) + (1 : Int32)).toInt by omega) (show ((q_I d690 12 24 a0) + (1 : Int32)).toInt ≤ 4 by omega)
              have u709 := kp_I u696 e700
              have v710 : q_V d699 = q_V δ := ((show q_V d699 = q_V d690 by rw [e700]; rfl)).trans v697
              have v711 := kr_N v698 (show q_R d699 = q_R d690 by rw [e700]; rfl)
              unfold J_X12_thief_146
              have ss712 : NS ad a0 δ d1 := NS.t NS.r (NS.w e2 (by decide))
              have ss713 : NS0 ad a0 δ r10.2 := NS0.t (NS.z ss712) (NS.z ns27)
              have ss714 : NS0 ad a0 δ r43 := NS0.t ss713 ns63
              have ns716 : NS ad a0 d90 r96.2 := NS.t NS.r ns125
              have ns717 : NS ad a0 r604 r661.2 := NS.t NS.r ns674
              have f718 := cb_12_26 i663 k_a0
              have f719 : (q_I r661.2 12 26 a0).toInt = (q_I r604 12 26 a0).toInt := congrArg Int32.toInt (u665 12 26 a0 (by decide))
              have ss715 : TK ad a0 δ d699 := TK.good L ss714 e79 e85 e91 ns716 p638 (u641 112 (by decide) (by decide) (by decide)) ns717 (show (0 : Int) = 0 by omega) (show (0 : Int) = 0 by omega) (show (0 : Int) = 0 by omega) (by omega) e691 e700 (show (((q_I r661.2 12 24 a0).toNatClampNeg : Nat) : Int) = (q_I δ 12 24 a0).toInt by omega) (show (q_I r661.2 12 25 a0).toInt = (q_I r661.2 12 25 a0).toInt by omega) (show ((q_I d690 12 24 a0) + (1 : Int32)).toInt = (q_I δ 12 24 a0).toInt + 1 by omega) (show (q_I r661.2 12 5 a0).toInt = -1 by omega) (show (q_I r661.2 12 26 a0).toInt ≤ 500 by omega)
              have f720 := cb_12_2 I k_a0
              have f721 := cb_12_2 i701 k_a0
              have f722 : (q_I d699 12 2 a0).toInt = (q_I d690 12 2 a0).toInt := congrArg Int32.toInt (by rw [e700]; exact rI_o (by decide))
              have f723 := cb_12_2 i692 k_a0
              have f724 : (q_I d690 12 2 a0).toInt = (q_I r661.2 12 2 a0).toInt := congrArg Int32.toInt (by rw [e691]; rfl)
              have f725 := cb_12_2 i663 k_a0
              have f726 : (q_I r661.2 12 2 a0).toInt = (q_I r604 12 2 a0).toInt := congrArg Int32.toInt (u665 12 2 a0 (by decide))
              have f727 := cb_12_2 i632 k_a0
              have f728 : (q_I r604 12 2 a0).toInt = (q_I r96.2 12 2 a0).toInt := congrArg Int32.toInt (u639 12 2 a0 (by decide))
              have f729 := cb_12_2 i98 k_a0
              have f730 : (q_I r96.2 12 2 a0).toInt = (q_I d90 12 2 a0).toInt := congrArg Int32.toInt (u102 12 2 a0 (by decide))
              have f731 := cb_12_2 i92 k_a0
              have f732 : (q_I d90 12 2 a0).toInt = (q_I d84 12 2 a0).toInt := congrArg Int32.toInt (by rw [e91]; exact rI_o (by decide))
              have f733 := cb_12_2 i86 k_a0
              have f734 : (q_I d84 12 2 a0).toInt = (q_I d78 12 2 a0).toInt := congrArg Int32.toInt (by rw [e85]; exact rI_o (by decide))
              have f735 := cb_12_2 i80 k_a0
              have f736 : (q_I d78 12 2 a0).toInt = (q_I r43 12 2 a0).toInt := congrArg Int32.toInt (by rw [e79]; exact rI_o (by decide))
              exact ok_some (show RI ad h.1 δ0 d699 ∧ (kp [(12, 0), (12, 2), (12, 3), (12, 4), (12, 5), (12, 6), (12, 7), (12, 8), (12, 24), (12, 25), (12, 26), (12, 27)] δ d699 ∧ q_V d699 = q_V δ ∧ kr ad [100, 112, 113, 114, 115, 116, 117] δ d699) ∧ TK ad a0 δ d699 ∧ (0 ≤ (x1).toInt ∧ (x1).toInt ≤ (q_I δ 12 2 a0).toInt → (q_I d699 12 2 a0).toInt = 0) ∧ ((x1).toInt < 0 ∨ (q_I δ 12 2 a0).toInt < (x1).toInt → (q_I d699 12 2 a0).toInt = (q_I δ 12 2 a0).toInt) from ⟨i701, ⟨kp_w (by decide) u709, v710, kr_w (by decide) v711⟩, ss715, by first | assumption | omega, by first | assumption | omega⟩)
            · have c737 : r661.1.toInt ≠ (q_I r661.2 12 24 a0).toInt := o_ne h681
              unfold J_X12_thief_146
              have ss738 : NS ad a0 δ d1 := NS.t NS.r (NS.w e2 (by decide))
              have ss739 : NS0 ad a0 δ r10.2 := NS0.t (NS.z ss738) (NS.z ns27)
              have ss740 : NS0 ad a0 δ r43 := NS0.t ss739 ns63
              have ns742 : NS ad a0 d90 r96.2 := NS.t NS.r ns125
              have ns743 : NS ad a0 r604 r661.2 := NS.t NS.r ns674
              have ss741 : TK ad a0 δ r661.2 := TK.bad L ss740 e79 e85 e91 ns742 p638 (u641 112 (by decide) (by decide) (by decide)) ns743 (show (0 : Int) = 0 by omega) (show (0 : Int) = 0 by omega) (show (0 : Int) = 0 by omega) (by omega)
              have f744 := cb_12_2 I k_a0
              have f745 := cb_12_2 i663 k_a0
              have f746 : (q_I r661.2 12 2 a0).toInt = (q_I r604 12 2 a0).toInt := congrArg Int32.toInt (u665 12 2 a0 (by decide))
              have f747 := cb_12_2 i632 k_a0
              have f748 : (q_I r604 12 2 a0).toInt = (q_I r96.2 12 2 a0).toInt := congrArg Int32.toInt (u639 12 2 a0 (by decide))
              have f749 := cb_12_2 i98 k_a0
              have f750 : (q_I r96.2 12 2 a0).toInt = (q_I d90 12 2 a0).toInt := congrArg Int32.toInt (u102 12 2 a0 (by decide))
              have f751 := cb_12_2 i92 k_a0
              have f752 : (q_I d90 12 2 a0).toInt = (q_I d84 12 2 a0).toInt := congrArg Int32.toInt (by rw [e91]; exact rI_o (by decide))
              have f753 := cb_12_2 i86 k_a0
              have f754 : (q_I d84 12 2 a0).toInt = (q_I d78 12 2 a0).toInt := congrArg Int32.toInt (by rw [e85]; exact rI_o (by decide))
              have f755 := cb_12_2 i80 k_a0
              have f756 : (q_I d78 12 2 a0).toInt = (q_I r43 12 2 a0).toInt := congrArg Int32.toInt (by rw [e79]; exact rI_o (by decide))
              exact ok_some (show RI ad h.1 δ0 r661.2 ∧ (kp [(12, 0), (12, 2), (12, 3), (12, 4), (12, 5), (12, 6), (12, 7), (12, 8), (12, 24), (12, 25), (12, 26), (12, 27)] δ r661.2 ∧ q_V r661.2 = q_V δ ∧ kr ad [100, 112, 113, 114, 115, 116, 117] δ r661.2) ∧ TK ad a0 δ r661.2 ∧ (0 ≤ (x1).toInt ∧ (x1).toInt ≤ (q_I δ 12 2 a0).toInt → (q_I r661.2 12 2 a0).toInt = 0) ∧ ((x1).toInt < 0 ∨ (q_I δ 12 2 a0).toInt < (x1).toInt → (q_I r661.2 12 2 a0).toInt = (q_I δ 12 2 a0).toInt) from ⟨i663, ⟨kp_w (by decide) u669, v670, kr_w (by decide) v671⟩, ss741, by first | assumption | omega, by first | assumption | omega⟩)
          · have c757 : r650.1.toInt ≠ (0 : Int) := o_ne h659
            refine ok_bind (k_X12_isMore L hN (a0 := a0) k_a0 i632) (fun r758 hr759 => ?_)
            obtain ⟨i760, ⟨u764, u765, u766, u767⟩, p761, p762, p763⟩ := hr759
            have u768 := kp_t u642 u764
            have v769 : q_V r758.2 = q_V δ := (u765).trans v643
            have v770 := kr_t v644 u767
            have f771 := bo_l p761
            have f772 := cb_12_4 i760 k_a0
            have f773 := ti_b r758.1
            have f774 := cb_12_3 i632 k_a0
            have f775 : (q_I r604 12 3 a0).toInt = (q_I r96.2 12 3 a0).toInt := congrArg Int32.toInt (u639 12 3 a0 (by decide))
            have f776 := cb_12_3 i98 k_a0
            have f777 : (q_I r96.2 12 3 a0).toInt = (q_I d90 12 3 a0).toInt := congrArg Int32.toInt (u102 12 3 a0 (by decide))
            have f778 := ti_b r758.1
            have f780 := cb_12_5 i760 k_a0
            have f781 : (q_I r758.2 12 5 a0).toInt = (q_I r604 12 5 a0).toInt := congrArg Int32.toInt (u764 12 5 a0 (by decide))
            have ns779 : NS ad a0 r604 r758.2 := ⟨u767 112 (by decide) (by decide) (by decide), u767 113 (by decide) (by decide) (by decide), u767 114 (by decide) (by decide) (by decide), u767 115 (by decide) (by decide) (by decide), u767 116 (by decide) (by decide) (by decide), u764 12 24 _ (by decide), u764 12 25 _ (by decide), u764 12 26 _ (by decide), u764 12 27 _ (by decide), fun z => by omega⟩
            refine ok_ite (fun h782 => ?_) (fun h782 => ?_)
            · have c783 : r758.1.toInt = (0 : Int) := o_eq h782
              unfold J_X12_thief_106
              refine ok_bind (k_X12_result L hN (a0 := a0) (x1 := (q_I r758.2 12 24 a0)) k_a0 i760) (fun r784 hr785 => ?_)
              obtain ⟨i786, ⟨u788, u789, u790, u791⟩, p787⟩ := hr785
              have u792 := kp_t u768 u788
              have v793 : q_V r784.2 = q_V δ := (u789).trans v769
              have v794 := kr_t v770 u791
              have f795 := ti_b r784.1
              have f796 := ti_b r784.1
              have f798 := cb_12_5 i786 k_a0
              have f799 : (q_I r784.2 12 5 a0).toInt = (q_I r758.2 12 5 a0).toInt := congrArg Int32.toInt (u788 12 5 a0 (by decide))
              have ns797 : NS ad a0 r758.2 r784.2 := ⟨u791 112 (by decide) (by decide) (by decide), u791 113 (by decide) (by decide) (by decide), u791 114 (by decide) (by decide) (by decide), u791 115 (by decide) (by decide) (by decide), u791 116 (by decide) (by decide) (by decide), u788 12 24 _ (by decide), u788 12 25 _ (by decide), u788 12 26 _ (by decide), u788 12 27 _ (by decide), fun z => by omega⟩
              have f800 := cb_12_24 i786 k_a0
              have f801 : (q_I r784.2 12 24 a0).toInt = (q_I r758.2 12 24 a0).toInt := congrArg Int32.toInt (u788 12 24 a0 (by decide))
              have f802 := cb_12_24 i760 k_a0
              have f803 : (q_I r758.2 12 24 a0).toInt = (q_I r604 12 24 a0).toInt := congrArg Int32.toInt (u764 12 24 a0 (by decide))
              have f804 := cb_12_24 i632 k_a0
              have f805 : (q_I r604 12 24 a0).toInt = (q_I r96.2 12 24 a0).toInt := congrArg Int32.toInt (u639 12 24 a0 (by decide))
              refine ok_ite (fun h806 => ?_) (fun h806 => ?_)
              · have c807 : r784.1.toInt = (q_I r784.2 12 24 a0).toInt := o_eq h806
                obtain ⟨b808, o809, k810, n811⟩ := gO_12_28 L k_a0
                obtain rfl := gS_12_28 L k_a0 o809
                refine ok_at o809 ?_
                have t812 := ti_tn (q_I r784.2 12 24 a0)
                refine ok_gd (fun hc813 => ?_) ?_
                · rcases hc813 with hc813 | hc813
                  · have c814 : (q_I r784.2 12 24 a0).toInt < (0 : Int) := o_lt hc813
                    omega
                  · omega
                have f818 := cb_12_25 i786 k_a0
                have f819 : (q_I r784.2 12 25 a0).toInt = (q_I r758.2 12 25 a0).toInt := congrArg Int32.toInt (u788 12 25 a0 (by decide))
                have f820 := cb_12_25 i760 k_a0
                have f821 : (q_I r758.2 12 25 a0).toInt = (q_I r604 12 25 a0).toInt := congrArg Int32.toInt (u764 12 25 a0 (by decide))
                have f822 := cb_12_25 i632 k_a0
                refine ok_bdv (fun d815 e816 => ?_)
                have i817 : RI ad h.1 δ0 d815 := by rw [e816]; exact cr_112 L i786 (show 0 ≤ (q_I r784.2 12 25 a0).toInt by omega) (show (q_I r784.2 12 25 a0).toInt ≤ 60 by omega)
                have u823 := kp_N u792 (show q_I d815 = q_I r784.2 by rw [e816]; rfl)
                have v824 : q_V d815 = q_V δ := ((show q_V d815 = q_V r784.2 by rw [e816]; rfl)).trans v793
                have v825 := kr_s L (by decide) v794 e816
                have f829 := cb_12_24 i817 k_a0
                have f830 : (q_I d815 12 24 a0).toInt = (q_I r784.2 12 24 a0).toInt := congrArg Int32.toInt (by rw [e816]; rfl)
                first | (have q832 := te_addc (c := 1) (n := 1) rfl (q_I d815 12 24 a0) (by omega) (by omega); obtain ⟨f833, f834, f835⟩ := q832) | (obtain ⟨q832, f833, f834, f835⟩ := ti_addc (c := 1) (n := 1) rfl (q_I d815 12 24 a0))
                refine ok_bdv (fun d826 e827 => ?_)
                have i828 : RI ad h.1 δ0 d826 := by rw [e827]; exact cs_12_24 L i817 k_a0 (show 0 ≤ ((q_I d815 12 24 a0) + (1 : Int32)).toInt by omega) (show ((q_I d815 12 24 a0) + (1 : Int32)).toInt ≤ 4 by omega)
                have u836 := kp_I u823 e827
                have v837 : q_V d826 = q_V δ := ((show q_V d826 = q_V d815 by rw [e827]; rfl)).trans v824
                have v838 := kr_N v825 (show q_R d826 = q_R d815 by rw [e827]; rfl)
                unfold J_X12_thief_146
                have ss839 : NS ad a0 δ d1 := NS.t NS.r (NS.w e2 (by decide))
                have ss840 : NS0 ad a0 δ r10.2 := NS0.t (NS.z ss839) (NS.z ns27)
                have ss841 : NS0 ad a0 δ r43 := NS0.t ss840 ns63
                have ns843 : NS ad a0 d90 r96.2 := NS.t NS.r ns125
                have ns844 : NS ad a0 r604 r758.2 := NS.t NS.r ns779
                have ns845 : NS ad a0 r604 r784.2 := NS.t ns844 ns797
                have f846 := cb_12_26 i786 k_a0
                have f847 : (q_I r784.2 12 26 a0).toInt = (q_I r758.2 12 26 a0).toInt := congrArg Int32.toInt (u788 12 26 a0 (by decide))
                have f848 := cb_12_26 i760 k_a0
                have f849 : (q_I r758.2 12 26 a0).toInt = (q_I r604 12 26 a0).toInt := congrArg Int32.toInt (u764 12 26 a0 (by decide))
                have ss842 : TK ad a0 δ d826 := TK.good L ss841 e79 e85 e91 ns843 p638 (u641 112 (by decide) (by decide) (by decide)) ns845 (show (0 : Int) = 0 by omega) (show (0 : Int) = 0 by omega) (show (0 : Int) = 0 by omega) (by omega) e816 e827 (show (((q_I r784.2 12 24 a0).toNatClampNeg : Nat) : Int) = (q_I δ 12 24 a0).toInt by omega) (show (q_I r784.2 12 25 a0).toInt = (q_I r784.2 12 25 a0).toInt by omega) (show ((q_I d815 12 24 a0) + (1 : Int32)).toInt = (q_I δ 12 24 a0).toInt + 1 by omega) (show (q_I r784.2 12 5 a0).toInt = -1 by omega) (show (q_I r784.2 12 26 a0).toInt ≤ 500 by omega)
                have f850 := cb_12_2 I k_a0
                have f851 := cb_12_2 i828 k_a0
                have f852 : (q_I d826 12 2 a0).toInt = (q_I d815 12 2 a0).toInt := congrArg Int32.toInt (by rw [e827]; exact rI_o (by decide))
                have f853 := cb_12_2 i817 k_a0
                have f854 : (q_I d815 12 2 a0).toInt = (q_I r784.2 12 2 a0).toInt := congrArg Int32.toInt (by rw [e816]; rfl)
                have f855 := cb_12_2 i786 k_a0
                have f856 : (q_I r784.2 12 2 a0).toInt = (q_I r758.2 12 2 a0).toInt := congrArg Int32.toInt (u788 12 2 a0 (by decide))
                have f857 := cb_12_2 i760 k_a0
                have f858 : (q_I r758.2 12 2 a0).toInt = (q_I r604 12 2 a0).toInt := congrArg Int32.toInt (u764 12 2 a0 (by decide))
                have f859 := cb_12_2 i632 k_a0
                have f860 : (q_I r604 12 2 a0).toInt = (q_I r96.2 12 2 a0).toInt := congrArg Int32.toInt (u639 12 2 a0 (by decide))
                have f861 := cb_12_2 i98 k_a0
                have f862 : (q_I r96.2 12 2 a0).toInt = (q_I d90 12 2 a0).toInt := congrArg Int32.toInt (u102 12 2 a0 (by decide))
                have f863 := cb_12_2 i92 k_a0
                have f864 : (q_I d90 12 2 a0).toInt = (q_I d84 12 2 a0).toInt := congrArg Int32.toInt (by rw [e91]; exact rI_o (by decide))
                have f865 := cb_12_2 i86 k_a0
                have f866 : (q_I d84 12 2 a0).toInt = (q_I d78 12 2 a0).toInt := congrArg Int32.toInt (by rw [e85]; exact rI_o (by decide))
                have f867 := cb_12_2 i80 k_a0
                have f868 : (q_I d78 12 2 a0).toInt = (q_I r43 12 2 a0).toInt := congrArg Int32.toInt (by rw [e79]; exact rI_o (by decide))
                exact ok_some (show RI ad h.1 δ0 d826 ∧ (kp [(12, 0), (12, 2), (12, 3), (12, 4), (12, 5), (12, 6), (12, 7), (12, 8), (12, 24), (12, 25), (12, 26), (12, 27)] δ d826 ∧ q_V d826 = q_V δ ∧ kr ad [100, 112, 113, 114, 115, 116, 117] δ d826) ∧ TK ad a0 δ d826 ∧ (0 ≤ (x1).toInt ∧ (x1).toInt ≤ (q_I δ 12 2 a0).toInt → (q_I d826 12 2 a0).toInt = 0) ∧ ((x1).toInt < 0 ∨ (q_I δ 12 2 a0).toInt < (x1).toInt → (q_I d826 12 2 a0).toInt = (q_I δ 12 2 a0).toInt) from ⟨i828, ⟨kp_w (by decide) u836, v837, kr_w (by decide) v838⟩, ss842, by first | assumption | omega, by first | assumption | omega⟩)
              · have c869 : r784.1.toInt ≠ (q_I r784.2 12 24 a0).toInt := o_ne h806
                unfold J_X12_thief_146
                have ss870 : NS ad a0 δ d1 := NS.t NS.r (NS.w e2 (by decide))
                have ss871 : NS0 ad a0 δ r10.2 := NS0.t (NS.z ss870) (NS.z ns27)
                have ss872 : NS0 ad a0 δ r43 := NS0.t ss871 ns63
                have ns874 : NS ad a0 d90 r96.2 := NS.t NS.r ns125
                have ns875 : NS ad a0 r604 r758.2 := NS.t NS.r ns779
                have ns876 : NS ad a0 r604 r784.2 := NS.t ns875 ns797
                have ss873 : TK ad a0 δ r784.2 := TK.bad L ss872 e79 e85 e91 ns874 p638 (u641 112 (by decide) (by decide) (by decide)) ns876 (show (0 : Int) = 0 by omega) (show (0 : Int) = 0 by omega) (show (0 : Int) = 0 by omega) (by omega)
                have f877 := cb_12_2 I k_a0
                have f878 := cb_12_2 i786 k_a0
                have f879 : (q_I r784.2 12 2 a0).toInt = (q_I r758.2 12 2 a0).toInt := congrArg Int32.toInt (u788 12 2 a0 (by decide))
                have f880 := cb_12_2 i760 k_a0
                have f881 : (q_I r758.2 12 2 a0).toInt = (q_I r604 12 2 a0).toInt := congrArg Int32.toInt (u764 12 2 a0 (by decide))
                have f882 := cb_12_2 i632 k_a0
                have f883 : (q_I r604 12 2 a0).toInt = (q_I r96.2 12 2 a0).toInt := congrArg Int32.toInt (u639 12 2 a0 (by decide))
                have f884 := cb_12_2 i98 k_a0
                have f885 : (q_I r96.2 12 2 a0).toInt = (q_I d90 12 2 a0).toInt := congrArg Int32.toInt (u102 12 2 a0 (by decide))
                have f886 := cb_12_2 i92 k_a0
                have f887 : (q_I d90 12 2 a0).toInt = (q_I d84 12 2 a0).toInt := congrArg Int32.toInt (by rw [e91]; exact rI_o (by decide))
                have f888 := cb_12_2 i86 k_a0
                have f889 : (q_I d84 12 2 a0).toInt = (q_I d78 12 2 a0).toInt := congrArg Int32.toInt (by rw [e85]; exact rI_o (by decide))
                have f890 := cb_12_2 i80 k_a0
                have f891 : (q_I d78 12 2 a0).toInt = (q_I r43 12 2 a0).toInt := congrArg Int32.toInt (by rw [e79]; exact rI_o (by decide))
                exact ok_some (show RI ad h.1 δ0 r784.2 ∧ (kp [(12, 0), (12, 2), (12, 3), (12, 4), (12, 5), (12, 6), (12, 7), (12, 8), (12, 24), (12, 25), (12, 26), (12, 27)] δ r784.2 ∧ q_V r784.2 = q_V δ ∧ kr ad [100, 112, 113, 114, 115, 116, 117] δ r784.2) ∧ TK ad a0 δ r784.2 ∧ (0 ≤ (x1).toInt ∧ (x1).toInt ≤ (q_I δ 12 2 a0).toInt → (q_I r784.2 12 2 a0).toInt = 0) ∧ ((x1).toInt < 0 ∨ (q_I δ 12 2 a0).toInt < (x1).toInt → (q_I r784.2 12 2 a0).toInt = (q_I δ 12 2 a0).toInt) from ⟨i786, ⟨kp_w (by decide) u792, v793, kr_w (by decide) v794⟩, ss873, by first | assumption | omega, by first | assumption | omega⟩)
            · have c892 : r758.1.toInt ≠ (0 : Int) := o_ne h782
              refine ok_bind (k_X12_wrong L hN (a0 := a0) (x1 := (1 : Int32)) (x2 := (q_I r758.2 12 4 a0)) k_a0 (show 0 ≤ ((q_I r758.2 12 4 a0)).toInt by first | assumption | omega) (show ((q_I r758.2 12 4 a0)).toInt ≤ 500 by first | assumption | omega) (show 0 ≤ (1 : Int) by first | assumption | omega) (show (1 : Int) ≤ 4 by first | assumption | omega) i760) (fun r893 hr894 => ?_)
              obtain ⟨i895, ⟨u898, u899, u900, u901⟩, p896, p897⟩ := hr894
              have u902 := kp_t u768 u898
              have v903 : q_V r893 = q_V δ := (u899).trans v769
              have v904 := kr_t v770 u901
              have f905 := cb_12_5 i895 k_a0
              have ns906 : NS ad a0 r758.2 r893 := ⟨u901 112 (by decide) (by decide) (by decide), u901 113 (by decide) (by decide) (by decide), u901 114 (by decide) (by decide) (by decide), u901 115 (by decide) (by decide) (by decide), u901 116 (by decide) (by decide) (by decide), u898 12 24 _ (by decide), u898 12 25 _ (by decide), u898 12 26 _ (by decide), u898 12 27 _ (by decide), fun z => by omega⟩
              unfold J_X12_thief_106
              refine ok_bind (k_X12_result L hN (a0 := a0) (x1 := (q_I r893 12 24 a0)) k_a0 i895) (fun r907 hr908 => ?_)
              obtain ⟨i909, ⟨u911, u912, u913, u914⟩, p910⟩ := hr908
              have u915 := kp_t u902 u911
              have v916 : q_V r907.2 = q_V δ := (u912).trans v903
              have v917 := kr_t v904 u914
              have f918 := ti_b r907.1
              have f919 := ti_b r907.1
              have f921 := cb_12_5 i909 k_a0
              have f922 : (q_I r907.2 12 5 a0).toInt = (q_I r893 12 5 a0).toInt := congrArg Int32.toInt (u911 12 5 a0 (by decide))
              have ns920 : NS ad a0 r893 r907.2 := ⟨u914 112 (by decide) (by decide) (by decide), u914 113 (by decide) (by decide) (by decide), u914 114 (by decide) (by decide) (by decide), u914 115 (by decide) (by decide) (by decide), u914 116 (by decide) (by decide) (by decide), u911 12 24 _ (by decide), u911 12 25 _ (by decide), u911 12 26 _ (by decide), u911 12 27 _ (by decide), fun z => by omega⟩
              have f923 := cb_12_24 i909 k_a0
              have f924 : (q_I r907.2 12 24 a0).toInt = (q_I r893 12 24 a0).toInt := congrArg Int32.toInt (u911 12 24 a0 (by decide))
              have f925 := cb_12_24 i895 k_a0
              have f926 : (q_I r893 12 24 a0).toInt = (q_I r758.2 12 24 a0).toInt := congrArg Int32.toInt (u898 12 24 a0 (by decide))
              have f927 := cb_12_24 i760 k_a0
              have f928 : (q_I r758.2 12 24 a0).toInt = (q_I r604 12 24 a0).toInt := congrArg Int32.toInt (u764 12 24 a0 (by decide))
              have f929 := cb_12_24 i632 k_a0
              have f930 : (q_I r604 12 24 a0).toInt = (q_I r96.2 12 24 a0).toInt := congrArg Int32.toInt (u639 12 24 a0 (by decide))
              refine ok_ite (fun h931 => ?_) (fun h931 => ?_)
              · have c932 : r907.1.toInt = (q_I r907.2 12 24 a0).toInt := o_eq h931
                obtain ⟨b933, o934, k935, n936⟩ := gO_12_28 L k_a0
                obtain rfl := gS_12_28 L k_a0 o934
                refine ok_at o934 ?_
                have t937 := ti_tn (q_I r907.2 12 24 a0)
                refine ok_gd (fun hc938 => ?_) ?_
                · rcases hc938 with hc938 | hc938
                  · have c939 : (q_I r907.2 12 24 a0).toInt < (0 : Int) := o_lt hc938
                    omega
                  · omega
                have f943 := cb_12_25 i909 k_a0
                have f944 : (q_I r907.2 12 25 a0).toInt = (q_I r893 12 25 a0).toInt := congrArg Int32.toInt (u911 12 25 a0 (by decide))
                have f945 := cb_12_25 i895 k_a0
                have f946 : (q_I r893 12 25 a0).toInt = (q_I r758.2 12 25 a0).toInt := congrArg Int32.toInt (u898 12 25 a0 (by decide))
                have f947 := cb_12_25 i760 k_a0
                have f948 : (q_I r758.2 12 25 a0).toInt = (q_I r604 12 25 a0).toInt := congrArg Int32.toInt (u764 12 25 a0 (by decide))
                have f949 := cb_12_25 i632 k_a0
                refine ok_bdv (fun d940 e941 => ?_)
                have i942 : RI ad h.1 δ0 d940 := by rw [e941]; exact cr_112 L i909 (show 0 ≤ (q_I r907.2 12 25 a0).toInt by omega) (show (q_I r907.2 12 25 a0).toInt ≤ 60 by omega)
                have u950 := kp_N u915 (show q_I d940 = q_I r907.2 by rw [e941]; rfl)
                have v951 : q_V d940 = q_V δ := ((show q_V d940 = q_V r907.2 by rw [e941]; rfl)).trans v916
                have v952 := kr_s L (by decide) v917 e941
                have f956 := cb_12_24 i942 k_a0
                have f957 : (q_I d940 12 24 a0).toInt = (q_I r907.2 12 24 a0).toInt := congrArg Int32.toInt (by rw [e941]; rfl)
                first | (have q959 := te_addc (c := 1) (n := 1) rfl (q_I d940 12 24 a0) (by omega) (by omega); obtain ⟨f960, f961, f962⟩ := q959) | (obtain ⟨q959, f960, f961, f962⟩ := ti_addc (c := 1) (n := 1) rfl (q_I d940 12 24 a0))
                refine ok_bdv (fun d953 e954 => ?_)
                have i955 : RI ad h.1 δ0 d953 := by rw [e954]; exact cs_12_24 L i942 k_a0 (show 0 ≤ ((q_I d940 12 24 a0) + (1 : Int32)).toInt by omega) (show ((q_I d940 12 24 a0) + (1 : Int32)).toInt ≤ 4 by omega)
                have u963 := kp_I u950 e954
                have v964 : q_V d953 = q_V δ := ((show q_V d953 = q_V d940 by rw [e954]; rfl)).trans v951
                have v965 := kr_N v952 (show q_R d953 = q_R d940 by rw [e954]; rfl)
                unfold J_X12_thief_146
                have ss966 : NS ad a0 δ d1 := NS.t NS.r (NS.w e2 (by decide))
                have ss967 : NS0 ad a0 δ r10.2 := NS0.t (NS.z ss966) (NS.z ns27)
                have ss968 : NS0 ad a0 δ r43 := NS0.t ss967 ns63
                have ns970 : NS ad a0 d90 r96.2 := NS.t NS.r ns125
                have ns971 : NS ad a0 r604 r758.2 := NS.t NS.r ns779
                have ns972 : NS ad a0 r604 r893 := NS.t ns971 ns906
                have ns973 : NS ad a0 r604 r907.2 := NS.t ns972 ns920
                have f974 := cb_12_26 i909 k_a0
                have f975 : (q_I r907.2 12 26 a0).toInt = (q_I r893 12 26 a0).toInt := congrArg Int32.toInt (u911 12 26 a0 (by decide))
                have f976 := cb_12_26 i895 k_a0
                have f977 : (q_I r893 12 26 a0).toInt = (q_I r758.2 12 26 a0).toInt := congrArg Int32.toInt (u898 12 26 a0 (by decide))
                have f978 := cb_12_26 i760 k_a0
                have f979 : (q_I r758.2 12 26 a0).toInt = (q_I r604 12 26 a0).toInt := congrArg Int32.toInt (u764 12 26 a0 (by decide))
                have ss969 : TK ad a0 δ d953 := TK.good L ss968 e79 e85 e91 ns970 p638 (u641 112 (by decide) (by decide) (by decide)) ns973 (show (0 : Int) = 0 by omega) (show (0 : Int) = 0 by omega) (show (0 : Int) = 0 by omega) (by omega) e941 e954 (show (((q_I r907.2 12 24 a0).toNatClampNeg : Nat) : Int) = (q_I δ 12 24 a0).toInt by omega) (show (q_I r907.2 12 25 a0).toInt = (q_I r907.2 12 25 a0).toInt by omega) (show ((q_I d940 12 24 a0) + (1 : Int32)).toInt = (q_I δ 12 24 a0).toInt + 1 by omega) (show (q_I r907.2 12 5 a0).toInt = -1 by omega) (show (q_I r907.2 12 26 a0).toInt ≤ 500 by omega)
                have f980 := cb_12_2 I k_a0
                have f981 := cb_12_2 i955 k_a0
                have f982 : (q_I d953 12 2 a0).toInt = (q_I d940 12 2 a0).toInt := congrArg Int32.toInt (by rw [e954]; exact rI_o (by decide))
                have f983 := cb_12_2 i942 k_a0
                have f984 : (q_I d940 12 2 a0).toInt = (q_I r907.2 12 2 a0).toInt := congrArg Int32.toInt (by rw [e941]; rfl)
                have f985 := cb_12_2 i909 k_a0
                have f986 : (q_I r907.2 12 2 a0).toInt = (q_I r893 12 2 a0).toInt := congrArg Int32.toInt (u911 12 2 a0 (by decide))
                have f987 := cb_12_2 i895 k_a0
                have f988 : (q_I r893 12 2 a0).toInt = (q_I r758.2 12 2 a0).toInt := congrArg Int32.toInt (u898 12 2 a0 (by decide))
                have f989 := cb_12_2 i760 k_a0
                have f990 : (q_I r758.2 12 2 a0).toInt = (q_I r604 12 2 a0).toInt := congrArg Int32.toInt (u764 12 2 a0 (by decide))
                have f991 := cb_12_2 i632 k_a0
                have f992 : (q_I r604 12 2 a0).toInt = (q_I r96.2 12 2 a0).toInt := congrArg Int32.toInt (u639 12 2 a0 (by decide))
                have f993 := cb_12_2 i98 k_a0
                have f994 : (q_I r96.2 12 2 a0).toInt = (q_I d90 12 2 a0).toInt := congrArg Int32.toInt (u102 12 2 a0 (by decide))
                have f995 := cb_12_2 i92 k_a0
                have f996 : (q_I d90 12 2 a0).toInt = (q_I d84 12 2 a0).toInt := congrArg Int32.toInt (by rw [e91]; exact rI_o (by decide))
                have f997 := cb_12_2 i86 k_a0
                have f998 : (q_I d84 12 2 a0).toInt = (q_I d78 12 2 a0).toInt := congrArg Int32.toInt (by rw [e85]; exact rI_o (by decide))
                have f999 := cb_12_2 i80 k_a0
                have f1000 : (q_I d78 12 2 a0).toInt = (q_I r43 12 2 a0).toInt := congrArg Int32.toInt (by rw [e79]; exact rI_o (by decide))
                exact ok_some (show RI ad h.1 δ0 d953 ∧ (kp [(12, 0), (12, 2), (12, 3), (12, 4), (12, 5), (12, 6), (12, 7), (12, 8), (12, 24), (12, 25), (12, 26), (12, 27)] δ d953 ∧ q_V d953 = q_V δ ∧ kr ad [100, 112, 113, 114, 115, 116, 117] δ d953) ∧ TK ad a0 δ d953 ∧ (0 ≤ (x1).toInt ∧ (x1).toInt ≤ (q_I δ 12 2 a0).toInt → (q_I d953 12 2 a0).toInt = 0) ∧ ((x1).toInt < 0 ∨ (q_I δ 12 2 a0).toInt < (x1).toInt → (q_I d953 12 2 a0).toInt = (q_I δ 12 2 a0).toInt) from ⟨i955, ⟨kp_w (by decide) u963, v964, kr_w (by decide) v965⟩, ss969, by first | assumption | omega, by first | assumption | omega⟩)
              · have c1001 : r907.1.toInt ≠ (q_I r907.2 12 24 a0).toInt := o_ne h931
                unfold J_X12_thief_146
                have ss1002 : NS ad a0 δ d1 := NS.t NS.r (NS.w e2 (by decide))
                have ss1003 : NS0 ad a0 δ r10.2 := NS0.t (NS.z ss1002) (NS.z ns27)
                have ss1004 : NS0 ad a0 δ r43 := NS0.t ss1003 ns63
                have ns1006 : NS ad a0 d90 r96.2 := NS.t NS.r ns125
                have ns1007 : NS ad a0 r604 r758.2 := NS.t NS.r ns779
                have ns1008 : NS ad a0 r604 r893 := NS.t ns1007 ns906
                have ns1009 : NS ad a0 r604 r907.2 := NS.t ns1008 ns920
                have ss1005 : TK ad a0 δ r907.2 := TK.bad L ss1004 e79 e85 e91 ns1006 p638 (u641 112 (by decide) (by decide) (by decide)) ns1009 (show (0 : Int) = 0 by omega) (show (0 : Int) = 0 by omega) (show (0 : Int) = 0 by omega) (by omega)
                have f1010 := cb_12_2 I k_a0
                have f1011 := cb_12_2 i909 k_a0
                have f1012 : (q_I r907.2 12 2 a0).toInt = (q_I r893 12 2 a0).toInt := congrArg Int32.toInt (u911 12 2 a0 (by decide))
                have f1013 := cb_12_2 i895 k_a0
                have f1014 : (q_I r893 12 2 a0).toInt = (q_I r758.2 12 2 a0).toInt := congrArg Int32.toInt (u898 12 2 a0 (by decide))
                have f1015 := cb_12_2 i760 k_a0
                have f1016 : (q_I r758.2 12 2 a0).toInt = (q_I r604 12 2 a0).toInt := congrArg Int32.toInt (u764 12 2 a0 (by decide))
                have f1017 := cb_12_2 i632 k_a0
                have f1018 : (q_I r604 12 2 a0).toInt = (q_I r96.2 12 2 a0).toInt := congrArg Int32.toInt (u639 12 2 a0 (by decide))
                have f1019 := cb_12_2 i98 k_a0
                have f1020 : (q_I r96.2 12 2 a0).toInt = (q_I d90 12 2 a0).toInt := congrArg Int32.toInt (u102 12 2 a0 (by decide))
                have f1021 := cb_12_2 i92 k_a0
                have f1022 : (q_I d90 12 2 a0).toInt = (q_I d84 12 2 a0).toInt := congrArg Int32.toInt (by rw [e91]; exact rI_o (by decide))
                have f1023 := cb_12_2 i86 k_a0
                have f1024 : (q_I d84 12 2 a0).toInt = (q_I d78 12 2 a0).toInt := congrArg Int32.toInt (by rw [e85]; exact rI_o (by decide))
                have f1025 := cb_12_2 i80 k_a0
                have f1026 : (q_I d78 12 2 a0).toInt = (q_I r43 12 2 a0).toInt := congrArg Int32.toInt (by rw [e79]; exact rI_o (by decide))
                exact ok_some (show RI ad h.1 δ0 r907.2 ∧ (kp [(12, 0), (12, 2), (12, 3), (12, 4), (12, 5), (12, 6), (12, 7), (12, 8), (12, 24), (12, 25), (12, 26), (12, 27)] δ r907.2 ∧ q_V r907.2 = q_V δ ∧ kr ad [100, 112, 113, 114, 115, 116, 117] δ r907.2) ∧ TK ad a0 δ r907.2 ∧ (0 ≤ (x1).toInt ∧ (x1).toInt ≤ (q_I δ 12 2 a0).toInt → (q_I r907.2 12 2 a0).toInt = 0) ∧ ((x1).toInt < 0 ∨ (q_I δ 12 2 a0).toInt < (x1).toInt → (q_I r907.2 12 2 a0).toInt = (q_I δ 12 2 a0).toInt) from ⟨i909, ⟨kp_w (by decide) u915, v916, kr_w (by decide) v917⟩, ss1005, by first | assumption | omega, by first | assumption | omega⟩)
  · have c1027 : (0 : Int) ≤ x1.toInt := o_nlt h8
    have f1028 := cb_12_2 i3 k_a0
    have f1029 : (q_I d1 12 2 a0).toInt = (q_I δ 12 2 a0).toInt := congrArg Int32.toInt (by rw [e2]; exact rI_o (by decide))
    have f1030 := cb_12_2 I k_a0
    refine ok_ite (fun h1031 => ?_) (fun h1031 => ?_)
    · have c1032 : (q_I d1 12 2 a0).toInt < x1.toInt := o_lt h1031
      unfold J_X12_thief_22
      unfold J_X12_thief_23
      refine ok_bind (k_X12_may L hN (a0 := a0) (x1 := (0 : Int32)) (x2 := (1 : Int32)) (x3 := (2 : Int32)) k_a0 (show (1 : Int) ≠ 0 by first | assumption | omega) (show 0 ≤ (2 : Int) by first | assumption | omega) (show (2 : Int) ≤ 2 by first | assumption | omega) i3) (fun r1033 hr1034 => ?_)
      obtain ⟨i1035, ⟨u1039, u1040, u1041⟩, p1036, p1037, p1038⟩ := hr1034
      have u1042 := kp_t u4 u1039
      have v1043 : q_V r1033.2 = q_V δ := (u1040).trans v5
      have v1044 := kr_t v6 u1041
      have f1045 := bo_l p1036
      have f1046 := ti_b r1033.1
      replace p1037 : ((r1033.1).toInt = 1 → (0 : Int) ≠ 0) := p1037
      have f1047 := ti_b (q_I d1 12 0 a0)
      have f1048 : (q_I d1 12 0 a0).toInt = (0 : Int) := congrArg Int32.toInt (show q_I d1 12 0 a0 = (0 : Int32) by rw [e2]; exact rI_s)
      replace p1038 : ((q_I d1 12 0 a0).toInt = 0 → (r1033.1).toInt = 0 → (0 : Int) = 0) := p1038
      have f1049 := ti_b r1033.1
      have f1051 := cb_12_5 i1035 k_a0
      have f1052 : (q_I r1033.2 12 5 a0).toInt = (q_I d1 12 5 a0).toInt := congrArg Int32.toInt (u1039 12 5 a0 (by decide))
      have f1053 := cb_12_5 i3 k_a0
      have f1054 : (q_I d1 12 5 a0).toInt = (q_I δ 12 5 a0).toInt := congrArg Int32.toInt (by rw [e2]; exact rI_o (by decide))
      have f1055 := cb_12_5 I k_a0
      have ns1050 : NS ad a0 d1 r1033.2 := ⟨u1041 112 (by decide) (by decide) (by decide), u1041 113 (by decide) (by decide) (by decide), u1041 114 (by decide) (by decide) (by decide), u1041 115 (by decide) (by decide) (by decide), u1041 116 (by decide) (by decide) (by decide), u1039 12 24 _ (by decide), u1039 12 25 _ (by decide), u1039 12 26 _ (by decide), u1039 12 27 _ (by decide), fun z => by omega⟩
      refine ok_ite (fun h1056 => ?_) (fun h1056 => ?_)
      · have c1057 : r1033.1.toInt = (0 : Int) := o_eq h1056
        have ss1058 : NS ad a0 δ d1 := NS.t NS.r (NS.w e2 (by decide))
        have ss1059 : NS0 ad a0 δ r1033.2 := NS0.t (NS.z ss1058) (NS.z ns1050)
        have f1060 := cb_12_2 i1035 k_a0
        have f1061 : (q_I r1033.2 12 2 a0).toInt = (q_I d1 12 2 a0).toInt := congrArg Int32.toInt (u1039 12 2 a0 (by decide))
        exact ok_some (show RI ad h.1 δ0 r1033.2 ∧ (kp [(12, 0), (12, 2), (12, 3), (12, 4), (12, 5), (12, 6), (12, 7), (12, 8), (12, 24), (12, 25), (12, 26), (12, 27)] δ r1033.2 ∧ q_V r1033.2 = q_V δ ∧ kr ad [100, 112, 113, 114, 115, 116, 117] δ r1033.2) ∧ TK ad a0 δ r1033.2 ∧ (0 ≤ (x1).toInt ∧ (x1).toInt ≤ (q_I δ 12 2 a0).toInt → (q_I r1033.2 12 2 a0).toInt = 0) ∧ ((x1).toInt < 0 ∨ (q_I δ 12 2 a0).toInt < (x1).toInt → (q_I r1033.2 12 2 a0).toInt = (q_I δ 12 2 a0).toInt) from ⟨i1035, ⟨kp_w (by decide) u1042, v1043, kr_w (by decide) v1044⟩, TK.n ss1059, by first | assumption | omega, by first | assumption | omega⟩)
      · have c1062 : r1033.1.toInt ≠ (0 : Int) := o_ne h1056
        refine ok_bind (k_X12_begins L hN (a0 := a0) (x1 := x1) k_a0 (show 0 ≤ (x1).toInt by first | assumption | omega) (show (x1).toInt ≤ 500 by first | assumption | omega) i1035) (fun r1063 hr1064 => ?_)
        obtain ⟨i1065, ⟨u1071, u1072, u1073, u1074⟩, p1066, p1067, p1068, p1069, p1070⟩ := hr1064
        have u1075 := kp_t u1042 u1071
        have v1076 : q_V r1063 = q_V δ := (u1072).trans v1043
        have v1077 := kr_t v1044 u1074
        have f1078 := cb_12_2 i1065 k_a0
        have f1079 := cb_12_4 i1065 k_a0
        have f1080 := cb_12_3 i1065 k_a0
        have f1081 := cb_12_5 i1065 k_a0
        have f1082 := ti_b (q_I r1063 12 7 a0)
        have ns1083 : NS0 ad a0 r1033.2 r1063 := ⟨u1074 112 (by decide) (by decide) (by decide), u1074 113 (by decide) (by decide) (by decide), u1074 114 (by decide) (by decide) (by decide), u1074 115 (by decide) (by decide) (by decide), u1074 116 (by decide) (by decide) (by decide), u1071 12 24 _ (by decide)⟩
        have f1084 := cb_12_24 i1065 k_a0
        have f1085 : (q_I r1063 12 24 a0).toInt = (q_I r1033.2 12 24 a0).toInt := congrArg Int32.toInt (u1071 12 24 a0 (by decide))
        have f1086 := cb_12_24 i1035 k_a0
        have f1087 : (q_I r1033.2 12 24 a0).toInt = (q_I d1 12 24 a0).toInt := congrArg Int32.toInt (u1039 12 24 a0 (by decide))
        have f1088 := cb_12_24 i3 k_a0
        have f1089 : (q_I d1 12 24 a0).toInt = (q_I δ 12 24 a0).toInt := congrArg Int32.toInt (by rw [e2]; exact rI_o (by decide))
        have f1090 := cb_12_24 I k_a0
        refine ok_ite (fun h1091 => ?_) (fun h1091 => ?_)
        · have c1092 : (q_I r1063 12 24 a0).toInt = (4 : Int) := o_eq h1091
          have ss1093 : NS ad a0 δ d1 := NS.t NS.r (NS.w e2 (by decide))
          have ss1094 : NS0 ad a0 δ r1033.2 := NS0.t (NS.z ss1093) (NS.z ns1050)
          have ss1095 : NS0 ad a0 δ r1063 := NS0.t ss1094 ns1083
          exact ok_some (show RI ad h.1 δ0 r1063 ∧ (kp [(12, 0), (12, 2), (12, 3), (12, 4), (12, 5), (12, 6), (12, 7), (12, 8), (12, 24), (12, 25), (12, 26), (12, 27)] δ r1063 ∧ q_V r1063 = q_V δ ∧ kr ad [100, 112, 113, 114, 115, 116, 117] δ r1063) ∧ TK ad a0 δ r1063 ∧ (0 ≤ (x1).toInt ∧ (x1).toInt ≤ (q_I δ 12 2 a0).toInt → (q_I r1063 12 2 a0).toInt = 0) ∧ ((x1).toInt < 0 ∨ (q_I δ 12 2 a0).toInt < (x1).toInt → (q_I r1063 12 2 a0).toInt = (q_I δ 12 2 a0).toInt) from ⟨i1065, ⟨kp_w (by decide) u1075, v1076, kr_w (by decide) v1077⟩, TK.n ss1095, by first | assumption | omega, by first | assumption | omega⟩)
        · have c1096 : (q_I r1063 12 24 a0).toInt ≠ (4 : Int) := o_ne h1091
          refine ok_bdv (fun d1097 e1098 => ?_)
          have i1099 : RI ad h.1 δ0 d1097 := by rw [e1098]; exact cs_12_25 L i1065 k_a0 (show 0 ≤ (0 : Int) by omega) (show (0 : Int) ≤ 60 by omega)
          have u1100 := kp_I u1075 e1098
          have v1101 : q_V d1097 = q_V δ := ((show q_V d1097 = q_V r1063 by rw [e1098]; rfl)).trans v1076
          have v1102 := kr_N v1077 (show q_R d1097 = q_R r1063 by rw [e1098]; rfl)
          refine ok_bdv (fun d1103 e1104 => ?_)
          have i1105 : RI ad h.1 δ0 d1103 := by rw [e1104]; exact cs_12_26 L i1099 k_a0 (show 0 ≤ (0 : Int) by omega) (show (0 : Int) ≤ 500 by omega)
          have u1106 := kp_I u1100 e1104
          have v1107 : q_V d1103 = q_V δ := ((show q_V d1103 = q_V d1097 by rw [e1104]; rfl)).trans v1101
          have v1108 := kr_N v1102 (show q_R d1103 = q_R d1097 by rw [e1104]; rfl)
          refine ok_bdv (fun d1109 e1110 => ?_)
          have i1111 : RI ad h.1 δ0 d1109 := by rw [e1110]; exact cs_12_27 L i1105 k_a0 (show 0 ≤ (0 : Int) by omega) (show (0 : Int) ≤ 3 by omega)
          have u1112 := kp_I u1106 e1110
          have v1113 : q_V d1109 = q_V δ := ((show q_V d1109 = q_V d1103 by rw [e1110]; rfl)).trans v1107
          have v1114 := kr_N v1108 (show q_R d1109 = q_R d1103 by rw [e1110]; rfl)
          refine ok_bind (k_X12_isMore L hN (a0 := a0) k_a0 i1111) (fun r1115 hr1116 => ?_)
          obtain ⟨i1117, ⟨u1121, u1122, u1123, u1124⟩, p1118, p1119, p1120⟩ := hr1116
          have u1125 := kp_t u1112 u1121
          have v1126 : q_V r1115.2 = q_V δ := (u1122).trans v1113
          have v1127 := kr_t v1114 u1124
          have f1128 := bo_l p1118
          have f1129 := cb_12_4 i1111 k_a0
          have f1130 : (q_I d1109 12 4 a0).toInt = (q_I d1103 12 4 a0).toInt := congrArg Int32.toInt (by rw [e1110]; exact rI_o (by decide))
          have f1131 := cb_12_4 i1105 k_a0
          have f1132 : (q_I d1103 12 4 a0).toInt = (q_I d1097 12 4 a0).toInt := congrArg Int32.toInt (by rw [e1104]; exact rI_o (by decide))
          have f1133 := cb_12_4 i1099 k_a0
          have f1134 : (q_I d1097 12 4 a0).toInt = (q_I r1063 12 4 a0).toInt := congrArg Int32.toInt (by rw [e1098]; exact rI_o (by decide))
          have f1135 := cb_12_4 i1117 k_a0
          have f1136 := ti_b r1115.1
          have f1137 := cb_12_3 i1111 k_a0
          have f1138 : (q_I d1109 12 3 a0).toInt = (q_I d1103 12 3 a0).toInt := congrArg Int32.toInt (by rw [e1110]; exact rI_o (by decide))
          have f1139 := cb_12_3 i1105 k_a0
          have f1140 : (q_I d1103 12 3 a0).toInt = (q_I d1097 12 3 a0).toInt := congrArg Int32.toInt (by rw [e1104]; exact rI_o (by decide))
          have f1141 := cb_12_3 i1099 k_a0
          have f1142 : (q_I d1097 12 3 a0).toInt = (q_I r1063 12 3 a0).toInt := congrArg Int32.toInt (by rw [e1098]; exact rI_o (by decide))
          have f1143 := ti_b r1115.1
          have f1145 := cb_12_5 i1117 k_a0
          have f1146 : (q_I r1115.2 12 5 a0).toInt = (q_I d1109 12 5 a0).toInt := congrArg Int32.toInt (u1121 12 5 a0 (by decide))
          have f1147 := cb_12_5 i1111 k_a0
          have f1148 : (q_I d1109 12 5 a0).toInt = (q_I d1103 12 5 a0).toInt := congrArg Int32.toInt (by rw [e1110]; exact rI_o (by decide))
          have f1149 := cb_12_5 i1105 k_a0
          have f1150 : (q_I d1103 12 5 a0).toInt = (q_I d1097 12 5 a0).toInt := congrArg Int32.toInt (by rw [e1104]; exact rI_o (by decide))
          have f1151 := cb_12_5 i1099 k_a0
          have f1152 : (q_I d1097 12 5 a0).toInt = (q_I r1063 12 5 a0).toInt := congrArg Int32.toInt (by rw [e1098]; exact rI_o (by decide))
          have ns1144 : NS ad a0 d1109 r1115.2 := ⟨u1124 112 (by decide) (by decide) (by decide), u1124 113 (by decide) (by decide) (by decide), u1124 114 (by decide) (by decide) (by decide), u1124 115 (by decide) (by decide) (by decide), u1124 116 (by decide) (by decide) (by decide), u1121 12 24 _ (by decide), u1121 12 25 _ (by decide), u1121 12 26 _ (by decide), u1121 12 27 _ (by decide), fun z => by omega⟩
          refine ok_ite (fun h1153 => ?_) (fun h1153 => ?_)
          · have c1154 : r1115.1.toInt = (0 : Int) := o_eq h1153
            have f1157 := cb_12_3 i1117 k_a0
            have f1158 : (q_I r1115.2 12 3 a0).toInt = (q_I d1109 12 3 a0).toInt := congrArg Int32.toInt (u1121 12 3 a0 (by decide))
            refine ok_bind (k_X12_wrong L hN (a0 := a0) (x1 := (1 : Int32)) (x2 := (q_I r1115.2 12 3 a0)) k_a0 (show 0 ≤ ((q_I r1115.2 12 3 a0)).toInt by first | assumption | omega) (show ((q_I r1115.2 12 3 a0)).toInt ≤ 500 by first | assumption | omega) (show 0 ≤ (1 : Int) by first | assumption | omega) (show (1 : Int) ≤ 4 by first | assumption | omega) i1117) (fun r1155 hr1156 => ?_)
            obtain ⟨i1159, ⟨u1162, u1163, u1164, u1165⟩, p1160, p1161⟩ := hr1156
            have u1166 := kp_t u1125 u1162
            have v1167 : q_V r1155 = q_V δ := (u1163).trans v1126
            have v1168 := kr_t v1127 u1165
            have f1169 := cb_12_5 i1159 k_a0
            have ns1170 : NS ad a0 r1115.2 r1155 := ⟨u1165 112 (by decide) (by decide) (by decide), u1165 113 (by decide) (by decide) (by decide), u1165 114 (by decide) (by decide) (by decide), u1165 115 (by decide) (by decide) (by decide), u1165 116 (by decide) (by decide) (by decide), u1162 12 24 _ (by decide), u1162 12 25 _ (by decide), u1162 12 26 _ (by decide), u1162 12 27 _ (by decide), fun z => by omega⟩
            unfold J_X12_thief_79
            have f1173 := cb_12_24 i1159 k_a0
            have f1174 : (q_I r1155 12 24 a0).toInt = (q_I r1115.2 12 24 a0).toInt := congrArg Int32.toInt (u1162 12 24 a0 (by decide))
            have f1175 := cb_12_24 i1117 k_a0
            have f1176 : (q_I r1115.2 12 24 a0).toInt = (q_I d1109 12 24 a0).toInt := congrArg Int32.toInt (u1121 12 24 a0 (by decide))
            have f1177 := cb_12_24 i1111 k_a0
            have f1178 : (q_I d1109 12 24 a0).toInt = (q_I d1103 12 24 a0).toInt := congrArg Int32.toInt (by rw [e1110]; exact rI_o (by decide))
            have f1179 := cb_12_24 i1105 k_a0
            have f1180 : (q_I d1103 12 24 a0).toInt = (q_I d1097 12 24 a0).toInt := congrArg Int32.toInt (by rw [e1104]; exact rI_o (by decide))
            have f1181 := cb_12_24 i1099 k_a0
            have f1182 : (q_I d1097 12 24 a0).toInt = (q_I r1063 12 24 a0).toInt := congrArg Int32.toInt (by rw [e1098]; exact rI_o (by decide))
            have f1183 := cb_12_26 i1159 k_a0
            have f1184 : (q_I r1155 12 26 a0).toInt = (q_I r1115.2 12 26 a0).toInt := congrArg Int32.toInt (u1162 12 26 a0 (by decide))
            have f1185 := cb_12_26 i1117 k_a0
            have f1186 : (q_I r1115.2 12 26 a0).toInt = (q_I d1109 12 26 a0).toInt := congrArg Int32.toInt (u1121 12 26 a0 (by decide))
            have f1187 := cb_12_26 i1111 k_a0
            have f1188 : (q_I d1109 12 26 a0).toInt = (q_I d1103 12 26 a0).toInt := congrArg Int32.toInt (by rw [e1110]; exact rI_o (by decide))
            have f1189 := cb_12_26 i1105 k_a0
            have f1190 : (q_I d1103 12 26 a0).toInt = (0 : Int) := congrArg Int32.toInt (show q_I d1103 12 26 a0 = (0 : Int32) by rw [e1104]; exact rI_s)
            have f1191 := cb_12_4 i1159 k_a0
            have f1192 : (q_I r1155 12 4 a0).toInt = (q_I r1115.2 12 4 a0).toInt := congrArg Int32.toInt (u1162 12 4 a0 (by decide))
            have f1193 := ti_b (q_I r1155 12 7 a0)
            have f1194 : (q_I r1155 12 7 a0).toInt = (q_I r1115.2 12 7 a0).toInt := congrArg Int32.toInt (u1162 12 7 a0 (by decide))
            have f1195 := ti_b (q_I r1115.2 12 7 a0)
            have f1196 : (q_I r1115.2 12 7 a0).toInt = (q_I d1109 12 7 a0).toInt := congrArg Int32.toInt (u1121 12 7 a0 (by decide))
            have f1197 := ti_b (q_I d1109 12 7 a0)
            have f1198 : (q_I d1109 12 7 a0).toInt = (q_I d1103 12 7 a0).toInt := congrArg Int32.toInt (by rw [e1110]; exact rI_o (by decide))
            have f1199 := ti_b (q_I d1103 12 7 a0)
            have f1200 : (q_I d1103 12 7 a0).toInt = (q_I d1097 12 7 a0).toInt := congrArg Int32.toInt (by rw [e1104]; exact rI_o (by decide))
            have f1201 := ti_b (q_I d1097 12 7 a0)
            have f1202 : (q_I d1097 12 7 a0).toInt = (q_I r1063 12 7 a0).toInt := congrArg Int32.toInt (by rw [e1098]; exact rI_o (by decide))
            have f1203 := cb_12_27 i1159 k_a0
            have f1204 : (q_I r1155 12 27 a0).toInt = (q_I r1115.2 12 27 a0).toInt := congrArg Int32.toInt (u1162 12 27 a0 (by decide))
            have f1205 := cb_12_27 i1117 k_a0
            have f1206 : (q_I r1115.2 12 27 a0).toInt = (q_I d1109 12 27 a0).toInt := congrArg Int32.toInt (u1121 12 27 a0 (by decide))
            have f1207 := cb_12_27 i1111 k_a0
            have f1208 : (q_I d1109 12 27 a0).toInt = (0 : Int) := congrArg Int32.toInt (show q_I d1109 12 27 a0 = (0 : Int32) by rw [e1110]; exact rI_s)
            refine ok_bind (k_X12_readSteps L hN (a0 := a0) k_a0 (show (q_I r1155 12 24 a0).toInt ≤ 3 by first | assumption | omega) (show (q_I r1155 12 26 a0).toInt ≤ (q_I r1155 12 4 a0).toInt by first | assumption | omega) (show (q_I r1155 12 7 a0).toInt = 0 by first | assumption | omega) (show 4 - (q_I r1155 12 27 a0).toInt < 20 by first | assumption | omega) i1159) (fun r1171 hr1172 => ?_)
            obtain ⟨i1209, ⟨u1216, u1217, u1218⟩, p1210, p1211, p1212, p1213, p1214, p1215⟩ := hr1172
            have u1219 := kp_t u1166 u1216
            have v1220 : q_V r1171 = q_V δ := (u1217).trans v1167
            have v1221 := kr_t v1168 u1218
            have f1222 := cb_12_4 i1209 k_a0
            have f1223 := cb_12_5 i1209 k_a0
            have f1224 := ti_b (q_I r1171 12 7 a0)
            have f1225 := cb_12_27 i1209 k_a0
            have f1226 := cb_12_26 i1209 k_a0
            refine ok_bind (k_X12_fine L hN (a0 := a0) k_a0 i1209) (fun r1227 hr1228 => ?_)
            obtain ⟨i1229, p1230, p1231, p1232⟩ := hr1228
            try rw [i1229]
            have f1233 := bo_l p1230
            have f1234 := ti_b r1227.1
            have f1235 := ti_b r1227.1
            refine ok_ite (fun h1236 => ?_) (fun h1236 => ?_)
            · have c1237 : r1227.1.toInt = (0 : Int) := o_eq h1236
              unfold J_X12_thief_106
              refine ok_bind (k_X12_result L hN (a0 := a0) (x1 := (q_I r1171 12 24 a0)) k_a0 i1209) (fun r1238 hr1239 => ?_)
              obtain ⟨i1240, ⟨u1242, u1243, u1244, u1245⟩, p1241⟩ := hr1239
              have u1246 := kp_t u1219 u1242
              have v1247 : q_V r1238.2 = q_V δ := (u1243).trans v1220
              have v1248 := kr_t v1221 u1245
              have f1249 := ti_b r1238.1
              have f1250 := ti_b r1238.1
              have f1252 := cb_12_5 i1240 k_a0
              have f1253 : (q_I r1238.2 12 5 a0).toInt = (q_I r1171 12 5 a0).toInt := congrArg Int32.toInt (u1242 12 5 a0 (by decide))
              have ns1251 : NS ad a0 r1171 r1238.2 := ⟨u1245 112 (by decide) (by decide) (by decide), u1245 113 (by decide) (by decide) (by decide), u1245 114 (by decide) (by decide) (by decide), u1245 115 (by decide) (by decide) (by decide), u1245 116 (by decide) (by decide) (by decide), u1242 12 24 _ (by decide), u1242 12 25 _ (by decide), u1242 12 26 _ (by decide), u1242 12 27 _ (by decide), fun z => by omega⟩
              have f1254 := cb_12_24 i1240 k_a0
              have f1255 : (q_I r1238.2 12 24 a0).toInt = (q_I r1171 12 24 a0).toInt := congrArg Int32.toInt (u1242 12 24 a0 (by decide))
              have f1256 := cb_12_24 i1209 k_a0
              have f1257 : (q_I r1171 12 24 a0).toInt = (q_I r1155 12 24 a0).toInt := congrArg Int32.toInt (u1216 12 24 a0 (by decide))
              refine ok_ite (fun h1258 => ?_) (fun h1258 => ?_)
              · have c1259 : r1238.1.toInt = (q_I r1238.2 12 24 a0).toInt := o_eq h1258
                obtain ⟨b1260, o1261, k1262, n1263⟩ := gO_12_28 L k_a0
                obtain rfl := gS_12_28 L k_a0 o1261
                refine ok_at o1261 ?_
                have t1264 := ti_tn (q_I r1238.2 12 24 a0)
                refine ok_gd (fun hc1265 => ?_) ?_
                · rcases hc1265 with hc1265 | hc1265
                  · have c1266 : (q_I r1238.2 12 24 a0).toInt < (0 : Int) := o_lt hc1265
                    omega
                  · omega
                have f1270 := cb_12_25 i1240 k_a0
                have f1271 : (q_I r1238.2 12 25 a0).toInt = (q_I r1171 12 25 a0).toInt := congrArg Int32.toInt (u1242 12 25 a0 (by decide))
                have f1272 := cb_12_25 i1209 k_a0
                refine ok_bdv (fun d1267 e1268 => ?_)
                have i1269 : RI ad h.1 δ0 d1267 := by rw [e1268]; exact cr_112 L i1240 (show 0 ≤ (q_I r1238.2 12 25 a0).toInt by omega) (show (q_I r1238.2 12 25 a0).toInt ≤ 60 by omega)
                have u1273 := kp_N u1246 (show q_I d1267 = q_I r1238.2 by rw [e1268]; rfl)
                have v1274 : q_V d1267 = q_V δ := ((show q_V d1267 = q_V r1238.2 by rw [e1268]; rfl)).trans v1247
                have v1275 := kr_s L (by decide) v1248 e1268
                have f1279 := cb_12_24 i1269 k_a0
                have f1280 : (q_I d1267 12 24 a0).toInt = (q_I r1238.2 12 24 a0).toInt := congrArg Int32.toInt (by rw [e1268]; rfl)
                first | (have q1282 := te_addc (c := 1) (n := 1) rfl (q_I d1267 12 24 a0) (by omega) (by omega); obtain ⟨f1283, f1284, f1285⟩ := q1282) | (obtain ⟨q1282, f1283, f1284, f1285⟩ := ti_addc (c := 1) (n := 1) rfl (q_I d1267 12 24 a0))
                refine ok_bdv (fun d1276 e1277 => ?_)
                have i1278 : RI ad h.1 δ0 d1276 := by rw [e1277]; exact cs_12_24 L i1269 k_a0 (show 0 ≤ ((q_I d1267 12 24 a0) + (1 : Int32)).toInt by omega) (show ((q_I d1267 12 24 a0) + (1 : Int32)).toInt ≤ 4 by omega)
                have u1286 := kp_I u1273 e1277
                have v1287 : q_V d1276 = q_V δ := ((show q_V d1276 = q_V d1267 by rw [e1277]; rfl)).trans v1274
                have v1288 := kr_N v1275 (show q_R d1276 = q_R d1267 by rw [e1277]; rfl)
                unfold J_X12_thief_146
                have ss1289 : NS ad a0 δ d1 := NS.t NS.r (NS.w e2 (by decide))
                have ss1290 : NS0 ad a0 δ r1033.2 := NS0.t (NS.z ss1289) (NS.z ns1050)
                have ss1291 : NS0 ad a0 δ r1063 := NS0.t ss1290 ns1083
                have ns1293 : NS ad a0 d1109 r1115.2 := NS.t NS.r ns1144
                have ns1294 : NS ad a0 d1109 r1155 := NS.t ns1293 ns1170
                have ns1295 : NS ad a0 r1171 r1238.2 := NS.t NS.r ns1251
                have f1296 := cb_12_26 i1240 k_a0
                have f1297 : (q_I r1238.2 12 26 a0).toInt = (q_I r1171 12 26 a0).toInt := congrArg Int32.toInt (u1242 12 26 a0 (by decide))
                have ss1292 : TK ad a0 δ d1276 := TK.good L ss1291 e1098 e1104 e1110 ns1294 p1215 (u1218 112 (by decide) (by decide) (by decide)) ns1295 (show (0 : Int) = 0 by omega) (show (0 : Int) = 0 by omega) (show (0 : Int) = 0 by omega) (by omega) e1268 e1277 (show (((q_I r1238.2 12 24 a0).toNatClampNeg : Nat) : Int) = (q_I δ 12 24 a0).toInt by omega) (show (q_I r1238.2 12 25 a0).toInt = (q_I r1238.2 12 25 a0).toInt by omega) (show ((q_I d1267 12 24 a0) + (1 : Int32)).toInt = (q_I δ 12 24 a0).toInt + 1 by omega) (show (q_I r1238.2 12 5 a0).toInt = -1 by omega) (show (q_I r1238.2 12 26 a0).toInt ≤ 500 by omega)
                have f1298 := cb_12_2 i1278 k_a0
                have f1299 : (q_I d1276 12 2 a0).toInt = (q_I d1267 12 2 a0).toInt := congrArg Int32.toInt (by rw [e1277]; exact rI_o (by decide))
                have f1300 := cb_12_2 i1269 k_a0
                have f1301 : (q_I d1267 12 2 a0).toInt = (q_I r1238.2 12 2 a0).toInt := congrArg Int32.toInt (by rw [e1268]; rfl)
                have f1302 := cb_12_2 i1240 k_a0
                have f1303 : (q_I r1238.2 12 2 a0).toInt = (q_I r1171 12 2 a0).toInt := congrArg Int32.toInt (u1242 12 2 a0 (by decide))
                have f1304 := cb_12_2 i1209 k_a0
                have f1305 : (q_I r1171 12 2 a0).toInt = (q_I r1155 12 2 a0).toInt := congrArg Int32.toInt (u1216 12 2 a0 (by decide))
                have f1306 := cb_12_2 i1159 k_a0
                have f1307 : (q_I r1155 12 2 a0).toInt = (q_I r1115.2 12 2 a0).toInt := congrArg Int32.toInt (u1162 12 2 a0 (by decide))
                have f1308 := cb_12_2 i1117 k_a0
                have f1309 : (q_I r1115.2 12 2 a0).toInt = (q_I d1109 12 2 a0).toInt := congrArg Int32.toInt (u1121 12 2 a0 (by decide))
                have f1310 := cb_12_2 i1111 k_a0
                have f1311 : (q_I d1109 12 2 a0).toInt = (q_I d1103 12 2 a0).toInt := congrArg Int32.toInt (by rw [e1110]; exact rI_o (by decide))
                have f1312 := cb_12_2 i1105 k_a0
                have f1313 : (q_I d1103 12 2 a0).toInt = (q_I d1097 12 2 a0).toInt := congrArg Int32.toInt (by rw [e1104]; exact rI_o (by decide))
                have f1314 := cb_12_2 i1099 k_a0
                have f1315 : (q_I d1097 12 2 a0).toInt = (q_I r1063 12 2 a0).toInt := congrArg Int32.toInt (by rw [e1098]; exact rI_o (by decide))
                exact ok_some (show RI ad h.1 δ0 d1276 ∧ (kp [(12, 0), (12, 2), (12, 3), (12, 4), (12, 5), (12, 6), (12, 7), (12, 8), (12, 24), (12, 25), (12, 26), (12, 27)] δ d1276 ∧ q_V d1276 = q_V δ ∧ kr ad [100, 112, 113, 114, 115, 116, 117] δ d1276) ∧ TK ad a0 δ d1276 ∧ (0 ≤ (x1).toInt ∧ (x1).toInt ≤ (q_I δ 12 2 a0).toInt → (q_I d1276 12 2 a0).toInt = 0) ∧ ((x1).toInt < 0 ∨ (q_I δ 12 2 a0).toInt < (x1).toInt → (q_I d1276 12 2 a0).toInt = (q_I δ 12 2 a0).toInt) from ⟨i1278, ⟨kp_w (by decide) u1286, v1287, kr_w (by decide) v1288⟩, ss1292, by first | assumption | omega, by first | assumption | omega⟩)
              · have c1316 : r1238.1.toInt ≠ (q_I r1238.2 12 24 a0).toInt := o_ne h1258
                unfold J_X12_thief_146
                have ss1317 : NS ad a0 δ d1 := NS.t NS.r (NS.w e2 (by decide))
                have ss1318 : NS0 ad a0 δ r1033.2 := NS0.t (NS.z ss1317) (NS.z ns1050)
                have ss1319 : NS0 ad a0 δ r1063 := NS0.t ss1318 ns1083
                have ns1321 : NS ad a0 d1109 r1115.2 := NS.t NS.r ns1144
                have ns1322 : NS ad a0 d1109 r1155 := NS.t ns1321 ns1170
                have ns1323 : NS ad a0 r1171 r1238.2 := NS.t NS.r ns1251
                have ss1320 : TK ad a0 δ r1238.2 := TK.bad L ss1319 e1098 e1104 e1110 ns1322 p1215 (u1218 112 (by decide) (by decide) (by decide)) ns1323 (show (0 : Int) = 0 by omega) (show (0 : Int) = 0 by omega) (show (0 : Int) = 0 by omega) (by omega)
                have f1324 := cb_12_2 i1240 k_a0
                have f1325 : (q_I r1238.2 12 2 a0).toInt = (q_I r1171 12 2 a0).toInt := congrArg Int32.toInt (u1242 12 2 a0 (by decide))
                have f1326 := cb_12_2 i1209 k_a0
                have f1327 : (q_I r1171 12 2 a0).toInt = (q_I r1155 12 2 a0).toInt := congrArg Int32.toInt (u1216 12 2 a0 (by decide))
                have f1328 := cb_12_2 i1159 k_a0
                have f1329 : (q_I r1155 12 2 a0).toInt = (q_I r1115.2 12 2 a0).toInt := congrArg Int32.toInt (u1162 12 2 a0 (by decide))
                have f1330 := cb_12_2 i1117 k_a0
                have f1331 : (q_I r1115.2 12 2 a0).toInt = (q_I d1109 12 2 a0).toInt := congrArg Int32.toInt (u1121 12 2 a0 (by decide))
                have f1332 := cb_12_2 i1111 k_a0
                have f1333 : (q_I d1109 12 2 a0).toInt = (q_I d1103 12 2 a0).toInt := congrArg Int32.toInt (by rw [e1110]; exact rI_o (by decide))
                have f1334 := cb_12_2 i1105 k_a0
                have f1335 : (q_I d1103 12 2 a0).toInt = (q_I d1097 12 2 a0).toInt := congrArg Int32.toInt (by rw [e1104]; exact rI_o (by decide))
                have f1336 := cb_12_2 i1099 k_a0
                have f1337 : (q_I d1097 12 2 a0).toInt = (q_I r1063 12 2 a0).toInt := congrArg Int32.toInt (by rw [e1098]; exact rI_o (by decide))
                exact ok_some (show RI ad h.1 δ0 r1238.2 ∧ (kp [(12, 0), (12, 2), (12, 3), (12, 4), (12, 5), (12, 6), (12, 7), (12, 8), (12, 24), (12, 25), (12, 26), (12, 27)] δ r1238.2 ∧ q_V r1238.2 = q_V δ ∧ kr ad [100, 112, 113, 114, 115, 116, 117] δ r1238.2) ∧ TK ad a0 δ r1238.2 ∧ (0 ≤ (x1).toInt ∧ (x1).toInt ≤ (q_I δ 12 2 a0).toInt → (q_I r1238.2 12 2 a0).toInt = 0) ∧ ((x1).toInt < 0 ∨ (q_I δ 12 2 a0).toInt < (x1).toInt → (q_I r1238.2 12 2 a0).toInt = (q_I δ 12 2 a0).toInt) from ⟨i1240, ⟨kp_w (by decide) u1246, v1247, kr_w (by decide) v1248⟩, ss1320, by first | assumption | omega, by first | assumption | omega⟩)
            · have c1338 : r1227.1.toInt ≠ (0 : Int) := o_ne h1236
              refine ok_bind (k_X12_isMore L hN (a0 := a0) k_a0 i1209) (fun r1339 hr1340 => ?_)
              obtain ⟨i1341, ⟨u1345, u1346, u1347, u1348⟩, p1342, p1343, p1344⟩ := hr1340
              have u1349 := kp_t u1219 u1345
              have v1350 : q_V r1339.2 = q_V δ := (u1346).trans v1220
              have v1351 := kr_t v1221 u1348
              have f1352 := bo_l p1342
              have f1353 := cb_12_4 i1341 k_a0
              have f1354 := ti_b r1339.1
              have f1355 := cb_12_3 i1209 k_a0
              have f1356 : (q_I r1171 12 3 a0).toInt = (q_I r1155 12 3 a0).toInt := congrArg Int32.toInt (u1216 12 3 a0 (by decide))
              have f1357 := cb_12_3 i1159 k_a0
              have f1358 : (q_I r1155 12 3 a0).toInt = (q_I r1115.2 12 3 a0).toInt := congrArg Int32.toInt (u1162 12 3 a0 (by decide))
              have f1359 := ti_b r1339.1
              have f1361 := cb_12_5 i1341 k_a0
              have f1362 : (q_I r1339.2 12 5 a0).toInt = (q_I r1171 12 5 a0).toInt := congrArg Int32.toInt (u1345 12 5 a0 (by decide))
              have ns1360 : NS ad a0 r1171 r1339.2 := ⟨u1348 112 (by decide) (by decide) (by decide), u1348 113 (by decide) (by decide) (by decide), u1348 114 (by decide) (by decide) (by decide), u1348 115 (by decide) (by decide) (by decide), u1348 116 (by decide) (by decide) (by decide), u1345 12 24 _ (by decide), u1345 12 25 _ (by decide), u1345 12 26 _ (by decide), u1345 12 27 _ (by decide), fun z => by omega⟩
              refine ok_ite (fun h1363 => ?_) (fun h1363 => ?_)
              · have c1364 : r1339.1.toInt = (0 : Int) := o_eq h1363
                unfold J_X12_thief_106
                refine ok_bind (k_X12_result L hN (a0 := a0) (x1 := (q_I r1339.2 12 24 a0)) k_a0 i1341) (fun r1365 hr1366 => ?_)
                obtain ⟨i1367, ⟨u1369, u1370, u1371, u1372⟩, p1368⟩ := hr1366
                have u1373 := kp_t u1349 u1369
                have v1374 : q_V r1365.2 = q_V δ := (u1370).trans v1350
                have v1375 := kr_t v1351 u1372
                have f1376 := ti_b r1365.1
                have f1377 := ti_b r1365.1
                have f1379 := cb_12_5 i1367 k_a0
                have f1380 : (q_I r1365.2 12 5 a0).toInt = (q_I r1339.2 12 5 a0).toInt := congrArg Int32.toInt (u1369 12 5 a0 (by decide))
                have ns1378 : NS ad a0 r1339.2 r1365.2 := ⟨u1372 112 (by decide) (by decide) (by decide), u1372 113 (by decide) (by decide) (by decide), u1372 114 (by decide) (by decide) (by decide), u1372 115 (by decide) (by decide) (by decide), u1372 116 (by decide) (by decide) (by decide), u1369 12 24 _ (by decide), u1369 12 25 _ (by decide), u1369 12 26 _ (by decide), u1369 12 27 _ (by decide), fun z => by omega⟩
                have f1381 := cb_12_24 i1367 k_a0
                have f1382 : (q_I r1365.2 12 24 a0).toInt = (q_I r1339.2 12 24 a0).toInt := congrArg Int32.toInt (u1369 12 24 a0 (by decide))
                have f1383 := cb_12_24 i1341 k_a0
                have f1384 : (q_I r1339.2 12 24 a0).toInt = (q_I r1171 12 24 a0).toInt := congrArg Int32.toInt (u1345 12 24 a0 (by decide))
                have f1385 := cb_12_24 i1209 k_a0
                have f1386 : (q_I r1171 12 24 a0).toInt = (q_I r1155 12 24 a0).toInt := congrArg Int32.toInt (u1216 12 24 a0 (by decide))
                refine ok_ite (fun h1387 => ?_) (fun h1387 => ?_)
                · have c1388 : r1365.1.toInt = (q_I r1365.2 12 24 a0).toInt := o_eq h1387
                  obtain ⟨b1389, o1390, k1391, n1392⟩ := gO_12_28 L k_a0
                  obtain rfl := gS_12_28 L k_a0 o1390
                  refine ok_at o1390 ?_
                  have t1393 := ti_tn (q_I r1365.2 12 24 a0)
                  refine ok_gd (fun hc1394 => ?_) ?_
                  · rcases hc1394 with hc1394 | hc1394
                    · have c1395 : (q_I r1365.2 12 24 a0).toInt < (0 : Int) := o_lt hc1394
                      omega
                    · omega
                  have f1399 := cb_12_25 i1367 k_a0
                  have f1400 : (q_I r1365.2 12 25 a0).toInt = (q_I r1339.2 12 25 a0).toInt := congrArg Int32.toInt (u1369 12 25 a0 (by decide))
                  have f1401 := cb_12_25 i1341 k_a0
                  have f1402 : (q_I r1339.2 12 25 a0).toInt = (q_I r1171 12 25 a0).toInt := congrArg Int32.toInt (u1345 12 25 a0 (by decide))
                  have f1403 := cb_12_25 i1209 k_a0
                  refine ok_bdv (fun d1396 e1397 => ?_)
                  have i1398 : RI ad h.1 δ0 d1396 := by rw [e1397]; exact cr_112 L i1367 (show 0 ≤ (q_I r1365.2 12 25 a0).toInt by omega) (show (q_I r1365.2 12 25 a0).toInt ≤ 60 by omega)
                  have u1404 := kp_N u1373 (show q_I d1396 = q_I r1365.2 by rw [e1397]; rfl)
                  have v1405 : q_V d1396 = q_V δ := ((show q_V d1396 = q_V r1365.2 by rw [e1397]; rfl)).trans v1374
                  have v1406 := kr_s L (by decide) v1375 e1397
                  have f1410 := cb_12_24 i1398 k_a0
                  have f1411 : (q_I d1396 12 24 a0).toInt = (q_I r1365.2 12 24 a0).toInt := congrArg Int32.toInt (by rw [e1397]; rfl)
                  first | (have q1413 := te_addc (c := 1) (n := 1) rfl (q_I d1396 12 24 a0) (by omega) (by omega); obtain ⟨f1414, f1415, f1416⟩ := q1413) | (obtain ⟨q1413, f1414, f1415, f1416⟩ := ti_addc (c := 1) (n := 1) rfl (q_I d1396 12 24 a0))
                  refine ok_bdv (fun d1407 e1408 => ?_)
                  have i1409 : RI ad h.1 δ0 d1407 := by rw [e1408]; exact cs_12_24 L i1398 k_a0 (show 0 ≤ ((q_I d1396 12 24 a0) + (1 : Int32)).toInt by omega) (show ((q_I d1396 12 24 a0) + (1 : Int32)).toInt ≤ 4 by omega)
                  have u1417 := kp_I u1404 e1408
                  have v1418 : q_V d1407 = q_V δ := ((show q_V d1407 = q_V d1396 by rw [e1408]; rfl)).trans v1405
                  have v1419 := kr_N v1406 (show q_R d1407 = q_R d1396 by rw [e1408]; rfl)
                  unfold J_X12_thief_146
                  have ss1420 : NS ad a0 δ d1 := NS.t NS.r (NS.w e2 (by decide))
                  have ss1421 : NS0 ad a0 δ r1033.2 := NS0.t (NS.z ss1420) (NS.z ns1050)
                  have ss1422 : NS0 ad a0 δ r1063 := NS0.t ss1421 ns1083
                  have ns1424 : NS ad a0 d1109 r1115.2 := NS.t NS.r ns1144
                  have ns1425 : NS ad a0 d1109 r1155 := NS.t ns1424 ns1170
                  have ns1426 : NS ad a0 r1171 r1339.2 := NS.t NS.r ns1360
                  have ns1427 : NS ad a0 r1171 r1365.2 := NS.t ns1426 ns1378
                  have f1428 := cb_12_26 i1367 k_a0
                  have f1429 : (q_I r1365.2 12 26 a0).toInt = (q_I r1339.2 12 26 a0).toInt := congrArg Int32.toInt (u1369 12 26 a0 (by decide))
                  have f1430 := cb_12_26 i1341 k_a0
                  have f1431 : (q_I r1339.2 12 26 a0).toInt = (q_I r1171 12 26 a0).toInt := congrArg Int32.toInt (u1345 12 26 a0 (by decide))
                  have ss1423 : TK ad a0 δ d1407 := TK.good L ss1422 e1098 e1104 e1110 ns1425 p1215 (u1218 112 (by decide) (by decide) (by decide)) ns1427 (show (0 : Int) = 0 by omega) (show (0 : Int) = 0 by omega) (show (0 : Int) = 0 by omega) (by omega) e1397 e1408 (show (((q_I r1365.2 12 24 a0).toNatClampNeg : Nat) : Int) = (q_I δ 12 24 a0).toInt by omega) (show (q_I r1365.2 12 25 a0).toInt = (q_I r1365.2 12 25 a0).toInt by omega) (show ((q_I d1396 12 24 a0) + (1 : Int32)).toInt = (q_I δ 12 24 a0).toInt + 1 by omega) (show (q_I r1365.2 12 5 a0).toInt = -1 by omega) (show (q_I r1365.2 12 26 a0).toInt ≤ 500 by omega)
                  have f1432 := cb_12_2 i1409 k_a0
                  have f1433 : (q_I d1407 12 2 a0).toInt = (q_I d1396 12 2 a0).toInt := congrArg Int32.toInt (by rw [e1408]; exact rI_o (by decide))
                  have f1434 := cb_12_2 i1398 k_a0
                  have f1435 : (q_I d1396 12 2 a0).toInt = (q_I r1365.2 12 2 a0).toInt := congrArg Int32.toInt (by rw [e1397]; rfl)
                  have f1436 := cb_12_2 i1367 k_a0
                  have f1437 : (q_I r1365.2 12 2 a0).toInt = (q_I r1339.2 12 2 a0).toInt := congrArg Int32.toInt (u1369 12 2 a0 (by decide))
                  have f1438 := cb_12_2 i1341 k_a0
                  have f1439 : (q_I r1339.2 12 2 a0).toInt = (q_I r1171 12 2 a0).toInt := congrArg Int32.toInt (u1345 12 2 a0 (by decide))
                  have f1440 := cb_12_2 i1209 k_a0
                  have f1441 : (q_I r1171 12 2 a0).toInt = (q_I r1155 12 2 a0).toInt := congrArg Int32.toInt (u1216 12 2 a0 (by decide))
                  have f1442 := cb_12_2 i1159 k_a0
                  have f1443 : (q_I r1155 12 2 a0).toInt = (q_I r1115.2 12 2 a0).toInt := congrArg Int32.toInt (u1162 12 2 a0 (by decide))
                  have f1444 := cb_12_2 i1117 k_a0
                  have f1445 : (q_I r1115.2 12 2 a0).toInt = (q_I d1109 12 2 a0).toInt := congrArg Int32.toInt (u1121 12 2 a0 (by decide))
                  have f1446 := cb_12_2 i1111 k_a0
                  have f1447 : (q_I d1109 12 2 a0).toInt = (q_I d1103 12 2 a0).toInt := congrArg Int32.toInt (by rw [e1110]; exact rI_o (by decide))
                  have f1448 := cb_12_2 i1105 k_a0
                  have f1449 : (q_I d1103 12 2 a0).toInt = (q_I d1097 12 2 a0).toInt := congrArg Int32.toInt (by rw [e1104]; exact rI_o (by decide))
                  have f1450 := cb_12_2 i1099 k_a0
                  have f1451 : (q_I d1097 12 2 a0).toInt = (q_I r1063 12 2 a0).toInt := congrArg Int32.toInt (by rw [e1098]; exact rI_o (by decide))
                  exact ok_some (show RI ad h.1 δ0 d1407 ∧ (kp [(12, 0), (12, 2), (12, 3), (12, 4), (12, 5), (12, 6), (12, 7), (12, 8), (12, 24), (12, 25), (12, 26), (12, 27)] δ d1407 ∧ q_V d1407 = q_V δ ∧ kr ad [100, 112, 113, 114, 115, 116, 117] δ d1407) ∧ TK ad a0 δ d1407 ∧ (0 ≤ (x1).toInt ∧ (x1).toInt ≤ (q_I δ 12 2 a0).toInt → (q_I d1407 12 2 a0).toInt = 0) ∧ ((x1).toInt < 0 ∨ (q_I δ 12 2 a0).toInt < (x1).toInt → (q_I d1407 12 2 a0).toInt = (q_I δ 12 2 a0).toInt) from ⟨i1409, ⟨kp_w (by decide) u1417, v1418, kr_w (by decide) v1419⟩, ss1423, by first | assumption | omega, by first | assumption | omega⟩)
                · have c1452 : r1365.1.toInt ≠ (q_I r1365.2 12 24 a0).toInt := o_ne h1387
                  unfold J_X12_thief_146
                  have ss1453 : NS ad a0 δ d1 := NS.t NS.r (NS.w e2 (by decide))
                  have ss1454 : NS0 ad a0 δ r1033.2 := NS0.t (NS.z ss1453) (NS.z ns1050)
                  have ss1455 : NS0 ad a0 δ r1063 := NS0.t ss1454 ns1083
                  have ns1457 : NS ad a0 d1109 r1115.2 := NS.t NS.r ns1144
                  have ns1458 : NS ad a0 d1109 r1155 := NS.t ns1457 ns1170
                  have ns1459 : NS ad a0 r1171 r1339.2 := NS.t NS.r ns1360
                  have ns1460 : NS ad a0 r1171 r1365.2 := NS.t ns1459 ns1378
                  have ss1456 : TK ad a0 δ r1365.2 := TK.bad L ss1455 e1098 e1104 e1110 ns1458 p1215 (u1218 112 (by decide) (by decide) (by decide)) ns1460 (show (0 : Int) = 0 by omega) (show (0 : Int) = 0 by omega) (show (0 : Int) = 0 by omega) (by omega)
                  have f1461 := cb_12_2 i1367 k_a0
                  have f1462 : (q_I r1365.2 12 2 a0).toInt = (q_I r1339.2 12 2 a0).toInt := congrArg Int32.toInt (u1369 12 2 a0 (by decide))
                  have f1463 := cb_12_2 i1341 k_a0
                  have f1464 : (q_I r1339.2 12 2 a0).toInt = (q_I r1171 12 2 a0).toInt := congrArg Int32.toInt (u1345 12 2 a0 (by decide))
                  have f1465 := cb_12_2 i1209 k_a0
                  have f1466 : (q_I r1171 12 2 a0).toInt = (q_I r1155 12 2 a0).toInt := congrArg Int32.toInt (u1216 12 2 a0 (by decide))
                  have f1467 := cb_12_2 i1159 k_a0
                  have f1468 : (q_I r1155 12 2 a0).toInt = (q_I r1115.2 12 2 a0).toInt := congrArg Int32.toInt (u1162 12 2 a0 (by decide))
                  have f1469 := cb_12_2 i1117 k_a0
                  have f1470 : (q_I r1115.2 12 2 a0).toInt = (q_I d1109 12 2 a0).toInt := congrArg Int32.toInt (u1121 12 2 a0 (by decide))
                  have f1471 := cb_12_2 i1111 k_a0
                  have f1472 : (q_I d1109 12 2 a0).toInt = (q_I d1103 12 2 a0).toInt := congrArg Int32.toInt (by rw [e1110]; exact rI_o (by decide))
                  have f1473 := cb_12_2 i1105 k_a0
                  have f1474 : (q_I d1103 12 2 a0).toInt = (q_I d1097 12 2 a0).toInt := congrArg Int32.toInt (by rw [e1104]; exact rI_o (by decide))
                  have f1475 := cb_12_2 i1099 k_a0
                  have f1476 : (q_I d1097 12 2 a0).toInt = (q_I r1063 12 2 a0).toInt := congrArg Int32.toInt (by rw [e1098]; exact rI_o (by decide))
                  exact ok_some (show RI ad h.1 δ0 r1365.2 ∧ (kp [(12, 0), (12, 2), (12, 3), (12, 4), (12, 5), (12, 6), (12, 7), (12, 8), (12, 24), (12, 25), (12, 26), (12, 27)] δ r1365.2 ∧ q_V r1365.2 = q_V δ ∧ kr ad [100, 112, 113, 114, 115, 116, 117] δ r1365.2) ∧ TK ad a0 δ r1365.2 ∧ (0 ≤ (x1).toInt ∧ (x1).toInt ≤ (q_I δ 12 2 a0).toInt → (q_I r1365.2 12 2 a0).toInt = 0) ∧ ((x1).toInt < 0 ∨ (q_I δ 12 2 a0).toInt < (x1).toInt → (q_I r1365.2 12 2 a0).toInt = (q_I δ 12 2 a0).toInt) from ⟨i1367, ⟨kp_w (by decide) u1373, v1374, kr_w (by decide) v1375⟩, ss1456, by first | assumption | omega, by first | assumption | omega⟩)
              · have c1477 : r1339.1.toInt ≠ (0 : Int) := o_ne h1363
                refine ok_bind (k_X12_wrong L hN (a0 := a0) (x1 := (1 : Int32)) (x2 := (q_I r1339.2 12 4 a0)) k_a0 (show 0 ≤ ((q_I r1339.2 12 4 a0)).toInt by first | assumption | omega) (show ((q_I r1339.2 12 4 a0)).toInt ≤ 500 by first | assumption | omega) (show 0 ≤ (1 : Int) by first | assumption | omega) (show (1 : Int) ≤ 4 by first | assumption | omega) i1341) (fun r1478 hr1479 => ?_)
                obtain ⟨i1480, ⟨u1483, u1484, u1485, u1486⟩, p1481, p1482⟩ := hr1479
                have u1487 := kp_t u1349 u1483
                have v1488 : q_V r1478 = q_V δ := (u1484).trans v1350
                have v1489 := kr_t v1351 u1486
                have f1490 := cb_12_5 i1480 k_a0
                have ns1491 : NS ad a0 r1339.2 r1478 := ⟨u1486 112 (by decide) (by decide) (by decide), u1486 113 (by decide) (by decide) (by decide), u1486 114 (by decide) (by decide) (by decide), u1486 115 (by decide) (by decide) (by decide), u1486 116 (by decide) (by decide) (by decide), u1483 12 24 _ (by decide), u1483 12 25 _ (by decide), u1483 12 26 _ (by decide), u1483 12 27 _ (by decide), fun z => by omega⟩
                unfold J_X12_thief_106
                refine ok_bind (k_X12_result L hN (a0 := a0) (x1 := (q_I r1478 12 24 a0)) k_a0 i1480) (fun r1492 hr1493 => ?_)
                obtain ⟨i1494, ⟨u1496, u1497, u1498, u1499⟩, p1495⟩ := hr1493
                have u1500 := kp_t u1487 u1496
                have v1501 : q_V r1492.2 = q_V δ := (u1497).trans v1488
                have v1502 := kr_t v1489 u1499
                have f1503 := ti_b r1492.1
                have f1504 := ti_b r1492.1
                have f1506 := cb_12_5 i1494 k_a0
                have f1507 : (q_I r1492.2 12 5 a0).toInt = (q_I r1478 12 5 a0).toInt := congrArg Int32.toInt (u1496 12 5 a0 (by decide))
                have ns1505 : NS ad a0 r1478 r1492.2 := ⟨u1499 112 (by decide) (by decide) (by decide), u1499 113 (by decide) (by decide) (by decide), u1499 114 (by decide) (by decide) (by decide), u1499 115 (by decide) (by decide) (by decide), u1499 116 (by decide) (by decide) (by decide), u1496 12 24 _ (by decide), u1496 12 25 _ (by decide), u1496 12 26 _ (by decide), u1496 12 27 _ (by decide), fun z => by omega⟩
                have f1508 := cb_12_24 i1494 k_a0
                have f1509 : (q_I r1492.2 12 24 a0).toInt = (q_I r1478 12 24 a0).toInt := congrArg Int32.toInt (u1496 12 24 a0 (by decide))
                have f1510 := cb_12_24 i1480 k_a0
                have f1511 : (q_I r1478 12 24 a0).toInt = (q_I r1339.2 12 24 a0).toInt := congrArg Int32.toInt (u1483 12 24 a0 (by decide))
                have f1512 := cb_12_24 i1341 k_a0
                have f1513 : (q_I r1339.2 12 24 a0).toInt = (q_I r1171 12 24 a0).toInt := congrArg Int32.toInt (u1345 12 24 a0 (by decide))
                have f1514 := cb_12_24 i1209 k_a0
                have f1515 : (q_I r1171 12 24 a0).toInt = (q_I r1155 12 24 a0).toInt := congrArg Int32.toInt (u1216 12 24 a0 (by decide))
                refine ok_ite (fun h1516 => ?_) (fun h1516 => ?_)
                · have c1517 : r1492.1.toInt = (q_I r1492.2 12 24 a0).toInt := o_eq h1516
                  obtain ⟨b1518, o1519, k1520, n1521⟩ := gO_12_28 L k_a0
                  obtain rfl := gS_12_28 L k_a0 o1519
                  refine ok_at o1519 ?_
                  have t1522 := ti_tn (q_I r1492.2 12 24 a0)
                  refine ok_gd (fun hc1523 => ?_) ?_
                  · rcases hc1523 with hc1523 | hc1523
                    · have c1524 : (q_I r1492.2 12 24 a0).toInt < (0 : Int) := o_lt hc1523
                      omega
                    · omega
                  have f1528 := cb_12_25 i1494 k_a0
                  have f1529 : (q_I r1492.2 12 25 a0).toInt = (q_I r1478 12 25 a0).toInt := congrArg Int32.toInt (u1496 12 25 a0 (by decide))
                  have f1530 := cb_12_25 i1480 k_a0
                  have f1531 : (q_I r1478 12 25 a0).toInt = (q_I r1339.2 12 25 a0).toInt := congrArg Int32.toInt (u1483 12 25 a0 (by decide))
                  have f1532 := cb_12_25 i1341 k_a0
                  have f1533 : (q_I r1339.2 12 25 a0).toInt = (q_I r1171 12 25 a0).toInt := congrArg Int32.toInt (u1345 12 25 a0 (by decide))
                  have f1534 := cb_12_25 i1209 k_a0
                  refine ok_bdv (fun d1525 e1526 => ?_)
                  have i1527 : RI ad h.1 δ0 d1525 := by rw [e1526]; exact cr_112 L i1494 (show 0 ≤ (q_I r1492.2 12 25 a0).toInt by omega) (show (q_I r1492.2 12 25 a0).toInt ≤ 60 by omega)
                  have u1535 := kp_N u1500 (show q_I d1525 = q_I r1492.2 by rw [e1526]; rfl)
                  have v1536 : q_V d1525 = q_V δ := ((show q_V d1525 = q_V r1492.2 by rw [e1526]; rfl)).trans v1501
                  have v1537 := kr_s L (by decide) v1502 e1526
                  have f1541 := cb_12_24 i1527 k_a0
                  have f1542 : (q_I d1525 12 24 a0).toInt = (q_I r1492.2 12 24 a0).toInt := congrArg Int32.toInt (by rw [e1526]; rfl)
                  first | (have q1544 := te_addc (c := 1) (n := 1) rfl (q_I d1525 12 24 a0) (by omega) (by omega); obtain ⟨f1545, f1546, f1547⟩ := q1544) | (obtain ⟨q1544, f1545, f1546, f1547⟩ := ti_addc (c := 1) (n := 1) rfl (q_I d1525 12 24 a0))
                  refine ok_bdv (fun d1538 e1539 => ?_)
                  have i1540 : RI ad h.1 δ0 d1538 := by rw [e1539]; exact cs_12_24 L i1527 k_a0 (show 0 ≤ ((q_I d1525 12 24 a0) + (1 : Int32)).toInt by omega) (show ((q_I d1525 12 24 a0) + (1 : Int32)).toInt ≤ 4 by omega)
                  have u1548 := kp_I u1535 e1539
                  have v1549 : q_V d1538 = q_V δ := ((show q_V d1538 = q_V d1525 by rw [e1539]; rfl)).trans v1536
                  have v1550 := kr_N v1537 (show q_R d1538 = q_R d1525 by rw [e1539]; rfl)
                  unfold J_X12_thief_146
                  have ss1551 : NS ad a0 δ d1 := NS.t NS.r (NS.w e2 (by decide))
                  have ss1552 : NS0 ad a0 δ r1033.2 := NS0.t (NS.z ss1551) (NS.z ns1050)
                  have ss1553 : NS0 ad a0 δ r1063 := NS0.t ss1552 ns1083
                  have ns1555 : NS ad a0 d1109 r1115.2 := NS.t NS.r ns1144
                  have ns1556 : NS ad a0 d1109 r1155 := NS.t ns1555 ns1170
                  have ns1557 : NS ad a0 r1171 r1339.2 := NS.t NS.r ns1360
                  have ns1558 : NS ad a0 r1171 r1478 := NS.t ns1557 ns1491
                  have ns1559 : NS ad a0 r1171 r1492.2 := NS.t ns1558 ns1505
                  have f1560 := cb_12_26 i1494 k_a0
                  have f1561 : (q_I r1492.2 12 26 a0).toInt = (q_I r1478 12 26 a0).toInt := congrArg Int32.toInt (u1496 12 26 a0 (by decide))
                  have f1562 := cb_12_26 i1480 k_a0
                  have f1563 : (q_I r1478 12 26 a0).toInt = (q_I r1339.2 12 26 a0).toInt := congrArg Int32.toInt (u1483 12 26 a0 (by decide))
                  have f1564 := cb_12_26 i1341 k_a0
                  have f1565 : (q_I r1339.2 12 26 a0).toInt = (q_I r1171 12 26 a0).toInt := congrArg Int32.toInt (u1345 12 26 a0 (by decide))
                  have ss1554 : TK ad a0 δ d1538 := TK.good L ss1553 e1098 e1104 e1110 ns1556 p1215 (u1218 112 (by decide) (by decide) (by decide)) ns1559 (show (0 : Int) = 0 by omega) (show (0 : Int) = 0 by omega) (show (0 : Int) = 0 by omega) (by omega) e1526 e1539 (show (((q_I r1492.2 12 24 a0).toNatClampNeg : Nat) : Int) = (q_I δ 12 24 a0).toInt by omega) (show (q_I r1492.2 12 25 a0).toInt = (q_I r1492.2 12 25 a0).toInt by omega) (show ((q_I d1525 12 24 a0) + (1 : Int32)).toInt = (q_I δ 12 24 a0).toInt + 1 by omega) (show (q_I r1492.2 12 5 a0).toInt = -1 by omega) (show (q_I r1492.2 12 26 a0).toInt ≤ 500 by omega)
                  have f1566 := cb_12_2 i1540 k_a0
                  have f1567 : (q_I d1538 12 2 a0).toInt = (q_I d1525 12 2 a0).toInt := congrArg Int32.toInt (by rw [e1539]; exact rI_o (by decide))
                  have f1568 := cb_12_2 i1527 k_a0
                  have f1569 : (q_I d1525 12 2 a0).toInt = (q_I r1492.2 12 2 a0).toInt := congrArg Int32.toInt (by rw [e1526]; rfl)
                  have f1570 := cb_12_2 i1494 k_a0
                  have f1571 : (q_I r1492.2 12 2 a0).toInt = (q_I r1478 12 2 a0).toInt := congrArg Int32.toInt (u1496 12 2 a0 (by decide))
                  have f1572 := cb_12_2 i1480 k_a0
                  have f1573 : (q_I r1478 12 2 a0).toInt = (q_I r1339.2 12 2 a0).toInt := congrArg Int32.toInt (u1483 12 2 a0 (by decide))
                  have f1574 := cb_12_2 i1341 k_a0
                  have f1575 : (q_I r1339.2 12 2 a0).toInt = (q_I r1171 12 2 a0).toInt := congrArg Int32.toInt (u1345 12 2 a0 (by decide))
                  have f1576 := cb_12_2 i1209 k_a0
                  have f1577 : (q_I r1171 12 2 a0).toInt = (q_I r1155 12 2 a0).toInt := congrArg Int32.toInt (u1216 12 2 a0 (by decide))
                  have f1578 := cb_12_2 i1159 k_a0
                  have f1579 : (q_I r1155 12 2 a0).toInt = (q_I r1115.2 12 2 a0).toInt := congrArg Int32.toInt (u1162 12 2 a0 (by decide))
                  have f1580 := cb_12_2 i1117 k_a0
                  have f1581 : (q_I r1115.2 12 2 a0).toInt = (q_I d1109 12 2 a0).toInt := congrArg Int32.toInt (u1121 12 2 a0 (by decide))
                  have f1582 := cb_12_2 i1111 k_a0
                  have f1583 : (q_I d1109 12 2 a0).toInt = (q_I d1103 12 2 a0).toInt := congrArg Int32.toInt (by rw [e1110]; exact rI_o (by decide))
                  have f1584 := cb_12_2 i1105 k_a0
                  have f1585 : (q_I d1103 12 2 a0).toInt = (q_I d1097 12 2 a0).toInt := congrArg Int32.toInt (by rw [e1104]; exact rI_o (by decide))
                  have f1586 := cb_12_2 i1099 k_a0
                  have f1587 : (q_I d1097 12 2 a0).toInt = (q_I r1063 12 2 a0).toInt := congrArg Int32.toInt (by rw [e1098]; exact rI_o (by decide))
                  exact ok_some (show RI ad h.1 δ0 d1538 ∧ (kp [(12, 0), (12, 2), (12, 3), (12, 4), (12, 5), (12, 6), (12, 7), (12, 8), (12, 24), (12, 25), (12, 26), (12, 27)] δ d1538 ∧ q_V d1538 = q_V δ ∧ kr ad [100, 112, 113, 114, 115, 116, 117] δ d1538) ∧ TK ad a0 δ d1538 ∧ (0 ≤ (x1).toInt ∧ (x1).toInt ≤ (q_I δ 12 2 a0).toInt → (q_I d1538 12 2 a0).toInt = 0) ∧ ((x1).toInt < 0 ∨ (q_I δ 12 2 a0).toInt < (x1).toInt → (q_I d1538 12 2 a0).toInt = (q_I δ 12 2 a0).toInt) from ⟨i1540, ⟨kp_w (by decide) u1548, v1549, kr_w (by decide) v1550⟩, ss1554, by first | assumption | omega, by first | assumption | omega⟩)
                · have c1588 : r1492.1.toInt ≠ (q_I r1492.2 12 24 a0).toInt := o_ne h1516
                  unfold J_X12_thief_146
                  have ss1589 : NS ad a0 δ d1 := NS.t NS.r (NS.w e2 (by decide))
                  have ss1590 : NS0 ad a0 δ r1033.2 := NS0.t (NS.z ss1589) (NS.z ns1050)
                  have ss1591 : NS0 ad a0 δ r1063 := NS0.t ss1590 ns1083
                  have ns1593 : NS ad a0 d1109 r1115.2 := NS.t NS.r ns1144
                  have ns1594 : NS ad a0 d1109 r1155 := NS.t ns1593 ns1170
                  have ns1595 : NS ad a0 r1171 r1339.2 := NS.t NS.r ns1360
                  have ns1596 : NS ad a0 r1171 r1478 := NS.t ns1595 ns1491
                  have ns1597 : NS ad a0 r1171 r1492.2 := NS.t ns1596 ns1505
                  have ss1592 : TK ad a0 δ r1492.2 := TK.bad L ss1591 e1098 e1104 e1110 ns1594 p1215 (u1218 112 (by decide) (by decide) (by decide)) ns1597 (show (0 : Int) = 0 by omega) (show (0 : Int) = 0 by omega) (show (0 : Int) = 0 by omega) (by omega)
                  have f1598 := cb_12_2 i1494 k_a0
                  have f1599 : (q_I r1492.2 12 2 a0).toInt = (q_I r1478 12 2 a0).toInt := congrArg Int32.toInt (u1496 12 2 a0 (by decide))
                  have f1600 := cb_12_2 i1480 k_a0
                  have f1601 : (q_I r1478 12 2 a0).toInt = (q_I r1339.2 12 2 a0).toInt := congrArg Int32.toInt (u1483 12 2 a0 (by decide))
                  have f1602 := cb_12_2 i1341 k_a0
                  have f1603 : (q_I r1339.2 12 2 a0).toInt = (q_I r1171 12 2 a0).toInt := congrArg Int32.toInt (u1345 12 2 a0 (by decide))
                  have f1604 := cb_12_2 i1209 k_a0
                  have f1605 : (q_I r1171 12 2 a0).toInt = (q_I r1155 12 2 a0).toInt := congrArg Int32.toInt (u1216 12 2 a0 (by decide))
                  have f1606 := cb_12_2 i1159 k_a0
                  have f1607 : (q_I r1155 12 2 a0).toInt = (q_I r1115.2 12 2 a0).toInt := congrArg Int32.toInt (u1162 12 2 a0 (by decide))
                  have f1608 := cb_12_2 i1117 k_a0
                  have f1609 : (q_I r1115.2 12 2 a0).toInt = (q_I d1109 12 2 a0).toInt := congrArg Int32.toInt (u1121 12 2 a0 (by decide))
                  have f1610 := cb_12_2 i1111 k_a0
                  have f1611 : (q_I d1109 12 2 a0).toInt = (q_I d1103 12 2 a0).toInt := congrArg Int32.toInt (by rw [e1110]; exact rI_o (by decide))
                  have f1612 := cb_12_2 i1105 k_a0
                  have f1613 : (q_I d1103 12 2 a0).toInt = (q_I d1097 12 2 a0).toInt := congrArg Int32.toInt (by rw [e1104]; exact rI_o (by decide))
                  have f1614 := cb_12_2 i1099 k_a0
                  have f1615 : (q_I d1097 12 2 a0).toInt = (q_I r1063 12 2 a0).toInt := congrArg Int32.toInt (by rw [e1098]; exact rI_o (by decide))
                  exact ok_some (show RI ad h.1 δ0 r1492.2 ∧ (kp [(12, 0), (12, 2), (12, 3), (12, 4), (12, 5), (12, 6), (12, 7), (12, 8), (12, 24), (12, 25), (12, 26), (12, 27)] δ r1492.2 ∧ q_V r1492.2 = q_V δ ∧ kr ad [100, 112, 113, 114, 115, 116, 117] δ r1492.2) ∧ TK ad a0 δ r1492.2 ∧ (0 ≤ (x1).toInt ∧ (x1).toInt ≤ (q_I δ 12 2 a0).toInt → (q_I r1492.2 12 2 a0).toInt = 0) ∧ ((x1).toInt < 0 ∨ (q_I δ 12 2 a0).toInt < (x1).toInt → (q_I r1492.2 12 2 a0).toInt = (q_I δ 12 2 a0).toInt) from ⟨i1494, ⟨kp_w (by decide) u1500, v1501, kr_w (by decide) v1502⟩, ss1592, by first | assumption | omega, by first | assumption | omega⟩)
          · have c1616 : r1115.1.toInt ≠ (0 : Int) := o_ne h1153
            unfold J_X12_thief_79
            have f1619 := cb_12_24 i1117 k_a0
            have f1620 : (q_I r1115.2 12 24 a0).toInt = (q_I d1109 12 24 a0).toInt := congrArg Int32.toInt (u1121 12 24 a0 (by decide))
            have f1621 := cb_12_24 i1111 k_a0
            have f1622 : (q_I d1109 12 24 a0).toInt = (q_I d1103 12 24 a0).toInt := congrArg Int32.toInt (by rw [e1110]; exact rI_o (by decide))
            have f1623 := cb_12_24 i1105 k_a0
            have f1624 : (q_I d1103 12 24 a0).toInt = (q_I d1097 12 24 a0).toInt := congrArg Int32.toInt (by rw [e1104]; exact rI_o (by decide))
            have f1625 := cb_12_24 i1099 k_a0
            have f1626 : (q_I d1097 12 24 a0).toInt = (q_I r1063 12 24 a0).toInt := congrArg Int32.toInt (by rw [e1098]; exact rI_o (by decide))
            have f1627 := cb_12_26 i1117 k_a0
            have f1628 : (q_I r1115.2 12 26 a0).toInt = (q_I d1109 12 26 a0).toInt := congrArg Int32.toInt (u1121 12 26 a0 (by decide))
            have f1629 := cb_12_26 i1111 k_a0
            have f1630 : (q_I d1109 12 26 a0).toInt = (q_I d1103 12 26 a0).toInt := congrArg Int32.toInt (by rw [e1110]; exact rI_o (by decide))
            have f1631 := cb_12_26 i1105 k_a0
            have f1632 : (q_I d1103 12 26 a0).toInt = (0 : Int) := congrArg Int32.toInt (show q_I d1103 12 26 a0 = (0 : Int32) by rw [e1104]; exact rI_s)
            have f1633 := ti_b (q_I r1115.2 12 7 a0)
            have f1634 : (q_I r1115.2 12 7 a0).toInt = (q_I d1109 12 7 a0).toInt := congrArg Int32.toInt (u1121 12 7 a0 (by decide))
            have f1635 := ti_b (q_I d1109 12 7 a0)
            have f1636 : (q_I d1109 12 7 a0).toInt = (q_I d1103 12 7 a0).toInt := congrArg Int32.toInt (by rw [e1110]; exact rI_o (by decide))
            have f1637 := ti_b (q_I d1103 12 7 a0)
            have f1638 : (q_I d1103 12 7 a0).toInt = (q_I d1097 12 7 a0).toInt := congrArg Int32.toInt (by rw [e1104]; exact rI_o (by decide))
            have f1639 := ti_b (q_I d1097 12 7 a0)
            have f1640 : (q_I d1097 12 7 a0).toInt = (q_I r1063 12 7 a0).toInt := congrArg Int32.toInt (by rw [e1098]; exact rI_o (by decide))
            have f1641 := cb_12_27 i1117 k_a0
            have f1642 : (q_I r1115.2 12 27 a0).toInt = (q_I d1109 12 27 a0).toInt := congrArg Int32.toInt (u1121 12 27 a0 (by decide))
            have f1643 := cb_12_27 i1111 k_a0
            have f1644 : (q_I d1109 12 27 a0).toInt = (0 : Int) := congrArg Int32.toInt (show q_I d1109 12 27 a0 = (0 : Int32) by rw [e1110]; exact rI_s)
            refine ok_bind (k_X12_readSteps L hN (a0 := a0) k_a0 (show (q_I r1115.2 12 24 a0).toInt ≤ 3 by first | assumption | omega) (show (q_I r1115.2 12 26 a0).toInt ≤ (q_I r1115.2 12 4 a0).toInt by first | assumption | omega) (show (q_I r1115.2 12 7 a0).toInt = 0 by first | assumption | omega) (show 4 - (q_I r1115.2 12 27 a0).toInt < 20 by first | assumption | omega) i1117) (fun r1617 hr1618 => ?_)
            obtain ⟨i1645, ⟨u1652, u1653, u1654⟩, p1646, p1647, p1648, p1649, p1650, p1651⟩ := hr1618
            have u1655 := kp_t u1125 u1652
            have v1656 : q_V r1617 = q_V δ := (u1653).trans v1126
            have v1657 := kr_t v1127 u1654
            have f1658 := cb_12_4 i1645 k_a0
            have f1659 := cb_12_5 i1645 k_a0
            have f1660 := ti_b (q_I r1617 12 7 a0)
            have f1661 := cb_12_27 i1645 k_a0
            have f1662 := cb_12_26 i1645 k_a0
            refine ok_bind (k_X12_fine L hN (a0 := a0) k_a0 i1645) (fun r1663 hr1664 => ?_)
            obtain ⟨i1665, p1666, p1667, p1668⟩ := hr1664
            try rw [i1665]
            have f1669 := bo_l p1666
            have f1670 := ti_b r1663.1
            have f1671 := ti_b r1663.1
            refine ok_ite (fun h1672 => ?_) (fun h1672 => ?_)
            · have c1673 : r1663.1.toInt = (0 : Int) := o_eq h1672
              unfold J_X12_thief_106
              refine ok_bind (k_X12_result L hN (a0 := a0) (x1 := (q_I r1617 12 24 a0)) k_a0 i1645) (fun r1674 hr1675 => ?_)
              obtain ⟨i1676, ⟨u1678, u1679, u1680, u1681⟩, p1677⟩ := hr1675
              have u1682 := kp_t u1655 u1678
              have v1683 : q_V r1674.2 = q_V δ := (u1679).trans v1656
              have v1684 := kr_t v1657 u1681
              have f1685 := ti_b r1674.1
              have f1686 := ti_b r1674.1
              have f1688 := cb_12_5 i1676 k_a0
              have f1689 : (q_I r1674.2 12 5 a0).toInt = (q_I r1617 12 5 a0).toInt := congrArg Int32.toInt (u1678 12 5 a0 (by decide))
              have ns1687 : NS ad a0 r1617 r1674.2 := ⟨u1681 112 (by decide) (by decide) (by decide), u1681 113 (by decide) (by decide) (by decide), u1681 114 (by decide) (by decide) (by decide), u1681 115 (by decide) (by decide) (by decide), u1681 116 (by decide) (by decide) (by decide), u1678 12 24 _ (by decide), u1678 12 25 _ (by decide), u1678 12 26 _ (by decide), u1678 12 27 _ (by decide), fun z => by omega⟩
              have f1690 := cb_12_24 i1676 k_a0
              have f1691 : (q_I r1674.2 12 24 a0).toInt = (q_I r1617 12 24 a0).toInt := congrArg Int32.toInt (u1678 12 24 a0 (by decide))
              have f1692 := cb_12_24 i1645 k_a0
              have f1693 : (q_I r1617 12 24 a0).toInt = (q_I r1115.2 12 24 a0).toInt := congrArg Int32.toInt (u1652 12 24 a0 (by decide))
              refine ok_ite (fun h1694 => ?_) (fun h1694 => ?_)
              · have c1695 : r1674.1.toInt = (q_I r1674.2 12 24 a0).toInt := o_eq h1694
                obtain ⟨b1696, o1697, k1698, n1699⟩ := gO_12_28 L k_a0
                obtain rfl := gS_12_28 L k_a0 o1697
                refine ok_at o1697 ?_
                have t1700 := ti_tn (q_I r1674.2 12 24 a0)
                refine ok_gd (fun hc1701 => ?_) ?_
                · rcases hc1701 with hc1701 | hc1701
                  · have c1702 : (q_I r1674.2 12 24 a0).toInt < (0 : Int) := o_lt hc1701
                    omega
                  · omega
                have f1706 := cb_12_25 i1676 k_a0
                have f1707 : (q_I r1674.2 12 25 a0).toInt = (q_I r1617 12 25 a0).toInt := congrArg Int32.toInt (u1678 12 25 a0 (by decide))
                have f1708 := cb_12_25 i1645 k_a0
                refine ok_bdv (fun d1703 e1704 => ?_)
                have i1705 : RI ad h.1 δ0 d1703 := by rw [e1704]; exact cr_112 L i1676 (show 0 ≤ (q_I r1674.2 12 25 a0).toInt by omega) (show (q_I r1674.2 12 25 a0).toInt ≤ 60 by omega)
                have u1709 := kp_N u1682 (show q_I d1703 = q_I r1674.2 by rw [e1704]; rfl)
                have v1710 : q_V d1703 = q_V δ := ((show q_V d1703 = q_V r1674.2 by rw [e1704]; rfl)).trans v1683
                have v1711 := kr_s L (by decide) v1684 e1704
                have f1715 := cb_12_24 i1705 k_a0
                have f1716 : (q_I d1703 12 24 a0).toInt = (q_I r1674.2 12 24 a0).toInt := congrArg Int32.toInt (by rw [e1704]; rfl)
                first | (have q1718 := te_addc (c := 1) (n := 1) rfl (q_I d1703 12 24 a0) (by omega) (by omega); obtain ⟨f1719, f1720, f1721⟩ := q1718) | (obtain ⟨q1718, f1719, f1720, f1721⟩ := ti_addc (c := 1) (n := 1) rfl (q_I d1703 12 24 a0))
                refine ok_bdv (fun d1712 e1713 => ?_)
                have i1714 : RI ad h.1 δ0 d1712 := by rw [e1713]; exact cs_12_24 L i1705 k_a0 (show 0 ≤ ((q_I d1703 12 24 a0) + (1 : Int32)).toInt by omega) (show ((q_I d1703 12 24 a0) + (1 : Int32)).toInt ≤ 4 by omega)
                have u1722 := kp_I u1709 e1713
                have v1723 : q_V d1712 = q_V δ := ((show q_V d1712 = q_V d1703 by rw [e1713]; rfl)).trans v1710
                have v1724 := kr_N v1711 (show q_R d1712 = q_R d1703 by rw [e1713]; rfl)
                unfold J_X12_thief_146
                have ss1725 : NS ad a0 δ d1 := NS.t NS.r (NS.w e2 (by decide))
                have ss1726 : NS0 ad a0 δ r1033.2 := NS0.t (NS.z ss1725) (NS.z ns1050)
                have ss1727 : NS0 ad a0 δ r1063 := NS0.t ss1726 ns1083
                have ns1729 : NS ad a0 d1109 r1115.2 := NS.t NS.r ns1144
                have ns1730 : NS ad a0 r1617 r1674.2 := NS.t NS.r ns1687
                have f1731 := cb_12_26 i1676 k_a0
                have f1732 : (q_I r1674.2 12 26 a0).toInt = (q_I r1617 12 26 a0).toInt := congrArg Int32.toInt (u1678 12 26 a0 (by decide))
                have ss1728 : TK ad a0 δ d1712 := TK.good L ss1727 e1098 e1104 e1110 ns1729 p1651 (u1654 112 (by decide) (by decide) (by decide)) ns1730 (show (0 : Int) = 0 by omega) (show (0 : Int) = 0 by omega) (show (0 : Int) = 0 by omega) (by omega) e1704 e1713 (show (((q_I r1674.2 12 24 a0).toNatClampNeg : Nat) : Int) = (q_I δ 12 24 a0).toInt by omega) (show (q_I r1674.2 12 25 a0).toInt = (q_I r1674.2 12 25 a0).toInt by omega) (show ((q_I d1703 12 24 a0) + (1 : Int32)).toInt = (q_I δ 12 24 a0).toInt + 1 by omega) (show (q_I r1674.2 12 5 a0).toInt = -1 by omega) (show (q_I r1674.2 12 26 a0).toInt ≤ 500 by omega)
                have f1733 := cb_12_2 i1714 k_a0
                have f1734 : (q_I d1712 12 2 a0).toInt = (q_I d1703 12 2 a0).toInt := congrArg Int32.toInt (by rw [e1713]; exact rI_o (by decide))
                have f1735 := cb_12_2 i1705 k_a0
                have f1736 : (q_I d1703 12 2 a0).toInt = (q_I r1674.2 12 2 a0).toInt := congrArg Int32.toInt (by rw [e1704]; rfl)
                have f1737 := cb_12_2 i1676 k_a0
                have f1738 : (q_I r1674.2 12 2 a0).toInt = (q_I r1617 12 2 a0).toInt := congrArg Int32.toInt (u1678 12 2 a0 (by decide))
                have f1739 := cb_12_2 i1645 k_a0
                have f1740 : (q_I r1617 12 2 a0).toInt = (q_I r1115.2 12 2 a0).toInt := congrArg Int32.toInt (u1652 12 2 a0 (by decide))
                have f1741 := cb_12_2 i1117 k_a0
                have f1742 : (q_I r1115.2 12 2 a0).toInt = (q_I d1109 12 2 a0).toInt := congrArg Int32.toInt (u1121 12 2 a0 (by decide))
                have f1743 := cb_12_2 i1111 k_a0
                have f1744 : (q_I d1109 12 2 a0).toInt = (q_I d1103 12 2 a0).toInt := congrArg Int32.toInt (by rw [e1110]; exact rI_o (by decide))
                have f1745 := cb_12_2 i1105 k_a0
                have f1746 : (q_I d1103 12 2 a0).toInt = (q_I d1097 12 2 a0).toInt := congrArg Int32.toInt (by rw [e1104]; exact rI_o (by decide))
                have f1747 := cb_12_2 i1099 k_a0
                have f1748 : (q_I d1097 12 2 a0).toInt = (q_I r1063 12 2 a0).toInt := congrArg Int32.toInt (by rw [e1098]; exact rI_o (by decide))
                exact ok_some (show RI ad h.1 δ0 d1712 ∧ (kp [(12, 0), (12, 2), (12, 3), (12, 4), (12, 5), (12, 6), (12, 7), (12, 8), (12, 24), (12, 25), (12, 26), (12, 27)] δ d1712 ∧ q_V d1712 = q_V δ ∧ kr ad [100, 112, 113, 114, 115, 116, 117] δ d1712) ∧ TK ad a0 δ d1712 ∧ (0 ≤ (x1).toInt ∧ (x1).toInt ≤ (q_I δ 12 2 a0).toInt → (q_I d1712 12 2 a0).toInt = 0) ∧ ((x1).toInt < 0 ∨ (q_I δ 12 2 a0).toInt < (x1).toInt → (q_I d1712 12 2 a0).toInt = (q_I δ 12 2 a0).toInt) from ⟨i1714, ⟨kp_w (by decide) u1722, v1723, kr_w (by decide) v1724⟩, ss1728, by first | assumption | omega, by first | assumption | omega⟩)
              · have c1749 : r1674.1.toInt ≠ (q_I r1674.2 12 24 a0).toInt := o_ne h1694
                unfold J_X12_thief_146
                have ss1750 : NS ad a0 δ d1 := NS.t NS.r (NS.w e2 (by decide))
                have ss1751 : NS0 ad a0 δ r1033.2 := NS0.t (NS.z ss1750) (NS.z ns1050)
                have ss1752 : NS0 ad a0 δ r1063 := NS0.t ss1751 ns1083
                have ns1754 : NS ad a0 d1109 r1115.2 := NS.t NS.r ns1144
                have ns1755 : NS ad a0 r1617 r1674.2 := NS.t NS.r ns1687
                have ss1753 : TK ad a0 δ r1674.2 := TK.bad L ss1752 e1098 e1104 e1110 ns1754 p1651 (u1654 112 (by decide) (by decide) (by decide)) ns1755 (show (0 : Int) = 0 by omega) (show (0 : Int) = 0 by omega) (show (0 : Int) = 0 by omega) (by omega)
                have f1756 := cb_12_2 i1676 k_a0
                have f1757 : (q_I r1674.2 12 2 a0).toInt = (q_I r1617 12 2 a0).toInt := congrArg Int32.toInt (u1678 12 2 a0 (by decide))
                have f1758 := cb_12_2 i1645 k_a0
                have f1759 : (q_I r1617 12 2 a0).toInt = (q_I r1115.2 12 2 a0).toInt := congrArg Int32.toInt (u1652 12 2 a0 (by decide))
                have f1760 := cb_12_2 i1117 k_a0
                have f1761 : (q_I r1115.2 12 2 a0).toInt = (q_I d1109 12 2 a0).toInt := congrArg Int32.toInt (u1121 12 2 a0 (by decide))
                have f1762 := cb_12_2 i1111 k_a0
                have f1763 : (q_I d1109 12 2 a0).toInt = (q_I d1103 12 2 a0).toInt := congrArg Int32.toInt (by rw [e1110]; exact rI_o (by decide))
                have f1764 := cb_12_2 i1105 k_a0
                have f1765 : (q_I d1103 12 2 a0).toInt = (q_I d1097 12 2 a0).toInt := congrArg Int32.toInt (by rw [e1104]; exact rI_o (by decide))
                have f1766 := cb_12_2 i1099 k_a0
                have f1767 : (q_I d1097 12 2 a0).toInt = (q_I r1063 12 2 a0).toInt := congrArg Int32.toInt (by rw [e1098]; exact rI_o (by decide))
                exact ok_some (show RI ad h.1 δ0 r1674.2 ∧ (kp [(12, 0), (12, 2), (12, 3), (12, 4), (12, 5), (12, 6), (12, 7), (12, 8), (12, 24), (12, 25), (12, 26), (12, 27)] δ r1674.2 ∧ q_V r1674.2 = q_V δ ∧ kr ad [100, 112, 113, 114, 115, 116, 117] δ r1674.2) ∧ TK ad a0 δ r1674.2 ∧ (0 ≤ (x1).toInt ∧ (x1).toInt ≤ (q_I δ 12 2 a0).toInt → (q_I r1674.2 12 2 a0).toInt = 0) ∧ ((x1).toInt < 0 ∨ (q_I δ 12 2 a0).toInt < (x1).toInt → (q_I r1674.2 12 2 a0).toInt = (q_I δ 12 2 a0).toInt) from ⟨i1676, ⟨kp_w (by decide) u1682, v1683, kr_w (by decide) v1684⟩, ss1753, by first | assumption | omega, by first | assumption | omega⟩)
            · have c1768 : r1663.1.toInt ≠ (0 : Int) := o_ne h1672
              refine ok_bind (k_X12_isMore L hN (a0 := a0) k_a0 i1645) (fun r1769 hr1770 => ?_)
              obtain ⟨i1771, ⟨u1775, u1776, u1777, u1778⟩, p1772, p1773, p1774⟩ := hr1770
              have u1779 := kp_t u1655 u1775
              have v1780 : q_V r1769.2 = q_V δ := (u1776).trans v1656
              have v1781 := kr_t v1657 u1778
              have f1782 := bo_l p1772
              have f1783 := cb_12_4 i1771 k_a0
              have f1784 := ti_b r1769.1
              have f1785 := cb_12_3 i1645 k_a0
              have f1786 : (q_I r1617 12 3 a0).toInt = (q_I r1115.2 12 3 a0).toInt := congrArg Int32.toInt (u1652 12 3 a0 (by decide))
              have f1787 := cb_12_3 i1117 k_a0
              have f1788 : (q_I r1115.2 12 3 a0).toInt = (q_I d1109 12 3 a0).toInt := congrArg Int32.toInt (u1121 12 3 a0 (by decide))
              have f1789 := ti_b r1769.1
              have f1791 := cb_12_5 i1771 k_a0
              have f1792 : (q_I r1769.2 12 5 a0).toInt = (q_I r1617 12 5 a0).toInt := congrArg Int32.toInt (u1775 12 5 a0 (by decide))
              have ns1790 : NS ad a0 r1617 r1769.2 := ⟨u1778 112 (by decide) (by decide) (by decide), u1778 113 (by decide) (by decide) (by decide), u1778 114 (by decide) (by decide) (by decide), u1778 115 (by decide) (by decide) (by decide), u1778 116 (by decide) (by decide) (by decide), u1775 12 24 _ (by decide), u1775 12 25 _ (by decide), u1775 12 26 _ (by decide), u1775 12 27 _ (by decide), fun z => by omega⟩
              refine ok_ite (fun h1793 => ?_) (fun h1793 => ?_)
              · have c1794 : r1769.1.toInt = (0 : Int) := o_eq h1793
                unfold J_X12_thief_106
                refine ok_bind (k_X12_result L hN (a0 := a0) (x1 := (q_I r1769.2 12 24 a0)) k_a0 i1771) (fun r1795 hr1796 => ?_)
                obtain ⟨i1797, ⟨u1799, u1800, u1801, u1802⟩, p1798⟩ := hr1796
                have u1803 := kp_t u1779 u1799
                have v1804 : q_V r1795.2 = q_V δ := (u1800).trans v1780
                have v1805 := kr_t v1781 u1802
                have f1806 := ti_b r1795.1
                have f1807 := ti_b r1795.1
                have f1809 := cb_12_5 i1797 k_a0
                have f1810 : (q_I r1795.2 12 5 a0).toInt = (q_I r1769.2 12 5 a0).toInt := congrArg Int32.toInt (u1799 12 5 a0 (by decide))
                have ns1808 : NS ad a0 r1769.2 r1795.2 := ⟨u1802 112 (by decide) (by decide) (by decide), u1802 113 (by decide) (by decide) (by decide), u1802 114 (by decide) (by decide) (by decide), u1802 115 (by decide) (by decide) (by decide), u1802 116 (by decide) (by decide) (by decide), u1799 12 24 _ (by decide), u1799 12 25 _ (by decide), u1799 12 26 _ (by decide), u1799 12 27 _ (by decide), fun z => by omega⟩
                have f1811 := cb_12_24 i1797 k_a0
                have f1812 : (q_I r1795.2 12 24 a0).toInt = (q_I r1769.2 12 24 a0).toInt := congrArg Int32.toInt (u1799 12 24 a0 (by decide))
                have f1813 := cb_12_24 i1771 k_a0
                have f1814 : (q_I r1769.2 12 24 a0).toInt = (q_I r1617 12 24 a0).toInt := congrArg Int32.toInt (u1775 12 24 a0 (by decide))
                have f1815 := cb_12_24 i1645 k_a0
                have f1816 : (q_I r1617 12 24 a0).toInt = (q_I r1115.2 12 24 a0).toInt := congrArg Int32.toInt (u1652 12 24 a0 (by decide))
                refine ok_ite (fun h1817 => ?_) (fun h1817 => ?_)
                · have c1818 : r1795.1.toInt = (q_I r1795.2 12 24 a0).toInt := o_eq h1817
                  obtain ⟨b1819, o1820, k1821, n1822⟩ := gO_12_28 L k_a0
                  obtain rfl := gS_12_28 L k_a0 o1820
                  refine ok_at o1820 ?_
                  have t1823 := ti_tn (q_I r1795.2 12 24 a0)
                  refine ok_gd (fun hc1824 => ?_) ?_
                  · rcases hc1824 with hc1824 | hc1824
                    · have c1825 : (q_I r1795.2 12 24 a0).toInt < (0 : Int) := o_lt hc1824
                      omega
                    · omega
                  have f1829 := cb_12_25 i1797 k_a0
                  have f1830 : (q_I r1795.2 12 25 a0).toInt = (q_I r1769.2 12 25 a0).toInt := congrArg Int32.toInt (u1799 12 25 a0 (by decide))
                  have f1831 := cb_12_25 i1771 k_a0
                  have f1832 : (q_I r1769.2 12 25 a0).toInt = (q_I r1617 12 25 a0).toInt := congrArg Int32.toInt (u1775 12 25 a0 (by decide))
                  have f1833 := cb_12_25 i1645 k_a0
                  refine ok_bdv (fun d1826 e1827 => ?_)
                  have i1828 : RI ad h.1 δ0 d1826 := by rw [e1827]; exact cr_112 L i1797 (show 0 ≤ (q_I r1795.2 12 25 a0).toInt by omega) (show (q_I r1795.2 12 25 a0).toInt ≤ 60 by omega)
                  have u1834 := kp_N u1803 (show q_I d1826 = q_I r1795.2 by rw [e1827]; rfl)
                  have v1835 : q_V d1826 = q_V δ := ((show q_V d1826 = q_V r1795.2 by rw [e1827]; rfl)).trans v1804
                  have v1836 := kr_s L (by decide) v1805 e1827
                  have f1840 := cb_12_24 i1828 k_a0
                  have f1841 : (q_I d1826 12 24 a0).toInt = (q_I r1795.2 12 24 a0).toInt := congrArg Int32.toInt (by rw [e1827]; rfl)
                  first | (have q1843 := te_addc (c := 1) (n := 1) rfl (q_I d1826 12 24 a0) (by omega) (by omega); obtain ⟨f1844, f1845, f1846⟩ := q1843) | (obtain ⟨q1843, f1844, f1845, f1846⟩ := ti_addc (c := 1) (n := 1) rfl (q_I d1826 12 24 a0))
                  refine ok_bdv (fun d1837 e1838 => ?_)
                  have i1839 : RI ad h.1 δ0 d1837 := by rw [e1838]; exact cs_12_24 L i1828 k_a0 (show 0 ≤ ((q_I d1826 12 24 a0) + (1 : Int32)).toInt by omega) (show ((q_I d1826 12 24 a0) + (1 : Int32)).toInt ≤ 4 by omega)
                  have u1847 := kp_I u1834 e1838
                  have v1848 : q_V d1837 = q_V δ := ((show q_V d1837 = q_V d1826 by rw [e1838]; rfl)).trans v1835
                  have v1849 := kr_N v1836 (show q_R d1837 = q_R d1826 by rw [e1838]; rfl)
                  unfold J_X12_thief_146
                  have ss1850 : NS ad a0 δ d1 := NS.t NS.r (NS.w e2 (by decide))
                  have ss1851 : NS0 ad a0 δ r1033.2 := NS0.t (NS.z ss1850) (NS.z ns1050)
                  have ss1852 : NS0 ad a0 δ r1063 := NS0.t ss1851 ns1083
                  have ns1854 : NS ad a0 d1109 r1115.2 := NS.t NS.r ns1144
                  have ns1855 : NS ad a0 r1617 r1769.2 := NS.t NS.r ns1790
                  have ns1856 : NS ad a0 r1617 r1795.2 := NS.t ns1855 ns1808
                  have f1857 := cb_12_26 i1797 k_a0
                  have f1858 : (q_I r1795.2 12 26 a0).toInt = (q_I r1769.2 12 26 a0).toInt := congrArg Int32.toInt (u1799 12 26 a0 (by decide))
                  have f1859 := cb_12_26 i1771 k_a0
                  have f1860 : (q_I r1769.2 12 26 a0).toInt = (q_I r1617 12 26 a0).toInt := congrArg Int32.toInt (u1775 12 26 a0 (by decide))
                  have ss1853 : TK ad a0 δ d1837 := TK.good L ss1852 e1098 e1104 e1110 ns1854 p1651 (u1654 112 (by decide) (by decide) (by decide)) ns1856 (show (0 : Int) = 0 by omega) (show (0 : Int) = 0 by omega) (show (0 : Int) = 0 by omega) (by omega) e1827 e1838 (show (((q_I r1795.2 12 24 a0).toNatClampNeg : Nat) : Int) = (q_I δ 12 24 a0).toInt by omega) (show (q_I r1795.2 12 25 a0).toInt = (q_I r1795.2 12 25 a0).toInt by omega) (show ((q_I d1826 12 24 a0) + (1 : Int32)).toInt = (q_I δ 12 24 a0).toInt + 1 by omega) (show (q_I r1795.2 12 5 a0).toInt = -1 by omega) (show (q_I r1795.2 12 26 a0).toInt ≤ 500 by omega)
                  have f1861 := cb_12_2 i1839 k_a0
                  have f1862 : (q_I d1837 12 2 a0).toInt = (q_I d1826 12 2 a0).toInt := congrArg Int32.toInt (by rw [e1838]; exact rI_o (by decide))
                  have f1863 := cb_12_2 i1828 k_a0
                  have f1864 : (q_I d1826 12 2 a0).toInt = (q_I r1795.2 12 2 a0).toInt := congrArg Int32.toInt (by rw [e1827]; rfl)
                  have f1865 := cb_12_2 i1797 k_a0
                  have f1866 : (q_I r1795.2 12 2 a0).toInt = (q_I r1769.2 12 2 a0).toInt := congrArg Int32.toInt (u1799 12 2 a0 (by decide))
                  have f1867 := cb_12_2 i1771 k_a0
                  have f1868 : (q_I r1769.2 12 2 a0).toInt = (q_I r1617 12 2 a0).toInt := congrArg Int32.toInt (u1775 12 2 a0 (by decide))
                  have f1869 := cb_12_2 i1645 k_a0
                  have f1870 : (q_I r1617 12 2 a0).toInt = (q_I r1115.2 12 2 a0).toInt := congrArg Int32.toInt (u1652 12 2 a0 (by decide))
                  have f1871 := cb_12_2 i1117 k_a0
                  have f1872 : (q_I r1115.2 12 2 a0).toInt = (q_I d1109 12 2 a0).toInt := congrArg Int32.toInt (u1121 12 2 a0 (by decide))
                  have f1873 := cb_12_2 i1111 k_a0
                  have f1874 : (q_I d1109 12 2 a0).toInt = (q_I d1103 12 2 a0).toInt := congrArg Int32.toInt (by rw [e1110]; exact rI_o (by decide))
                  have f1875 := cb_12_2 i1105 k_a0
                  have f1876 : (q_I d1103 12 2 a0).toInt = (q_I d1097 12 2 a0).toInt := congrArg Int32.toInt (by rw [e1104]; exact rI_o (by decide))
                  have f1877 := cb_12_2 i1099 k_a0
                  have f1878 : (q_I d1097 12 2 a0).toInt = (q_I r1063 12 2 a0).toInt := congrArg Int32.toInt (by rw [e1098]; exact rI_o (by decide))
                  exact ok_some (show RI ad h.1 δ0 d1837 ∧ (kp [(12, 0), (12, 2), (12, 3), (12, 4), (12, 5), (12, 6), (12, 7), (12, 8), (12, 24), (12, 25), (12, 26), (12, 27)] δ d1837 ∧ q_V d1837 = q_V δ ∧ kr ad [100, 112, 113, 114, 115, 116, 117] δ d1837) ∧ TK ad a0 δ d1837 ∧ (0 ≤ (x1).toInt ∧ (x1).toInt ≤ (q_I δ 12 2 a0).toInt → (q_I d1837 12 2 a0).toInt = 0) ∧ ((x1).toInt < 0 ∨ (q_I δ 12 2 a0).toInt < (x1).toInt → (q_I d1837 12 2 a0).toInt = (q_I δ 12 2 a0).toInt) from ⟨i1839, ⟨kp_w (by decide) u1847, v1848, kr_w (by decide) v1849⟩, ss1853, by first | assumption | omega, by first | assumption | omega⟩)
                · have c1879 : r1795.1.toInt ≠ (q_I r1795.2 12 24 a0).toInt := o_ne h1817
                  unfold J_X12_thief_146
                  have ss1880 : NS ad a0 δ d1 := NS.t NS.r (NS.w e2 (by decide))
                  have ss1881 : NS0 ad a0 δ r1033.2 := NS0.t (NS.z ss1880) (NS.z ns1050)
                  have ss1882 : NS0 ad a0 δ r1063 := NS0.t ss1881 ns1083
                  have ns1884 : NS ad a0 d1109 r1115.2 := NS.t NS.r ns1144
                  have ns1885 : NS ad a0 r1617 r1769.2 := NS.t NS.r ns1790
                  have ns1886 : NS ad a0 r1617 r1795.2 := NS.t ns1885 ns1808
                  have ss1883 : TK ad a0 δ r1795.2 := TK.bad L ss1882 e1098 e1104 e1110 ns1884 p1651 (u1654 112 (by decide) (by decide) (by decide)) ns1886 (show (0 : Int) = 0 by omega) (show (0 : Int) = 0 by omega) (show (0 : Int) = 0 by omega) (by omega)
                  have f1887 := cb_12_2 i1797 k_a0
                  have f1888 : (q_I r1795.2 12 2 a0).toInt = (q_I r1769.2 12 2 a0).toInt := congrArg Int32.toInt (u1799 12 2 a0 (by decide))
                  have f1889 := cb_12_2 i1771 k_a0
                  have f1890 : (q_I r1769.2 12 2 a0).toInt = (q_I r1617 12 2 a0).toInt := congrArg Int32.toInt (u1775 12 2 a0 (by decide))
                  have f1891 := cb_12_2 i1645 k_a0
                  have f1892 : (q_I r1617 12 2 a0).toInt = (q_I r1115.2 12 2 a0).toInt := congrArg Int32.toInt (u1652 12 2 a0 (by decide))
                  have f1893 := cb_12_2 i1117 k_a0
                  have f1894 : (q_I r1115.2 12 2 a0).toInt = (q_I d1109 12 2 a0).toInt := congrArg Int32.toInt (u1121 12 2 a0 (by decide))
                  have f1895 := cb_12_2 i1111 k_a0
                  have f1896 : (q_I d1109 12 2 a0).toInt = (q_I d1103 12 2 a0).toInt := congrArg Int32.toInt (by rw [e1110]; exact rI_o (by decide))
                  have f1897 := cb_12_2 i1105 k_a0
                  have f1898 : (q_I d1103 12 2 a0).toInt = (q_I d1097 12 2 a0).toInt := congrArg Int32.toInt (by rw [e1104]; exact rI_o (by decide))
                  have f1899 := cb_12_2 i1099 k_a0
                  have f1900 : (q_I d1097 12 2 a0).toInt = (q_I r1063 12 2 a0).toInt := congrArg Int32.toInt (by rw [e1098]; exact rI_o (by decide))
                  exact ok_some (show RI ad h.1 δ0 r1795.2 ∧ (kp [(12, 0), (12, 2), (12, 3), (12, 4), (12, 5), (12, 6), (12, 7), (12, 8), (12, 24), (12, 25), (12, 26), (12, 27)] δ r1795.2 ∧ q_V r1795.2 = q_V δ ∧ kr ad [100, 112, 113, 114, 115, 116, 117] δ r1795.2) ∧ TK ad a0 δ r1795.2 ∧ (0 ≤ (x1).toInt ∧ (x1).toInt ≤ (q_I δ 12 2 a0).toInt → (q_I r1795.2 12 2 a0).toInt = 0) ∧ ((x1).toInt < 0 ∨ (q_I δ 12 2 a0).toInt < (x1).toInt → (q_I r1795.2 12 2 a0).toInt = (q_I δ 12 2 a0).toInt) from ⟨i1797, ⟨kp_w (by decide) u1803, v1804, kr_w (by decide) v1805⟩, ss1883, by first | assumption | omega, by first | assumption | omega⟩)
              · have c1901 : r1769.1.toInt ≠ (0 : Int) := o_ne h1793
                refine ok_bind (k_X12_wrong L hN (a0 := a0) (x1 := (1 : Int32)) (x2 := (q_I r1769.2 12 4 a0)) k_a0 (show 0 ≤ ((q_I r1769.2 12 4 a0)).toInt by first | assumption | omega) (show ((q_I r1769.2 12 4 a0)).toInt ≤ 500 by first | assumption | omega) (show 0 ≤ (1 : Int) by first | assumption | omega) (show (1 : Int) ≤ 4 by first | assumption | omega) i1771) (fun r1902 hr1903 => ?_)
                obtain ⟨i1904, ⟨u1907, u1908, u1909, u1910⟩, p1905, p1906⟩ := hr1903
                have u1911 := kp_t u1779 u1907
                have v1912 : q_V r1902 = q_V δ := (u1908).trans v1780
                have v1913 := kr_t v1781 u1910
                have f1914 := cb_12_5 i1904 k_a0
                have ns1915 : NS ad a0 r1769.2 r1902 := ⟨u1910 112 (by decide) (by decide) (by decide), u1910 113 (by decide) (by decide) (by decide), u1910 114 (by decide) (by decide) (by decide), u1910 115 (by decide) (by decide) (by decide), u1910 116 (by decide) (by decide) (by decide), u1907 12 24 _ (by decide), u1907 12 25 _ (by decide), u1907 12 26 _ (by decide), u1907 12 27 _ (by decide), fun z => by omega⟩
                unfold J_X12_thief_106
                refine ok_bind (k_X12_result L hN (a0 := a0) (x1 := (q_I r1902 12 24 a0)) k_a0 i1904) (fun r1916 hr1917 => ?_)
                obtain ⟨i1918, ⟨u1920, u1921, u1922, u1923⟩, p1919⟩ := hr1917
                have u1924 := kp_t u1911 u1920
                have v1925 : q_V r1916.2 = q_V δ := (u1921).trans v1912
                have v1926 := kr_t v1913 u1923
                have f1927 := ti_b r1916.1
                have f1928 := ti_b r1916.1
                have f1930 := cb_12_5 i1918 k_a0
                have f1931 : (q_I r1916.2 12 5 a0).toInt = (q_I r1902 12 5 a0).toInt := congrArg Int32.toInt (u1920 12 5 a0 (by decide))
                have ns1929 : NS ad a0 r1902 r1916.2 := ⟨u1923 112 (by decide) (by decide) (by decide), u1923 113 (by decide) (by decide) (by decide), u1923 114 (by decide) (by decide) (by decide), u1923 115 (by decide) (by decide) (by decide), u1923 116 (by decide) (by decide) (by decide), u1920 12 24 _ (by decide), u1920 12 25 _ (by decide), u1920 12 26 _ (by decide), u1920 12 27 _ (by decide), fun z => by omega⟩
                have f1932 := cb_12_24 i1918 k_a0
                have f1933 : (q_I r1916.2 12 24 a0).toInt = (q_I r1902 12 24 a0).toInt := congrArg Int32.toInt (u1920 12 24 a0 (by decide))
                have f1934 := cb_12_24 i1904 k_a0
                have f1935 : (q_I r1902 12 24 a0).toInt = (q_I r1769.2 12 24 a0).toInt := congrArg Int32.toInt (u1907 12 24 a0 (by decide))
                have f1936 := cb_12_24 i1771 k_a0
                have f1937 : (q_I r1769.2 12 24 a0).toInt = (q_I r1617 12 24 a0).toInt := congrArg Int32.toInt (u1775 12 24 a0 (by decide))
                have f1938 := cb_12_24 i1645 k_a0
                have f1939 : (q_I r1617 12 24 a0).toInt = (q_I r1115.2 12 24 a0).toInt := congrArg Int32.toInt (u1652 12 24 a0 (by decide))
                refine ok_ite (fun h1940 => ?_) (fun h1940 => ?_)
                · have c1941 : r1916.1.toInt = (q_I r1916.2 12 24 a0).toInt := o_eq h1940
                  obtain ⟨b1942, o1943, k1944, n1945⟩ := gO_12_28 L k_a0
                  obtain rfl := gS_12_28 L k_a0 o1943
                  refine ok_at o1943 ?_
                  have t1946 := ti_tn (q_I r1916.2 12 24 a0)
                  refine ok_gd (fun hc1947 => ?_) ?_
                  · rcases hc1947 with hc1947 | hc1947
                    · have c1948 : (q_I r1916.2 12 24 a0).toInt < (0 : Int) := o_lt hc1947
                      omega
                    · omega
                  have f1952 := cb_12_25 i1918 k_a0
                  have f1953 : (q_I r1916.2 12 25 a0).toInt = (q_I r1902 12 25 a0).toInt := congrArg Int32.toInt (u1920 12 25 a0 (by decide))
                  have f1954 := cb_12_25 i1904 k_a0
                  have f1955 : (q_I r1902 12 25 a0).toInt = (q_I r1769.2 12 25 a0).toInt := congrArg Int32.toInt (u1907 12 25 a0 (by decide))
                  have f1956 := cb_12_25 i1771 k_a0
                  have f1957 : (q_I r1769.2 12 25 a0).toInt = (q_I r1617 12 25 a0).toInt := congrArg Int32.toInt (u1775 12 25 a0 (by decide))
                  have f1958 := cb_12_25 i1645 k_a0
                  refine ok_bdv (fun d1949 e1950 => ?_)
                  have i1951 : RI ad h.1 δ0 d1949 := by rw [e1950]; exact cr_112 L i1918 (show 0 ≤ (q_I r1916.2 12 25 a0).toInt by omega) (show (q_I r1916.2 12 25 a0).toInt ≤ 60 by omega)
                  have u1959 := kp_N u1924 (show q_I d1949 = q_I r1916.2 by rw [e1950]; rfl)
                  have v1960 : q_V d1949 = q_V δ := ((show q_V d1949 = q_V r1916.2 by rw [e1950]; rfl)).trans v1925
                  have v1961 := kr_s L (by decide) v1926 e1950
                  have f1965 := cb_12_24 i1951 k_a0
                  have f1966 : (q_I d1949 12 24 a0).toInt = (q_I r1916.2 12 24 a0).toInt := congrArg Int32.toInt (by rw [e1950]; rfl)
                  first | (have q1968 := te_addc (c := 1) (n := 1) rfl (q_I d1949 12 24 a0) (by omega) (by omega); obtain ⟨f1969, f1970, f1971⟩ := q1968) | (obtain ⟨q1968, f1969, f1970, f1971⟩ := ti_addc (c := 1) (n := 1) rfl (q_I d1949 12 24 a0))
                  refine ok_bdv (fun d1962 e1963 => ?_)
                  have i1964 : RI ad h.1 δ0 d1962 := by rw [e1963]; exact cs_12_24 L i1951 k_a0 (show 0 ≤ ((q_I d1949 12 24 a0) + (1 : Int32)).toInt by omega) (show ((q_I d1949 12 24 a0) + (1 : Int32)).toInt ≤ 4 by omega)
                  have u1972 := kp_I u1959 e1963
                  have v1973 : q_V d1962 = q_V δ := ((show q_V d1962 = q_V d1949 by rw [e1963]; rfl)).trans v1960
                  have v1974 := kr_N v1961 (show q_R d1962 = q_R d1949 by rw [e1963]; rfl)
                  unfold J_X12_thief_146
                  have ss1975 : NS ad a0 δ d1 := NS.t NS.r (NS.w e2 (by decide))
                  have ss1976 : NS0 ad a0 δ r1033.2 := NS0.t (NS.z ss1975) (NS.z ns1050)
                  have ss1977 : NS0 ad a0 δ r1063 := NS0.t ss1976 ns1083
                  have ns1979 : NS ad a0 d1109 r1115.2 := NS.t NS.r ns1144
                  have ns1980 : NS ad a0 r1617 r1769.2 := NS.t NS.r ns1790
                  have ns1981 : NS ad a0 r1617 r1902 := NS.t ns1980 ns1915
                  have ns1982 : NS ad a0 r1617 r1916.2 := NS.t ns1981 ns1929
                  have f1983 := cb_12_26 i1918 k_a0
                  have f1984 : (q_I r1916.2 12 26 a0).toInt = (q_I r1902 12 26 a0).toInt := congrArg Int32.toInt (u1920 12 26 a0 (by decide))
                  have f1985 := cb_12_26 i1904 k_a0
                  have f1986 : (q_I r1902 12 26 a0).toInt = (q_I r1769.2 12 26 a0).toInt := congrArg Int32.toInt (u1907 12 26 a0 (by decide))
                  have f1987 := cb_12_26 i1771 k_a0
                  have f1988 : (q_I r1769.2 12 26 a0).toInt = (q_I r1617 12 26 a0).toInt := congrArg Int32.toInt (u1775 12 26 a0 (by decide))
                  have ss1978 : TK ad a0 δ d1962 := TK.good L ss1977 e1098 e1104 e1110 ns1979 p1651 (u1654 112 (by decide) (by decide) (by decide)) ns1982 (show (0 : Int) = 0 by omega) (show (0 : Int) = 0 by omega) (show (0 : Int) = 0 by omega) (by omega) e1950 e1963 (show (((q_I r1916.2 12 24 a0).toNatClampNeg : Nat) : Int) = (q_I δ 12 24 a0).toInt by omega) (show (q_I r1916.2 12 25 a0).toInt = (q_I r1916.2 12 25 a0).toInt by omega) (show ((q_I d1949 12 24 a0) + (1 : Int32)).toInt = (q_I δ 12 24 a0).toInt + 1 by omega) (show (q_I r1916.2 12 5 a0).toInt = -1 by omega) (show (q_I r1916.2 12 26 a0).toInt ≤ 500 by omega)
                  have f1989 := cb_12_2 i1964 k_a0
                  have f1990 : (q_I d1962 12 2 a0).toInt = (q_I d1949 12 2 a0).toInt := congrArg Int32.toInt (by rw [e1963]; exact rI_o (by decide))
                  have f1991 := cb_12_2 i1951 k_a0
                  have f1992 : (q_I d1949 12 2 a0).toInt = (q_I r1916.2 12 2 a0).toInt := congrArg Int32.toInt (by rw [e1950]; rfl)
                  have f1993 := cb_12_2 i1918 k_a0
                  have f1994 : (q_I r1916.2 12 2 a0).toInt = (q_I r1902 12 2 a0).toInt := congrArg Int32.toInt (u1920 12 2 a0 (by decide))
                  have f1995 := cb_12_2 i1904 k_a0
                  have f1996 : (q_I r1902 12 2 a0).toInt = (q_I r1769.2 12 2 a0).toInt := congrArg Int32.toInt (u1907 12 2 a0 (by decide))
                  have f1997 := cb_12_2 i1771 k_a0
                  have f1998 : (q_I r1769.2 12 2 a0).toInt = (q_I r1617 12 2 a0).toInt := congrArg Int32.toInt (u1775 12 2 a0 (by decide))
                  have f1999 := cb_12_2 i1645 k_a0
                  have f2000 : (q_I r1617 12 2 a0).toInt = (q_I r1115.2 12 2 a0).toInt := congrArg Int32.toInt (u1652 12 2 a0 (by decide))
                  have f2001 := cb_12_2 i1117 k_a0
                  have f2002 : (q_I r1115.2 12 2 a0).toInt = (q_I d1109 12 2 a0).toInt := congrArg Int32.toInt (u1121 12 2 a0 (by decide))
                  have f2003 := cb_12_2 i1111 k_a0
                  have f2004 : (q_I d1109 12 2 a0).toInt = (q_I d1103 12 2 a0).toInt := congrArg Int32.toInt (by rw [e1110]; exact rI_o (by decide))
                  have f2005 := cb_12_2 i1105 k_a0
                  have f2006 : (q_I d1103 12 2 a0).toInt = (q_I d1097 12 2 a0).toInt := congrArg Int32.toInt (by rw [e1104]; exact rI_o (by decide))
                  have f2007 := cb_12_2 i1099 k_a0
                  have f2008 : (q_I d1097 12 2 a0).toInt = (q_I r1063 12 2 a0).toInt := congrArg Int32.toInt (by rw [e1098]; exact rI_o (by decide))
                  exact ok_some (show RI ad h.1 δ0 d1962 ∧ (kp [(12, 0), (12, 2), (12, 3), (12, 4), (12, 5), (12, 6), (12, 7), (12, 8), (12, 24), (12, 25), (12, 26), (12, 27)] δ d1962 ∧ q_V d1962 = q_V δ ∧ kr ad [100, 112, 113, 114, 115, 116, 117] δ d1962) ∧ TK ad a0 δ d1962 ∧ (0 ≤ (x1).toInt ∧ (x1).toInt ≤ (q_I δ 12 2 a0).toInt → (q_I d1962 12 2 a0).toInt = 0) ∧ ((x1).toInt < 0 ∨ (q_I δ 12 2 a0).toInt < (x1).toInt → (q_I d1962 12 2 a0).toInt = (q_I δ 12 2 a0).toInt) from ⟨i1964, ⟨kp_w (by decide) u1972, v1973, kr_w (by decide) v1974⟩, ss1978, by first | assumption | omega, by first | assumption | omega⟩)
                · have c2009 : r1916.1.toInt ≠ (q_I r1916.2 12 24 a0).toInt := o_ne h1940
                  unfold J_X12_thief_146
                  have ss2010 : NS ad a0 δ d1 := NS.t NS.r (NS.w e2 (by decide))
                  have ss2011 : NS0 ad a0 δ r1033.2 := NS0.t (NS.z ss2010) (NS.z ns1050)
                  have ss2012 : NS0 ad a0 δ r1063 := NS0.t ss2011 ns1083
                  have ns2014 : NS ad a0 d1109 r1115.2 := NS.t NS.r ns1144
                  have ns2015 : NS ad a0 r1617 r1769.2 := NS.t NS.r ns1790
                  have ns2016 : NS ad a0 r1617 r1902 := NS.t ns2015 ns1915
                  have ns2017 : NS ad a0 r1617 r1916.2 := NS.t ns2016 ns1929
                  have ss2013 : TK ad a0 δ r1916.2 := TK.bad L ss2012 e1098 e1104 e1110 ns2014 p1651 (u1654 112 (by decide) (by decide) (by decide)) ns2017 (show (0 : Int) = 0 by omega) (show (0 : Int) = 0 by omega) (show (0 : Int) = 0 by omega) (by omega)
                  have f2018 := cb_12_2 i1918 k_a0
                  have f2019 : (q_I r1916.2 12 2 a0).toInt = (q_I r1902 12 2 a0).toInt := congrArg Int32.toInt (u1920 12 2 a0 (by decide))
                  have f2020 := cb_12_2 i1904 k_a0
                  have f2021 : (q_I r1902 12 2 a0).toInt = (q_I r1769.2 12 2 a0).toInt := congrArg Int32.toInt (u1907 12 2 a0 (by decide))
                  have f2022 := cb_12_2 i1771 k_a0
                  have f2023 : (q_I r1769.2 12 2 a0).toInt = (q_I r1617 12 2 a0).toInt := congrArg Int32.toInt (u1775 12 2 a0 (by decide))
                  have f2024 := cb_12_2 i1645 k_a0
                  have f2025 : (q_I r1617 12 2 a0).toInt = (q_I r1115.2 12 2 a0).toInt := congrArg Int32.toInt (u1652 12 2 a0 (by decide))
                  have f2026 := cb_12_2 i1117 k_a0
                  have f2027 : (q_I r1115.2 12 2 a0).toInt = (q_I d1109 12 2 a0).toInt := congrArg Int32.toInt (u1121 12 2 a0 (by decide))
                  have f2028 := cb_12_2 i1111 k_a0
                  have f2029 : (q_I d1109 12 2 a0).toInt = (q_I d1103 12 2 a0).toInt := congrArg Int32.toInt (by rw [e1110]; exact rI_o (by decide))
                  have f2030 := cb_12_2 i1105 k_a0
                  have f2031 : (q_I d1103 12 2 a0).toInt = (q_I d1097 12 2 a0).toInt := congrArg Int32.toInt (by rw [e1104]; exact rI_o (by decide))
                  have f2032 := cb_12_2 i1099 k_a0
                  have f2033 : (q_I d1097 12 2 a0).toInt = (q_I r1063 12 2 a0).toInt := congrArg Int32.toInt (by rw [e1098]; exact rI_o (by decide))
                  exact ok_some (show RI ad h.1 δ0 r1916.2 ∧ (kp [(12, 0), (12, 2), (12, 3), (12, 4), (12, 5), (12, 6), (12, 7), (12, 8), (12, 24), (12, 25), (12, 26), (12, 27)] δ r1916.2 ∧ q_V r1916.2 = q_V δ ∧ kr ad [100, 112, 113, 114, 115, 116, 117] δ r1916.2) ∧ TK ad a0 δ r1916.2 ∧ (0 ≤ (x1).toInt ∧ (x1).toInt ≤ (q_I δ 12 2 a0).toInt → (q_I r1916.2 12 2 a0).toInt = 0) ∧ ((x1).toInt < 0 ∨ (q_I δ 12 2 a0).toInt < (x1).toInt → (q_I r1916.2 12 2 a0).toInt = (q_I δ 12 2 a0).toInt) from ⟨i1918, ⟨kp_w (by decide) u1924, v1925, kr_w (by decide) v1926⟩, ss2013, by first | assumption | omega, by first | assumption | omega⟩)
    · have c2034 : x1.toInt ≤ (q_I d1 12 2 a0).toInt := o_nlt h1031
      unfold J_X12_thief_23
      refine ok_bind (k_X12_may L hN (a0 := a0) (x1 := (1 : Int32)) (x2 := (1 : Int32)) (x3 := (2 : Int32)) k_a0 (show (1 : Int) ≠ 0 by first | assumption | omega) (show 0 ≤ (2 : Int) by first | assumption | omega) (show (2 : Int) ≤ 2 by first | assumption | omega) i3) (fun r2035 hr2036 => ?_)
      obtain ⟨i2037, ⟨u2041, u2042, u2043⟩, p2038, p2039, p2040⟩ := hr2036
      have u2044 := kp_t u4 u2041
      have v2045 : q_V r2035.2 = q_V δ := (u2042).trans v5
      have v2046 := kr_t v6 u2043
      have f2047 := bo_l p2038
      have f2048 := ti_b r2035.1
      replace p2039 : ((r2035.1).toInt = 1 → (1 : Int) ≠ 0) := p2039
      have f2049 := ti_b (q_I d1 12 0 a0)
      have f2050 : (q_I d1 12 0 a0).toInt = (0 : Int) := congrArg Int32.toInt (show q_I d1 12 0 a0 = (0 : Int32) by rw [e2]; exact rI_s)
      replace p2040 : ((q_I d1 12 0 a0).toInt = 0 → (r2035.1).toInt = 0 → (1 : Int) = 0) := p2040
      have f2051 := ti_b r2035.1
      have f2053 := cb_12_5 i2037 k_a0
      have f2054 : (q_I r2035.2 12 5 a0).toInt = (q_I d1 12 5 a0).toInt := congrArg Int32.toInt (u2041 12 5 a0 (by decide))
      have f2055 := cb_12_5 i3 k_a0
      have f2056 : (q_I d1 12 5 a0).toInt = (q_I δ 12 5 a0).toInt := congrArg Int32.toInt (by rw [e2]; exact rI_o (by decide))
      have f2057 := cb_12_5 I k_a0
      have ns2052 : NS ad a0 d1 r2035.2 := ⟨u2043 112 (by decide) (by decide) (by decide), u2043 113 (by decide) (by decide) (by decide), u2043 114 (by decide) (by decide) (by decide), u2043 115 (by decide) (by decide) (by decide), u2043 116 (by decide) (by decide) (by decide), u2041 12 24 _ (by decide), u2041 12 25 _ (by decide), u2041 12 26 _ (by decide), u2041 12 27 _ (by decide), fun z => by omega⟩
      refine ok_ite (fun h2058 => ?_) (fun h2058 => ?_)
      · have c2059 : r2035.1.toInt = (0 : Int) := o_eq h2058
        have ss2060 : NS ad a0 δ d1 := NS.t NS.r (NS.w e2 (by decide))
        have ss2061 : NS0 ad a0 δ r2035.2 := NS0.t (NS.z ss2060) (NS.z ns2052)
        have f2062 := cb_12_2 i2037 k_a0
        have f2063 : (q_I r2035.2 12 2 a0).toInt = (q_I d1 12 2 a0).toInt := congrArg Int32.toInt (u2041 12 2 a0 (by decide))
        exact ok_some (show RI ad h.1 δ0 r2035.2 ∧ (kp [(12, 0), (12, 2), (12, 3), (12, 4), (12, 5), (12, 6), (12, 7), (12, 8), (12, 24), (12, 25), (12, 26), (12, 27)] δ r2035.2 ∧ q_V r2035.2 = q_V δ ∧ kr ad [100, 112, 113, 114, 115, 116, 117] δ r2035.2) ∧ TK ad a0 δ r2035.2 ∧ (0 ≤ (x1).toInt ∧ (x1).toInt ≤ (q_I δ 12 2 a0).toInt → (q_I r2035.2 12 2 a0).toInt = 0) ∧ ((x1).toInt < 0 ∨ (q_I δ 12 2 a0).toInt < (x1).toInt → (q_I r2035.2 12 2 a0).toInt = (q_I δ 12 2 a0).toInt) from ⟨i2037, ⟨kp_w (by decide) u2044, v2045, kr_w (by decide) v2046⟩, TK.n ss2061, by first | assumption | omega, by first | assumption | omega⟩)
      · have c2064 : r2035.1.toInt ≠ (0 : Int) := o_ne h2058
        refine ok_bind (k_X12_begins L hN (a0 := a0) (x1 := x1) k_a0 (show 0 ≤ (x1).toInt by first | assumption | omega) (show (x1).toInt ≤ 500 by first | assumption | omega) i2037) (fun r2065 hr2066 => ?_)
        obtain ⟨i2067, ⟨u2073, u2074, u2075, u2076⟩, p2068, p2069, p2070, p2071, p2072⟩ := hr2066
        have u2077 := kp_t u2044 u2073
        have v2078 : q_V r2065 = q_V δ := (u2074).trans v2045
        have v2079 := kr_t v2046 u2076
        have f2080 := cb_12_2 i2067 k_a0
        have f2081 := cb_12_4 i2067 k_a0
        have f2082 := cb_12_3 i2067 k_a0
        have f2083 := cb_12_5 i2067 k_a0
        have f2084 := ti_b (q_I r2065 12 7 a0)
        have ns2085 : NS0 ad a0 r2035.2 r2065 := ⟨u2076 112 (by decide) (by decide) (by decide), u2076 113 (by decide) (by decide) (by decide), u2076 114 (by decide) (by decide) (by decide), u2076 115 (by decide) (by decide) (by decide), u2076 116 (by decide) (by decide) (by decide), u2073 12 24 _ (by decide)⟩
        have f2086 := cb_12_24 i2067 k_a0
        have f2087 : (q_I r2065 12 24 a0).toInt = (q_I r2035.2 12 24 a0).toInt := congrArg Int32.toInt (u2073 12 24 a0 (by decide))
        have f2088 := cb_12_24 i2037 k_a0
        have f2089 : (q_I r2035.2 12 24 a0).toInt = (q_I d1 12 24 a0).toInt := congrArg Int32.toInt (u2041 12 24 a0 (by decide))
        have f2090 := cb_12_24 i3 k_a0
        have f2091 : (q_I d1 12 24 a0).toInt = (q_I δ 12 24 a0).toInt := congrArg Int32.toInt (by rw [e2]; exact rI_o (by decide))
        have f2092 := cb_12_24 I k_a0
        refine ok_ite (fun h2093 => ?_) (fun h2093 => ?_)
        · have c2094 : (q_I r2065 12 24 a0).toInt = (4 : Int) := o_eq h2093
          have ss2095 : NS ad a0 δ d1 := NS.t NS.r (NS.w e2 (by decide))
          have ss2096 : NS0 ad a0 δ r2035.2 := NS0.t (NS.z ss2095) (NS.z ns2052)
          have ss2097 : NS0 ad a0 δ r2065 := NS0.t ss2096 ns2085
          exact ok_some (show RI ad h.1 δ0 r2065 ∧ (kp [(12, 0), (12, 2), (12, 3), (12, 4), (12, 5), (12, 6), (12, 7), (12, 8), (12, 24), (12, 25), (12, 26), (12, 27)] δ r2065 ∧ q_V r2065 = q_V δ ∧ kr ad [100, 112, 113, 114, 115, 116, 117] δ r2065) ∧ TK ad a0 δ r2065 ∧ (0 ≤ (x1).toInt ∧ (x1).toInt ≤ (q_I δ 12 2 a0).toInt → (q_I r2065 12 2 a0).toInt = 0) ∧ ((x1).toInt < 0 ∨ (q_I δ 12 2 a0).toInt < (x1).toInt → (q_I r2065 12 2 a0).toInt = (q_I δ 12 2 a0).toInt) from ⟨i2067, ⟨kp_w (by decide) u2077, v2078, kr_w (by decide) v2079⟩, TK.n ss2097, by first | assumption | omega, by first | assumption | omega⟩)
        · have c2098 : (q_I r2065 12 24 a0).toInt ≠ (4 : Int) := o_ne h2093
          refine ok_bdv (fun d2099 e2100 => ?_)
          have i2101 : RI ad h.1 δ0 d2099 := by rw [e2100]; exact cs_12_25 L i2067 k_a0 (show 0 ≤ (0 : Int) by omega) (show (0 : Int) ≤ 60 by omega)
          have u2102 := kp_I u2077 e2100
          have v2103 : q_V d2099 = q_V δ := ((show q_V d2099 = q_V r2065 by rw [e2100]; rfl)).trans v2078
          have v2104 := kr_N v2079 (show q_R d2099 = q_R r2065 by rw [e2100]; rfl)
          refine ok_bdv (fun d2105 e2106 => ?_)
          have i2107 : RI ad h.1 δ0 d2105 := by rw [e2106]; exact cs_12_26 L i2101 k_a0 (show 0 ≤ (0 : Int) by omega) (show (0 : Int) ≤ 500 by omega)
          have u2108 := kp_I u2102 e2106
          have v2109 : q_V d2105 = q_V δ := ((show q_V d2105 = q_V d2099 by rw [e2106]; rfl)).trans v2103
          have v2110 := kr_N v2104 (show q_R d2105 = q_R d2099 by rw [e2106]; rfl)
          refine ok_bdv (fun d2111 e2112 => ?_)
          have i2113 : RI ad h.1 δ0 d2111 := by rw [e2112]; exact cs_12_27 L i2107 k_a0 (show 0 ≤ (0 : Int) by omega) (show (0 : Int) ≤ 3 by omega)
          have u2114 := kp_I u2108 e2112
          have v2115 : q_V d2111 = q_V δ := ((show q_V d2111 = q_V d2105 by rw [e2112]; rfl)).trans v2109
          have v2116 := kr_N v2110 (show q_R d2111 = q_R d2105 by rw [e2112]; rfl)
          refine ok_bind (k_X12_isMore L hN (a0 := a0) k_a0 i2113) (fun r2117 hr2118 => ?_)
          obtain ⟨i2119, ⟨u2123, u2124, u2125, u2126⟩, p2120, p2121, p2122⟩ := hr2118
          have u2127 := kp_t u2114 u2123
          have v2128 : q_V r2117.2 = q_V δ := (u2124).trans v2115
          have v2129 := kr_t v2116 u2126
          have f2130 := bo_l p2120
          have f2131 := cb_12_4 i2113 k_a0
          have f2132 : (q_I d2111 12 4 a0).toInt = (q_I d2105 12 4 a0).toInt := congrArg Int32.toInt (by rw [e2112]; exact rI_o (by decide))
          have f2133 := cb_12_4 i2107 k_a0
          have f2134 : (q_I d2105 12 4 a0).toInt = (q_I d2099 12 4 a0).toInt := congrArg Int32.toInt (by rw [e2106]; exact rI_o (by decide))
          have f2135 := cb_12_4 i2101 k_a0
          have f2136 : (q_I d2099 12 4 a0).toInt = (q_I r2065 12 4 a0).toInt := congrArg Int32.toInt (by rw [e2100]; exact rI_o (by decide))
          have f2137 := cb_12_4 i2119 k_a0
          have f2138 := ti_b r2117.1
          have f2139 := cb_12_3 i2113 k_a0
          have f2140 : (q_I d2111 12 3 a0).toInt = (q_I d2105 12 3 a0).toInt := congrArg Int32.toInt (by rw [e2112]; exact rI_o (by decide))
          have f2141 := cb_12_3 i2107 k_a0
          have f2142 : (q_I d2105 12 3 a0).toInt = (q_I d2099 12 3 a0).toInt := congrArg Int32.toInt (by rw [e2106]; exact rI_o (by decide))
          have f2143 := cb_12_3 i2101 k_a0
          have f2144 : (q_I d2099 12 3 a0).toInt = (q_I r2065 12 3 a0).toInt := congrArg Int32.toInt (by rw [e2100]; exact rI_o (by decide))
          have f2145 := ti_b r2117.1
          have f2147 := cb_12_5 i2119 k_a0
          have f2148 : (q_I r2117.2 12 5 a0).toInt = (q_I d2111 12 5 a0).toInt := congrArg Int32.toInt (u2123 12 5 a0 (by decide))
          have f2149 := cb_12_5 i2113 k_a0
          have f2150 : (q_I d2111 12 5 a0).toInt = (q_I d2105 12 5 a0).toInt := congrArg Int32.toInt (by rw [e2112]; exact rI_o (by decide))
          have f2151 := cb_12_5 i2107 k_a0
          have f2152 : (q_I d2105 12 5 a0).toInt = (q_I d2099 12 5 a0).toInt := congrArg Int32.toInt (by rw [e2106]; exact rI_o (by decide))
          have f2153 := cb_12_5 i2101 k_a0
          have f2154 : (q_I d2099 12 5 a0).toInt = (q_I r2065 12 5 a0).toInt := congrArg Int32.toInt (by rw [e2100]; exact rI_o (by decide))
          have ns2146 : NS ad a0 d2111 r2117.2 := ⟨u2126 112 (by decide) (by decide) (by decide), u2126 113 (by decide) (by decide) (by decide), u2126 114 (by decide) (by decide) (by decide), u2126 115 (by decide) (by decide) (by decide), u2126 116 (by decide) (by decide) (by decide), u2123 12 24 _ (by decide), u2123 12 25 _ (by decide), u2123 12 26 _ (by decide), u2123 12 27 _ (by decide), fun z => by omega⟩
          refine ok_ite (fun h2155 => ?_) (fun h2155 => ?_)
          · have c2156 : r2117.1.toInt = (0 : Int) := o_eq h2155
            have f2159 := cb_12_3 i2119 k_a0
            have f2160 : (q_I r2117.2 12 3 a0).toInt = (q_I d2111 12 3 a0).toInt := congrArg Int32.toInt (u2123 12 3 a0 (by decide))
            refine ok_bind (k_X12_wrong L hN (a0 := a0) (x1 := (1 : Int32)) (x2 := (q_I r2117.2 12 3 a0)) k_a0 (show 0 ≤ ((q_I r2117.2 12 3 a0)).toInt by first | assumption | omega) (show ((q_I r2117.2 12 3 a0)).toInt ≤ 500 by first | assumption | omega) (show 0 ≤ (1 : Int) by first | assumption | omega) (show (1 : Int) ≤ 4 by first | assumption | omega) i2119) (fun r2157 hr2158 => ?_)
            obtain ⟨i2161, ⟨u2164, u2165, u2166, u2167⟩, p2162, p2163⟩ := hr2158
            have u2168 := kp_t u2127 u2164
            have v2169 : q_V r2157 = q_V δ := (u2165).trans v2128
            have v2170 := kr_t v2129 u2167
            have f2171 := cb_12_5 i2161 k_a0
            have ns2172 : NS ad a0 r2117.2 r2157 := ⟨u2167 112 (by decide) (by decide) (by decide), u2167 113 (by decide) (by decide) (by decide), u2167 114 (by decide) (by decide) (by decide), u2167 115 (by decide) (by decide) (by decide), u2167 116 (by decide) (by decide) (by decide), u2164 12 24 _ (by decide), u2164 12 25 _ (by decide), u2164 12 26 _ (by decide), u2164 12 27 _ (by decide), fun z => by omega⟩
            unfold J_X12_thief_79
            have f2175 := cb_12_24 i2161 k_a0
            have f2176 : (q_I r2157 12 24 a0).toInt = (q_I r2117.2 12 24 a0).toInt := congrArg Int32.toInt (u2164 12 24 a0 (by decide))
            have f2177 := cb_12_24 i2119 k_a0
            have f2178 : (q_I r2117.2 12 24 a0).toInt = (q_I d2111 12 24 a0).toInt := congrArg Int32.toInt (u2123 12 24 a0 (by decide))
            have f2179 := cb_12_24 i2113 k_a0
            have f2180 : (q_I d2111 12 24 a0).toInt = (q_I d2105 12 24 a0).toInt := congrArg Int32.toInt (by rw [e2112]; exact rI_o (by decide))
            have f2181 := cb_12_24 i2107 k_a0
            have f2182 : (q_I d2105 12 24 a0).toInt = (q_I d2099 12 24 a0).toInt := congrArg Int32.toInt (by rw [e2106]; exact rI_o (by decide))
            have f2183 := cb_12_24 i2101 k_a0
            have f2184 : (q_I d2099 12 24 a0).toInt = (q_I r2065 12 24 a0).toInt := congrArg Int32.toInt (by rw [e2100]; exact rI_o (by decide))
            have f2185 := cb_12_26 i2161 k_a0
            have f2186 : (q_I r2157 12 26 a0).toInt = (q_I r2117.2 12 26 a0).toInt := congrArg Int32.toInt (u2164 12 26 a0 (by decide))
            have f2187 := cb_12_26 i2119 k_a0
            have f2188 : (q_I r2117.2 12 26 a0).toInt = (q_I d2111 12 26 a0).toInt := congrArg Int32.toInt (u2123 12 26 a0 (by decide))
            have f2189 := cb_12_26 i2113 k_a0
            have f2190 : (q_I d2111 12 26 a0).toInt = (q_I d2105 12 26 a0).toInt := congrArg Int32.toInt (by rw [e2112]; exact rI_o (by decide))
            have f2191 := cb_12_26 i2107 k_a0
            have f2192 : (q_I d2105 12 26 a0).toInt = (0 : Int) := congrArg Int32.toInt (show q_I d2105 12 26 a0 = (0 : Int32) by rw [e2106]; exact rI_s)
            have f2193 := cb_12_4 i2161 k_a0
            have f2194 : (q_I r2157 12 4 a0).toInt = (q_I r2117.2 12 4 a0).toInt := congrArg Int32.toInt (u2164 12 4 a0 (by decide))
            have f2195 := ti_b (q_I r2157 12 7 a0)
            have f2196 : (q_I r2157 12 7 a0).toInt = (q_I r2117.2 12 7 a0).toInt := congrArg Int32.toInt (u2164 12 7 a0 (by decide))
            have f2197 := ti_b (q_I r2117.2 12 7 a0)
            have f2198 : (q_I r2117.2 12 7 a0).toInt = (q_I d2111 12 7 a0).toInt := congrArg Int32.toInt (u2123 12 7 a0 (by decide))
            have f2199 := ti_b (q_I d2111 12 7 a0)
            have f2200 : (q_I d2111 12 7 a0).toInt = (q_I d2105 12 7 a0).toInt := congrArg Int32.toInt (by rw [e2112]; exact rI_o (by decide))
            have f2201 := ti_b (q_I d2105 12 7 a0)
            have f2202 : (q_I d2105 12 7 a0).toInt = (q_I d2099 12 7 a0).toInt := congrArg Int32.toInt (by rw [e2106]; exact rI_o (by decide))
            have f2203 := ti_b (q_I d2099 12 7 a0)
            have f2204 : (q_I d2099 12 7 a0).toInt = (q_I r2065 12 7 a0).toInt := congrArg Int32.toInt (by rw [e2100]; exact rI_o (by decide))
            have f2205 := cb_12_27 i2161 k_a0
            have f2206 : (q_I r2157 12 27 a0).toInt = (q_I r2117.2 12 27 a0).toInt := congrArg Int32.toInt (u2164 12 27 a0 (by decide))
            have f2207 := cb_12_27 i2119 k_a0
            have f2208 : (q_I r2117.2 12 27 a0).toInt = (q_I d2111 12 27 a0).toInt := congrArg Int32.toInt (u2123 12 27 a0 (by decide))
            have f2209 := cb_12_27 i2113 k_a0
            have f2210 : (q_I d2111 12 27 a0).toInt = (0 : Int) := congrArg Int32.toInt (show q_I d2111 12 27 a0 = (0 : Int32) by rw [e2112]; exact rI_s)
            refine ok_bind (k_X12_readSteps L hN (a0 := a0) k_a0 (show (q_I r2157 12 24 a0).toInt ≤ 3 by first | assumption | omega) (show (q_I r2157 12 26 a0).toInt ≤ (q_I r2157 12 4 a0).toInt by first | assumption | omega) (show (q_I r2157 12 7 a0).toInt = 0 by first | assumption | omega) (show 4 - (q_I r2157 12 27 a0).toInt < 20 by first | assumption | omega) i2161) (fun r2173 hr2174 => ?_)
            obtain ⟨i2211, ⟨u2218, u2219, u2220⟩, p2212, p2213, p2214, p2215, p2216, p2217⟩ := hr2174
            have u2221 := kp_t u2168 u2218
            have v2222 : q_V r2173 = q_V δ := (u2219).trans v2169
            have v2223 := kr_t v2170 u2220
            have f2224 := cb_12_4 i2211 k_a0
            have f2225 := cb_12_5 i2211 k_a0
            have f2226 := ti_b (q_I r2173 12 7 a0)
            have f2227 := cb_12_27 i2211 k_a0
            have f2228 := cb_12_26 i2211 k_a0
            refine ok_bind (k_X12_fine L hN (a0 := a0) k_a0 i2211) (fun r2229 hr2230 => ?_)
            obtain ⟨i2231, p2232, p2233, p2234⟩ := hr2230
            try rw [i2231]
            have f2235 := bo_l p2232
            have f2236 := ti_b r2229.1
            have f2237 := ti_b r2229.1
            refine ok_ite (fun h2238 => ?_) (fun h2238 => ?_)
            · have c2239 : r2229.1.toInt = (0 : Int) := o_eq h2238
              unfold J_X12_thief_106
              refine ok_bind (k_X12_result L hN (a0 := a0) (x1 := (q_I r2173 12 24 a0)) k_a0 i2211) (fun r2240 hr2241 => ?_)
              obtain ⟨i2242, ⟨u2244, u2245, u2246, u2247⟩, p2243⟩ := hr2241
              have u2248 := kp_t u2221 u2244
              have v2249 : q_V r2240.2 = q_V δ := (u2245).trans v2222
              have v2250 := kr_t v2223 u2247
              have f2251 := ti_b r2240.1
              have f2252 := ti_b r2240.1
              have f2254 := cb_12_5 i2242 k_a0
              have f2255 : (q_I r2240.2 12 5 a0).toInt = (q_I r2173 12 5 a0).toInt := congrArg Int32.toInt (u2244 12 5 a0 (by decide))
              have ns2253 : NS ad a0 r2173 r2240.2 := ⟨u2247 112 (by decide) (by decide) (by decide), u2247 113 (by decide) (by decide) (by decide), u2247 114 (by decide) (by decide) (by decide), u2247 115 (by decide) (by decide) (by decide), u2247 116 (by decide) (by decide) (by decide), u2244 12 24 _ (by decide), u2244 12 25 _ (by decide), u2244 12 26 _ (by decide), u2244 12 27 _ (by decide), fun z => by omega⟩
              have f2256 := cb_12_24 i2242 k_a0
              have f2257 : (q_I r2240.2 12 24 a0).toInt = (q_I r2173 12 24 a0).toInt := congrArg Int32.toInt (u2244 12 24 a0 (by decide))
              have f2258 := cb_12_24 i2211 k_a0
              have f2259 : (q_I r2173 12 24 a0).toInt = (q_I r2157 12 24 a0).toInt := congrArg Int32.toInt (u2218 12 24 a0 (by decide))
              refine ok_ite (fun h2260 => ?_) (fun h2260 => ?_)
              · have c2261 : r2240.1.toInt = (q_I r2240.2 12 24 a0).toInt := o_eq h2260
                obtain ⟨b2262, o2263, k2264, n2265⟩ := gO_12_28 L k_a0
                obtain rfl := gS_12_28 L k_a0 o2263
                refine ok_at o2263 ?_
                have t2266 := ti_tn (q_I r2240.2 12 24 a0)
                refine ok_gd (fun hc2267 => ?_) ?_
                · rcases hc2267 with hc2267 | hc2267
                  · have c2268 : (q_I r2240.2 12 24 a0).toInt < (0 : Int) := o_lt hc2267
                    omega
                  · omega
                have f2272 := cb_12_25 i2242 k_a0
                have f2273 : (q_I r2240.2 12 25 a0).toInt = (q_I r2173 12 25 a0).toInt := congrArg Int32.toInt (u2244 12 25 a0 (by decide))
                have f2274 := cb_12_25 i2211 k_a0
                refine ok_bdv (fun d2269 e2270 => ?_)
                have i2271 : RI ad h.1 δ0 d2269 := by rw [e2270]; exact cr_112 L i2242 (show 0 ≤ (q_I r2240.2 12 25 a0).toInt by omega) (show (q_I r2240.2 12 25 a0).toInt ≤ 60 by omega)
                have u2275 := kp_N u2248 (show q_I d2269 = q_I r2240.2 by rw [e2270]; rfl)
                have v2276 : q_V d2269 = q_V δ := ((show q_V d2269 = q_V r2240.2 by rw [e2270]; rfl)).trans v2249
                have v2277 := kr_s L (by decide) v2250 e2270
                have f2281 := cb_12_24 i2271 k_a0
                have f2282 : (q_I d2269 12 24 a0).toInt = (q_I r2240.2 12 24 a0).toInt := congrArg Int32.toInt (by rw [e2270]; rfl)
                first | (have q2284 := te_addc (c := 1) (n := 1) rfl (q_I d2269 12 24 a0) (by omega) (by omega); obtain ⟨f2285, f2286, f2287⟩ := q2284) | (obtain ⟨q2284, f2285, f2286, f2287⟩ := ti_addc (c := 1) (n := 1) rfl (q_I d2269 12 24 a0))
                refine ok_bdv (fun d2278 e2279 => ?_)
                have i2280 : RI ad h.1 δ0 d2278 := by rw [e2279]; exact cs_12_24 L i2271 k_a0 (show 0 ≤ ((q_I d2269 12 24 a0) + (1 : Int32)).toInt by omega) (show ((q_I d2269 12 24 a0) + (1 : Int32)).toInt ≤ 4 by omega)
                have u2288 := kp_I u2275 e2279
                have v2289 : q_V d2278 = q_V δ := ((show q_V d2278 = q_V d2269 by rw [e2279]; rfl)).trans v2276
                have v2290 := kr_N v2277 (show q_R d2278 = q_R d2269 by rw [e2279]; rfl)
                unfold J_X12_thief_146
                have ss2291 : NS ad a0 δ d1 := NS.t NS.r (NS.w e2 (by decide))
                have ss2292 : NS0 ad a0 δ r2035.2 := NS0.t (NS.z ss2291) (NS.z ns2052)
                have ss2293 : NS0 ad a0 δ r2065 := NS0.t ss2292 ns2085
                have ns2295 : NS ad a0 d2111 r2117.2 := NS.t NS.r ns2146
                have ns2296 : NS ad a0 d2111 r2157 := NS.t ns2295 ns2172
                have ns2297 : NS ad a0 r2173 r2240.2 := NS.t NS.r ns2253
                have f2298 := cb_12_26 i2242 k_a0
                have f2299 : (q_I r2240.2 12 26 a0).toInt = (q_I r2173 12 26 a0).toInt := congrArg Int32.toInt (u2244 12 26 a0 (by decide))
                have ss2294 : TK ad a0 δ d2278 := TK.good L ss2293 e2100 e2106 e2112 ns2296 p2217 (u2220 112 (by decide) (by decide) (by decide)) ns2297 (show (0 : Int) = 0 by omega) (show (0 : Int) = 0 by omega) (show (0 : Int) = 0 by omega) (by omega) e2270 e2279 (show (((q_I r2240.2 12 24 a0).toNatClampNeg : Nat) : Int) = (q_I δ 12 24 a0).toInt by omega) (show (q_I r2240.2 12 25 a0).toInt = (q_I r2240.2 12 25 a0).toInt by omega) (show ((q_I d2269 12 24 a0) + (1 : Int32)).toInt = (q_I δ 12 24 a0).toInt + 1 by omega) (show (q_I r2240.2 12 5 a0).toInt = -1 by omega) (show (q_I r2240.2 12 26 a0).toInt ≤ 500 by omega)
                have f2300 := cb_12_2 i2280 k_a0
                have f2301 : (q_I d2278 12 2 a0).toInt = (q_I d2269 12 2 a0).toInt := congrArg Int32.toInt (by rw [e2279]; exact rI_o (by decide))
                have f2302 := cb_12_2 i2271 k_a0
                have f2303 : (q_I d2269 12 2 a0).toInt = (q_I r2240.2 12 2 a0).toInt := congrArg Int32.toInt (by rw [e2270]; rfl)
                have f2304 := cb_12_2 i2242 k_a0
                have f2305 : (q_I r2240.2 12 2 a0).toInt = (q_I r2173 12 2 a0).toInt := congrArg Int32.toInt (u2244 12 2 a0 (by decide))
                have f2306 := cb_12_2 i2211 k_a0
                have f2307 : (q_I r2173 12 2 a0).toInt = (q_I r2157 12 2 a0).toInt := congrArg Int32.toInt (u2218 12 2 a0 (by decide))
                have f2308 := cb_12_2 i2161 k_a0
                have f2309 : (q_I r2157 12 2 a0).toInt = (q_I r2117.2 12 2 a0).toInt := congrArg Int32.toInt (u2164 12 2 a0 (by decide))
                have f2310 := cb_12_2 i2119 k_a0
                have f2311 : (q_I r2117.2 12 2 a0).toInt = (q_I d2111 12 2 a0).toInt := congrArg Int32.toInt (u2123 12 2 a0 (by decide))
                have f2312 := cb_12_2 i2113 k_a0
                have f2313 : (q_I d2111 12 2 a0).toInt = (q_I d2105 12 2 a0).toInt := congrArg Int32.toInt (by rw [e2112]; exact rI_o (by decide))
                have f2314 := cb_12_2 i2107 k_a0
                have f2315 : (q_I d2105 12 2 a0).toInt = (q_I d2099 12 2 a0).toInt := congrArg Int32.toInt (by rw [e2106]; exact rI_o (by decide))
                have f2316 := cb_12_2 i2101 k_a0
                have f2317 : (q_I d2099 12 2 a0).toInt = (q_I r2065 12 2 a0).toInt := congrArg Int32.toInt (by rw [e2100]; exact rI_o (by decide))
                exact ok_some (show RI ad h.1 δ0 d2278 ∧ (kp [(12, 0), (12, 2), (12, 3), (12, 4), (12, 5), (12, 6), (12, 7), (12, 8), (12, 24), (12, 25), (12, 26), (12, 27)] δ d2278 ∧ q_V d2278 = q_V δ ∧ kr ad [100, 112, 113, 114, 115, 116, 117] δ d2278) ∧ TK ad a0 δ d2278 ∧ (0 ≤ (x1).toInt ∧ (x1).toInt ≤ (q_I δ 12 2 a0).toInt → (q_I d2278 12 2 a0).toInt = 0) ∧ ((x1).toInt < 0 ∨ (q_I δ 12 2 a0).toInt < (x1).toInt → (q_I d2278 12 2 a0).toInt = (q_I δ 12 2 a0).toInt) from ⟨i2280, ⟨kp_w (by decide) u2288, v2289, kr_w (by decide) v2290⟩, ss2294, by first | assumption | omega, by first | assumption | omega⟩)
              · have c2318 : r2240.1.toInt ≠ (q_I r2240.2 12 24 a0).toInt := o_ne h2260
                unfold J_X12_thief_146
                have ss2319 : NS ad a0 δ d1 := NS.t NS.r (NS.w e2 (by decide))
                have ss2320 : NS0 ad a0 δ r2035.2 := NS0.t (NS.z ss2319) (NS.z ns2052)
                have ss2321 : NS0 ad a0 δ r2065 := NS0.t ss2320 ns2085
                have ns2323 : NS ad a0 d2111 r2117.2 := NS.t NS.r ns2146
                have ns2324 : NS ad a0 d2111 r2157 := NS.t ns2323 ns2172
                have ns2325 : NS ad a0 r2173 r2240.2 := NS.t NS.r ns2253
                have ss2322 : TK ad a0 δ r2240.2 := TK.bad L ss2321 e2100 e2106 e2112 ns2324 p2217 (u2220 112 (by decide) (by decide) (by decide)) ns2325 (show (0 : Int) = 0 by omega) (show (0 : Int) = 0 by omega) (show (0 : Int) = 0 by omega) (by omega)
                have f2326 := cb_12_2 i2242 k_a0
                have f2327 : (q_I r2240.2 12 2 a0).toInt = (q_I r2173 12 2 a0).toInt := congrArg Int32.toInt (u2244 12 2 a0 (by decide))
                have f2328 := cb_12_2 i2211 k_a0
                have f2329 : (q_I r2173 12 2 a0).toInt = (q_I r2157 12 2 a0).toInt := congrArg Int32.toInt (u2218 12 2 a0 (by decide))
                have f2330 := cb_12_2 i2161 k_a0
                have f2331 : (q_I r2157 12 2 a0).toInt = (q_I r2117.2 12 2 a0).toInt := congrArg Int32.toInt (u2164 12 2 a0 (by decide))
                have f2332 := cb_12_2 i2119 k_a0
                have f2333 : (q_I r2117.2 12 2 a0).toInt = (q_I d2111 12 2 a0).toInt := congrArg Int32.toInt (u2123 12 2 a0 (by decide))
                have f2334 := cb_12_2 i2113 k_a0
                have f2335 : (q_I d2111 12 2 a0).toInt = (q_I d2105 12 2 a0).toInt := congrArg Int32.toInt (by rw [e2112]; exact rI_o (by decide))
                have f2336 := cb_12_2 i2107 k_a0
                have f2337 : (q_I d2105 12 2 a0).toInt = (q_I d2099 12 2 a0).toInt := congrArg Int32.toInt (by rw [e2106]; exact rI_o (by decide))
                have f2338 := cb_12_2 i2101 k_a0
                have f2339 : (q_I d2099 12 2 a0).toInt = (q_I r2065 12 2 a0).toInt := congrArg Int32.toInt (by rw [e2100]; exact rI_o (by decide))
                exact ok_some (show RI ad h.1 δ0 r2240.2 ∧ (kp [(12, 0), (12, 2), (12, 3), (12, 4), (12, 5), (12, 6), (12, 7), (12, 8), (12, 24), (12, 25), (12, 26), (12, 27)] δ r2240.2 ∧ q_V r2240.2 = q_V δ ∧ kr ad [100, 112, 113, 114, 115, 116, 117] δ r2240.2) ∧ TK ad a0 δ r2240.2 ∧ (0 ≤ (x1).toInt ∧ (x1).toInt ≤ (q_I δ 12 2 a0).toInt → (q_I r2240.2 12 2 a0).toInt = 0) ∧ ((x1).toInt < 0 ∨ (q_I δ 12 2 a0).toInt < (x1).toInt → (q_I r2240.2 12 2 a0).toInt = (q_I δ 12 2 a0).toInt) from ⟨i2242, ⟨kp_w (by decide) u2248, v2249, kr_w (by decide) v2250⟩, ss2322, by first | assumption | omega, by first | assumption | omega⟩)
            · have c2340 : r2229.1.toInt ≠ (0 : Int) := o_ne h2238
              refine ok_bind (k_X12_isMore L hN (a0 := a0) k_a0 i2211) (fun r2341 hr2342 => ?_)
              obtain ⟨i2343, ⟨u2347, u2348, u2349, u2350⟩, p2344, p2345, p2346⟩ := hr2342
              have u2351 := kp_t u2221 u2347
              have v2352 : q_V r2341.2 = q_V δ := (u2348).trans v2222
              have v2353 := kr_t v2223 u2350
              have f2354 := bo_l p2344
              have f2355 := cb_12_4 i2343 k_a0
              have f2356 := ti_b r2341.1
              have f2357 := cb_12_3 i2211 k_a0
              have f2358 : (q_I r2173 12 3 a0).toInt = (q_I r2157 12 3 a0).toInt := congrArg Int32.toInt (u2218 12 3 a0 (by decide))
              have f2359 := cb_12_3 i2161 k_a0
              have f2360 : (q_I r2157 12 3 a0).toInt = (q_I r2117.2 12 3 a0).toInt := congrArg Int32.toInt (u2164 12 3 a0 (by decide))
              have f2361 := ti_b r2341.1
              have f2363 := cb_12_5 i2343 k_a0
              have f2364 : (q_I r2341.2 12 5 a0).toInt = (q_I r2173 12 5 a0).toInt := congrArg Int32.toInt (u2347 12 5 a0 (by decide))
              have ns2362 : NS ad a0 r2173 r2341.2 := ⟨u2350 112 (by decide) (by decide) (by decide), u2350 113 (by decide) (by decide) (by decide), u2350 114 (by decide) (by decide) (by decide), u2350 115 (by decide) (by decide) (by decide), u2350 116 (by decide) (by decide) (by decide), u2347 12 24 _ (by decide), u2347 12 25 _ (by decide), u2347 12 26 _ (by decide), u2347 12 27 _ (by decide), fun z => by omega⟩
              refine ok_ite (fun h2365 => ?_) (fun h2365 => ?_)
              · have c2366 : r2341.1.toInt = (0 : Int) := o_eq h2365
                unfold J_X12_thief_106
                refine ok_bind (k_X12_result L hN (a0 := a0) (x1 := (q_I r2341.2 12 24 a0)) k_a0 i2343) (fun r2367 hr2368 => ?_)
                obtain ⟨i2369, ⟨u2371, u2372, u2373, u2374⟩, p2370⟩ := hr2368
                have u2375 := kp_t u2351 u2371
                have v2376 : q_V r2367.2 = q_V δ := (u2372).trans v2352
                have v2377 := kr_t v2353 u2374
                have f2378 := ti_b r2367.1
                have f2379 := ti_b r2367.1
                have f2381 := cb_12_5 i2369 k_a0
                have f2382 : (q_I r2367.2 12 5 a0).toInt = (q_I r2341.2 12 5 a0).toInt := congrArg Int32.toInt (u2371 12 5 a0 (by decide))
                have ns2380 : NS ad a0 r2341.2 r2367.2 := ⟨u2374 112 (by decide) (by decide) (by decide), u2374 113 (by decide) (by decide) (by decide), u2374 114 (by decide) (by decide) (by decide), u2374 115 (by decide) (by decide) (by decide), u2374 116 (by decide) (by decide) (by decide), u2371 12 24 _ (by decide), u2371 12 25 _ (by decide), u2371 12 26 _ (by decide), u2371 12 27 _ (by decide), fun z => by omega⟩
                have f2383 := cb_12_24 i2369 k_a0
                have f2384 : (q_I r2367.2 12 24 a0).toInt = (q_I r2341.2 12 24 a0).toInt := congrArg Int32.toInt (u2371 12 24 a0 (by decide))
                have f2385 := cb_12_24 i2343 k_a0
                have f2386 : (q_I r2341.2 12 24 a0).toInt = (q_I r2173 12 24 a0).toInt := congrArg Int32.toInt (u2347 12 24 a0 (by decide))
                have f2387 := cb_12_24 i2211 k_a0
                have f2388 : (q_I r2173 12 24 a0).toInt = (q_I r2157 12 24 a0).toInt := congrArg Int32.toInt (u2218 12 24 a0 (by decide))
                refine ok_ite (fun h2389 => ?_) (fun h2389 => ?_)
                · have c2390 : r2367.1.toInt = (q_I r2367.2 12 24 a0).toInt := o_eq h2389
                  obtain ⟨b2391, o2392, k2393, n2394⟩ := gO_12_28 L k_a0
                  obtain rfl := gS_12_28 L k_a0 o2392
                  refine ok_at o2392 ?_
                  have t2395 := ti_tn (q_I r2367.2 12 24 a0)
                  refine ok_gd (fun hc2396 => ?_) ?_
                  · rcases hc2396 with hc2396 | hc2396
                    · have c2397 : (q_I r2367.2 12 24 a0).toInt < (0 : Int) := o_lt hc2396
                      omega
                    · omega
                  have f2401 := cb_12_25 i2369 k_a0
                  have f2402 : (q_I r2367.2 12 25 a0).toInt = (q_I r2341.2 12 25 a0).toInt := congrArg Int32.toInt (u2371 12 25 a0 (by decide))
                  have f2403 := cb_12_25 i2343 k_a0
                  have f2404 : (q_I r2341.2 12 25 a0).toInt = (q_I r2173 12 25 a0).toInt := congrArg Int32.toInt (u2347 12 25 a0 (by decide))
                  have f2405 := cb_12_25 i2211 k_a0
                  refine ok_bdv (fun d2398 e2399 => ?_)
                  have i2400 : RI ad h.1 δ0 d2398 := by rw [e2399]; exact cr_112 L i2369 (show 0 ≤ (q_I r2367.2 12 25 a0).toInt by omega) (show (q_I r2367.2 12 25 a0).toInt ≤ 60 by omega)
                  have u2406 := kp_N u2375 (show q_I d2398 = q_I r2367.2 by rw [e2399]; rfl)
                  have v2407 : q_V d2398 = q_V δ := ((show q_V d2398 = q_V r2367.2 by rw [e2399]; rfl)).trans v2376
                  have v2408 := kr_s L (by decide) v2377 e2399
                  have f2412 := cb_12_24 i2400 k_a0
                  have f2413 : (q_I d2398 12 24 a0).toInt = (q_I r2367.2 12 24 a0).toInt := congrArg Int32.toInt (by rw [e2399]; rfl)
                  first | (have q2415 := te_addc (c := 1) (n := 1) rfl (q_I d2398 12 24 a0) (by omega) (by omega); obtain ⟨f2416, f2417, f2418⟩ := q2415) | (obtain ⟨q2415, f2416, f2417, f2418⟩ := ti_addc (c := 1) (n := 1) rfl (q_I d2398 12 24 a0))
                  refine ok_bdv (fun d2409 e2410 => ?_)
                  have i2411 : RI ad h.1 δ0 d2409 := by rw [e2410]; exact cs_12_24 L i2400 k_a0 (show 0 ≤ ((q_I d2398 12 24 a0) + (1 : Int32)).toInt by omega) (show ((q_I d2398 12 24 a0) + (1 : Int32)).toInt ≤ 4 by omega)
                  have u2419 := kp_I u2406 e2410
                  have v2420 : q_V d2409 = q_V δ := ((show q_V d2409 = q_V d2398 by rw [e2410]; rfl)).trans v2407
                  have v2421 := kr_N v2408 (show q_R d2409 = q_R d2398 by rw [e2410]; rfl)
                  unfold J_X12_thief_146
                  have ss2422 : NS ad a0 δ d1 := NS.t NS.r (NS.w e2 (by decide))
                  have ss2423 : NS0 ad a0 δ r2035.2 := NS0.t (NS.z ss2422) (NS.z ns2052)
                  have ss2424 : NS0 ad a0 δ r2065 := NS0.t ss2423 ns2085
                  have ns2426 : NS ad a0 d2111 r2117.2 := NS.t NS.r ns2146
                  have ns2427 : NS ad a0 d2111 r2157 := NS.t ns2426 ns2172
                  have ns2428 : NS ad a0 r2173 r2341.2 := NS.t NS.r ns2362
                  have ns2429 : NS ad a0 r2173 r2367.2 := NS.t ns2428 ns2380
                  have f2430 := cb_12_26 i2369 k_a0
                  have f2431 : (q_I r2367.2 12 26 a0).toInt = (q_I r2341.2 12 26 a0).toInt := congrArg Int32.toInt (u2371 12 26 a0 (by decide))
                  have f2432 := cb_12_26 i2343 k_a0
                  have f2433 : (q_I r2341.2 12 26 a0).toInt = (q_I r2173 12 26 a0).toInt := congrArg Int32.toInt (u2347 12 26 a0 (by decide))
                  have ss2425 : TK ad a0 δ d2409 := TK.good L ss2424 e2100 e2106 e2112 ns2427 p2217 (u2220 112 (by decide) (by decide) (by decide)) ns2429 (show (0 : Int) = 0 by omega) (show (0 : Int) = 0 by omega) (show (0 : Int) = 0 by omega) (by omega) e2399 e2410 (show (((q_I r2367.2 12 24 a0).toNatClampNeg : Nat) : Int) = (q_I δ 12 24 a0).toInt by omega) (show (q_I r2367.2 12 25 a0).toInt = (q_I r2367.2 12 25 a0).toInt by omega) (show ((q_I d2398 12 24 a0) + (1 : Int32)).toInt = (q_I δ 12 24 a0).toInt + 1 by omega) (show (q_I r2367.2 12 5 a0).toInt = -1 by omega) (show (q_I r2367.2 12 26 a0).toInt ≤ 500 by omega)
                  have f2434 := cb_12_2 i2411 k_a0
                  have f2435 : (q_I d2409 12 2 a0).toInt = (q_I d2398 12 2 a0).toInt := congrArg Int32.toInt (by rw [e2410]; exact rI_o (by decide))
                  have f2436 := cb_12_2 i2400 k_a0
                  have f2437 : (q_I d2398 12 2 a0).toInt = (q_I r2367.2 12 2 a0).toInt := congrArg Int32.toInt (by rw [e2399]; rfl)
                  have f2438 := cb_12_2 i2369 k_a0
                  have f2439 : (q_I r2367.2 12 2 a0).toInt = (q_I r2341.2 12 2 a0).toInt := congrArg Int32.toInt (u2371 12 2 a0 (by decide))
                  have f2440 := cb_12_2 i2343 k_a0
                  have f2441 : (q_I r2341.2 12 2 a0).toInt = (q_I r2173 12 2 a0).toInt := congrArg Int32.toInt (u2347 12 2 a0 (by decide))
                  have f2442 := cb_12_2 i2211 k_a0
                  have f2443 : (q_I r2173 12 2 a0).toInt = (q_I r2157 12 2 a0).toInt := congrArg Int32.toInt (u2218 12 2 a0 (by decide))
                  have f2444 := cb_12_2 i2161 k_a0
                  have f2445 : (q_I r2157 12 2 a0).toInt = (q_I r2117.2 12 2 a0).toInt := congrArg Int32.toInt (u2164 12 2 a0 (by decide))
                  have f2446 := cb_12_2 i2119 k_a0
                  have f2447 : (q_I r2117.2 12 2 a0).toInt = (q_I d2111 12 2 a0).toInt := congrArg Int32.toInt (u2123 12 2 a0 (by decide))
                  have f2448 := cb_12_2 i2113 k_a0
                  have f2449 : (q_I d2111 12 2 a0).toInt = (q_I d2105 12 2 a0).toInt := congrArg Int32.toInt (by rw [e2112]; exact rI_o (by decide))
                  have f2450 := cb_12_2 i2107 k_a0
                  have f2451 : (q_I d2105 12 2 a0).toInt = (q_I d2099 12 2 a0).toInt := congrArg Int32.toInt (by rw [e2106]; exact rI_o (by decide))
                  have f2452 := cb_12_2 i2101 k_a0
                  have f2453 : (q_I d2099 12 2 a0).toInt = (q_I r2065 12 2 a0).toInt := congrArg Int32.toInt (by rw [e2100]; exact rI_o (by decide))
                  exact ok_some (show RI ad h.1 δ0 d2409 ∧ (kp [(12, 0), (12, 2), (12, 3), (12, 4), (12, 5), (12, 6), (12, 7), (12, 8), (12, 24), (12, 25), (12, 26), (12, 27)] δ d2409 ∧ q_V d2409 = q_V δ ∧ kr ad [100, 112, 113, 114, 115, 116, 117] δ d2409) ∧ TK ad a0 δ d2409 ∧ (0 ≤ (x1).toInt ∧ (x1).toInt ≤ (q_I δ 12 2 a0).toInt → (q_I d2409 12 2 a0).toInt = 0) ∧ ((x1).toInt < 0 ∨ (q_I δ 12 2 a0).toInt < (x1).toInt → (q_I d2409 12 2 a0).toInt = (q_I δ 12 2 a0).toInt) from ⟨i2411, ⟨kp_w (by decide) u2419, v2420, kr_w (by decide) v2421⟩, ss2425, by first | assumption | omega, by first | assumption | omega⟩)
                · have c2454 : r2367.1.toInt ≠ (q_I r2367.2 12 24 a0).toInt := o_ne h2389
                  unfold J_X12_thief_146
                  have ss2455 : NS ad a0 δ d1 := NS.t NS.r (NS.w e2 (by decide))
                  have ss2456 : NS0 ad a0 δ r2035.2 := NS0.t (NS.z ss2455) (NS.z ns2052)
                  have ss2457 : NS0 ad a0 δ r2065 := NS0.t ss2456 ns2085
                  have ns2459 : NS ad a0 d2111 r2117.2 := NS.t NS.r ns2146
                  have ns2460 : NS ad a0 d2111 r2157 := NS.t ns2459 ns2172
                  have ns2461 : NS ad a0 r2173 r2341.2 := NS.t NS.r ns2362
                  have ns2462 : NS ad a0 r2173 r2367.2 := NS.t ns2461 ns2380
                  have ss2458 : TK ad a0 δ r2367.2 := TK.bad L ss2457 e2100 e2106 e2112 ns2460 p2217 (u2220 112 (by decide) (by decide) (by decide)) ns2462 (show (0 : Int) = 0 by omega) (show (0 : Int) = 0 by omega) (show (0 : Int) = 0 by omega) (by omega)
                  have f2463 := cb_12_2 i2369 k_a0
                  have f2464 : (q_I r2367.2 12 2 a0).toInt = (q_I r2341.2 12 2 a0).toInt := congrArg Int32.toInt (u2371 12 2 a0 (by decide))
                  have f2465 := cb_12_2 i2343 k_a0
                  have f2466 : (q_I r2341.2 12 2 a0).toInt = (q_I r2173 12 2 a0).toInt := congrArg Int32.toInt (u2347 12 2 a0 (by decide))
                  have f2467 := cb_12_2 i2211 k_a0
                  have f2468 : (q_I r2173 12 2 a0).toInt = (q_I r2157 12 2 a0).toInt := congrArg Int32.toInt (u2218 12 2 a0 (by decide))
                  have f2469 := cb_12_2 i2161 k_a0
                  have f2470 : (q_I r2157 12 2 a0).toInt = (q_I r2117.2 12 2 a0).toInt := congrArg Int32.toInt (u2164 12 2 a0 (by decide))
                  have f2471 := cb_12_2 i2119 k_a0
                  have f2472 : (q_I r2117.2 12 2 a0).toInt = (q_I d2111 12 2 a0).toInt := congrArg Int32.toInt (u2123 12 2 a0 (by decide))
                  have f2473 := cb_12_2 i2113 k_a0
                  have f2474 : (q_I d2111 12 2 a0).toInt = (q_I d2105 12 2 a0).toInt := congrArg Int32.toInt (by rw [e2112]; exact rI_o (by decide))
                  have f2475 := cb_12_2 i2107 k_a0
                  have f2476 : (q_I d2105 12 2 a0).toInt = (q_I d2099 12 2 a0).toInt := congrArg Int32.toInt (by rw [e2106]; exact rI_o (by decide))
                  have f2477 := cb_12_2 i2101 k_a0
                  have f2478 : (q_I d2099 12 2 a0).toInt = (q_I r2065 12 2 a0).toInt := congrArg Int32.toInt (by rw [e2100]; exact rI_o (by decide))
                  exact ok_some (show RI ad h.1 δ0 r2367.2 ∧ (kp [(12, 0), (12, 2), (12, 3), (12, 4), (12, 5), (12, 6), (12, 7), (12, 8), (12, 24), (12, 25), (12, 26), (12, 27)] δ r2367.2 ∧ q_V r2367.2 = q_V δ ∧ kr ad [100, 112, 113, 114, 115, 116, 117] δ r2367.2) ∧ TK ad a0 δ r2367.2 ∧ (0 ≤ (x1).toInt ∧ (x1).toInt ≤ (q_I δ 12 2 a0).toInt → (q_I r2367.2 12 2 a0).toInt = 0) ∧ ((x1).toInt < 0 ∨ (q_I δ 12 2 a0).toInt < (x1).toInt → (q_I r2367.2 12 2 a0).toInt = (q_I δ 12 2 a0).toInt) from ⟨i2369, ⟨kp_w (by decide) u2375, v2376, kr_w (by decide) v2377⟩, ss2458, by first | assumption | omega, by first | assumption | omega⟩)
              · have c2479 : r2341.1.toInt ≠ (0 : Int) := o_ne h2365
                refine ok_bind (k_X12_wrong L hN (a0 := a0) (x1 := (1 : Int32)) (x2 := (q_I r2341.2 12 4 a0)) k_a0 (show 0 ≤ ((q_I r2341.2 12 4 a0)).toInt by first | assumption | omega) (show ((q_I r2341.2 12 4 a0)).toInt ≤ 500 by first | assumption | omega) (show 0 ≤ (1 : Int) by first | assumption | omega) (show (1 : Int) ≤ 4 by first | assumption | omega) i2343) (fun r2480 hr2481 => ?_)
                obtain ⟨i2482, ⟨u2485, u2486, u2487, u2488⟩, p2483, p2484⟩ := hr2481
                have u2489 := kp_t u2351 u2485
                have v2490 : q_V r2480 = q_V δ := (u2486).trans v2352
                have v2491 := kr_t v2353 u2488
                have f2492 := cb_12_5 i2482 k_a0
                have ns2493 : NS ad a0 r2341.2 r2480 := ⟨u2488 112 (by decide) (by decide) (by decide), u2488 113 (by decide) (by decide) (by decide), u2488 114 (by decide) (by decide) (by decide), u2488 115 (by decide) (by decide) (by decide), u2488 116 (by decide) (by decide) (by decide), u2485 12 24 _ (by decide), u2485 12 25 _ (by decide), u2485 12 26 _ (by decide), u2485 12 27 _ (by decide), fun z => by omega⟩
                unfold J_X12_thief_106
                refine ok_bind (k_X12_result L hN (a0 := a0) (x1 := (q_I r2480 12 24 a0)) k_a0 i2482) (fun r2494 hr2495 => ?_)
                obtain ⟨i2496, ⟨u2498, u2499, u2500, u2501⟩, p2497⟩ := hr2495
                have u2502 := kp_t u2489 u2498
                have v2503 : q_V r2494.2 = q_V δ := (u2499).trans v2490
                have v2504 := kr_t v2491 u2501
                have f2505 := ti_b r2494.1
                have f2506 := ti_b r2494.1
                have f2508 := cb_12_5 i2496 k_a0
                have f2509 : (q_I r2494.2 12 5 a0).toInt = (q_I r2480 12 5 a0).toInt := congrArg Int32.toInt (u2498 12 5 a0 (by decide))
                have ns2507 : NS ad a0 r2480 r2494.2 := ⟨u2501 112 (by decide) (by decide) (by decide), u2501 113 (by decide) (by decide) (by decide), u2501 114 (by decide) (by decide) (by decide), u2501 115 (by decide) (by decide) (by decide), u2501 116 (by decide) (by decide) (by decide), u2498 12 24 _ (by decide), u2498 12 25 _ (by decide), u2498 12 26 _ (by decide), u2498 12 27 _ (by decide), fun z => by omega⟩
                have f2510 := cb_12_24 i2496 k_a0
                have f2511 : (q_I r2494.2 12 24 a0).toInt = (q_I r2480 12 24 a0).toInt := congrArg Int32.toInt (u2498 12 24 a0 (by decide))
                have f2512 := cb_12_24 i2482 k_a0
                have f2513 : (q_I r2480 12 24 a0).toInt = (q_I r2341.2 12 24 a0).toInt := congrArg Int32.toInt (u2485 12 24 a0 (by decide))
                have f2514 := cb_12_24 i2343 k_a0
                have f2515 : (q_I r2341.2 12 24 a0).toInt = (q_I r2173 12 24 a0).toInt := congrArg Int32.toInt (u2347 12 24 a0 (by decide))
                have f2516 := cb_12_24 i2211 k_a0
                have f2517 : (q_I r2173 12 24 a0).toInt = (q_I r2157 12 24 a0).toInt := congrArg Int32.toInt (u2218 12 24 a0 (by decide))
                refine ok_ite (fun h2518 => ?_) (fun h2518 => ?_)
                · have c2519 : r2494.1.toInt = (q_I r2494.2 12 24 a0).toInt := o_eq h2518
                  obtain ⟨b2520, o2521, k2522, n2523⟩ := gO_12_28 L k_a0
                  obtain rfl := gS_12_28 L k_a0 o2521
                  refine ok_at o2521 ?_
                  have t2524 := ti_tn (q_I r2494.2 12 24 a0)
                  refine ok_gd (fun hc2525 => ?_) ?_
                  · rcases hc2525 with hc2525 | hc2525
                    · have c2526 : (q_I r2494.2 12 24 a0).toInt < (0 : Int) := o_lt hc2525
                      omega
                    · omega
                  have f2530 := cb_12_25 i2496 k_a0
                  have f2531 : (q_I r2494.2 12 25 a0).toInt = (q_I r2480 12 25 a0).toInt := congrArg Int32.toInt (u2498 12 25 a0 (by decide))
                  have f2532 := cb_12_25 i2482 k_a0
                  have f2533 : (q_I r2480 12 25 a0).toInt = (q_I r2341.2 12 25 a0).toInt := congrArg Int32.toInt (u2485 12 25 a0 (by decide))
                  have f2534 := cb_12_25 i2343 k_a0
                  have f2535 : (q_I r2341.2 12 25 a0).toInt = (q_I r2173 12 25 a0).toInt := congrArg Int32.toInt (u2347 12 25 a0 (by decide))
                  have f2536 := cb_12_25 i2211 k_a0
                  refine ok_bdv (fun d2527 e2528 => ?_)
                  have i2529 : RI ad h.1 δ0 d2527 := by rw [e2528]; exact cr_112 L i2496 (show 0 ≤ (q_I r2494.2 12 25 a0).toInt by omega) (show (q_I r2494.2 12 25 a0).toInt ≤ 60 by omega)
                  have u2537 := kp_N u2502 (show q_I d2527 = q_I r2494.2 by rw [e2528]; rfl)
                  have v2538 : q_V d2527 = q_V δ := ((show q_V d2527 = q_V r2494.2 by rw [e2528]; rfl)).trans v2503
                  have v2539 := kr_s L (by decide) v2504 e2528
                  have f2543 := cb_12_24 i2529 k_a0
                  have f2544 : (q_I d2527 12 24 a0).toInt = (q_I r2494.2 12 24 a0).toInt := congrArg Int32.toInt (by rw [e2528]; rfl)
                  first | (have q2546 := te_addc (c := 1) (n := 1) rfl (q_I d2527 12 24 a0) (by omega) (by omega); obtain ⟨f2547, f2548, f2549⟩ := q2546) | (obtain ⟨q2546, f2547, f2548, f2549⟩ := ti_addc (c := 1) (n := 1) rfl (q_I d2527 12 24 a0))
                  refine ok_bdv (fun d2540 e2541 => ?_)
                  have i2542 : RI ad h.1 δ0 d2540 := by rw [e2541]; exact cs_12_24 L i2529 k_a0 (show 0 ≤ ((q_I d2527 12 24 a0) + (1 : Int32)).toInt by omega) (show ((q_I d2527 12 24 a0) + (1 : Int32)).toInt ≤ 4 by omega)
                  have u2550 := kp_I u2537 e2541
                  have v2551 : q_V d2540 = q_V δ := ((show q_V d2540 = q_V d2527 by rw [e2541]; rfl)).trans v2538
                  have v2552 := kr_N v2539 (show q_R d2540 = q_R d2527 by rw [e2541]; rfl)
                  unfold J_X12_thief_146
                  have ss2553 : NS ad a0 δ d1 := NS.t NS.r (NS.w e2 (by decide))
                  have ss2554 : NS0 ad a0 δ r2035.2 := NS0.t (NS.z ss2553) (NS.z ns2052)
                  have ss2555 : NS0 ad a0 δ r2065 := NS0.t ss2554 ns2085
                  have ns2557 : NS ad a0 d2111 r2117.2 := NS.t NS.r ns2146
                  have ns2558 : NS ad a0 d2111 r2157 := NS.t ns2557 ns2172
                  have ns2559 : NS ad a0 r2173 r2341.2 := NS.t NS.r ns2362
                  have ns2560 : NS ad a0 r2173 r2480 := NS.t ns2559 ns2493
                  have ns2561 : NS ad a0 r2173 r2494.2 := NS.t ns2560 ns2507
                  have f2562 := cb_12_26 i2496 k_a0
                  have f2563 : (q_I r2494.2 12 26 a0).toInt = (q_I r2480 12 26 a0).toInt := congrArg Int32.toInt (u2498 12 26 a0 (by decide))
                  have f2564 := cb_12_26 i2482 k_a0
                  have f2565 : (q_I r2480 12 26 a0).toInt = (q_I r2341.2 12 26 a0).toInt := congrArg Int32.toInt (u2485 12 26 a0 (by decide))
                  have f2566 := cb_12_26 i2343 k_a0
                  have f2567 : (q_I r2341.2 12 26 a0).toInt = (q_I r2173 12 26 a0).toInt := congrArg Int32.toInt (u2347 12 26 a0 (by decide))
                  have ss2556 : TK ad a0 δ d2540 := TK.good L ss2555 e2100 e2106 e2112 ns2558 p2217 (u2220 112 (by decide) (by decide) (by decide)) ns2561 (show (0 : Int) = 0 by omega) (show (0 : Int) = 0 by omega) (show (0 : Int) = 0 by omega) (by omega) e2528 e2541 (show (((q_I r2494.2 12 24 a0).toNatClampNeg : Nat) : Int) = (q_I δ 12 24 a0).toInt by omega) (show (q_I r2494.2 12 25 a0).toInt = (q_I r2494.2 12 25 a0).toInt by omega) (show ((q_I d2527 12 24 a0) + (1 : Int32)).toInt = (q_I δ 12 24 a0).toInt + 1 by omega) (show (q_I r2494.2 12 5 a0).toInt = -1 by omega) (show (q_I r2494.2 12 26 a0).toInt ≤ 500 by omega)
                  have f2568 := cb_12_2 i2542 k_a0
                  have f2569 : (q_I d2540 12 2 a0).toInt = (q_I d2527 12 2 a0).toInt := congrArg Int32.toInt (by rw [e2541]; exact rI_o (by decide))
                  have f2570 := cb_12_2 i2529 k_a0
                  have f2571 : (q_I d2527 12 2 a0).toInt = (q_I r2494.2 12 2 a0).toInt := congrArg Int32.toInt (by rw [e2528]; rfl)
                  have f2572 := cb_12_2 i2496 k_a0
                  have f2573 : (q_I r2494.2 12 2 a0).toInt = (q_I r2480 12 2 a0).toInt := congrArg Int32.toInt (u2498 12 2 a0 (by decide))
                  have f2574 := cb_12_2 i2482 k_a0
                  have f2575 : (q_I r2480 12 2 a0).toInt = (q_I r2341.2 12 2 a0).toInt := congrArg Int32.toInt (u2485 12 2 a0 (by decide))
                  have f2576 := cb_12_2 i2343 k_a0
                  have f2577 : (q_I r2341.2 12 2 a0).toInt = (q_I r2173 12 2 a0).toInt := congrArg Int32.toInt (u2347 12 2 a0 (by decide))
                  have f2578 := cb_12_2 i2211 k_a0
                  have f2579 : (q_I r2173 12 2 a0).toInt = (q_I r2157 12 2 a0).toInt := congrArg Int32.toInt (u2218 12 2 a0 (by decide))
                  have f2580 := cb_12_2 i2161 k_a0
                  have f2581 : (q_I r2157 12 2 a0).toInt = (q_I r2117.2 12 2 a0).toInt := congrArg Int32.toInt (u2164 12 2 a0 (by decide))
                  have f2582 := cb_12_2 i2119 k_a0
                  have f2583 : (q_I r2117.2 12 2 a0).toInt = (q_I d2111 12 2 a0).toInt := congrArg Int32.toInt (u2123 12 2 a0 (by decide))
                  have f2584 := cb_12_2 i2113 k_a0
                  have f2585 : (q_I d2111 12 2 a0).toInt = (q_I d2105 12 2 a0).toInt := congrArg Int32.toInt (by rw [e2112]; exact rI_o (by decide))
                  have f2586 := cb_12_2 i2107 k_a0
                  have f2587 : (q_I d2105 12 2 a0).toInt = (q_I d2099 12 2 a0).toInt := congrArg Int32.toInt (by rw [e2106]; exact rI_o (by decide))
                  have f2588 := cb_12_2 i2101 k_a0
                  have f2589 : (q_I d2099 12 2 a0).toInt = (q_I r2065 12 2 a0).toInt := congrArg Int32.toInt (by rw [e2100]; exact rI_o (by decide))
                  exact ok_some (show RI ad h.1 δ0 d2540 ∧ (kp [(12, 0), (12, 2), (12, 3), (12, 4), (12, 5), (12, 6), (12, 7), (12, 8), (12, 24), (12, 25), (12, 26), (12, 27)] δ d2540 ∧ q_V d2540 = q_V δ ∧ kr ad [100, 112, 113, 114, 115, 116, 117] δ d2540) ∧ TK ad a0 δ d2540 ∧ (0 ≤ (x1).toInt ∧ (x1).toInt ≤ (q_I δ 12 2 a0).toInt → (q_I d2540 12 2 a0).toInt = 0) ∧ ((x1).toInt < 0 ∨ (q_I δ 12 2 a0).toInt < (x1).toInt → (q_I d2540 12 2 a0).toInt = (q_I δ 12 2 a0).toInt) from ⟨i2542, ⟨kp_w (by decide) u2550, v2551, kr_w (by decide) v2552⟩, ss2556, by first | assumption | omega, by first | assumption | omega⟩)
                · have c2590 : r2494.1.toInt ≠ (q_I r2494.2 12 24 a0).toInt := o_ne h2518
                  unfold J_X12_thief_146
                  have ss2591 : NS ad a0 δ d1 := NS.t NS.r (NS.w e2 (by decide))
                  have ss2592 : NS0 ad a0 δ r2035.2 := NS0.t (NS.z ss2591) (NS.z ns2052)
                  have ss2593 : NS0 ad a0 δ r2065 := NS0.t ss2592 ns2085
                  have ns2595 : NS ad a0 d2111 r2117.2 := NS.t NS.r ns2146
                  have ns2596 : NS ad a0 d2111 r2157 := NS.t ns2595 ns2172
                  have ns2597 : NS ad a0 r2173 r2341.2 := NS.t NS.r ns2362
                  have ns2598 : NS ad a0 r2173 r2480 := NS.t ns2597 ns2493
                  have ns2599 : NS ad a0 r2173 r2494.2 := NS.t ns2598 ns2507
                  have ss2594 : TK ad a0 δ r2494.2 := TK.bad L ss2593 e2100 e2106 e2112 ns2596 p2217 (u2220 112 (by decide) (by decide) (by decide)) ns2599 (show (0 : Int) = 0 by omega) (show (0 : Int) = 0 by omega) (show (0 : Int) = 0 by omega) (by omega)
                  have f2600 := cb_12_2 i2496 k_a0
                  have f2601 : (q_I r2494.2 12 2 a0).toInt = (q_I r2480 12 2 a0).toInt := congrArg Int32.toInt (u2498 12 2 a0 (by decide))
                  have f2602 := cb_12_2 i2482 k_a0
                  have f2603 : (q_I r2480 12 2 a0).toInt = (q_I r2341.2 12 2 a0).toInt := congrArg Int32.toInt (u2485 12 2 a0 (by decide))
                  have f2604 := cb_12_2 i2343 k_a0
                  have f2605 : (q_I r2341.2 12 2 a0).toInt = (q_I r2173 12 2 a0).toInt := congrArg Int32.toInt (u2347 12 2 a0 (by decide))
                  have f2606 := cb_12_2 i2211 k_a0
                  have f2607 : (q_I r2173 12 2 a0).toInt = (q_I r2157 12 2 a0).toInt := congrArg Int32.toInt (u2218 12 2 a0 (by decide))
                  have f2608 := cb_12_2 i2161 k_a0
                  have f2609 : (q_I r2157 12 2 a0).toInt = (q_I r2117.2 12 2 a0).toInt := congrArg Int32.toInt (u2164 12 2 a0 (by decide))
                  have f2610 := cb_12_2 i2119 k_a0
                  have f2611 : (q_I r2117.2 12 2 a0).toInt = (q_I d2111 12 2 a0).toInt := congrArg Int32.toInt (u2123 12 2 a0 (by decide))
                  have f2612 := cb_12_2 i2113 k_a0
                  have f2613 : (q_I d2111 12 2 a0).toInt = (q_I d2105 12 2 a0).toInt := congrArg Int32.toInt (by rw [e2112]; exact rI_o (by decide))
                  have f2614 := cb_12_2 i2107 k_a0
                  have f2615 : (q_I d2105 12 2 a0).toInt = (q_I d2099 12 2 a0).toInt := congrArg Int32.toInt (by rw [e2106]; exact rI_o (by decide))
                  have f2616 := cb_12_2 i2101 k_a0
                  have f2617 : (q_I d2099 12 2 a0).toInt = (q_I r2065 12 2 a0).toInt := congrArg Int32.toInt (by rw [e2100]; exact rI_o (by decide))
                  exact ok_some (show RI ad h.1 δ0 r2494.2 ∧ (kp [(12, 0), (12, 2), (12, 3), (12, 4), (12, 5), (12, 6), (12, 7), (12, 8), (12, 24), (12, 25), (12, 26), (12, 27)] δ r2494.2 ∧ q_V r2494.2 = q_V δ ∧ kr ad [100, 112, 113, 114, 115, 116, 117] δ r2494.2) ∧ TK ad a0 δ r2494.2 ∧ (0 ≤ (x1).toInt ∧ (x1).toInt ≤ (q_I δ 12 2 a0).toInt → (q_I r2494.2 12 2 a0).toInt = 0) ∧ ((x1).toInt < 0 ∨ (q_I δ 12 2 a0).toInt < (x1).toInt → (q_I r2494.2 12 2 a0).toInt = (q_I δ 12 2 a0).toInt) from ⟨i2496, ⟨kp_w (by decide) u2502, v2503, kr_w (by decide) v2504⟩, ss2594, by first | assumption | omega, by first | assumption | omega⟩)
          · have c2618 : r2117.1.toInt ≠ (0 : Int) := o_ne h2155
            unfold J_X12_thief_79
            have f2621 := cb_12_24 i2119 k_a0
            have f2622 : (q_I r2117.2 12 24 a0).toInt = (q_I d2111 12 24 a0).toInt := congrArg Int32.toInt (u2123 12 24 a0 (by decide))
            have f2623 := cb_12_24 i2113 k_a0
            have f2624 : (q_I d2111 12 24 a0).toInt = (q_I d2105 12 24 a0).toInt := congrArg Int32.toInt (by rw [e2112]; exact rI_o (by decide))
            have f2625 := cb_12_24 i2107 k_a0
            have f2626 : (q_I d2105 12 24 a0).toInt = (q_I d2099 12 24 a0).toInt := congrArg Int32.toInt (by rw [e2106]; exact rI_o (by decide))
            have f2627 := cb_12_24 i2101 k_a0
            have f2628 : (q_I d2099 12 24 a0).toInt = (q_I r2065 12 24 a0).toInt := congrArg Int32.toInt (by rw [e2100]; exact rI_o (by decide))
            have f2629 := cb_12_26 i2119 k_a0
            have f2630 : (q_I r2117.2 12 26 a0).toInt = (q_I d2111 12 26 a0).toInt := congrArg Int32.toInt (u2123 12 26 a0 (by decide))
            have f2631 := cb_12_26 i2113 k_a0
            have f2632 : (q_I d2111 12 26 a0).toInt = (q_I d2105 12 26 a0).toInt := congrArg Int32.toInt (by rw [e2112]; exact rI_o (by decide))
            have f2633 := cb_12_26 i2107 k_a0
            have f2634 : (q_I d2105 12 26 a0).toInt = (0 : Int) := congrArg Int32.toInt (show q_I d2105 12 26 a0 = (0 : Int32) by rw [e2106]; exact rI_s)
            have f2635 := ti_b (q_I r2117.2 12 7 a0)
            have f2636 : (q_I r2117.2 12 7 a0).toInt = (q_I d2111 12 7 a0).toInt := congrArg Int32.toInt (u2123 12 7 a0 (by decide))
            have f2637 := ti_b (q_I d2111 12 7 a0)
            have f2638 : (q_I d2111 12 7 a0).toInt = (q_I d2105 12 7 a0).toInt := congrArg Int32.toInt (by rw [e2112]; exact rI_o (by decide))
            have f2639 := ti_b (q_I d2105 12 7 a0)
            have f2640 : (q_I d2105 12 7 a0).toInt = (q_I d2099 12 7 a0).toInt := congrArg Int32.toInt (by rw [e2106]; exact rI_o (by decide))
            have f2641 := ti_b (q_I d2099 12 7 a0)
            have f2642 : (q_I d2099 12 7 a0).toInt = (q_I r2065 12 7 a0).toInt := congrArg Int32.toInt (by rw [e2100]; exact rI_o (by decide))
            have f2643 := cb_12_27 i2119 k_a0
            have f2644 : (q_I r2117.2 12 27 a0).toInt = (q_I d2111 12 27 a0).toInt := congrArg Int32.toInt (u2123 12 27 a0 (by decide))
            have f2645 := cb_12_27 i2113 k_a0
            have f2646 : (q_I d2111 12 27 a0).toInt = (0 : Int) := congrArg Int32.toInt (show q_I d2111 12 27 a0 = (0 : Int32) by rw [e2112]; exact rI_s)
            refine ok_bind (k_X12_readSteps L hN (a0 := a0) k_a0 (show (q_I r2117.2 12 24 a0).toInt ≤ 3 by first | assumption | omega) (show (q_I r2117.2 12 26 a0).toInt ≤ (q_I r2117.2 12 4 a0).toInt by first | assumption | omega) (show (q_I r2117.2 12 7 a0).toInt = 0 by first | assumption | omega) (show 4 - (q_I r2117.2 12 27 a0).toInt < 20 by first | assumption | omega) i2119) (fun r2619 hr2620 => ?_)
            obtain ⟨i2647, ⟨u2654, u2655, u2656⟩, p2648, p2649, p2650, p2651, p2652, p2653⟩ := hr2620
            have u2657 := kp_t u2127 u2654
            have v2658 : q_V r2619 = q_V δ := (u2655).trans v2128
            have v2659 := kr_t v2129 u2656
            have f2660 := cb_12_4 i2647 k_a0
            have f2661 := cb_12_5 i2647 k_a0
            have f2662 := ti_b (q_I r2619 12 7 a0)
            have f2663 := cb_12_27 i2647 k_a0
            have f2664 := cb_12_26 i2647 k_a0
            refine ok_bind (k_X12_fine L hN (a0 := a0) k_a0 i2647) (fun r2665 hr2666 => ?_)
            obtain ⟨i2667, p2668, p2669, p2670⟩ := hr2666
            try rw [i2667]
            have f2671 := bo_l p2668
            have f2672 := ti_b r2665.1
            have f2673 := ti_b r2665.1
            refine ok_ite (fun h2674 => ?_) (fun h2674 => ?_)
            · have c2675 : r2665.1.toInt = (0 : Int) := o_eq h2674
              unfold J_X12_thief_106
              refine ok_bind (k_X12_result L hN (a0 := a0) (x1 := (q_I r2619 12 24 a0)) k_a0 i2647) (fun r2676 hr2677 => ?_)
              obtain ⟨i2678, ⟨u2680, u2681, u2682, u2683⟩, p2679⟩ := hr2677
              have u2684 := kp_t u2657 u2680
              have v2685 : q_V r2676.2 = q_V δ := (u2681).trans v2658
              have v2686 := kr_t v2659 u2683
              have f2687 := ti_b r2676.1
              have f2688 := ti_b r2676.1
              have f2690 := cb_12_5 i2678 k_a0
              have f2691 : (q_I r2676.2 12 5 a0).toInt = (q_I r2619 12 5 a0).toInt := congrArg Int32.toInt (u2680 12 5 a0 (by decide))
              have ns2689 : NS ad a0 r2619 r2676.2 := ⟨u2683 112 (by decide) (by decide) (by decide), u2683 113 (by decide) (by decide) (by decide), u2683 114 (by decide) (by decide) (by decide), u2683 115 (by decide) (by decide) (by decide), u2683 116 (by decide) (by decide) (by decide), u2680 12 24 _ (by decide), u2680 12 25 _ (by decide), u2680 12 26 _ (by decide), u2680 12 27 _ (by decide), fun z => by omega⟩
              have f2692 := cb_12_24 i2678 k_a0
              have f2693 : (q_I r2676.2 12 24 a0).toInt = (q_I r2619 12 24 a0).toInt := congrArg Int32.toInt (u2680 12 24 a0 (by decide))
              have f2694 := cb_12_24 i2647 k_a0
              have f2695 : (q_I r2619 12 24 a0).toInt = (q_I r2117.2 12 24 a0).toInt := congrArg Int32.toInt (u2654 12 24 a0 (by decide))
              refine ok_ite (fun h2696 => ?_) (fun h2696 => ?_)
              · have c2697 : r2676.1.toInt = (q_I r2676.2 12 24 a0).toInt := o_eq h2696
                obtain ⟨b2698, o2699, k2700, n2701⟩ := gO_12_28 L k_a0
                obtain rfl := gS_12_28 L k_a0 o2699
                refine ok_at o2699 ?_
                have t2702 := ti_tn (q_I r2676.2 12 24 a0)
                refine ok_gd (fun hc2703 => ?_) ?_
                · rcases hc2703 with hc2703 | hc2703
                  · have c2704 : (q_I r2676.2 12 24 a0).toInt < (0 : Int) := o_lt hc2703
                    omega
                  · omega
                have f2708 := cb_12_25 i2678 k_a0
                have f2709 : (q_I r2676.2 12 25 a0).toInt = (q_I r2619 12 25 a0).toInt := congrArg Int32.toInt (u2680 12 25 a0 (by decide))
                have f2710 := cb_12_25 i2647 k_a0
                refine ok_bdv (fun d2705 e2706 => ?_)
                have i2707 : RI ad h.1 δ0 d2705 := by rw [e2706]; exact cr_112 L i2678 (show 0 ≤ (q_I r2676.2 12 25 a0).toInt by omega) (show (q_I r2676.2 12 25 a0).toInt ≤ 60 by omega)
                have u2711 := kp_N u2684 (show q_I d2705 = q_I r2676.2 by rw [e2706]; rfl)
                have v2712 : q_V d2705 = q_V δ := ((show q_V d2705 = q_V r2676.2 by rw [e2706]; rfl)).trans v2685
                have v2713 := kr_s L (by decide) v2686 e2706
                have f2717 := cb_12_24 i2707 k_a0
                have f2718 : (q_I d2705 12 24 a0).toInt = (q_I r2676.2 12 24 a0).toInt := congrArg Int32.toInt (by rw [e2706]; rfl)
                first | (have q2720 := te_addc (c := 1) (n := 1) rfl (q_I d2705 12 24 a0) (by omega) (by omega); obtain ⟨f2721, f2722, f2723⟩ := q2720) | (obtain ⟨q2720, f2721, f2722, f2723⟩ := ti_addc (c := 1) (n := 1) rfl (q_I d2705 12 24 a0))
                refine ok_bdv (fun d2714 e2715 => ?_)
                have i2716 : RI ad h.1 δ0 d2714 := by rw [e2715]; exact cs_12_24 L i2707 k_a0 (show 0 ≤ ((q_I d2705 12 24 a0) + (1 : Int32)).toInt by omega) (show ((q_I d2705 12 24 a0) + (1 : Int32)).toInt ≤ 4 by omega)
                have u2724 := kp_I u2711 e2715
                have v2725 : q_V d2714 = q_V δ := ((show q_V d2714 = q_V d2705 by rw [e2715]; rfl)).trans v2712
                have v2726 := kr_N v2713 (show q_R d2714 = q_R d2705 by rw [e2715]; rfl)
                unfold J_X12_thief_146
                have ss2727 : NS ad a0 δ d1 := NS.t NS.r (NS.w e2 (by decide))
                have ss2728 : NS0 ad a0 δ r2035.2 := NS0.t (NS.z ss2727) (NS.z ns2052)
                have ss2729 : NS0 ad a0 δ r2065 := NS0.t ss2728 ns2085
                have ns2731 : NS ad a0 d2111 r2117.2 := NS.t NS.r ns2146
                have ns2732 : NS ad a0 r2619 r2676.2 := NS.t NS.r ns2689
                have f2733 := cb_12_26 i2678 k_a0
                have f2734 : (q_I r2676.2 12 26 a0).toInt = (q_I r2619 12 26 a0).toInt := congrArg Int32.toInt (u2680 12 26 a0 (by decide))
                have ss2730 : TK ad a0 δ d2714 := TK.good L ss2729 e2100 e2106 e2112 ns2731 p2653 (u2656 112 (by decide) (by decide) (by decide)) ns2732 (show (0 : Int) = 0 by omega) (show (0 : Int) = 0 by omega) (show (0 : Int) = 0 by omega) (by omega) e2706 e2715 (show (((q_I r2676.2 12 24 a0).toNatClampNeg : Nat) : Int) = (q_I δ 12 24 a0).toInt by omega) (show (q_I r2676.2 12 25 a0).toInt = (q_I r2676.2 12 25 a0).toInt by omega) (show ((q_I d2705 12 24 a0) + (1 : Int32)).toInt = (q_I δ 12 24 a0).toInt + 1 by omega) (show (q_I r2676.2 12 5 a0).toInt = -1 by omega) (show (q_I r2676.2 12 26 a0).toInt ≤ 500 by omega)
                have f2735 := cb_12_2 i2716 k_a0
                have f2736 : (q_I d2714 12 2 a0).toInt = (q_I d2705 12 2 a0).toInt := congrArg Int32.toInt (by rw [e2715]; exact rI_o (by decide))
                have f2737 := cb_12_2 i2707 k_a0
                have f2738 : (q_I d2705 12 2 a0).toInt = (q_I r2676.2 12 2 a0).toInt := congrArg Int32.toInt (by rw [e2706]; rfl)
                have f2739 := cb_12_2 i2678 k_a0
                have f2740 : (q_I r2676.2 12 2 a0).toInt = (q_I r2619 12 2 a0).toInt := congrArg Int32.toInt (u2680 12 2 a0 (by decide))
                have f2741 := cb_12_2 i2647 k_a0
                have f2742 : (q_I r2619 12 2 a0).toInt = (q_I r2117.2 12 2 a0).toInt := congrArg Int32.toInt (u2654 12 2 a0 (by decide))
                have f2743 := cb_12_2 i2119 k_a0
                have f2744 : (q_I r2117.2 12 2 a0).toInt = (q_I d2111 12 2 a0).toInt := congrArg Int32.toInt (u2123 12 2 a0 (by decide))
                have f2745 := cb_12_2 i2113 k_a0
                have f2746 : (q_I d2111 12 2 a0).toInt = (q_I d2105 12 2 a0).toInt := congrArg Int32.toInt (by rw [e2112]; exact rI_o (by decide))
                have f2747 := cb_12_2 i2107 k_a0
                have f2748 : (q_I d2105 12 2 a0).toInt = (q_I d2099 12 2 a0).toInt := congrArg Int32.toInt (by rw [e2106]; exact rI_o (by decide))
                have f2749 := cb_12_2 i2101 k_a0
                have f2750 : (q_I d2099 12 2 a0).toInt = (q_I r2065 12 2 a0).toInt := congrArg Int32.toInt (by rw [e2100]; exact rI_o (by decide))
                exact ok_some (show RI ad h.1 δ0 d2714 ∧ (kp [(12, 0), (12, 2), (12, 3), (12, 4), (12, 5), (12, 6), (12, 7), (12, 8), (12, 24), (12, 25), (12, 26), (12, 27)] δ d2714 ∧ q_V d2714 = q_V δ ∧ kr ad [100, 112, 113, 114, 115, 116, 117] δ d2714) ∧ TK ad a0 δ d2714 ∧ (0 ≤ (x1).toInt ∧ (x1).toInt ≤ (q_I δ 12 2 a0).toInt → (q_I d2714 12 2 a0).toInt = 0) ∧ ((x1).toInt < 0 ∨ (q_I δ 12 2 a0).toInt < (x1).toInt → (q_I d2714 12 2 a0).toInt = (q_I δ 12 2 a0).toInt) from ⟨i2716, ⟨kp_w (by decide) u2724, v2725, kr_w (by decide) v2726⟩, ss2730, by first | assumption | omega, by first | assumption | omega⟩)
              · have c2751 : r2676.1.toInt ≠ (q_I r2676.2 12 24 a0).toInt := o_ne h2696
                unfold J_X12_thief_146
                have ss2752 : NS ad a0 δ d1 := NS.t NS.r (NS.w e2 (by decide))
                have ss2753 : NS0 ad a0 δ r2035.2 := NS0.t (NS.z ss2752) (NS.z ns2052)
                have ss2754 : NS0 ad a0 δ r2065 := NS0.t ss2753 ns2085
                have ns2756 : NS ad a0 d2111 r2117.2 := NS.t NS.r ns2146
                have ns2757 : NS ad a0 r2619 r2676.2 := NS.t NS.r ns2689
                have ss2755 : TK ad a0 δ r2676.2 := TK.bad L ss2754 e2100 e2106 e2112 ns2756 p2653 (u2656 112 (by decide) (by decide) (by decide)) ns2757 (show (0 : Int) = 0 by omega) (show (0 : Int) = 0 by omega) (show (0 : Int) = 0 by omega) (by omega)
                have f2758 := cb_12_2 i2678 k_a0
                have f2759 : (q_I r2676.2 12 2 a0).toInt = (q_I r2619 12 2 a0).toInt := congrArg Int32.toInt (u2680 12 2 a0 (by decide))
                have f2760 := cb_12_2 i2647 k_a0
                have f2761 : (q_I r2619 12 2 a0).toInt = (q_I r2117.2 12 2 a0).toInt := congrArg Int32.toInt (u2654 12 2 a0 (by decide))
                have f2762 := cb_12_2 i2119 k_a0
                have f2763 : (q_I r2117.2 12 2 a0).toInt = (q_I d2111 12 2 a0).toInt := congrArg Int32.toInt (u2123 12 2 a0 (by decide))
                have f2764 := cb_12_2 i2113 k_a0
                have f2765 : (q_I d2111 12 2 a0).toInt = (q_I d2105 12 2 a0).toInt := congrArg Int32.toInt (by rw [e2112]; exact rI_o (by decide))
                have f2766 := cb_12_2 i2107 k_a0
                have f2767 : (q_I d2105 12 2 a0).toInt = (q_I d2099 12 2 a0).toInt := congrArg Int32.toInt (by rw [e2106]; exact rI_o (by decide))
                have f2768 := cb_12_2 i2101 k_a0
                have f2769 : (q_I d2099 12 2 a0).toInt = (q_I r2065 12 2 a0).toInt := congrArg Int32.toInt (by rw [e2100]; exact rI_o (by decide))
                exact ok_some (show RI ad h.1 δ0 r2676.2 ∧ (kp [(12, 0), (12, 2), (12, 3), (12, 4), (12, 5), (12, 6), (12, 7), (12, 8), (12, 24), (12, 25), (12, 26), (12, 27)] δ r2676.2 ∧ q_V r2676.2 = q_V δ ∧ kr ad [100, 112, 113, 114, 115, 116, 117] δ r2676.2) ∧ TK ad a0 δ r2676.2 ∧ (0 ≤ (x1).toInt ∧ (x1).toInt ≤ (q_I δ 12 2 a0).toInt → (q_I r2676.2 12 2 a0).toInt = 0) ∧ ((x1).toInt < 0 ∨ (q_I δ 12 2 a0).toInt < (x1).toInt → (q_I r2676.2 12 2 a0).toInt = (q_I δ 12 2 a0).toInt) from ⟨i2678, ⟨kp_w (by decide) u2684, v2685, kr_w (by decide) v2686⟩, ss2755, by first | assumption | omega, by first | assumption | omega⟩)
            · have c2770 : r2665.1.toInt ≠ (0 : Int) := o_ne h2674
              refine ok_bind (k_X12_isMore L hN (a0 := a0) k_a0 i2647) (fun r2771 hr2772 => ?_)
              obtain ⟨i2773, ⟨u2777, u2778, u2779, u2780⟩, p2774, p2775, p2776⟩ := hr2772
              have u2781 := kp_t u2657 u2777
              have v2782 : q_V r2771.2 = q_V δ := (u2778).trans v2658
              have v2783 := kr_t v2659 u2780
              have f2784 := bo_l p2774
              have f2785 := cb_12_4 i2773 k_a0
              have f2786 := ti_b r2771.1
              have f2787 := cb_12_3 i2647 k_a0
              have f2788 : (q_I r2619 12 3 a0).toInt = (q_I r2117.2 12 3 a0).toInt := congrArg Int32.toInt (u2654 12 3 a0 (by decide))
              have f2789 := cb_12_3 i2119 k_a0
              have f2790 : (q_I r2117.2 12 3 a0).toInt = (q_I d2111 12 3 a0).toInt := congrArg Int32.toInt (u2123 12 3 a0 (by decide))
              have f2791 := ti_b r2771.1
              have f2793 := cb_12_5 i2773 k_a0
              have f2794 : (q_I r2771.2 12 5 a0).toInt = (q_I r2619 12 5 a0).toInt := congrArg Int32.toInt (u2777 12 5 a0 (by decide))
              have ns2792 : NS ad a0 r2619 r2771.2 := ⟨u2780 112 (by decide) (by decide) (by decide), u2780 113 (by decide) (by decide) (by decide), u2780 114 (by decide) (by decide) (by decide), u2780 115 (by decide) (by decide) (by decide), u2780 116 (by decide) (by decide) (by decide), u2777 12 24 _ (by decide), u2777 12 25 _ (by decide), u2777 12 26 _ (by decide), u2777 12 27 _ (by decide), fun z => by omega⟩
              refine ok_ite (fun h2795 => ?_) (fun h2795 => ?_)
              · have c2796 : r2771.1.toInt = (0 : Int) := o_eq h2795
                unfold J_X12_thief_106
                refine ok_bind (k_X12_result L hN (a0 := a0) (x1 := (q_I r2771.2 12 24 a0)) k_a0 i2773) (fun r2797 hr2798 => ?_)
                obtain ⟨i2799, ⟨u2801, u2802, u2803, u2804⟩, p2800⟩ := hr2798
                have u2805 := kp_t u2781 u2801
                have v2806 : q_V r2797.2 = q_V δ := (u2802).trans v2782
                have v2807 := kr_t v2783 u2804
                have f2808 := ti_b r2797.1
                have f2809 := ti_b r2797.1
                have f2811 := cb_12_5 i2799 k_a0
                have f2812 : (q_I r2797.2 12 5 a0).toInt = (q_I r2771.2 12 5 a0).toInt := congrArg Int32.toInt (u2801 12 5 a0 (by decide))
                have ns2810 : NS ad a0 r2771.2 r2797.2 := ⟨u2804 112 (by decide) (by decide) (by decide), u2804 113 (by decide) (by decide) (by decide), u2804 114 (by decide) (by decide) (by decide), u2804 115 (by decide) (by decide) (by decide), u2804 116 (by decide) (by decide) (by decide), u2801 12 24 _ (by decide), u2801 12 25 _ (by decide), u2801 12 26 _ (by decide), u2801 12 27 _ (by decide), fun z => by omega⟩
                have f2813 := cb_12_24 i2799 k_a0
                have f2814 : (q_I r2797.2 12 24 a0).toInt = (q_I r2771.2 12 24 a0).toInt := congrArg Int32.toInt (u2801 12 24 a0 (by decide))
                have f2815 := cb_12_24 i2773 k_a0
                have f2816 : (q_I r2771.2 12 24 a0).toInt = (q_I r2619 12 24 a0).toInt := congrArg Int32.toInt (u2777 12 24 a0 (by decide))
                have f2817 := cb_12_24 i2647 k_a0
                have f2818 : (q_I r2619 12 24 a0).toInt = (q_I r2117.2 12 24 a0).toInt := congrArg Int32.toInt (u2654 12 24 a0 (by decide))
                refine ok_ite (fun h2819 => ?_) (fun h2819 => ?_)
                · have c2820 : r2797.1.toInt = (q_I r2797.2 12 24 a0).toInt := o_eq h2819
                  obtain ⟨b2821, o2822, k2823, n2824⟩ := gO_12_28 L k_a0
                  obtain rfl := gS_12_28 L k_a0 o2822
                  refine ok_at o2822 ?_
                  have t2825 := ti_tn (q_I r2797.2 12 24 a0)
                  refine ok_gd (fun hc2826 => ?_) ?_
                  · rcases hc2826 with hc2826 | hc2826
                    · have c2827 : (q_I r2797.2 12 24 a0).toInt < (0 : Int) := o_lt hc2826
                      omega
                    · omega
                  have f2831 := cb_12_25 i2799 k_a0
                  have f2832 : (q_I r2797.2 12 25 a0).toInt = (q_I r2771.2 12 25 a0).toInt := congrArg Int32.toInt (u2801 12 25 a0 (by decide))
                  have f2833 := cb_12_25 i2773 k_a0
                  have f2834 : (q_I r2771.2 12 25 a0).toInt = (q_I r2619 12 25 a0).toInt := congrArg Int32.toInt (u2777 12 25 a0 (by decide))
                  have f2835 := cb_12_25 i2647 k_a0
                  refine ok_bdv (fun d2828 e2829 => ?_)
                  have i2830 : RI ad h.1 δ0 d2828 := by rw [e2829]; exact cr_112 L i2799 (show 0 ≤ (q_I r2797.2 12 25 a0).toInt by omega) (show (q_I r2797.2 12 25 a0).toInt ≤ 60 by omega)
                  have u2836 := kp_N u2805 (show q_I d2828 = q_I r2797.2 by rw [e2829]; rfl)
                  have v2837 : q_V d2828 = q_V δ := ((show q_V d2828 = q_V r2797.2 by rw [e2829]; rfl)).trans v2806
                  have v2838 := kr_s L (by decide) v2807 e2829
                  have f2842 := cb_12_24 i2830 k_a0
                  have f2843 : (q_I d2828 12 24 a0).toInt = (q_I r2797.2 12 24 a0).toInt := congrArg Int32.toInt (by rw [e2829]; rfl)
                  first | (have q2845 := te_addc (c := 1) (n := 1) rfl (q_I d2828 12 24 a0) (by omega) (by omega); obtain ⟨f2846, f2847, f2848⟩ := q2845) | (obtain ⟨q2845, f2846, f2847, f2848⟩ := ti_addc (c := 1) (n := 1) rfl (q_I d2828 12 24 a0))
                  refine ok_bdv (fun d2839 e2840 => ?_)
                  have i2841 : RI ad h.1 δ0 d2839 := by rw [e2840]; exact cs_12_24 L i2830 k_a0 (show 0 ≤ ((q_I d2828 12 24 a0) + (1 : Int32)).toInt by omega) (show ((q_I d2828 12 24 a0) + (1 : Int32)).toInt ≤ 4 by omega)
                  have u2849 := kp_I u2836 e2840
                  have v2850 : q_V d2839 = q_V δ := ((show q_V d2839 = q_V d2828 by rw [e2840]; rfl)).trans v2837
                  have v2851 := kr_N v2838 (show q_R d2839 = q_R d2828 by rw [e2840]; rfl)
                  unfold J_X12_thief_146
                  have ss2852 : NS ad a0 δ d1 := NS.t NS.r (NS.w e2 (by decide))
                  have ss2853 : NS0 ad a0 δ r2035.2 := NS0.t (NS.z ss2852) (NS.z ns2052)
                  have ss2854 : NS0 ad a0 δ r2065 := NS0.t ss2853 ns2085
                  have ns2856 : NS ad a0 d2111 r2117.2 := NS.t NS.r ns2146
                  have ns2857 : NS ad a0 r2619 r2771.2 := NS.t NS.r ns2792
                  have ns2858 : NS ad a0 r2619 r2797.2 := NS.t ns2857 ns2810
                  have f2859 := cb_12_26 i2799 k_a0
                  have f2860 : (q_I r2797.2 12 26 a0).toInt = (q_I r2771.2 12 26 a0).toInt := congrArg Int32.toInt (u2801 12 26 a0 (by decide))
                  have f2861 := cb_12_26 i2773 k_a0
                  have f2862 : (q_I r2771.2 12 26 a0).toInt = (q_I r2619 12 26 a0).toInt := congrArg Int32.toInt (u2777 12 26 a0 (by decide))
                  have ss2855 : TK ad a0 δ d2839 := TK.good L ss2854 e2100 e2106 e2112 ns2856 p2653 (u2656 112 (by decide) (by decide) (by decide)) ns2858 (show (0 : Int) = 0 by omega) (show (0 : Int) = 0 by omega) (show (0 : Int) = 0 by omega) (by omega) e2829 e2840 (show (((q_I r2797.2 12 24 a0).toNatClampNeg : Nat) : Int) = (q_I δ 12 24 a0).toInt by omega) (show (q_I r2797.2 12 25 a0).toInt = (q_I r2797.2 12 25 a0).toInt by omega) (show ((q_I d2828 12 24 a0) + (1 : Int32)).toInt = (q_I δ 12 24 a0).toInt + 1 by omega) (show (q_I r2797.2 12 5 a0).toInt = -1 by omega) (show (q_I r2797.2 12 26 a0).toInt ≤ 500 by omega)
                  have f2863 := cb_12_2 i2841 k_a0
                  have f2864 : (q_I d2839 12 2 a0).toInt = (q_I d2828 12 2 a0).toInt := congrArg Int32.toInt (by rw [e2840]; exact rI_o (by decide))
                  have f2865 := cb_12_2 i2830 k_a0
                  have f2866 : (q_I d2828 12 2 a0).toInt = (q_I r2797.2 12 2 a0).toInt := congrArg Int32.toInt (by rw [e2829]; rfl)
                  have f2867 := cb_12_2 i2799 k_a0
                  have f2868 : (q_I r2797.2 12 2 a0).toInt = (q_I r2771.2 12 2 a0).toInt := congrArg Int32.toInt (u2801 12 2 a0 (by decide))
                  have f2869 := cb_12_2 i2773 k_a0
                  have f2870 : (q_I r2771.2 12 2 a0).toInt = (q_I r2619 12 2 a0).toInt := congrArg Int32.toInt (u2777 12 2 a0 (by decide))
                  have f2871 := cb_12_2 i2647 k_a0
                  have f2872 : (q_I r2619 12 2 a0).toInt = (q_I r2117.2 12 2 a0).toInt := congrArg Int32.toInt (u2654 12 2 a0 (by decide))
                  have f2873 := cb_12_2 i2119 k_a0
                  have f2874 : (q_I r2117.2 12 2 a0).toInt = (q_I d2111 12 2 a0).toInt := congrArg Int32.toInt (u2123 12 2 a0 (by decide))
                  have f2875 := cb_12_2 i2113 k_a0
                  have f2876 : (q_I d2111 12 2 a0).toInt = (q_I d2105 12 2 a0).toInt := congrArg Int32.toInt (by rw [e2112]; exact rI_o (by decide))
                  have f2877 := cb_12_2 i2107 k_a0
                  have f2878 : (q_I d2105 12 2 a0).toInt = (q_I d2099 12 2 a0).toInt := congrArg Int32.toInt (by rw [e2106]; exact rI_o (by decide))
                  have f2879 := cb_12_2 i2101 k_a0
                  have f2880 : (q_I d2099 12 2 a0).toInt = (q_I r2065 12 2 a0).toInt := congrArg Int32.toInt (by rw [e2100]; exact rI_o (by decide))
                  exact ok_some (show RI ad h.1 δ0 d2839 ∧ (kp [(12, 0), (12, 2), (12, 3), (12, 4), (12, 5), (12, 6), (12, 7), (12, 8), (12, 24), (12, 25), (12, 26), (12, 27)] δ d2839 ∧ q_V d2839 = q_V δ ∧ kr ad [100, 112, 113, 114, 115, 116, 117] δ d2839) ∧ TK ad a0 δ d2839 ∧ (0 ≤ (x1).toInt ∧ (x1).toInt ≤ (q_I δ 12 2 a0).toInt → (q_I d2839 12 2 a0).toInt = 0) ∧ ((x1).toInt < 0 ∨ (q_I δ 12 2 a0).toInt < (x1).toInt → (q_I d2839 12 2 a0).toInt = (q_I δ 12 2 a0).toInt) from ⟨i2841, ⟨kp_w (by decide) u2849, v2850, kr_w (by decide) v2851⟩, ss2855, by first | assumption | omega, by first | assumption | omega⟩)
                · have c2881 : r2797.1.toInt ≠ (q_I r2797.2 12 24 a0).toInt := o_ne h2819
                  unfold J_X12_thief_146
                  have ss2882 : NS ad a0 δ d1 := NS.t NS.r (NS.w e2 (by decide))
                  have ss2883 : NS0 ad a0 δ r2035.2 := NS0.t (NS.z ss2882) (NS.z ns2052)
                  have ss2884 : NS0 ad a0 δ r2065 := NS0.t ss2883 ns2085
                  have ns2886 : NS ad a0 d2111 r2117.2 := NS.t NS.r ns2146
                  have ns2887 : NS ad a0 r2619 r2771.2 := NS.t NS.r ns2792
                  have ns2888 : NS ad a0 r2619 r2797.2 := NS.t ns2887 ns2810
                  have ss2885 : TK ad a0 δ r2797.2 := TK.bad L ss2884 e2100 e2106 e2112 ns2886 p2653 (u2656 112 (by decide) (by decide) (by decide)) ns2888 (show (0 : Int) = 0 by omega) (show (0 : Int) = 0 by omega) (show (0 : Int) = 0 by omega) (by omega)
                  have f2889 := cb_12_2 i2799 k_a0
                  have f2890 : (q_I r2797.2 12 2 a0).toInt = (q_I r2771.2 12 2 a0).toInt := congrArg Int32.toInt (u2801 12 2 a0 (by decide))
                  have f2891 := cb_12_2 i2773 k_a0
                  have f2892 : (q_I r2771.2 12 2 a0).toInt = (q_I r2619 12 2 a0).toInt := congrArg Int32.toInt (u2777 12 2 a0 (by decide))
                  have f2893 := cb_12_2 i2647 k_a0
                  have f2894 : (q_I r2619 12 2 a0).toInt = (q_I r2117.2 12 2 a0).toInt := congrArg Int32.toInt (u2654 12 2 a0 (by decide))
                  have f2895 := cb_12_2 i2119 k_a0
                  have f2896 : (q_I r2117.2 12 2 a0).toInt = (q_I d2111 12 2 a0).toInt := congrArg Int32.toInt (u2123 12 2 a0 (by decide))
                  have f2897 := cb_12_2 i2113 k_a0
                  have f2898 : (q_I d2111 12 2 a0).toInt = (q_I d2105 12 2 a0).toInt := congrArg Int32.toInt (by rw [e2112]; exact rI_o (by decide))
                  have f2899 := cb_12_2 i2107 k_a0
                  have f2900 : (q_I d2105 12 2 a0).toInt = (q_I d2099 12 2 a0).toInt := congrArg Int32.toInt (by rw [e2106]; exact rI_o (by decide))
                  have f2901 := cb_12_2 i2101 k_a0
                  have f2902 : (q_I d2099 12 2 a0).toInt = (q_I r2065 12 2 a0).toInt := congrArg Int32.toInt (by rw [e2100]; exact rI_o (by decide))
                  exact ok_some (show RI ad h.1 δ0 r2797.2 ∧ (kp [(12, 0), (12, 2), (12, 3), (12, 4), (12, 5), (12, 6), (12, 7), (12, 8), (12, 24), (12, 25), (12, 26), (12, 27)] δ r2797.2 ∧ q_V r2797.2 = q_V δ ∧ kr ad [100, 112, 113, 114, 115, 116, 117] δ r2797.2) ∧ TK ad a0 δ r2797.2 ∧ (0 ≤ (x1).toInt ∧ (x1).toInt ≤ (q_I δ 12 2 a0).toInt → (q_I r2797.2 12 2 a0).toInt = 0) ∧ ((x1).toInt < 0 ∨ (q_I δ 12 2 a0).toInt < (x1).toInt → (q_I r2797.2 12 2 a0).toInt = (q_I δ 12 2 a0).toInt) from ⟨i2799, ⟨kp_w (by decide) u2805, v2806, kr_w (by decide) v2807⟩, ss2885, by first | assumption | omega, by first | assumption | omega⟩)
              · have c2903 : r2771.1.toInt ≠ (0 : Int) := o_ne h2795
                refine ok_bind (k_X12_wrong L hN (a0 := a0) (x1 := (1 : Int32)) (x2 := (q_I r2771.2 12 4 a0)) k_a0 (show 0 ≤ ((q_I r2771.2 12 4 a0)).toInt by first | assumption | omega) (show ((q_I r2771.2 12 4 a0)).toInt ≤ 500 by first | assumption | omega) (show 0 ≤ (1 : Int) by first | assumption | omega) (show (1 : Int) ≤ 4 by first | assumption | omega) i2773) (fun r2904 hr2905 => ?_)
                obtain ⟨i2906, ⟨u2909, u2910, u2911, u2912⟩, p2907, p2908⟩ := hr2905
                have u2913 := kp_t u2781 u2909
                have v2914 : q_V r2904 = q_V δ := (u2910).trans v2782
                have v2915 := kr_t v2783 u2912
                have f2916 := cb_12_5 i2906 k_a0
                have ns2917 : NS ad a0 r2771.2 r2904 := ⟨u2912 112 (by decide) (by decide) (by decide), u2912 113 (by decide) (by decide) (by decide), u2912 114 (by decide) (by decide) (by decide), u2912 115 (by decide) (by decide) (by decide), u2912 116 (by decide) (by decide) (by decide), u2909 12 24 _ (by decide), u2909 12 25 _ (by decide), u2909 12 26 _ (by decide), u2909 12 27 _ (by decide), fun z => by omega⟩
                unfold J_X12_thief_106
                refine ok_bind (k_X12_result L hN (a0 := a0) (x1 := (q_I r2904 12 24 a0)) k_a0 i2906) (fun r2918 hr2919 => ?_)
                obtain ⟨i2920, ⟨u2922, u2923, u2924, u2925⟩, p2921⟩ := hr2919
                have u2926 := kp_t u2913 u2922
                have v2927 : q_V r2918.2 = q_V δ := (u2923).trans v2914
                have v2928 := kr_t v2915 u2925
                have f2929 := ti_b r2918.1
                have f2930 := ti_b r2918.1
                have f2932 := cb_12_5 i2920 k_a0
                have f2933 : (q_I r2918.2 12 5 a0).toInt = (q_I r2904 12 5 a0).toInt := congrArg Int32.toInt (u2922 12 5 a0 (by decide))
                have ns2931 : NS ad a0 r2904 r2918.2 := ⟨u2925 112 (by decide) (by decide) (by decide), u2925 113 (by decide) (by decide) (by decide), u2925 114 (by decide) (by decide) (by decide), u2925 115 (by decide) (by decide) (by decide), u2925 116 (by decide) (by decide) (by decide), u2922 12 24 _ (by decide), u2922 12 25 _ (by decide), u2922 12 26 _ (by decide), u2922 12 27 _ (by decide), fun z => by omega⟩
                have f2934 := cb_12_24 i2920 k_a0
                have f2935 : (q_I r2918.2 12 24 a0).toInt = (q_I r2904 12 24 a0).toInt := congrArg Int32.toInt (u2922 12 24 a0 (by decide))
                have f2936 := cb_12_24 i2906 k_a0
                have f2937 : (q_I r2904 12 24 a0).toInt = (q_I r2771.2 12 24 a0).toInt := congrArg Int32.toInt (u2909 12 24 a0 (by decide))
                have f2938 := cb_12_24 i2773 k_a0
                have f2939 : (q_I r2771.2 12 24 a0).toInt = (q_I r2619 12 24 a0).toInt := congrArg Int32.toInt (u2777 12 24 a0 (by decide))
                have f2940 := cb_12_24 i2647 k_a0
                have f2941 : (q_I r2619 12 24 a0).toInt = (q_I r2117.2 12 24 a0).toInt := congrArg Int32.toInt (u2654 12 24 a0 (by decide))
                refine ok_ite (fun h2942 => ?_) (fun h2942 => ?_)
                · have c2943 : r2918.1.toInt = (q_I r2918.2 12 24 a0).toInt := o_eq h2942
                  obtain ⟨b2944, o2945, k2946, n2947⟩ := gO_12_28 L k_a0
                  obtain rfl := gS_12_28 L k_a0 o2945
                  refine ok_at o2945 ?_
                  have t2948 := ti_tn (q_I r2918.2 12 24 a0)
                  refine ok_gd (fun hc2949 => ?_) ?_
                  · rcases hc2949 with hc2949 | hc2949
                    · have c2950 : (q_I r2918.2 12 24 a0).toInt < (0 : Int) := o_lt hc2949
                      omega
                    · omega
                  have f2954 := cb_12_25 i2920 k_a0
                  have f2955 : (q_I r2918.2 12 25 a0).toInt = (q_I r2904 12 25 a0).toInt := congrArg Int32.toInt (u2922 12 25 a0 (by decide))
                  have f2956 := cb_12_25 i2906 k_a0
                  have f2957 : (q_I r2904 12 25 a0).toInt = (q_I r2771.2 12 25 a0).toInt := congrArg Int32.toInt (u2909 12 25 a0 (by decide))
                  have f2958 := cb_12_25 i2773 k_a0
                  have f2959 : (q_I r2771.2 12 25 a0).toInt = (q_I r2619 12 25 a0).toInt := congrArg Int32.toInt (u2777 12 25 a0 (by decide))
                  have f2960 := cb_12_25 i2647 k_a0
                  refine ok_bdv (fun d2951 e2952 => ?_)
                  have i2953 : RI ad h.1 δ0 d2951 := by rw [e2952]; exact cr_112 L i2920 (show 0 ≤ (q_I r2918.2 12 25 a0).toInt by omega) (show (q_I r2918.2 12 25 a0).toInt ≤ 60 by omega)
                  have u2961 := kp_N u2926 (show q_I d2951 = q_I r2918.2 by rw [e2952]; rfl)
                  have v2962 : q_V d2951 = q_V δ := ((show q_V d2951 = q_V r2918.2 by rw [e2952]; rfl)).trans v2927
                  have v2963 := kr_s L (by decide) v2928 e2952
                  have f2967 := cb_12_24 i2953 k_a0
                  have f2968 : (q_I d2951 12 24 a0).toInt = (q_I r2918.2 12 24 a0).toInt := congrArg Int32.toInt (by rw [e2952]; rfl)
                  first | (have q2970 := te_addc (c := 1) (n := 1) rfl (q_I d2951 12 24 a0) (by omega) (by omega); obtain ⟨f2971, f2972, f2973⟩ := q2970) | (obtain ⟨q2970, f2971, f2972, f2973⟩ := ti_addc (c := 1) (n := 1) rfl (q_I d2951 12 24 a0))
                  refine ok_bdv (fun d2964 e2965 => ?_)
                  have i2966 : RI ad h.1 δ0 d2964 := by rw [e2965]; exact cs_12_24 L i2953 k_a0 (show 0 ≤ ((q_I d2951 12 24 a0) + (1 : Int32)).toInt by omega) (show ((q_I d2951 12 24 a0) + (1 : Int32)).toInt ≤ 4 by omega)
                  have u2974 := kp_I u2961 e2965
                  have v2975 : q_V d2964 = q_V δ := ((show q_V d2964 = q_V d2951 by rw [e2965]; rfl)).trans v2962
                  have v2976 := kr_N v2963 (show q_R d2964 = q_R d2951 by rw [e2965]; rfl)
                  unfold J_X12_thief_146
                  have ss2977 : NS ad a0 δ d1 := NS.t NS.r (NS.w e2 (by decide))
                  have ss2978 : NS0 ad a0 δ r2035.2 := NS0.t (NS.z ss2977) (NS.z ns2052)
                  have ss2979 : NS0 ad a0 δ r2065 := NS0.t ss2978 ns2085
                  have ns2981 : NS ad a0 d2111 r2117.2 := NS.t NS.r ns2146
                  have ns2982 : NS ad a0 r2619 r2771.2 := NS.t NS.r ns2792
                  have ns2983 : NS ad a0 r2619 r2904 := NS.t ns2982 ns2917
                  have ns2984 : NS ad a0 r2619 r2918.2 := NS.t ns2983 ns2931
                  have f2985 := cb_12_26 i2920 k_a0
                  have f2986 : (q_I r2918.2 12 26 a0).toInt = (q_I r2904 12 26 a0).toInt := congrArg Int32.toInt (u2922 12 26 a0 (by decide))
                  have f2987 := cb_12_26 i2906 k_a0
                  have f2988 : (q_I r2904 12 26 a0).toInt = (q_I r2771.2 12 26 a0).toInt := congrArg Int32.toInt (u2909 12 26 a0 (by decide))
                  have f2989 := cb_12_26 i2773 k_a0
                  have f2990 : (q_I r2771.2 12 26 a0).toInt = (q_I r2619 12 26 a0).toInt := congrArg Int32.toInt (u2777 12 26 a0 (by decide))
                  have ss2980 : TK ad a0 δ d2964 := TK.good L ss2979 e2100 e2106 e2112 ns2981 p2653 (u2656 112 (by decide) (by decide) (by decide)) ns2984 (show (0 : Int) = 0 by omega) (show (0 : Int) = 0 by omega) (show (0 : Int) = 0 by omega) (by omega) e2952 e2965 (show (((q_I r2918.2 12 24 a0).toNatClampNeg : Nat) : Int) = (q_I δ 12 24 a0).toInt by omega) (show (q_I r2918.2 12 25 a0).toInt = (q_I r2918.2 12 25 a0).toInt by omega) (show ((q_I d2951 12 24 a0) + (1 : Int32)).toInt = (q_I δ 12 24 a0).toInt + 1 by omega) (show (q_I r2918.2 12 5 a0).toInt = -1 by omega) (show (q_I r2918.2 12 26 a0).toInt ≤ 500 by omega)
                  have f2991 := cb_12_2 i2966 k_a0
                  have f2992 : (q_I d2964 12 2 a0).toInt = (q_I d2951 12 2 a0).toInt := congrArg Int32.toInt (by rw [e2965]; exact rI_o (by decide))
                  have f2993 := cb_12_2 i2953 k_a0
                  have f2994 : (q_I d2951 12 2 a0).toInt = (q_I r2918.2 12 2 a0).toInt := congrArg Int32.toInt (by rw [e2952]; rfl)
                  have f2995 := cb_12_2 i2920 k_a0
                  have f2996 : (q_I r2918.2 12 2 a0).toInt = (q_I r2904 12 2 a0).toInt := congrArg Int32.toInt (u2922 12 2 a0 (by decide))
                  have f2997 := cb_12_2 i2906 k_a0
                  have f2998 : (q_I r2904 12 2 a0).toInt = (q_I r2771.2 12 2 a0).toInt := congrArg Int32.toInt (u2909 12 2 a0 (by decide))
                  have f2999 := cb_12_2 i2773 k_a0
                  have f3000 : (q_I r2771.2 12 2 a0).toInt = (q_I r2619 12 2 a0).toInt := congrArg Int32.toInt (u2777 12 2 a0 (by decide))
                  have f3001 := cb_12_2 i2647 k_a0
                  have f3002 : (q_I r2619 12 2 a0).toInt = (q_I r2117.2 12 2 a0).toInt := congrArg Int32.toInt (u2654 12 2 a0 (by decide))
                  have f3003 := cb_12_2 i2119 k_a0
                  have f3004 : (q_I r2117.2 12 2 a0).toInt = (q_I d2111 12 2 a0).toInt := congrArg Int32.toInt (u2123 12 2 a0 (by decide))
                  have f3005 := cb_12_2 i2113 k_a0
                  have f3006 : (q_I d2111 12 2 a0).toInt = (q_I d2105 12 2 a0).toInt := congrArg Int32.toInt (by rw [e2112]; exact rI_o (by decide))
                  have f3007 := cb_12_2 i2107 k_a0
                  have f3008 : (q_I d2105 12 2 a0).toInt = (q_I d2099 12 2 a0).toInt := congrArg Int32.toInt (by rw [e2106]; exact rI_o (by decide))
                  have f3009 := cb_12_2 i2101 k_a0
                  have f3010 : (q_I d2099 12 2 a0).toInt = (q_I r2065 12 2 a0).toInt := congrArg Int32.toInt (by rw [e2100]; exact rI_o (by decide))
                  exact ok_some (show RI ad h.1 δ0 d2964 ∧ (kp [(12, 0), (12, 2), (12, 3), (12, 4), (12, 5), (12, 6), (12, 7), (12, 8), (12, 24), (12, 25), (12, 26), (12, 27)] δ d2964 ∧ q_V d2964 = q_V δ ∧ kr ad [100, 112, 113, 114, 115, 116, 117] δ d2964) ∧ TK ad a0 δ d2964 ∧ (0 ≤ (x1).toInt ∧ (x1).toInt ≤ (q_I δ 12 2 a0).toInt → (q_I d2964 12 2 a0).toInt = 0) ∧ ((x1).toInt < 0 ∨ (q_I δ 12 2 a0).toInt < (x1).toInt → (q_I d2964 12 2 a0).toInt = (q_I δ 12 2 a0).toInt) from ⟨i2966, ⟨kp_w (by decide) u2974, v2975, kr_w (by decide) v2976⟩, ss2980, by first | assumption | omega, by first | assumption | omega⟩)
                · have c3011 : r2918.1.toInt ≠ (q_I r2918.2 12 24 a0).toInt := o_ne h2942
                  unfold J_X12_thief_146
                  have ss3012 : NS ad a0 δ d1 := NS.t NS.r (NS.w e2 (by decide))
                  have ss3013 : NS0 ad a0 δ r2035.2 := NS0.t (NS.z ss3012) (NS.z ns2052)
                  have ss3014 : NS0 ad a0 δ r2065 := NS0.t ss3013 ns2085
                  have ns3016 : NS ad a0 d2111 r2117.2 := NS.t NS.r ns2146
                  have ns3017 : NS ad a0 r2619 r2771.2 := NS.t NS.r ns2792
                  have ns3018 : NS ad a0 r2619 r2904 := NS.t ns3017 ns2917
                  have ns3019 : NS ad a0 r2619 r2918.2 := NS.t ns3018 ns2931
                  have ss3015 : TK ad a0 δ r2918.2 := TK.bad L ss3014 e2100 e2106 e2112 ns3016 p2653 (u2656 112 (by decide) (by decide) (by decide)) ns3019 (show (0 : Int) = 0 by omega) (show (0 : Int) = 0 by omega) (show (0 : Int) = 0 by omega) (by omega)
                  have f3020 := cb_12_2 i2920 k_a0
                  have f3021 : (q_I r2918.2 12 2 a0).toInt = (q_I r2904 12 2 a0).toInt := congrArg Int32.toInt (u2922 12 2 a0 (by decide))
                  have f3022 := cb_12_2 i2906 k_a0
                  have f3023 : (q_I r2904 12 2 a0).toInt = (q_I r2771.2 12 2 a0).toInt := congrArg Int32.toInt (u2909 12 2 a0 (by decide))
                  have f3024 := cb_12_2 i2773 k_a0
                  have f3025 : (q_I r2771.2 12 2 a0).toInt = (q_I r2619 12 2 a0).toInt := congrArg Int32.toInt (u2777 12 2 a0 (by decide))
                  have f3026 := cb_12_2 i2647 k_a0
                  have f3027 : (q_I r2619 12 2 a0).toInt = (q_I r2117.2 12 2 a0).toInt := congrArg Int32.toInt (u2654 12 2 a0 (by decide))
                  have f3028 := cb_12_2 i2119 k_a0
                  have f3029 : (q_I r2117.2 12 2 a0).toInt = (q_I d2111 12 2 a0).toInt := congrArg Int32.toInt (u2123 12 2 a0 (by decide))
                  have f3030 := cb_12_2 i2113 k_a0
                  have f3031 : (q_I d2111 12 2 a0).toInt = (q_I d2105 12 2 a0).toInt := congrArg Int32.toInt (by rw [e2112]; exact rI_o (by decide))
                  have f3032 := cb_12_2 i2107 k_a0
                  have f3033 : (q_I d2105 12 2 a0).toInt = (q_I d2099 12 2 a0).toInt := congrArg Int32.toInt (by rw [e2106]; exact rI_o (by decide))
                  have f3034 := cb_12_2 i2101 k_a0
                  have f3035 : (q_I d2099 12 2 a0).toInt = (q_I r2065 12 2 a0).toInt := congrArg Int32.toInt (by rw [e2100]; exact rI_o (by decide))
                  exact ok_some (show RI ad h.1 δ0 r2918.2 ∧ (kp [(12, 0), (12, 2), (12, 3), (12, 4), (12, 5), (12, 6), (12, 7), (12, 8), (12, 24), (12, 25), (12, 26), (12, 27)] δ r2918.2 ∧ q_V r2918.2 = q_V δ ∧ kr ad [100, 112, 113, 114, 115, 116, 117] δ r2918.2) ∧ TK ad a0 δ r2918.2 ∧ (0 ≤ (x1).toInt ∧ (x1).toInt ≤ (q_I δ 12 2 a0).toInt → (q_I r2918.2 12 2 a0).toInt = 0) ∧ ((x1).toInt < 0 ∨ (q_I δ 12 2 a0).toInt < (x1).toInt → (q_I r2918.2 12 2 a0).toInt = (q_I δ 12 2 a0).toInt) from ⟨i2920, ⟨kp_w (by decide) u2926, v2927, kr_w (by decide) v2928⟩, ss3015, by first | assumption | omega, by first | assumption | omega⟩)
