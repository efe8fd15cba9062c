/-! 77.v12e (by gen_safe.py) -/
set_option maxHeartbeats 4000000 in
theorem k_bX12_unit {ad : List Nat} {h : hp} (L : Lay TLx ad h) {δ0 : dp} {N : Nat} (hN : 10000000 ≤ N) {T : Nat → dp → Option (dp)} {K : Int} (hT : ∀ (a0 : Nat) (δ : dp), q_K h.1 a0 = 12 → (q_I δ 12 24 a0).toInt ≤ 3 → (q_I δ 12 26 a0).toInt ≤ (q_I δ 12 4 a0).toInt → 0 ≤ (q_I δ 12 7 a0).toInt → (q_I δ 12 7 a0).toInt ≤ 7 → ((q_I δ 12 7 a0).toInt = 7 → (q_I δ 12 5 a0).toInt ≠ -1) → 8 - (q_I δ 12 7 a0).toInt < K → RI ad h.1 δ0 δ → ok (T a0 δ) (fun r => RI ad h.1 δ0 r ∧ (kp [(12, 4), (12, 5), (12, 6), (12, 7), (12, 26)] δ r ∧ q_V r = q_V δ ∧ kr ad [116, 117] δ r) ∧ (q_I δ 12 4 a0).toInt ≤ (q_I r 12 4 a0).toInt ∧ ((q_I δ 12 5 a0).toInt ≠ -1 → (q_I r 12 5 a0).toInt ≠ -1) ∧ (q_I r 12 7 a0).toInt = (q_I δ 12 7 a0).toInt ∧ (q_I δ 12 26 a0).toInt ≤ (q_I r 12 26 a0).toInt ∧ (q_I r 12 26 a0).toInt - (q_I δ 12 26 a0).toInt ≤ (q_I r 12 4 a0).toInt - (q_I δ 12 4 a0).toInt ∧ US ad a0 δ r)) {a0 : Nat} (k_a0 : q_K h.1 a0 = 12) {δ : dp} (z0 : (q_I δ 12 24 a0).toInt ≤ 3) (z1 : (q_I δ 12 26 a0).toInt ≤ (q_I δ 12 4 a0).toInt) (z2 : 0 ≤ (q_I δ 12 7 a0).toInt) (z3 : (q_I δ 12 7 a0).toInt ≤ 7) (z4 : (q_I δ 12 7 a0).toInt = 7 → (q_I δ 12 5 a0).toInt ≠ -1) (z5 : 8 - (q_I δ 12 7 a0).toInt ≤ K) (I : RI ad h.1 δ0 δ) : ok (B_X12_unit N h.1 T a0 δ) (fun r => RI ad h.1 δ0 r ∧ (kp [(12, 4), (12, 5), (12, 6), (12, 7), (12, 26)] δ r ∧ q_V r = q_V δ ∧ kr ad [116, 117] δ r) ∧ (q_I δ 12 4 a0).toInt ≤ (q_I r 12 4 a0).toInt ∧ ((q_I δ 12 5 a0).toInt ≠ -1 → (q_I r 12 5 a0).toInt ≠ -1) ∧ (q_I r 12 7 a0).toInt = (q_I δ 12 7 a0).toInt ∧ (q_I δ 12 26 a0).toInt ≤ (q_I r 12 26 a0).toInt ∧ (q_I r 12 26 a0).toInt - (q_I δ 12 26 a0).toInt ≤ (q_I r 12 4 a0).toInt - (q_I δ 12 4 a0).toInt ∧ US ad a0 δ r) := by
  unfold B_X12_unit
  have f1 := cb_12_24 I k_a0
  have f2 := cb_12_26 I k_a0
  have f3 := cb_12_4 I k_a0
  have f4 := ti_b (q_I δ 12 7 a0)
  have f5 := ti_b (q_I δ 12 5 a0)
  refine ok_bind (k_X12_fine L hN (a0 := a0) k_a0 I) (fun r6 hr7 => ?_)
  obtain ⟨i8, p9, p10, p11⟩ := hr7
  try rw [i8]
  have f12 := bo_t p9
  have f13 := ti_b r6.1
  have f14 := ti_b r6.1
  refine ok_ite (fun h15 => ?_) (fun h15 => ?_)
  · have c16 : r6.1.toInt = (0 : Int) := o_eq h15
    exact ok_some (show RI ad h.1 δ0 δ ∧ (kp [(12, 4), (12, 5), (12, 6), (12, 7), (12, 26)] δ δ ∧ q_V δ = q_V δ ∧ kr ad [116, 117] δ δ) ∧ (q_I δ 12 4 a0).toInt ≤ (q_I δ 12 4 a0).toInt ∧ ((q_I δ 12 5 a0).toInt ≠ -1 → (q_I δ 12 5 a0).toInt ≠ -1) ∧ (q_I δ 12 7 a0).toInt = (q_I δ 12 7 a0).toInt ∧ (q_I δ 12 26 a0).toInt ≤ (q_I δ 12 26 a0).toInt ∧ (q_I δ 12 26 a0).toInt - (q_I δ 12 26 a0).toInt ≤ (q_I δ 12 4 a0).toInt - (q_I δ 12 4 a0).toInt ∧ US ad a0 δ δ from ⟨I, ⟨kp_w (by decide) kp_r, rfl, kr_w (by decide) kr_r⟩, by first | assumption | omega, by first | assumption | omega, by first | assumption | omega, by first | assumption | omega, by first | assumption | omega, US.bad NU.r (by omega)⟩)
  · have c17 : r6.1.toInt ≠ (0 : Int) := o_ne h15
    refine ok_bind (k_X12_here L hN (a0 := a0) k_a0 I) (fun r18 hr19 => ?_)
    obtain ⟨i20, ⟨u24, u25, u26, u27⟩, p21, p22, p23⟩ := hr19
    have u28 := kp_t kp_r u24
    have v29 : q_V r18.2 = q_V δ := (u25).trans rfl
    have v30 := kr_t kr_r u27
    have f31 := cb_12_4 i20 k_a0
    have f32 : hc ad r18.2 a0 = (q_R r18.2 (Ad ad 101) (q_I r18.2 12 4 a0).toNatClampNeg).toInt := rfl
    have t33 := ti_tn (q_I r18.2 12 4 a0)
    have f34 : (q_R r18.2 (Ad ad 101) (q_I r18.2 12 4 a0).toNatClampNeg).toInt = (q_R δ (Ad ad 101) (q_I r18.2 12 4 a0).toNatClampNeg).toInt := congrArg Int32.toInt (congrFun (u27 101 (by decide) (by decide) (by decide)) _)
    have f35 := ti_b (q_R δ (Ad ad 101) (q_I r18.2 12 4 a0).toNatClampNeg)
    have f36 := ti_b (q_R r18.2 (Ad ad 101) (q_I r18.2 12 4 a0).toNatClampNeg)
    have f37 := ti_b r18.1
    have f38 := cb_12_3 I k_a0
    have f39 : hc ad δ a0 = (q_R δ (Ad ad 101) (q_I δ 12 4 a0).toNatClampNeg).toInt := rfl
    have t40 := ti_tn (q_I δ 12 4 a0)
    have f41 := ti_b (q_R δ (Ad ad 101) (q_I δ 12 4 a0).toNatClampNeg)
    have f42 := ti_b r18.1
    have f43 := ti_b (q_I r18.2 12 5 a0)
    have f44 : (q_I r18.2 12 5 a0).toInt = (q_I δ 12 5 a0).toInt := congrArg Int32.toInt (u24 12 5 a0 (by decide))
    have us45 := NU.t NU.r (⟨u27 116 (by decide) (by decide) (by decide), u24 12 26 _ (by decide), u24 12 24 _ (by decide), fun z => by omega⟩)
    refine ok_bind (k_X12_isDigit L hN (x0 := r18.1)  i20) (fun r46 hr47 => ?_)
    obtain ⟨i48, p49, p50⟩ := hr47
    try rw [i48]
    have f51 := bo_t p49
    have f52 := ti_b r46.1
    have f53 := ti_b r46.1
    refine ok_ite (fun h54 => ?_) (fun h54 => ?_)
    · have c55 : r46.1.toInt = (0 : Int) := o_eq h54
      refine ok_ite (fun h56 => ?_) (fun h56 => ?_)
      · have c57 : r18.1.toInt = (40 : Int) := o_eq h56
        have f58 := ti_b (q_I r18.2 12 7 a0)
        have f59 : (q_I r18.2 12 7 a0).toInt = (q_I δ 12 7 a0).toInt := congrArg Int32.toInt (u24 12 7 a0 (by decide))
        refine ok_ite (fun h60 => ?_) (fun h60 => ?_)
        · have c61 : (q_I r18.2 12 7 a0).toInt = (6 : Int) := o_eq h60
          refine ok_bind (k_X12_wrong L hN (a0 := a0) (x1 := (3 : Int32)) (x2 := (q_I r18.2 12 4 a0)) k_a0 (show 0 ≤ ((q_I r18.2 12 4 a0)).toInt by first | assumption | omega) i20) (fun r62 hr63 => ?_)
          obtain ⟨i64, ⟨u66, u67, u68, u69⟩, p65⟩ := hr63
          have u70 := kp_t u28 u66
          have v71 : q_V r62 = q_V δ := (u67).trans v29
          have v72 := kr_t v30 u69
          have f73 := ti_b (q_I r62 12 5 a0)
          have us74 := NU.t us45 (⟨u69 116 (by decide) (by decide) (by decide), u66 12 26 _ (by decide), u66 12 24 _ (by decide), fun z => by omega⟩)
          unfold J_X12_unit_57
          refine ok_bind (k_X12_fine L hN (a0 := a0) k_a0 i64) (fun r75 hr76 => ?_)
          obtain ⟨i77, p78, p79, p80⟩ := hr76
          try rw [i77]
          have f81 := bo_t p78
          have f82 := ti_b r75.1
          have f83 := ti_b r75.1
          refine ok_ite (fun h84 => ?_) (fun h84 => ?_)
          · have c85 : r75.1.toInt = (0 : Int) := o_eq h84
            unfold J_X12_unit_74
            have f89 := ti_b (q_I r62 12 7 a0)
            have f90 : (q_I r62 12 7 a0).toInt = (q_I r18.2 12 7 a0).toInt := congrArg Int32.toInt (u66 12 7 a0 (by decide))
            first | (have q92 := te_addc (c := 1) (n := 1) rfl (q_I r62 12 7 a0) (by omega) (by omega); obtain ⟨f93, f94, f95⟩ := q92) | (obtain ⟨q92, f93, f94, f95⟩ := ti_addc (c := 1) (n := 1) rfl (q_I r62 12 7 a0))
            refine ok_bdv (fun d86 e87 => ?_)
            have i88 : RI ad h.1 δ0 d86 := by rw [e87]; exact cs_12_7 L i64
            have u96 := kp_I u70 e87
            have v97 : q_V d86 = q_V δ := ((show q_V d86 = q_V r62 by rw [e87]; rfl)).trans v71
            have v98 := kr_N v72 (show q_R d86 = q_R r62 by rw [e87]; rfl)
            have us99 := NU.t us74 (NU.w (ad := ad) e87 (by decide))
            have f102 := cb_12_24 i88 k_a0
            have f103 : (q_I d86 12 24 a0).toInt = (q_I r62 12 24 a0).toInt := congrArg Int32.toInt (by rw [e87]; exact rI_o (by decide))
            have f104 := cb_12_24 i64 k_a0
            have f105 : (q_I r62 12 24 a0).toInt = (q_I r18.2 12 24 a0).toInt := congrArg Int32.toInt (u66 12 24 a0 (by decide))
            have f106 := cb_12_24 i20 k_a0
            have f107 : (q_I r18.2 12 24 a0).toInt = (q_I δ 12 24 a0).toInt := congrArg Int32.toInt (u24 12 24 a0 (by decide))
            have f108 := cb_12_26 i88 k_a0
            have f109 : (q_I d86 12 26 a0).toInt = (q_I r62 12 26 a0).toInt := congrArg Int32.toInt (by rw [e87]; exact rI_o (by decide))
            have f110 := cb_12_26 i64 k_a0
            have f111 : (q_I r62 12 26 a0).toInt = (q_I r18.2 12 26 a0).toInt := congrArg Int32.toInt (u66 12 26 a0 (by decide))
            have f112 := cb_12_26 i20 k_a0
            have f113 : (q_I r18.2 12 26 a0).toInt = (q_I δ 12 26 a0).toInt := congrArg Int32.toInt (u24 12 26 a0 (by decide))
            have f114 := cb_12_4 i88 k_a0
            have f115 : (q_I d86 12 4 a0).toInt = (q_I r62 12 4 a0).toInt := congrArg Int32.toInt (by rw [e87]; exact rI_o (by decide))
            have f116 := cb_12_4 i64 k_a0
            have f117 : (q_I r62 12 4 a0).toInt = (q_I r18.2 12 4 a0).toInt := congrArg Int32.toInt (u66 12 4 a0 (by decide))
            have f118 := ti_b (q_I d86 12 7 a0)
            have f119 : (q_I d86 12 7 a0).toInt = ((q_I r62 12 7 a0) + (1 : Int32)).toInt := congrArg Int32.toInt (show q_I d86 12 7 a0 = ((q_I r62 12 7 a0) + (1 : Int32)) by rw [e87]; exact rI_s)
            have f120 := ti_b (q_I d86 12 5 a0)
            have f121 : (q_I d86 12 5 a0).toInt = (q_I r62 12 5 a0).toInt := congrArg Int32.toInt (by rw [e87]; exact rI_o (by decide))
            refine ok_bind (hT a0 d86 k_a0 (show (q_I d86 12 24 a0).toInt ≤ 3 by first | assumption | omega) (show (q_I d86 12 26 a0).toInt ≤ (q_I d86 12 4 a0).toInt by first | assumption | omega) (show 0 ≤ (q_I d86 12 7 a0).toInt by first | assumption | omega) (show (q_I d86 12 7 a0).toInt ≤ 7 by first | assumption | omega) (show (q_I d86 12 7 a0).toInt = 7 → (q_I d86 12 5 a0).toInt ≠ -1 by first | assumption | omega) (show 8 - (q_I d86 12 7 a0).toInt < _ by first | assumption | omega) i88) (fun r100 hr101 => ?_)
            obtain ⟨i122, ⟨u129, u130, u131⟩, p123, p124, p125, p126, p127, p128⟩ := hr101
            have u132 := kp_t u96 u129
            have v133 : q_V r100 = q_V δ := (u130).trans v97
            have v134 := kr_t v98 u131
            have f135 := cb_12_4 i122 k_a0
            have f136 := ti_b (q_I r100 12 5 a0)
            have f137 := ti_b (q_I r100 12 7 a0)
            have f138 := cb_12_26 i122 k_a0
            have us139 := US.pre us99 p128
            refine ok_bind (k_X12_sign L hN (a0 := a0) (x1 := (41 : Int32)) k_a0 (show (41 : Int) ≠ 0 by first | assumption | omega) i122) (fun r140 hr141 => ?_)
            obtain ⟨i142, ⟨u146, u147, u148, u149⟩, p143, p144, p145⟩ := hr141
            have u150 := kp_t u132 u146
            have v151 : q_V r140 = q_V δ := (u147).trans v133
            have v152 := kr_t v134 u149
            have f153 := cb_12_4 i142 k_a0
            have f154 := ti_b (q_I r140 12 5 a0)
            have us155 := US.post us139 (⟨u149 116 (by decide) (by decide) (by decide), u146 12 26 _ (by decide), u146 12 24 _ (by decide), fun z => by omega⟩)
            have f159 := ti_b (q_I r140 12 7 a0)
            have f160 : (q_I r140 12 7 a0).toInt = (q_I r100 12 7 a0).toInt := congrArg Int32.toInt (u146 12 7 a0 (by decide))
            first | (have q162 := te_subc (c := 1) (n := 1) rfl (q_I r140 12 7 a0) (by omega) (by omega); obtain ⟨f163, f164, f165⟩ := q162) | (obtain ⟨q162, f163, f164, f165⟩ := ti_subc (c := 1) (n := 1) rfl (q_I r140 12 7 a0))
            refine ok_bdv (fun d156 e157 => ?_)
            have i158 : RI ad h.1 δ0 d156 := by rw [e157]; exact cs_12_7 L i142
            have u166 := kp_I u150 e157
            have v167 : q_V d156 = q_V δ := ((show q_V d156 = q_V r140 by rw [e157]; rfl)).trans v151
            have v168 := kr_N v152 (show q_R d156 = q_R r140 by rw [e157]; rfl)
            have us169 := US.post us155 (NU.w (ad := ad) e157 (by decide))
            have f170 := cb_12_4 i158 k_a0
            have f171 : (q_I d156 12 4 a0).toInt = (q_I r140 12 4 a0).toInt := congrArg Int32.toInt (by rw [e157]; exact rI_o (by decide))
            have f172 := ti_b (q_I d156 12 5 a0)
            have f173 : (q_I d156 12 5 a0).toInt = (q_I r140 12 5 a0).toInt := congrArg Int32.toInt (by rw [e157]; exact rI_o (by decide))
            have f174 := ti_b (q_I d156 12 7 a0)
            have f175 : (q_I d156 12 7 a0).toInt = ((q_I r140 12 7 a0) - (1 : Int32)).toInt := congrArg Int32.toInt (show q_I d156 12 7 a0 = ((q_I r140 12 7 a0) - (1 : Int32)) by rw [e157]; exact rI_s)
            have f176 := cb_12_26 i158 k_a0
            have f177 : (q_I d156 12 26 a0).toInt = (q_I r140 12 26 a0).toInt := congrArg Int32.toInt (by rw [e157]; exact rI_o (by decide))
            have f178 := cb_12_26 i142 k_a0
            have f179 : (q_I r140 12 26 a0).toInt = (q_I r100 12 26 a0).toInt := congrArg Int32.toInt (u146 12 26 a0 (by decide))
            exact ok_some (show RI ad h.1 δ0 d156 ∧ (kp [(12, 4), (12, 5), (12, 6), (12, 7), (12, 26)] δ d156 ∧ q_V d156 = q_V δ ∧ kr ad [116, 117] δ d156) ∧ (q_I δ 12 4 a0).toInt ≤ (q_I d156 12 4 a0).toInt ∧ ((q_I δ 12 5 a0).toInt ≠ -1 → (q_I d156 12 5 a0).toInt ≠ -1) ∧ (q_I d156 12 7 a0).toInt = (q_I δ 12 7 a0).toInt ∧ (q_I δ 12 26 a0).toInt ≤ (q_I d156 12 26 a0).toInt ∧ (q_I d156 12 26 a0).toInt - (q_I δ 12 26 a0).toInt ≤ (q_I d156 12 4 a0).toInt - (q_I δ 12 4 a0).toInt ∧ US ad a0 δ d156 from ⟨i158, ⟨kp_w (by decide) u166, v167, kr_w (by decide) v168⟩, by first | assumption | omega, by first | assumption | omega, by first | assumption | omega, by first | assumption | omega, by first | assumption | omega, us169⟩)
          · have c180 : r75.1.toInt ≠ (0 : Int) := o_ne h84
            have f184 := cb_12_4 i64 k_a0
            have f185 : (q_I r62 12 4 a0).toInt = (q_I r18.2 12 4 a0).toInt := congrArg Int32.toInt (u66 12 4 a0 (by decide))
            first | (have q187 := te_addc (c := 1) (n := 1) rfl (q_I r62 12 4 a0) (by omega) (by omega); obtain ⟨f188, f189, f190⟩ := q187) | (obtain ⟨q187, f188, f189, f190⟩ := ti_addc (c := 1) (n := 1) rfl (q_I r62 12 4 a0))
            refine ok_bdv (fun d181 e182 => ?_)
            have i183 : RI ad h.1 δ0 d181 := by rw [e182]; exact cs_12_4 L i64 k_a0 (show 0 ≤ ((q_I r62 12 4 a0) + (1 : Int32)).toInt by omega) (show ((q_I r62 12 4 a0) + (1 : Int32)).toInt ≤ 500 by omega)
            have u191 := kp_I u70 e182
            have v192 : q_V d181 = q_V δ := ((show q_V d181 = q_V r62 by rw [e182]; rfl)).trans v71
            have v193 := kr_N v72 (show q_R d181 = q_R r62 by rw [e182]; rfl)
            have us194 := NU.t us74 (NU.w (ad := ad) e182 (by decide))
            unfold J_X12_unit_74
            have f198 := ti_b (q_I d181 12 7 a0)
            have f199 : (q_I d181 12 7 a0).toInt = (q_I r62 12 7 a0).toInt := congrArg Int32.toInt (by rw [e182]; exact rI_o (by decide))
            have f200 := ti_b (q_I r62 12 7 a0)
            have f201 : (q_I r62 12 7 a0).toInt = (q_I r18.2 12 7 a0).toInt := congrArg Int32.toInt (u66 12 7 a0 (by decide))
            first | (have q203 := te_addc (c := 1) (n := 1) rfl (q_I d181 12 7 a0) (by omega) (by omega); obtain ⟨f204, f205, f206⟩ := q203) | (obtain ⟨q203, f204, f205, f206⟩ := ti_addc (c := 1) (n := 1) rfl (q_I d181 12 7 a0))
            refine ok_bdv (fun d195 e196 => ?_)
            have i197 : RI ad h.1 δ0 d195 := by rw [e196]; exact cs_12_7 L i183
            have u207 := kp_I u191 e196
            have v208 : q_V d195 = q_V δ := ((show q_V d195 = q_V d181 by rw [e196]; rfl)).trans v192
            have v209 := kr_N v193 (show q_R d195 = q_R d181 by rw [e196]; rfl)
            have us210 := NU.t us194 (NU.w (ad := ad) e196 (by decide))
            have f213 := cb_12_24 i197 k_a0
            have f214 : (q_I d195 12 24 a0).toInt = (q_I d181 12 24 a0).toInt := congrArg Int32.toInt (by rw [e196]; exact rI_o (by decide))
            have f215 := cb_12_24 i183 k_a0
            have f216 : (q_I d181 12 24 a0).toInt = (q_I r62 12 24 a0).toInt := congrArg Int32.toInt (by rw [e182]; exact rI_o (by decide))
            have f217 := cb_12_24 i64 k_a0
            have f218 : (q_I r62 12 24 a0).toInt = (q_I r18.2 12 24 a0).toInt := congrArg Int32.toInt (u66 12 24 a0 (by decide))
            have f219 := cb_12_24 i20 k_a0
            have f220 : (q_I r18.2 12 24 a0).toInt = (q_I δ 12 24 a0).toInt := congrArg Int32.toInt (u24 12 24 a0 (by decide))
            have f221 := cb_12_26 i197 k_a0
            have f222 : (q_I d195 12 26 a0).toInt = (q_I d181 12 26 a0).toInt := congrArg Int32.toInt (by rw [e196]; exact rI_o (by decide))
            have f223 := cb_12_26 i183 k_a0
            have f224 : (q_I d181 12 26 a0).toInt = (q_I r62 12 26 a0).toInt := congrArg Int32.toInt (by rw [e182]; exact rI_o (by decide))
            have f225 := cb_12_26 i64 k_a0
            have f226 : (q_I r62 12 26 a0).toInt = (q_I r18.2 12 26 a0).toInt := congrArg Int32.toInt (u66 12 26 a0 (by decide))
            have f227 := cb_12_26 i20 k_a0
            have f228 : (q_I r18.2 12 26 a0).toInt = (q_I δ 12 26 a0).toInt := congrArg Int32.toInt (u24 12 26 a0 (by decide))
            have f229 := cb_12_4 i197 k_a0
            have f230 : (q_I d195 12 4 a0).toInt = (q_I d181 12 4 a0).toInt := congrArg Int32.toInt (by rw [e196]; exact rI_o (by decide))
            have f231 := cb_12_4 i183 k_a0
            have f232 : (q_I d181 12 4 a0).toInt = ((q_I r62 12 4 a0) + (1 : Int32)).toInt := congrArg Int32.toInt (show q_I d181 12 4 a0 = ((q_I r62 12 4 a0) + (1 : Int32)) by rw [e182]; exact rI_s)
            have f233 := ti_b (q_I d195 12 7 a0)
            have f234 : (q_I d195 12 7 a0).toInt = ((q_I d181 12 7 a0) + (1 : Int32)).toInt := congrArg Int32.toInt (show q_I d195 12 7 a0 = ((q_I d181 12 7 a0) + (1 : Int32)) by rw [e196]; exact rI_s)
            have f235 := ti_b (q_I d195 12 5 a0)
            have f236 : (q_I d195 12 5 a0).toInt = (q_I d181 12 5 a0).toInt := congrArg Int32.toInt (by rw [e196]; exact rI_o (by decide))
            have f237 := ti_b (q_I d181 12 5 a0)
            have f238 : (q_I d181 12 5 a0).toInt = (q_I r62 12 5 a0).toInt := congrArg Int32.toInt (by rw [e182]; exact rI_o (by decide))
            refine ok_bind (hT a0 d195 k_a0 (show (q_I d195 12 24 a0).toInt ≤ 3 by first | assumption | omega) (show (q_I d195 12 26 a0).toInt ≤ (q_I d195 12 4 a0).toInt by first | assumption | omega) (show 0 ≤ (q_I d195 12 7 a0).toInt by first | assumption | omega) (show (q_I d195 12 7 a0).toInt ≤ 7 by first | assumption | omega) (show (q_I d195 12 7 a0).toInt = 7 → (q_I d195 12 5 a0).toInt ≠ -1 by first | assumption | omega) (show 8 - (q_I d195 12 7 a0).toInt < _ by first | assumption | omega) i197) (fun r211 hr212 => ?_)
            obtain ⟨i239, ⟨u246, u247, u248⟩, p240, p241, p242, p243, p244, p245⟩ := hr212
            have u249 := kp_t u207 u246
            have v250 : q_V r211 = q_V δ := (u247).trans v208
            have v251 := kr_t v209 u248
            have f252 := cb_12_4 i239 k_a0
            have f253 := ti_b (q_I r211 12 5 a0)
            have f254 := ti_b (q_I r211 12 7 a0)
            have f255 := cb_12_26 i239 k_a0
            have us256 := US.pre us210 p245
            refine ok_bind (k_X12_sign L hN (a0 := a0) (x1 := (41 : Int32)) k_a0 (show (41 : Int) ≠ 0 by first | assumption | omega) i239) (fun r257 hr258 => ?_)
            obtain ⟨i259, ⟨u263, u264, u265, u266⟩, p260, p261, p262⟩ := hr258
            have u267 := kp_t u249 u263
            have v268 : q_V r257 = q_V δ := (u264).trans v250
            have v269 := kr_t v251 u266
            have f270 := cb_12_4 i259 k_a0
            have f271 := ti_b (q_I r257 12 5 a0)
            have us272 := US.post us256 (⟨u266 116 (by decide) (by decide) (by decide), u263 12 26 _ (by decide), u263 12 24 _ (by decide), fun z => by omega⟩)
            have f276 := ti_b (q_I r257 12 7 a0)
            have f277 : (q_I r257 12 7 a0).toInt = (q_I r211 12 7 a0).toInt := congrArg Int32.toInt (u263 12 7 a0 (by decide))
            first | (have q279 := te_subc (c := 1) (n := 1) rfl (q_I r257 12 7 a0) (by omega) (by omega); obtain ⟨f280, f281, f282⟩ := q279) | (obtain ⟨q279, f280, f281, f282⟩ := ti_subc (c := 1) (n := 1) rfl (q_I r257 12 7 a0))
            refine ok_bdv (fun d273 e274 => ?_)
            have i275 : RI ad h.1 δ0 d273 := by rw [e274]; exact cs_12_7 L i259
            have u283 := kp_I u267 e274
            have v284 : q_V d273 = q_V δ := ((show q_V d273 = q_V r257 by rw [e274]; rfl)).trans v268
            have v285 := kr_N v269 (show q_R d273 = q_R r257 by rw [e274]; rfl)
            have us286 := US.post us272 (NU.w (ad := ad) e274 (by decide))
            have f287 := cb_12_4 i275 k_a0
            have f288 : (q_I d273 12 4 a0).toInt = (q_I r257 12 4 a0).toInt := congrArg Int32.toInt (by rw [e274]; exact rI_o (by decide))
            have f289 := ti_b (q_I d273 12 5 a0)
            have f290 : (q_I d273 12 5 a0).toInt = (q_I r257 12 5 a0).toInt := congrArg Int32.toInt (by rw [e274]; exact rI_o (by decide))
            have f291 := ti_b (q_I d273 12 7 a0)
            have f292 : (q_I d273 12 7 a0).toInt = ((q_I r257 12 7 a0) - (1 : Int32)).toInt := congrArg Int32.toInt (show q_I d273 12 7 a0 = ((q_I r257 12 7 a0) - (1 : Int32)) by rw [e274]; exact rI_s)
            have f293 := cb_12_26 i275 k_a0
            have f294 : (q_I d273 12 26 a0).toInt = (q_I r257 12 26 a0).toInt := congrArg Int32.toInt (by rw [e274]; exact rI_o (by decide))
            have f295 := cb_12_26 i259 k_a0
            have f296 : (q_I r257 12 26 a0).toInt = (q_I r211 12 26 a0).toInt := congrArg Int32.toInt (u263 12 26 a0 (by decide))
            exact ok_some (show RI ad h.1 δ0 d273 ∧ (kp [(12, 4), (12, 5), (12, 6), (12, 7), (12, 26)] δ d273 ∧ q_V d273 = q_V δ ∧ kr ad [116, 117] δ d273) ∧ (q_I δ 12 4 a0).toInt ≤ (q_I d273 12 4 a0).toInt ∧ ((q_I δ 12 5 a0).toInt ≠ -1 → (q_I d273 12 5 a0).toInt ≠ -1) ∧ (q_I d273 12 7 a0).toInt = (q_I δ 12 7 a0).toInt ∧ (q_I δ 12 26 a0).toInt ≤ (q_I d273 12 26 a0).toInt ∧ (q_I d273 12 26 a0).toInt - (q_I δ 12 26 a0).toInt ≤ (q_I d273 12 4 a0).toInt - (q_I δ 12 4 a0).toInt ∧ US ad a0 δ d273 from ⟨i275, ⟨kp_w (by decide) u283, v284, kr_w (by decide) v285⟩, by first | assumption | omega, by first | assumption | omega, by first | assumption | omega, by first | assumption | omega, by first | assumption | omega, us286⟩)
        · have c297 : (q_I r18.2 12 7 a0).toInt ≠ (6 : Int) := o_ne h60
          unfold J_X12_unit_57
          refine ok_bind (k_X12_fine L hN (a0 := a0) k_a0 i20) (fun r298 hr299 => ?_)
          obtain ⟨i300, p301, p302, p303⟩ := hr299
          try rw [i300]
          have f304 := bo_t p301
          have f305 := ti_b r298.1
          have f306 := ti_b r298.1
          refine ok_ite (fun h307 => ?_) (fun h307 => ?_)
          · have c308 : r298.1.toInt = (0 : Int) := o_eq h307
            unfold J_X12_unit_74
            first | (have q313 := te_addc (c := 1) (n := 1) rfl (q_I r18.2 12 7 a0) (by omega) (by omega); obtain ⟨f314, f315, f316⟩ := q313) | (obtain ⟨q313, f314, f315, f316⟩ := ti_addc (c := 1) (n := 1) rfl (q_I r18.2 12 7 a0))
            refine ok_bdv (fun d309 e310 => ?_)
            have i311 : RI ad h.1 δ0 d309 := by rw [e310]; exact cs_12_7 L i20
            have u317 := kp_I u28 e310
            have v318 : q_V d309 = q_V δ := ((show q_V d309 = q_V r18.2 by rw [e310]; rfl)).trans v29
            have v319 := kr_N v30 (show q_R d309 = q_R r18.2 by rw [e310]; rfl)
            have us320 := NU.t us45 (NU.w (ad := ad) e310 (by decide))
            have f323 := cb_12_24 i311 k_a0
            have f324 : (q_I d309 12 24 a0).toInt = (q_I r18.2 12 24 a0).toInt := congrArg Int32.toInt (by rw [e310]; exact rI_o (by decide))
            have f325 := cb_12_24 i20 k_a0
            have f326 : (q_I r18.2 12 24 a0).toInt = (q_I δ 12 24 a0).toInt := congrArg Int32.toInt (u24 12 24 a0 (by decide))
            have f327 := cb_12_26 i311 k_a0
            have f328 : (q_I d309 12 26 a0).toInt = (q_I r18.2 12 26 a0).toInt := congrArg Int32.toInt (by rw [e310]; exact rI_o (by decide))
            have f329 := cb_12_26 i20 k_a0
            have f330 : (q_I r18.2 12 26 a0).toInt = (q_I δ 12 26 a0).toInt := congrArg Int32.toInt (u24 12 26 a0 (by decide))
            have f331 := cb_12_4 i311 k_a0
            have f332 : (q_I d309 12 4 a0).toInt = (q_I r18.2 12 4 a0).toInt := congrArg Int32.toInt (by rw [e310]; exact rI_o (by decide))
            have f333 := ti_b (q_I d309 12 7 a0)
            have f334 : (q_I d309 12 7 a0).toInt = ((q_I r18.2 12 7 a0) + (1 : Int32)).toInt := congrArg Int32.toInt (show q_I d309 12 7 a0 = ((q_I r18.2 12 7 a0) + (1 : Int32)) by rw [e310]; exact rI_s)
            have f335 := ti_b (q_I d309 12 5 a0)
            have f336 : (q_I d309 12 5 a0).toInt = (q_I r18.2 12 5 a0).toInt := congrArg Int32.toInt (by rw [e310]; exact rI_o (by decide))
            refine ok_bind (hT a0 d309 k_a0 (show (q_I d309 12 24 a0).toInt ≤ 3 by first | assumption | omega) (show (q_I d309 12 26 a0).toInt ≤ (q_I d309 12 4 a0).toInt by first | assumption | omega) (show 0 ≤ (q_I d309 12 7 a0).toInt by first | assumption | omega) (show (q_I d309 12 7 a0).toInt ≤ 7 by first | assumption | omega) (show (q_I d309 12 7 a0).toInt = 7 → (q_I d309 12 5 a0).toInt ≠ -1 by first | assumption | omega) (show 8 - (q_I d309 12 7 a0).toInt < _ by first | assumption | omega) i311) (fun r321 hr322 => ?_)
            obtain ⟨i337, ⟨u344, u345, u346⟩, p338, p339, p340, p341, p342, p343⟩ := hr322
            have u347 := kp_t u317 u344
            have v348 : q_V r321 = q_V δ := (u345).trans v318
            have v349 := kr_t v319 u346
            have f350 := cb_12_4 i337 k_a0
            have f351 := ti_b (q_I r321 12 5 a0)
            have f352 := ti_b (q_I r321 12 7 a0)
            have f353 := cb_12_26 i337 k_a0
            have us354 := US.pre us320 p343
            refine ok_bind (k_X12_sign L hN (a0 := a0) (x1 := (41 : Int32)) k_a0 (show (41 : Int) ≠ 0 by first | assumption | omega) i337) (fun r355 hr356 => ?_)
            obtain ⟨i357, ⟨u361, u362, u363, u364⟩, p358, p359, p360⟩ := hr356
            have u365 := kp_t u347 u361
            have v366 : q_V r355 = q_V δ := (u362).trans v348
            have v367 := kr_t v349 u364
            have f368 := cb_12_4 i357 k_a0
            have f369 := ti_b (q_I r355 12 5 a0)
            have us370 := US.post us354 (⟨u364 116 (by decide) (by decide) (by decide), u361 12 26 _ (by decide), u361 12 24 _ (by decide), fun z => by omega⟩)
            have f374 := ti_b (q_I r355 12 7 a0)
            have f375 : (q_I r355 12 7 a0).toInt = (q_I r321 12 7 a0).toInt := congrArg Int32.toInt (u361 12 7 a0 (by decide))
            first | (have q377 := te_subc (c := 1) (n := 1) rfl (q_I r355 12 7 a0) (by omega) (by omega); obtain ⟨f378, f379, f380⟩ := q377) | (obtain ⟨q377, f378, f379, f380⟩ := ti_subc (c := 1) (n := 1) rfl (q_I r355 12 7 a0))
            refine ok_bdv (fun d371 e372 => ?_)
            have i373 : RI ad h.1 δ0 d371 := by rw [e372]; exact cs_12_7 L i357
            have u381 := kp_I u365 e372
            have v382 : q_V d371 = q_V δ := ((show q_V d371 = q_V r355 by rw [e372]; rfl)).trans v366
            have v383 := kr_N v367 (show q_R d371 = q_R r355 by rw [e372]; rfl)
            have us384 := US.post us370 (NU.w (ad := ad) e372 (by decide))
            have f385 := cb_12_4 i373 k_a0
            have f386 : (q_I d371 12 4 a0).toInt = (q_I r355 12 4 a0).toInt := congrArg Int32.toInt (by rw [e372]; exact rI_o (by decide))
            have f387 := ti_b (q_I d371 12 5 a0)
            have f388 : (q_I d371 12 5 a0).toInt = (q_I r355 12 5 a0).toInt := congrArg Int32.toInt (by rw [e372]; exact rI_o (by decide))
            have f389 := ti_b (q_I d371 12 7 a0)
            have f390 : (q_I d371 12 7 a0).toInt = ((q_I r355 12 7 a0) - (1 : Int32)).toInt := congrArg Int32.toInt (show q_I d371 12 7 a0 = ((q_I r355 12 7 a0) - (1 : Int32)) by rw [e372]; exact rI_s)
            have f391 := cb_12_26 i373 k_a0
            have f392 : (q_I d371 12 26 a0).toInt = (q_I r355 12 26 a0).toInt := congrArg Int32.toInt (by rw [e372]; exact rI_o (by decide))
            have f393 := cb_12_26 i357 k_a0
            have f394 : (q_I r355 12 26 a0).toInt = (q_I r321 12 26 a0).toInt := congrArg Int32.toInt (u361 12 26 a0 (by decide))
            exact ok_some (show RI ad h.1 δ0 d371 ∧ (kp [(12, 4), (12, 5), (12, 6), (12, 7), (12, 26)] δ d371 ∧ q_V d371 = q_V δ ∧ kr ad [116, 117] δ d371) ∧ (q_I δ 12 4 a0).toInt ≤ (q_I d371 12 4 a0).toInt ∧ ((q_I δ 12 5 a0).toInt ≠ -1 → (q_I d371 12 5 a0).toInt ≠ -1) ∧ (q_I d371 12 7 a0).toInt = (q_I δ 12 7 a0).toInt ∧ (q_I δ 12 26 a0).toInt ≤ (q_I d371 12 26 a0).toInt ∧ (q_I d371 12 26 a0).toInt - (q_I δ 12 26 a0).toInt ≤ (q_I d371 12 4 a0).toInt - (q_I δ 12 4 a0).toInt ∧ US ad a0 δ d371 from ⟨i373, ⟨kp_w (by decide) u381, v382, kr_w (by decide) v383⟩, by first | assumption | omega, by first | assumption | omega, by first | assumption | omega, by first | assumption | omega, by first | assumption | omega, us384⟩)
          · have c395 : r298.1.toInt ≠ (0 : Int) := o_ne h307
            first | (have q400 := te_addc (c := 1) (n := 1) rfl (q_I r18.2 12 4 a0) (by omega) (by omega); obtain ⟨f401, f402, f403⟩ := q400) | (obtain ⟨q400, f401, f402, f403⟩ := ti_addc (c := 1) (n := 1) rfl (q_I r18.2 12 4 a0))
            refine ok_bdv (fun d396 e397 => ?_)
            have i398 : RI ad h.1 δ0 d396 := by rw [e397]; exact cs_12_4 L i20 k_a0 (show 0 ≤ ((q_I r18.2 12 4 a0) + (1 : Int32)).toInt by omega) (show ((q_I r18.2 12 4 a0) + (1 : Int32)).toInt ≤ 500 by omega)
            have u404 := kp_I u28 e397
            have v405 : q_V d396 = q_V δ := ((show q_V d396 = q_V r18.2 by rw [e397]; rfl)).trans v29
            have v406 := kr_N v30 (show q_R d396 = q_R r18.2 by rw [e397]; rfl)
            have us407 := NU.t us45 (NU.w (ad := ad) e397 (by decide))
            unfold J_X12_unit_74
            have f411 := ti_b (q_I d396 12 7 a0)
            have f412 : (q_I d396 12 7 a0).toInt = (q_I r18.2 12 7 a0).toInt := congrArg Int32.toInt (by rw [e397]; exact rI_o (by decide))
            first | (have q414 := te_addc (c := 1) (n := 1) rfl (q_I d396 12 7 a0) (by omega) (by omega); obtain ⟨f415, f416, f417⟩ := q414) | (obtain ⟨q414, f415, f416, f417⟩ := ti_addc (c := 1) (n := 1) rfl (q_I d396 12 7 a0))
            refine ok_bdv (fun d408 e409 => ?_)
            have i410 : RI ad h.1 δ0 d408 := by rw [e409]; exact cs_12_7 L i398
            have u418 := kp_I u404 e409
            have v419 : q_V d408 = q_V δ := ((show q_V d408 = q_V d396 by rw [e409]; rfl)).trans v405
            have v420 := kr_N v406 (show q_R d408 = q_R d396 by rw [e409]; rfl)
            have us421 := NU.t us407 (NU.w (ad := ad) e409 (by decide))
            have f424 := cb_12_24 i410 k_a0
            have f425 : (q_I d408 12 24 a0).toInt = (q_I d396 12 24 a0).toInt := congrArg Int32.toInt (by rw [e409]; exact rI_o (by decide))
            have f426 := cb_12_24 i398 k_a0
            have f427 : (q_I d396 12 24 a0).toInt = (q_I r18.2 12 24 a0).toInt := congrArg Int32.toInt (by rw [e397]; exact rI_o (by decide))
            have f428 := cb_12_24 i20 k_a0
            have f429 : (q_I r18.2 12 24 a0).toInt = (q_I δ 12 24 a0).toInt := congrArg Int32.toInt (u24 12 24 a0 (by decide))
            have f430 := cb_12_26 i410 k_a0
            have f431 : (q_I d408 12 26 a0).toInt = (q_I d396 12 26 a0).toInt := congrArg Int32.toInt (by rw [e409]; exact rI_o (by decide))
            have f432 := cb_12_26 i398 k_a0
            have f433 : (q_I d396 12 26 a0).toInt = (q_I r18.2 12 26 a0).toInt := congrArg Int32.toInt (by rw [e397]; exact rI_o (by decide))
            have f434 := cb_12_26 i20 k_a0
            have f435 : (q_I r18.2 12 26 a0).toInt = (q_I δ 12 26 a0).toInt := congrArg Int32.toInt (u24 12 26 a0 (by decide))
            have f436 := cb_12_4 i410 k_a0
            have f437 : (q_I d408 12 4 a0).toInt = (q_I d396 12 4 a0).toInt := congrArg Int32.toInt (by rw [e409]; exact rI_o (by decide))
            have f438 := cb_12_4 i398 k_a0
            have f439 : (q_I d396 12 4 a0).toInt = ((q_I r18.2 12 4 a0) + (1 : Int32)).toInt := congrArg Int32.toInt (show q_I d396 12 4 a0 = ((q_I r18.2 12 4 a0) + (1 : Int32)) by rw [e397]; exact rI_s)
            have f440 := ti_b (q_I d408 12 7 a0)
            have f441 : (q_I d408 12 7 a0).toInt = ((q_I d396 12 7 a0) + (1 : Int32)).toInt := congrArg Int32.toInt (show q_I d408 12 7 a0 = ((q_I d396 12 7 a0) + (1 : Int32)) by rw [e409]; exact rI_s)
            have f442 := ti_b (q_I d408 12 5 a0)
            have f443 : (q_I d408 12 5 a0).toInt = (q_I d396 12 5 a0).toInt := congrArg Int32.toInt (by rw [e409]; exact rI_o (by decide))
            have f444 := ti_b (q_I d396 12 5 a0)
            have f445 : (q_I d396 12 5 a0).toInt = (q_I r18.2 12 5 a0).toInt := congrArg Int32.toInt (by rw [e397]; exact rI_o (by decide))
            refine ok_bind (hT a0 d408 k_a0 (show (q_I d408 12 24 a0).toInt ≤ 3 by first | assumption | omega) (show (q_I d408 12 26 a0).toInt ≤ (q_I d408 12 4 a0).toInt by first | assumption | omega) (show 0 ≤ (q_I d408 12 7 a0).toInt by first | assumption | omega) (show (q_I d408 12 7 a0).toInt ≤ 7 by first | assumption | omega) (show (q_I d408 12 7 a0).toInt = 7 → (q_I d408 12 5 a0).toInt ≠ -1 by first | assumption | omega) (show 8 - (q_I d408 12 7 a0).toInt < _ by first | assumption | omega) i410) (fun r422 hr423 => ?_)
            obtain ⟨i446, ⟨u453, u454, u455⟩, p447, p448, p449, p450, p451, p452⟩ := hr423
            have u456 := kp_t u418 u453
            have v457 : q_V r422 = q_V δ := (u454).trans v419
            have v458 := kr_t v420 u455
            have f459 := cb_12_4 i446 k_a0
            have f460 := ti_b (q_I r422 12 5 a0)
            have f461 := ti_b (q_I r422 12 7 a0)
            have f462 := cb_12_26 i446 k_a0
            have us463 := US.pre us421 p452
            refine ok_bind (k_X12_sign L hN (a0 := a0) (x1 := (41 : Int32)) k_a0 (show (41 : Int) ≠ 0 by first | assumption | omega) i446) (fun r464 hr465 => ?_)
            obtain ⟨i466, ⟨u470, u471, u472, u473⟩, p467, p468, p469⟩ := hr465
            have u474 := kp_t u456 u470
            have v475 : q_V r464 = q_V δ := (u471).trans v457
            have v476 := kr_t v458 u473
            have f477 := cb_12_4 i466 k_a0
            have f478 := ti_b (q_I r464 12 5 a0)
            have us479 := US.post us463 (⟨u473 116 (by decide) (by decide) (by decide), u470 12 26 _ (by decide), u470 12 24 _ (by decide), fun z => by omega⟩)
            have f483 := ti_b (q_I r464 12 7 a0)
            have f484 : (q_I r464 12 7 a0).toInt = (q_I r422 12 7 a0).toInt := congrArg Int32.toInt (u470 12 7 a0 (by decide))
            first | (have q486 := te_subc (c := 1) (n := 1) rfl (q_I r464 12 7 a0) (by omega) (by omega); obtain ⟨f487, f488, f489⟩ := q486) | (obtain ⟨q486, f487, f488, f489⟩ := ti_subc (c := 1) (n := 1) rfl (q_I r464 12 7 a0))
            refine ok_bdv (fun d480 e481 => ?_)
            have i482 : RI ad h.1 δ0 d480 := by rw [e481]; exact cs_12_7 L i466
            have u490 := kp_I u474 e481
            have v491 : q_V d480 = q_V δ := ((show q_V d480 = q_V r464 by rw [e481]; rfl)).trans v475
            have v492 := kr_N v476 (show q_R d480 = q_R r464 by rw [e481]; rfl)
            have us493 := US.post us479 (NU.w (ad := ad) e481 (by decide))
            have f494 := cb_12_4 i482 k_a0
            have f495 : (q_I d480 12 4 a0).toInt = (q_I r464 12 4 a0).toInt := congrArg Int32.toInt (by rw [e481]; exact rI_o (by decide))
            have f496 := ti_b (q_I d480 12 5 a0)
            have f497 : (q_I d480 12 5 a0).toInt = (q_I r464 12 5 a0).toInt := congrArg Int32.toInt (by rw [e481]; exact rI_o (by decide))
            have f498 := ti_b (q_I d480 12 7 a0)
            have f499 : (q_I d480 12 7 a0).toInt = ((q_I r464 12 7 a0) - (1 : Int32)).toInt := congrArg Int32.toInt (show q_I d480 12 7 a0 = ((q_I r464 12 7 a0) - (1 : Int32)) by rw [e481]; exact rI_s)
            have f500 := cb_12_26 i482 k_a0
            have f501 : (q_I d480 12 26 a0).toInt = (q_I r464 12 26 a0).toInt := congrArg Int32.toInt (by rw [e481]; exact rI_o (by decide))
            have f502 := cb_12_26 i466 k_a0
            have f503 : (q_I r464 12 26 a0).toInt = (q_I r422 12 26 a0).toInt := congrArg Int32.toInt (u470 12 26 a0 (by decide))
            exact ok_some (show RI ad h.1 δ0 d480 ∧ (kp [(12, 4), (12, 5), (12, 6), (12, 7), (12, 26)] δ d480 ∧ q_V d480 = q_V δ ∧ kr ad [116, 117] δ d480) ∧ (q_I δ 12 4 a0).toInt ≤ (q_I d480 12 4 a0).toInt ∧ ((q_I δ 12 5 a0).toInt ≠ -1 → (q_I d480 12 5 a0).toInt ≠ -1) ∧ (q_I d480 12 7 a0).toInt = (q_I δ 12 7 a0).toInt ∧ (q_I δ 12 26 a0).toInt ≤ (q_I d480 12 26 a0).toInt ∧ (q_I d480 12 26 a0).toInt - (q_I δ 12 26 a0).toInt ≤ (q_I d480 12 4 a0).toInt - (q_I δ 12 4 a0).toInt ∧ US ad a0 δ d480 from ⟨i482, ⟨kp_w (by decide) u490, v491, kr_w (by decide) v492⟩, by first | assumption | omega, by first | assumption | omega, by first | assumption | omega, by first | assumption | omega, by first | assumption | omega, us493⟩)
      · have c504 : r18.1.toInt ≠ (40 : Int) := o_ne h56
        refine ok_bind (k_X12_word L hN (a0 := a0) k_a0 i20) (fun r505 hr506 => ?_)
        obtain ⟨i507, ⟨u510, u511, u512, u513⟩, p508, p509⟩ := hr506
        have u514 := kp_t u28 u510
        have v515 : q_V r505.2 = q_V δ := (u511).trans v29
        have v516 := kr_t v30 u513
        have f517 := cb_12_4 i507 k_a0
        have f518 : hc ad r505.2 a0 = (q_R r505.2 (Ad ad 101) (q_I r505.2 12 4 a0).toNatClampNeg).toInt := rfl
        have t519 := ti_tn (q_I r505.2 12 4 a0)
        have f520 : (q_R r505.2 (Ad ad 101) (q_I r505.2 12 4 a0).toNatClampNeg).toInt = (q_R r18.2 (Ad ad 101) (q_I r505.2 12 4 a0).toNatClampNeg).toInt := congrArg Int32.toInt (congrFun (u513 101 (by decide) (by decide) (by decide)) _)
        have f521 : (q_R r18.2 (Ad ad 101) (q_I r505.2 12 4 a0).toNatClampNeg).toInt = (q_R δ (Ad ad 101) (q_I r505.2 12 4 a0).toNatClampNeg).toInt := congrArg Int32.toInt (congrFun (u27 101 (by decide) (by decide) (by decide)) _)
        have f522 := ti_b (q_R δ (Ad ad 101) (q_I r505.2 12 4 a0).toNatClampNeg)
        have f523 := ti_b (q_R r18.2 (Ad ad 101) (q_I r505.2 12 4 a0).toNatClampNeg)
        have f524 := ti_b (q_R r505.2 (Ad ad 101) (q_I r505.2 12 4 a0).toNatClampNeg)
        have f525 := ti_b r505.1
        have f526 := cb_12_3 i20 k_a0
        have f527 : (q_I r18.2 12 3 a0).toInt = (q_I δ 12 3 a0).toInt := congrArg Int32.toInt (u24 12 3 a0 (by decide))
        have f528 := ti_b r505.1
        have f529 := ti_b (q_I r505.2 12 5 a0)
        have f530 : (q_I r505.2 12 5 a0).toInt = (q_I r18.2 12 5 a0).toInt := congrArg Int32.toInt (u510 12 5 a0 (by decide))
        have us531 := NU.t us45 (⟨u513 116 (by decide) (by decide) (by decide), u510 12 26 _ (by decide), u510 12 24 _ (by decide), fun z => by omega⟩)
        refine ok_bind (k_X12_of L hN (a0 := 11) (show 11 < 16 by first | assumption | omega) i507) (fun r532 hr533 => ?_)
        obtain ⟨i534, p535⟩ := hr533
        try rw [i534]
        have f536 := ti_b r532.1
        have f537 := ti_b r532.1
        refine ok_ite (fun h538 => ?_) (fun h538 => ?_)
        · have c539 : r505.1.toInt = r532.1.toInt := o_eq h538
          unfold J_X12_unit_176
          refine ok_ite (fun h540 => ?_) (fun h540 => ?_)
          · have c541 : (1 : Int) = (-1 : Int) := o_eq h540
            refine ok_bind (k_X12_wrong L hN (a0 := a0) (x1 := (1 : Int32)) (x2 := (q_I r505.2 12 4 a0)) k_a0 (show 0 ≤ ((q_I r505.2 12 4 a0)).toInt by first | assumption | omega) i507) (fun r542 hr543 => ?_)
            obtain ⟨i544, ⟨u546, u547, u548, u549⟩, p545⟩ := hr543
            have u550 := kp_t u514 u546
            have v551 : q_V r542 = q_V δ := (u547).trans v515
            have v552 := kr_t v516 u549
            have f553 := ti_b (q_I r542 12 5 a0)
            have us554 := NU.t us531 (⟨u549 116 (by decide) (by decide) (by decide), u546 12 26 _ (by decide), u546 12 24 _ (by decide), fun z => by omega⟩)
            have f555 := cb_12_4 i544 k_a0
            have f556 : (q_I r542 12 4 a0).toInt = (q_I r505.2 12 4 a0).toInt := congrArg Int32.toInt (u546 12 4 a0 (by decide))
            have f557 := ti_b (q_I r542 12 7 a0)
            have f558 : (q_I r542 12 7 a0).toInt = (q_I r505.2 12 7 a0).toInt := congrArg Int32.toInt (u546 12 7 a0 (by decide))
            have f559 := ti_b (q_I r505.2 12 7 a0)
            have f560 : (q_I r505.2 12 7 a0).toInt = (q_I r18.2 12 7 a0).toInt := congrArg Int32.toInt (u510 12 7 a0 (by decide))
            have f561 := ti_b (q_I r18.2 12 7 a0)
            have f562 : (q_I r18.2 12 7 a0).toInt = (q_I δ 12 7 a0).toInt := congrArg Int32.toInt (u24 12 7 a0 (by decide))
            have f563 := cb_12_26 i544 k_a0
            have f564 : (q_I r542 12 26 a0).toInt = (q_I r505.2 12 26 a0).toInt := congrArg Int32.toInt (u546 12 26 a0 (by decide))
            have f565 := cb_12_26 i507 k_a0
            have f566 : (q_I r505.2 12 26 a0).toInt = (q_I r18.2 12 26 a0).toInt := congrArg Int32.toInt (u510 12 26 a0 (by decide))
            have f567 := cb_12_26 i20 k_a0
            have f568 : (q_I r18.2 12 26 a0).toInt = (q_I δ 12 26 a0).toInt := congrArg Int32.toInt (u24 12 26 a0 (by decide))
            exact ok_some (show RI ad h.1 δ0 r542 ∧ (kp [(12, 4), (12, 5), (12, 6), (12, 7), (12, 26)] δ r542 ∧ q_V r542 = q_V δ ∧ kr ad [116, 117] δ r542) ∧ (q_I δ 12 4 a0).toInt ≤ (q_I r542 12 4 a0).toInt ∧ ((q_I δ 12 5 a0).toInt ≠ -1 → (q_I r542 12 5 a0).toInt ≠ -1) ∧ (q_I r542 12 7 a0).toInt = (q_I δ 12 7 a0).toInt ∧ (q_I δ 12 26 a0).toInt ≤ (q_I r542 12 26 a0).toInt ∧ (q_I r542 12 26 a0).toInt - (q_I δ 12 26 a0).toInt ≤ (q_I r542 12 4 a0).toInt - (q_I δ 12 4 a0).toInt ∧ US ad a0 δ r542 from ⟨i544, ⟨kp_w (by decide) u550, v551, kr_w (by decide) v552⟩, by first | assumption | omega, by first | assumption | omega, by first | assumption | omega, by first | assumption | omega, by first | assumption | omega, US.bad us554 (by omega)⟩)
          · have c569 : (1 : Int) ≠ (-1 : Int) := o_ne h540
            refine ok_bind (k_X12_pass L hN (a0 := a0) k_a0 i507) (fun r570 hr571 => ?_)
            obtain ⟨i572, ⟨u575, u576, u577, u578⟩, p573, p574⟩ := hr571
            have u579 := kp_t u514 u575
            have v580 : q_V r570 = q_V δ := (u576).trans v515
            have v581 := kr_t v516 u578
            have f582 := cb_12_4 i572 k_a0
            have f583 := cb_12_3 i507 k_a0
            have f584 : (q_I r505.2 12 3 a0).toInt = (q_I r18.2 12 3 a0).toInt := congrArg Int32.toInt (u510 12 3 a0 (by decide))
            have f585 := ti_b (q_I r570 12 5 a0)
            have f586 : (q_I r570 12 5 a0).toInt = (q_I r505.2 12 5 a0).toInt := congrArg Int32.toInt (u575 12 5 a0 (by decide))
            have us587 := NU.t us531 (⟨u578 116 (by decide) (by decide) (by decide), u575 12 26 _ (by decide), u575 12 24 _ (by decide), fun z => by omega⟩)
            have f590 := cb_12_24 i572 k_a0
            have f591 : (q_I r570 12 24 a0).toInt = (q_I r505.2 12 24 a0).toInt := congrArg Int32.toInt (u575 12 24 a0 (by decide))
            have f592 := cb_12_24 i507 k_a0
            have f593 : (q_I r505.2 12 24 a0).toInt = (q_I r18.2 12 24 a0).toInt := congrArg Int32.toInt (u510 12 24 a0 (by decide))
            have f594 := cb_12_24 i20 k_a0
            have f595 : (q_I r18.2 12 24 a0).toInt = (q_I δ 12 24 a0).toInt := congrArg Int32.toInt (u24 12 24 a0 (by decide))
            have f596 := cb_12_26 i572 k_a0
            have f597 : (q_I r570 12 26 a0).toInt = (q_I r505.2 12 26 a0).toInt := congrArg Int32.toInt (u575 12 26 a0 (by decide))
            have f598 := cb_12_26 i507 k_a0
            have f599 : (q_I r505.2 12 26 a0).toInt = (q_I r18.2 12 26 a0).toInt := congrArg Int32.toInt (u510 12 26 a0 (by decide))
            have f600 := cb_12_26 i20 k_a0
            have f601 : (q_I r18.2 12 26 a0).toInt = (q_I δ 12 26 a0).toInt := congrArg Int32.toInt (u24 12 26 a0 (by decide))
            refine ok_bind (k_X12_emit L hN (a0 := a0) (x1 := (1 : Int32)) (x2 := (0 : Int32)) k_a0 (show (q_I r570 12 24 a0).toInt ≤ 3 by first | assumption | omega) (show (q_I r570 12 5 a0).toInt = -1 → (q_I r570 12 26 a0).toInt < 500 by first | assumption | omega) i572) (fun r588 hr589 => ?_)
            obtain ⟨i602, ⟨u607, u608, u609⟩, p603, p604, p605, p606⟩ := hr589
            have u610 := kp_t u579 u607
            have v611 : q_V r588 = q_V δ := (u608).trans v580
            have v612 := kr_t v581 u609
            have f613 := cb_12_26 i602 k_a0
            have us614 := US.em us587 p606 (by decide) (by decide)
            have f615 := cb_12_4 i602 k_a0
            have f616 : (q_I r588 12 4 a0).toInt = (q_I r570 12 4 a0).toInt := congrArg Int32.toInt (u607 12 4 a0 (by decide))
            have f617 := ti_b (q_I r588 12 5 a0)
            have f618 : (q_I r588 12 5 a0).toInt = (q_I r570 12 5 a0).toInt := congrArg Int32.toInt (u607 12 5 a0 (by decide))
            have f619 := ti_b (q_I r588 12 7 a0)
            have f620 : (q_I r588 12 7 a0).toInt = (q_I r570 12 7 a0).toInt := congrArg Int32.toInt (u607 12 7 a0 (by decide))
            have f621 := ti_b (q_I r570 12 7 a0)
            have f622 : (q_I r570 12 7 a0).toInt = (q_I r505.2 12 7 a0).toInt := congrArg Int32.toInt (u575 12 7 a0 (by decide))
            have f623 := ti_b (q_I r505.2 12 7 a0)
            have f624 : (q_I r505.2 12 7 a0).toInt = (q_I r18.2 12 7 a0).toInt := congrArg Int32.toInt (u510 12 7 a0 (by decide))
            have f625 := ti_b (q_I r18.2 12 7 a0)
            have f626 : (q_I r18.2 12 7 a0).toInt = (q_I δ 12 7 a0).toInt := congrArg Int32.toInt (u24 12 7 a0 (by decide))
            exact ok_some (show RI ad h.1 δ0 r588 ∧ (kp [(12, 4), (12, 5), (12, 6), (12, 7), (12, 26)] δ r588 ∧ q_V r588 = q_V δ ∧ kr ad [116, 117] δ r588) ∧ (q_I δ 12 4 a0).toInt ≤ (q_I r588 12 4 a0).toInt ∧ ((q_I δ 12 5 a0).toInt ≠ -1 → (q_I r588 12 5 a0).toInt ≠ -1) ∧ (q_I r588 12 7 a0).toInt = (q_I δ 12 7 a0).toInt ∧ (q_I δ 12 26 a0).toInt ≤ (q_I r588 12 26 a0).toInt ∧ (q_I r588 12 26 a0).toInt - (q_I δ 12 26 a0).toInt ≤ (q_I r588 12 4 a0).toInt - (q_I δ 12 4 a0).toInt ∧ US ad a0 δ r588 from ⟨i602, ⟨kp_w (by decide) u610, v611, kr_w (by decide) v612⟩, by first | assumption | omega, by first | assumption | omega, by first | assumption | omega, by first | assumption | omega, by first | assumption | omega, us614⟩)
        · have c627 : r505.1.toInt ≠ r532.1.toInt := o_ne h538
          refine ok_bind (k_X12_of L hN (a0 := 12) (show 12 < 16 by first | assumption | omega) i507) (fun r628 hr629 => ?_)
          obtain ⟨i630, p631⟩ := hr629
          try rw [i630]
          have f632 := ti_b r628.1
          have f633 := ti_b r628.1
          refine ok_ite (fun h634 => ?_) (fun h634 => ?_)
          · have c635 : r505.1.toInt = r628.1.toInt := o_eq h634
            unfold J_X12_unit_176
            refine ok_ite (fun h636 => ?_) (fun h636 => ?_)
            · have c637 : (2 : Int) = (-1 : Int) := o_eq h636
              refine ok_bind (k_X12_wrong L hN (a0 := a0) (x1 := (1 : Int32)) (x2 := (q_I r505.2 12 4 a0)) k_a0 (show 0 ≤ ((q_I r505.2 12 4 a0)).toInt by first | assumption | omega) i507) (fun r638 hr639 => ?_)
              obtain ⟨i640, ⟨u642, u643, u644, u645⟩, p641⟩ := hr639
              have u646 := kp_t u514 u642
              have v647 : q_V r638 = q_V δ := (u643).trans v515
              have v648 := kr_t v516 u645
              have f649 := ti_b (q_I r638 12 5 a0)
              have us650 := NU.t us531 (⟨u645 116 (by decide) (by decide) (by decide), u642 12 26 _ (by decide), u642 12 24 _ (by decide), fun z => by omega⟩)
              have f651 := cb_12_4 i640 k_a0
              have f652 : (q_I r638 12 4 a0).toInt = (q_I r505.2 12 4 a0).toInt := congrArg Int32.toInt (u642 12 4 a0 (by decide))
              have f653 := ti_b (q_I r638 12 7 a0)
              have f654 : (q_I r638 12 7 a0).toInt = (q_I r505.2 12 7 a0).toInt := congrArg Int32.toInt (u642 12 7 a0 (by decide))
              have f655 := ti_b (q_I r505.2 12 7 a0)
              have f656 : (q_I r505.2 12 7 a0).toInt = (q_I r18.2 12 7 a0).toInt := congrArg Int32.toInt (u510 12 7 a0 (by decide))
              have f657 := ti_b (q_I r18.2 12 7 a0)
              have f658 : (q_I r18.2 12 7 a0).toInt = (q_I δ 12 7 a0).toInt := congrArg Int32.toInt (u24 12 7 a0 (by decide))
              have f659 := cb_12_26 i640 k_a0
              have f660 : (q_I r638 12 26 a0).toInt = (q_I r505.2 12 26 a0).toInt := congrArg Int32.toInt (u642 12 26 a0 (by decide))
              have f661 := cb_12_26 i507 k_a0
              have f662 : (q_I r505.2 12 26 a0).toInt = (q_I r18.2 12 26 a0).toInt := congrArg Int32.toInt (u510 12 26 a0 (by decide))
              have f663 := cb_12_26 i20 k_a0
              have f664 : (q_I r18.2 12 26 a0).toInt = (q_I δ 12 26 a0).toInt := congrArg Int32.toInt (u24 12 26 a0 (by decide))
              exact ok_some (show RI ad h.1 δ0 r638 ∧ (kp [(12, 4), (12, 5), (12, 6), (12, 7), (12, 26)] δ r638 ∧ q_V r638 = q_V δ ∧ kr ad [116, 117] δ r638) ∧ (q_I δ 12 4 a0).toInt ≤ (q_I r638 12 4 a0).toInt ∧ ((q_I δ 12 5 a0).toInt ≠ -1 → (q_I r638 12 5 a0).toInt ≠ -1) ∧ (q_I r638 12 7 a0).toInt = (q_I δ 12 7 a0).toInt ∧ (q_I δ 12 26 a0).toInt ≤ (q_I r638 12 26 a0).toInt ∧ (q_I r638 12 26 a0).toInt - (q_I δ 12 26 a0).toInt ≤ (q_I r638 12 4 a0).toInt - (q_I δ 12 4 a0).toInt ∧ US ad a0 δ r638 from ⟨i640, ⟨kp_w (by decide) u646, v647, kr_w (by decide) v648⟩, by first | assumption | omega, by first | assumption | omega, by first | assumption | omega, by first | assumption | omega, by first | assumption | omega, US.bad us650 (by omega)⟩)
            · have c665 : (2 : Int) ≠ (-1 : Int) := o_ne h636
              refine ok_bind (k_X12_pass L hN (a0 := a0) k_a0 i507) (fun r666 hr667 => ?_)
              obtain ⟨i668, ⟨u671, u672, u673, u674⟩, p669, p670⟩ := hr667
              have u675 := kp_t u514 u671
              have v676 : q_V r666 = q_V δ := (u672).trans v515
              have v677 := kr_t v516 u674
              have f678 := cb_12_4 i668 k_a0
              have f679 := cb_12_3 i507 k_a0
              have f680 : (q_I r505.2 12 3 a0).toInt = (q_I r18.2 12 3 a0).toInt := congrArg Int32.toInt (u510 12 3 a0 (by decide))
              have f681 := ti_b (q_I r666 12 5 a0)
              have f682 : (q_I r666 12 5 a0).toInt = (q_I r505.2 12 5 a0).toInt := congrArg Int32.toInt (u671 12 5 a0 (by decide))
              have us683 := NU.t us531 (⟨u674 116 (by decide) (by decide) (by decide), u671 12 26 _ (by decide), u671 12 24 _ (by decide), fun z => by omega⟩)
              have f686 := cb_12_24 i668 k_a0
              have f687 : (q_I r666 12 24 a0).toInt = (q_I r505.2 12 24 a0).toInt := congrArg Int32.toInt (u671 12 24 a0 (by decide))
              have f688 := cb_12_24 i507 k_a0
              have f689 : (q_I r505.2 12 24 a0).toInt = (q_I r18.2 12 24 a0).toInt := congrArg Int32.toInt (u510 12 24 a0 (by decide))
              have f690 := cb_12_24 i20 k_a0
              have f691 : (q_I r18.2 12 24 a0).toInt = (q_I δ 12 24 a0).toInt := congrArg Int32.toInt (u24 12 24 a0 (by decide))
              have f692 := cb_12_26 i668 k_a0
              have f693 : (q_I r666 12 26 a0).toInt = (q_I r505.2 12 26 a0).toInt := congrArg Int32.toInt (u671 12 26 a0 (by decide))
              have f694 := cb_12_26 i507 k_a0
              have f695 : (q_I r505.2 12 26 a0).toInt = (q_I r18.2 12 26 a0).toInt := congrArg Int32.toInt (u510 12 26 a0 (by decide))
              have f696 := cb_12_26 i20 k_a0
              have f697 : (q_I r18.2 12 26 a0).toInt = (q_I δ 12 26 a0).toInt := congrArg Int32.toInt (u24 12 26 a0 (by decide))
              refine ok_bind (k_X12_emit L hN (a0 := a0) (x1 := (2 : Int32)) (x2 := (0 : Int32)) k_a0 (show (q_I r666 12 24 a0).toInt ≤ 3 by first | assumption | omega) (show (q_I r666 12 5 a0).toInt = -1 → (q_I r666 12 26 a0).toInt < 500 by first | assumption | omega) i668) (fun r684 hr685 => ?_)
              obtain ⟨i698, ⟨u703, u704, u705⟩, p699, p700, p701, p702⟩ := hr685
              have u706 := kp_t u675 u703
              have v707 : q_V r684 = q_V δ := (u704).trans v676
              have v708 := kr_t v677 u705
              have f709 := cb_12_26 i698 k_a0
              have us710 := US.em us683 p702 (by decide) (by decide)
              have f711 := cb_12_4 i698 k_a0
              have f712 : (q_I r684 12 4 a0).toInt = (q_I r666 12 4 a0).toInt := congrArg Int32.toInt (u703 12 4 a0 (by decide))
              have f713 := ti_b (q_I r684 12 5 a0)
              have f714 : (q_I r684 12 5 a0).toInt = (q_I r666 12 5 a0).toInt := congrArg Int32.toInt (u703 12 5 a0 (by decide))
              have f715 := ti_b (q_I r684 12 7 a0)
              have f716 : (q_I r684 12 7 a0).toInt = (q_I r666 12 7 a0).toInt := congrArg Int32.toInt (u703 12 7 a0 (by decide))
              have f717 := ti_b (q_I r666 12 7 a0)
              have f718 : (q_I r666 12 7 a0).toInt = (q_I r505.2 12 7 a0).toInt := congrArg Int32.toInt (u671 12 7 a0 (by decide))
              have f719 := ti_b (q_I r505.2 12 7 a0)
              have f720 : (q_I r505.2 12 7 a0).toInt = (q_I r18.2 12 7 a0).toInt := congrArg Int32.toInt (u510 12 7 a0 (by decide))
              have f721 := ti_b (q_I r18.2 12 7 a0)
              have f722 : (q_I r18.2 12 7 a0).toInt = (q_I δ 12 7 a0).toInt := congrArg Int32.toInt (u24 12 7 a0 (by decide))
              exact ok_some (show RI ad h.1 δ0 r684 ∧ (kp [(12, 4), (12, 5), (12, 6), (12, 7), (12, 26)] δ r684 ∧ q_V r684 = q_V δ ∧ kr ad [116, 117] δ r684) ∧ (q_I δ 12 4 a0).toInt ≤ (q_I r684 12 4 a0).toInt ∧ ((q_I δ 12 5 a0).toInt ≠ -1 → (q_I r684 12 5 a0).toInt ≠ -1) ∧ (q_I r684 12 7 a0).toInt = (q_I δ 12 7 a0).toInt ∧ (q_I δ 12 26 a0).toInt ≤ (q_I r684 12 26 a0).toInt ∧ (q_I r684 12 26 a0).toInt - (q_I δ 12 26 a0).toInt ≤ (q_I r684 12 4 a0).toInt - (q_I δ 12 4 a0).toInt ∧ US ad a0 δ r684 from ⟨i698, ⟨kp_w (by decide) u706, v707, kr_w (by decide) v708⟩, by first | assumption | omega, by first | assumption | omega, by first | assumption | omega, by first | assumption | omega, by first | assumption | omega, us710⟩)
          · have c723 : r505.1.toInt ≠ r628.1.toInt := o_ne h634
            refine ok_bind (k_X12_of L hN (a0 := 13) (show 13 < 16 by first | assumption | omega) i507) (fun r724 hr725 => ?_)
            obtain ⟨i726, p727⟩ := hr725
            try rw [i726]
            have f728 := ti_b r724.1
            have f729 := ti_b r724.1
            refine ok_ite (fun h730 => ?_) (fun h730 => ?_)
            · have c731 : r505.1.toInt = r724.1.toInt := o_eq h730
              unfold J_X12_unit_176
              refine ok_ite (fun h732 => ?_) (fun h732 => ?_)
              · have c733 : (3 : Int) = (-1 : Int) := o_eq h732
                refine ok_bind (k_X12_wrong L hN (a0 := a0) (x1 := (1 : Int32)) (x2 := (q_I r505.2 12 4 a0)) k_a0 (show 0 ≤ ((q_I r505.2 12 4 a0)).toInt by first | assumption | omega) i507) (fun r734 hr735 => ?_)
                obtain ⟨i736, ⟨u738, u739, u740, u741⟩, p737⟩ := hr735
                have u742 := kp_t u514 u738
                have v743 : q_V r734 = q_V δ := (u739).trans v515
                have v744 := kr_t v516 u741
                have f745 := ti_b (q_I r734 12 5 a0)
                have us746 := NU.t us531 (⟨u741 116 (by decide) (by decide) (by decide), u738 12 26 _ (by decide), u738 12 24 _ (by decide), fun z => by omega⟩)
                have f747 := cb_12_4 i736 k_a0
                have f748 : (q_I r734 12 4 a0).toInt = (q_I r505.2 12 4 a0).toInt := congrArg Int32.toInt (u738 12 4 a0 (by decide))
                have f749 := ti_b (q_I r734 12 7 a0)
                have f750 : (q_I r734 12 7 a0).toInt = (q_I r505.2 12 7 a0).toInt := congrArg Int32.toInt (u738 12 7 a0 (by decide))
                have f751 := ti_b (q_I r505.2 12 7 a0)
                have f752 : (q_I r505.2 12 7 a0).toInt = (q_I r18.2 12 7 a0).toInt := congrArg Int32.toInt (u510 12 7 a0 (by decide))
                have f753 := ti_b (q_I r18.2 12 7 a0)
                have f754 : (q_I r18.2 12 7 a0).toInt = (q_I δ 12 7 a0).toInt := congrArg Int32.toInt (u24 12 7 a0 (by decide))
                have f755 := cb_12_26 i736 k_a0
                have f756 : (q_I r734 12 26 a0).toInt = (q_I r505.2 12 26 a0).toInt := congrArg Int32.toInt (u738 12 26 a0 (by decide))
                have f757 := cb_12_26 i507 k_a0
                have f758 : (q_I r505.2 12 26 a0).toInt = (q_I r18.2 12 26 a0).toInt := congrArg Int32.toInt (u510 12 26 a0 (by decide))
                have f759 := cb_12_26 i20 k_a0
                have f760 : (q_I r18.2 12 26 a0).toInt = (q_I δ 12 26 a0).toInt := congrArg Int32.toInt (u24 12 26 a0 (by decide))
                exact ok_some (show RI ad h.1 δ0 r734 ∧ (kp [(12, 4), (12, 5), (12, 6), (12, 7), (12, 26)] δ r734 ∧ q_V r734 = q_V δ ∧ kr ad [116, 117] δ r734) ∧ (q_I δ 12 4 a0).toInt ≤ (q_I r734 12 4 a0).toInt ∧ ((q_I δ 12 5 a0).toInt ≠ -1 → (q_I r734 12 5 a0).toInt ≠ -1) ∧ (q_I r734 12 7 a0).toInt = (q_I δ 12 7 a0).toInt ∧ (q_I δ 12 26 a0).toInt ≤ (q_I r734 12 26 a0).toInt ∧ (q_I r734 12 26 a0).toInt - (q_I δ 12 26 a0).toInt ≤ (q_I r734 12 4 a0).toInt - (q_I δ 12 4 a0).toInt ∧ US ad a0 δ r734 from ⟨i736, ⟨kp_w (by decide) u742, v743, kr_w (by decide) v744⟩, by first | assumption | omega, by first | assumption | omega, by first | assumption | omega, by first | assumption | omega, by first | assumption | omega, US.bad us746 (by omega)⟩)
              · have c761 : (3 : Int) ≠ (-1 : Int) := o_ne h732
                refine ok_bind (k_X12_pass L hN (a0 := a0) k_a0 i507) (fun r762 hr763 => ?_)
                obtain ⟨i764, ⟨u767, u768, u769, u770⟩, p765, p766⟩ := hr763
                have u771 := kp_t u514 u767
                have v772 : q_V r762 = q_V δ := (u768).trans v515
                have v773 := kr_t v516 u770
                have f774 := cb_12_4 i764 k_a0
                have f775 := cb_12_3 i507 k_a0
                have f776 : (q_I r505.2 12 3 a0).toInt = (q_I r18.2 12 3 a0).toInt := congrArg Int32.toInt (u510 12 3 a0 (by decide))
                have f777 := ti_b (q_I r762 12 5 a0)
                have f778 : (q_I r762 12 5 a0).toInt = (q_I r505.2 12 5 a0).toInt := congrArg Int32.toInt (u767 12 5 a0 (by decide))
                have us779 := NU.t us531 (⟨u770 116 (by decide) (by decide) (by decide), u767 12 26 _ (by decide), u767 12 24 _ (by decide), fun z => by omega⟩)
                have f782 := cb_12_24 i764 k_a0
                have f783 : (q_I r762 12 24 a0).toInt = (q_I r505.2 12 24 a0).toInt := congrArg Int32.toInt (u767 12 24 a0 (by decide))
                have f784 := cb_12_24 i507 k_a0
                have f785 : (q_I r505.2 12 24 a0).toInt = (q_I r18.2 12 24 a0).toInt := congrArg Int32.toInt (u510 12 24 a0 (by decide))
                have f786 := cb_12_24 i20 k_a0
                have f787 : (q_I r18.2 12 24 a0).toInt = (q_I δ 12 24 a0).toInt := congrArg Int32.toInt (u24 12 24 a0 (by decide))
                have f788 := cb_12_26 i764 k_a0
                have f789 : (q_I r762 12 26 a0).toInt = (q_I r505.2 12 26 a0).toInt := congrArg Int32.toInt (u767 12 26 a0 (by decide))
                have f790 := cb_12_26 i507 k_a0
                have f791 : (q_I r505.2 12 26 a0).toInt = (q_I r18.2 12 26 a0).toInt := congrArg Int32.toInt (u510 12 26 a0 (by decide))
                have f792 := cb_12_26 i20 k_a0
                have f793 : (q_I r18.2 12 26 a0).toInt = (q_I δ 12 26 a0).toInt := congrArg Int32.toInt (u24 12 26 a0 (by decide))
                refine ok_bind (k_X12_emit L hN (a0 := a0) (x1 := (3 : Int32)) (x2 := (0 : Int32)) k_a0 (show (q_I r762 12 24 a0).toInt ≤ 3 by first | assumption | omega) (show (q_I r762 12 5 a0).toInt = -1 → (q_I r762 12 26 a0).toInt < 500 by first | assumption | omega) i764) (fun r780 hr781 => ?_)
                obtain ⟨i794, ⟨u799, u800, u801⟩, p795, p796, p797, p798⟩ := hr781
                have u802 := kp_t u771 u799
                have v803 : q_V r780 = q_V δ := (u800).trans v772
                have v804 := kr_t v773 u801
                have f805 := cb_12_26 i794 k_a0
                have us806 := US.em us779 p798 (by decide) (by decide)
                have f807 := cb_12_4 i794 k_a0
                have f808 : (q_I r780 12 4 a0).toInt = (q_I r762 12 4 a0).toInt := congrArg Int32.toInt (u799 12 4 a0 (by decide))
                have f809 := ti_b (q_I r780 12 5 a0)
                have f810 : (q_I r780 12 5 a0).toInt = (q_I r762 12 5 a0).toInt := congrArg Int32.toInt (u799 12 5 a0 (by decide))
                have f811 := ti_b (q_I r780 12 7 a0)
                have f812 : (q_I r780 12 7 a0).toInt = (q_I r762 12 7 a0).toInt := congrArg Int32.toInt (u799 12 7 a0 (by decide))
                have f813 := ti_b (q_I r762 12 7 a0)
                have f814 : (q_I r762 12 7 a0).toInt = (q_I r505.2 12 7 a0).toInt := congrArg Int32.toInt (u767 12 7 a0 (by decide))
                have f815 := ti_b (q_I r505.2 12 7 a0)
                have f816 : (q_I r505.2 12 7 a0).toInt = (q_I r18.2 12 7 a0).toInt := congrArg Int32.toInt (u510 12 7 a0 (by decide))
                have f817 := ti_b (q_I r18.2 12 7 a0)
                have f818 : (q_I r18.2 12 7 a0).toInt = (q_I δ 12 7 a0).toInt := congrArg Int32.toInt (u24 12 7 a0 (by decide))
                exact ok_some (show RI ad h.1 δ0 r780 ∧ (kp [(12, 4), (12, 5), (12, 6), (12, 7), (12, 26)] δ r780 ∧ q_V r780 = q_V δ ∧ kr ad [116, 117] δ r780) ∧ (q_I δ 12 4 a0).toInt ≤ (q_I r780 12 4 a0).toInt ∧ ((q_I δ 12 5 a0).toInt ≠ -1 → (q_I r780 12 5 a0).toInt ≠ -1) ∧ (q_I r780 12 7 a0).toInt = (q_I δ 12 7 a0).toInt ∧ (q_I δ 12 26 a0).toInt ≤ (q_I r780 12 26 a0).toInt ∧ (q_I r780 12 26 a0).toInt - (q_I δ 12 26 a0).toInt ≤ (q_I r780 12 4 a0).toInt - (q_I δ 12 4 a0).toInt ∧ US ad a0 δ r780 from ⟨i794, ⟨kp_w (by decide) u802, v803, kr_w (by decide) v804⟩, by first | assumption | omega, by first | assumption | omega, by first | assumption | omega, by first | assumption | omega, by first | assumption | omega, us806⟩)
            · have c819 : r505.1.toInt ≠ r724.1.toInt := o_ne h730
              refine ok_bind (k_X12_of L hN (a0 := 14) (show 14 < 16 by first | assumption | omega) i507) (fun r820 hr821 => ?_)
              obtain ⟨i822, p823⟩ := hr821
              try rw [i822]
              have f824 := ti_b r820.1
              have f825 := ti_b r820.1
              refine ok_ite (fun h826 => ?_) (fun h826 => ?_)
              · have c827 : r505.1.toInt = r820.1.toInt := o_eq h826
                unfold J_X12_unit_176
                refine ok_ite (fun h828 => ?_) (fun h828 => ?_)
                · have c829 : (4 : Int) = (-1 : Int) := o_eq h828
                  refine ok_bind (k_X12_wrong L hN (a0 := a0) (x1 := (1 : Int32)) (x2 := (q_I r505.2 12 4 a0)) k_a0 (show 0 ≤ ((q_I r505.2 12 4 a0)).toInt by first | assumption | omega) i507) (fun r830 hr831 => ?_)
                  obtain ⟨i832, ⟨u834, u835, u836, u837⟩, p833⟩ := hr831
                  have u838 := kp_t u514 u834
                  have v839 : q_V r830 = q_V δ := (u835).trans v515
                  have v840 := kr_t v516 u837
                  have f841 := ti_b (q_I r830 12 5 a0)
                  have us842 := NU.t us531 (⟨u837 116 (by decide) (by decide) (by decide), u834 12 26 _ (by decide), u834 12 24 _ (by decide), fun z => by omega⟩)
                  have f843 := cb_12_4 i832 k_a0
                  have f844 : (q_I r830 12 4 a0).toInt = (q_I r505.2 12 4 a0).toInt := congrArg Int32.toInt (u834 12 4 a0 (by decide))
                  have f845 := ti_b (q_I r830 12 7 a0)
                  have f846 : (q_I r830 12 7 a0).toInt = (q_I r505.2 12 7 a0).toInt := congrArg Int32.toInt (u834 12 7 a0 (by decide))
                  have f847 := ti_b (q_I r505.2 12 7 a0)
                  have f848 : (q_I r505.2 12 7 a0).toInt = (q_I r18.2 12 7 a0).toInt := congrArg Int32.toInt (u510 12 7 a0 (by decide))
                  have f849 := ti_b (q_I r18.2 12 7 a0)
                  have f850 : (q_I r18.2 12 7 a0).toInt = (q_I δ 12 7 a0).toInt := congrArg Int32.toInt (u24 12 7 a0 (by decide))
                  have f851 := cb_12_26 i832 k_a0
                  have f852 : (q_I r830 12 26 a0).toInt = (q_I r505.2 12 26 a0).toInt := congrArg Int32.toInt (u834 12 26 a0 (by decide))
                  have f853 := cb_12_26 i507 k_a0
                  have f854 : (q_I r505.2 12 26 a0).toInt = (q_I r18.2 12 26 a0).toInt := congrArg Int32.toInt (u510 12 26 a0 (by decide))
                  have f855 := cb_12_26 i20 k_a0
                  have f856 : (q_I r18.2 12 26 a0).toInt = (q_I δ 12 26 a0).toInt := congrArg Int32.toInt (u24 12 26 a0 (by decide))
                  exact ok_some (show RI ad h.1 δ0 r830 ∧ (kp [(12, 4), (12, 5), (12, 6), (12, 7), (12, 26)] δ r830 ∧ q_V r830 = q_V δ ∧ kr ad [116, 117] δ r830) ∧ (q_I δ 12 4 a0).toInt ≤ (q_I r830 12 4 a0).toInt ∧ ((q_I δ 12 5 a0).toInt ≠ -1 → (q_I r830 12 5 a0).toInt ≠ -1) ∧ (q_I r830 12 7 a0).toInt = (q_I δ 12 7 a0).toInt ∧ (q_I δ 12 26 a0).toInt ≤ (q_I r830 12 26 a0).toInt ∧ (q_I r830 12 26 a0).toInt - (q_I δ 12 26 a0).toInt ≤ (q_I r830 12 4 a0).toInt - (q_I δ 12 4 a0).toInt ∧ US ad a0 δ r830 from ⟨i832, ⟨kp_w (by decide) u838, v839, kr_w (by decide) v840⟩, by first | assumption | omega, by first | assumption | omega, by first | assumption | omega, by first | assumption | omega, by first | assumption | omega, US.bad us842 (by omega)⟩)
                · have c857 : (4 : Int) ≠ (-1 : Int) := o_ne h828
                  refine ok_bind (k_X12_pass L hN (a0 := a0) k_a0 i507) (fun r858 hr859 => ?_)
                  obtain ⟨i860, ⟨u863, u864, u865, u866⟩, p861, p862⟩ := hr859
                  have u867 := kp_t u514 u863
                  have v868 : q_V r858 = q_V δ := (u864).trans v515
                  have v869 := kr_t v516 u866
                  have f870 := cb_12_4 i860 k_a0
                  have f871 := cb_12_3 i507 k_a0
                  have f872 : (q_I r505.2 12 3 a0).toInt = (q_I r18.2 12 3 a0).toInt := congrArg Int32.toInt (u510 12 3 a0 (by decide))
                  have f873 := ti_b (q_I r858 12 5 a0)
                  have f874 : (q_I r858 12 5 a0).toInt = (q_I r505.2 12 5 a0).toInt := congrArg Int32.toInt (u863 12 5 a0 (by decide))
                  have us875 := NU.t us531 (⟨u866 116 (by decide) (by decide) (by decide), u863 12 26 _ (by decide), u863 12 24 _ (by decide), fun z => by omega⟩)
                  have f878 := cb_12_24 i860 k_a0
                  have f879 : (q_I r858 12 24 a0).toInt = (q_I r505.2 12 24 a0).toInt := congrArg Int32.toInt (u863 12 24 a0 (by decide))
                  have f880 := cb_12_24 i507 k_a0
                  have f881 : (q_I r505.2 12 24 a0).toInt = (q_I r18.2 12 24 a0).toInt := congrArg Int32.toInt (u510 12 24 a0 (by decide))
                  have f882 := cb_12_24 i20 k_a0
                  have f883 : (q_I r18.2 12 24 a0).toInt = (q_I δ 12 24 a0).toInt := congrArg Int32.toInt (u24 12 24 a0 (by decide))
                  have f884 := cb_12_26 i860 k_a0
                  have f885 : (q_I r858 12 26 a0).toInt = (q_I r505.2 12 26 a0).toInt := congrArg Int32.toInt (u863 12 26 a0 (by decide))
                  have f886 := cb_12_26 i507 k_a0
                  have f887 : (q_I r505.2 12 26 a0).toInt = (q_I r18.2 12 26 a0).toInt := congrArg Int32.toInt (u510 12 26 a0 (by decide))
                  have f888 := cb_12_26 i20 k_a0
                  have f889 : (q_I r18.2 12 26 a0).toInt = (q_I δ 12 26 a0).toInt := congrArg Int32.toInt (u24 12 26 a0 (by decide))
                  refine ok_bind (k_X12_emit L hN (a0 := a0) (x1 := (4 : Int32)) (x2 := (0 : Int32)) k_a0 (show (q_I r858 12 24 a0).toInt ≤ 3 by first | assumption | omega) (show (q_I r858 12 5 a0).toInt = -1 → (q_I r858 12 26 a0).toInt < 500 by first | assumption | omega) i860) (fun r876 hr877 => ?_)
                  obtain ⟨i890, ⟨u895, u896, u897⟩, p891, p892, p893, p894⟩ := hr877
                  have u898 := kp_t u867 u895
                  have v899 : q_V r876 = q_V δ := (u896).trans v868
                  have v900 := kr_t v869 u897
                  have f901 := cb_12_26 i890 k_a0
                  have us902 := US.em us875 p894 (by decide) (by decide)
                  have f903 := cb_12_4 i890 k_a0
                  have f904 : (q_I r876 12 4 a0).toInt = (q_I r858 12 4 a0).toInt := congrArg Int32.toInt (u895 12 4 a0 (by decide))
                  have f905 := ti_b (q_I r876 12 5 a0)
                  have f906 : (q_I r876 12 5 a0).toInt = (q_I r858 12 5 a0).toInt := congrArg Int32.toInt (u895 12 5 a0 (by decide))
                  have f907 := ti_b (q_I r876 12 7 a0)
                  have f908 : (q_I r876 12 7 a0).toInt = (q_I r858 12 7 a0).toInt := congrArg Int32.toInt (u895 12 7 a0 (by decide))
                  have f909 := ti_b (q_I r858 12 7 a0)
                  have f910 : (q_I r858 12 7 a0).toInt = (q_I r505.2 12 7 a0).toInt := congrArg Int32.toInt (u863 12 7 a0 (by decide))
                  have f911 := ti_b (q_I r505.2 12 7 a0)
                  have f912 : (q_I r505.2 12 7 a0).toInt = (q_I r18.2 12 7 a0).toInt := congrArg Int32.toInt (u510 12 7 a0 (by decide))
                  have f913 := ti_b (q_I r18.2 12 7 a0)
                  have f914 : (q_I r18.2 12 7 a0).toInt = (q_I δ 12 7 a0).toInt := congrArg Int32.toInt (u24 12 7 a0 (by decide))
                  exact ok_some (show RI ad h.1 δ0 r876 ∧ (kp [(12, 4), (12, 5), (12, 6), (12, 7), (12, 26)] δ r876 ∧ q_V r876 = q_V δ ∧ kr ad [116, 117] δ r876) ∧ (q_I δ 12 4 a0).toInt ≤ (q_I r876 12 4 a0).toInt ∧ ((q_I δ 12 5 a0).toInt ≠ -1 → (q_I r876 12 5 a0).toInt ≠ -1) ∧ (q_I r876 12 7 a0).toInt = (q_I δ 12 7 a0).toInt ∧ (q_I δ 12 26 a0).toInt ≤ (q_I r876 12 26 a0).toInt ∧ (q_I r876 12 26 a0).toInt - (q_I δ 12 26 a0).toInt ≤ (q_I r876 12 4 a0).toInt - (q_I δ 12 4 a0).toInt ∧ US ad a0 δ r876 from ⟨i890, ⟨kp_w (by decide) u898, v899, kr_w (by decide) v900⟩, by first | assumption | omega, by first | assumption | omega, by first | assumption | omega, by first | assumption | omega, by first | assumption | omega, us902⟩)
              · have c915 : r505.1.toInt ≠ r820.1.toInt := o_ne h826
                refine ok_bind (k_X12_of L hN (a0 := 15) (show 15 < 16 by first | assumption | omega) i507) (fun r916 hr917 => ?_)
                obtain ⟨i918, p919⟩ := hr917
                try rw [i918]
                have f920 := ti_b r916.1
                have f921 := ti_b r916.1
                refine ok_ite (fun h922 => ?_) (fun h922 => ?_)
                · have c923 : r505.1.toInt = r916.1.toInt := o_eq h922
                  unfold J_X12_unit_176
                  refine ok_ite (fun h924 => ?_) (fun h924 => ?_)
                  · have c925 : (5 : Int) = (-1 : Int) := o_eq h924
                    refine ok_bind (k_X12_wrong L hN (a0 := a0) (x1 := (1 : Int32)) (x2 := (q_I r505.2 12 4 a0)) k_a0 (show 0 ≤ ((q_I r505.2 12 4 a0)).toInt by first | assumption | omega) i507) (fun r926 hr927 => ?_)
                    obtain ⟨i928, ⟨u930, u931, u932, u933⟩, p929⟩ := hr927
                    have u934 := kp_t u514 u930
                    have v935 : q_V r926 = q_V δ := (u931).trans v515
                    have v936 := kr_t v516 u933
                    have f937 := ti_b (q_I r926 12 5 a0)
                    have us938 := NU.t us531 (⟨u933 116 (by decide) (by decide) (by decide), u930 12 26 _ (by decide), u930 12 24 _ (by decide), fun z => by omega⟩)
                    have f939 := cb_12_4 i928 k_a0
                    have f940 : (q_I r926 12 4 a0).toInt = (q_I r505.2 12 4 a0).toInt := congrArg Int32.toInt (u930 12 4 a0 (by decide))
                    have f941 := ti_b (q_I r926 12 7 a0)
                    have f942 : (q_I r926 12 7 a0).toInt = (q_I r505.2 12 7 a0).toInt := congrArg Int32.toInt (u930 12 7 a0 (by decide))
                    have f943 := ti_b (q_I r505.2 12 7 a0)
                    have f944 : (q_I r505.2 12 7 a0).toInt = (q_I r18.2 12 7 a0).toInt := congrArg Int32.toInt (u510 12 7 a0 (by decide))
                    have f945 := ti_b (q_I r18.2 12 7 a0)
                    have f946 : (q_I r18.2 12 7 a0).toInt = (q_I δ 12 7 a0).toInt := congrArg Int32.toInt (u24 12 7 a0 (by decide))
                    have f947 := cb_12_26 i928 k_a0
                    have f948 : (q_I r926 12 26 a0).toInt = (q_I r505.2 12 26 a0).toInt := congrArg Int32.toInt (u930 12 26 a0 (by decide))
                    have f949 := cb_12_26 i507 k_a0
                    have f950 : (q_I r505.2 12 26 a0).toInt = (q_I r18.2 12 26 a0).toInt := congrArg Int32.toInt (u510 12 26 a0 (by decide))
                    have f951 := cb_12_26 i20 k_a0
                    have f952 : (q_I r18.2 12 26 a0).toInt = (q_I δ 12 26 a0).toInt := congrArg Int32.toInt (u24 12 26 a0 (by decide))
                    exact ok_some (show RI ad h.1 δ0 r926 ∧ (kp [(12, 4), (12, 5), (12, 6), (12, 7), (12, 26)] δ r926 ∧ q_V r926 = q_V δ ∧ kr ad [116, 117] δ r926) ∧ (q_I δ 12 4 a0).toInt ≤ (q_I r926 12 4 a0).toInt ∧ ((q_I δ 12 5 a0).toInt ≠ -1 → (q_I r926 12 5 a0).toInt ≠ -1) ∧ (q_I r926 12 7 a0).toInt = (q_I δ 12 7 a0).toInt ∧ (q_I δ 12 26 a0).toInt ≤ (q_I r926 12 26 a0).toInt ∧ (q_I r926 12 26 a0).toInt - (q_I δ 12 26 a0).toInt ≤ (q_I r926 12 4 a0).toInt - (q_I δ 12 4 a0).toInt ∧ US ad a0 δ r926 from ⟨i928, ⟨kp_w (by decide) u934, v935, kr_w (by decide) v936⟩, by first | assumption | omega, by first | assumption | omega, by first | assumption | omega, by first | assumption | omega, by first | assumption | omega, US.bad us938 (by omega)⟩)
                  · have c953 : (5 : Int) ≠ (-1 : Int) := o_ne h924
                    refine ok_bind (k_X12_pass L hN (a0 := a0) k_a0 i507) (fun r954 hr955 => ?_)
                    obtain ⟨i956, ⟨u959, u960, u961, u962⟩, p957, p958⟩ := hr955
                    have u963 := kp_t u514 u959
                    have v964 : q_V r954 = q_V δ := (u960).trans v515
                    have v965 := kr_t v516 u962
                    have f966 := cb_12_4 i956 k_a0
                    have f967 := cb_12_3 i507 k_a0
                    have f968 : (q_I r505.2 12 3 a0).toInt = (q_I r18.2 12 3 a0).toInt := congrArg Int32.toInt (u510 12 3 a0 (by decide))
                    have f969 := ti_b (q_I r954 12 5 a0)
                    have f970 : (q_I r954 12 5 a0).toInt = (q_I r505.2 12 5 a0).toInt := congrArg Int32.toInt (u959 12 5 a0 (by decide))
                    have us971 := NU.t us531 (⟨u962 116 (by decide) (by decide) (by decide), u959 12 26 _ (by decide), u959 12 24 _ (by decide), fun z => by omega⟩)
                    have f974 := cb_12_24 i956 k_a0
                    have f975 : (q_I r954 12 24 a0).toInt = (q_I r505.2 12 24 a0).toInt := congrArg Int32.toInt (u959 12 24 a0 (by decide))
                    have f976 := cb_12_24 i507 k_a0
                    have f977 : (q_I r505.2 12 24 a0).toInt = (q_I r18.2 12 24 a0).toInt := congrArg Int32.toInt (u510 12 24 a0 (by decide))
                    have f978 := cb_12_24 i20 k_a0
                    have f979 : (q_I r18.2 12 24 a0).toInt = (q_I δ 12 24 a0).toInt := congrArg Int32.toInt (u24 12 24 a0 (by decide))
                    have f980 := cb_12_26 i956 k_a0
                    have f981 : (q_I r954 12 26 a0).toInt = (q_I r505.2 12 26 a0).toInt := congrArg Int32.toInt (u959 12 26 a0 (by decide))
                    have f982 := cb_12_26 i507 k_a0
                    have f983 : (q_I r505.2 12 26 a0).toInt = (q_I r18.2 12 26 a0).toInt := congrArg Int32.toInt (u510 12 26 a0 (by decide))
                    have f984 := cb_12_26 i20 k_a0
                    have f985 : (q_I r18.2 12 26 a0).toInt = (q_I δ 12 26 a0).toInt := congrArg Int32.toInt (u24 12 26 a0 (by decide))
                    refine ok_bind (k_X12_emit L hN (a0 := a0) (x1 := (5 : Int32)) (x2 := (0 : Int32)) k_a0 (show (q_I r954 12 24 a0).toInt ≤ 3 by first | assumption | omega) (show (q_I r954 12 5 a0).toInt = -1 → (q_I r954 12 26 a0).toInt < 500 by first | assumption | omega) i956) (fun r972 hr973 => ?_)
                    obtain ⟨i986, ⟨u991, u992, u993⟩, p987, p988, p989, p990⟩ := hr973
                    have u994 := kp_t u963 u991
                    have v995 : q_V r972 = q_V δ := (u992).trans v964
                    have v996 := kr_t v965 u993
                    have f997 := cb_12_26 i986 k_a0
                    have us998 := US.em us971 p990 (by decide) (by decide)
                    have f999 := cb_12_4 i986 k_a0
                    have f1000 : (q_I r972 12 4 a0).toInt = (q_I r954 12 4 a0).toInt := congrArg Int32.toInt (u991 12 4 a0 (by decide))
                    have f1001 := ti_b (q_I r972 12 5 a0)
                    have f1002 : (q_I r972 12 5 a0).toInt = (q_I r954 12 5 a0).toInt := congrArg Int32.toInt (u991 12 5 a0 (by decide))
                    have f1003 := ti_b (q_I r972 12 7 a0)
                    have f1004 : (q_I r972 12 7 a0).toInt = (q_I r954 12 7 a0).toInt := congrArg Int32.toInt (u991 12 7 a0 (by decide))
                    have f1005 := ti_b (q_I r954 12 7 a0)
                    have f1006 : (q_I r954 12 7 a0).toInt = (q_I r505.2 12 7 a0).toInt := congrArg Int32.toInt (u959 12 7 a0 (by decide))
                    have f1007 := ti_b (q_I r505.2 12 7 a0)
                    have f1008 : (q_I r505.2 12 7 a0).toInt = (q_I r18.2 12 7 a0).toInt := congrArg Int32.toInt (u510 12 7 a0 (by decide))
                    have f1009 := ti_b (q_I r18.2 12 7 a0)
                    have f1010 : (q_I r18.2 12 7 a0).toInt = (q_I δ 12 7 a0).toInt := congrArg Int32.toInt (u24 12 7 a0 (by decide))
                    exact ok_some (show RI ad h.1 δ0 r972 ∧ (kp [(12, 4), (12, 5), (12, 6), (12, 7), (12, 26)] δ r972 ∧ q_V r972 = q_V δ ∧ kr ad [116, 117] δ r972) ∧ (q_I δ 12 4 a0).toInt ≤ (q_I r972 12 4 a0).toInt ∧ ((q_I δ 12 5 a0).toInt ≠ -1 → (q_I r972 12 5 a0).toInt ≠ -1) ∧ (q_I r972 12 7 a0).toInt = (q_I δ 12 7 a0).toInt ∧ (q_I δ 12 26 a0).toInt ≤ (q_I r972 12 26 a0).toInt ∧ (q_I r972 12 26 a0).toInt - (q_I δ 12 26 a0).toInt ≤ (q_I r972 12 4 a0).toInt - (q_I δ 12 4 a0).toInt ∧ US ad a0 δ r972 from ⟨i986, ⟨kp_w (by decide) u994, v995, kr_w (by decide) v996⟩, by first | assumption | omega, by first | assumption | omega, by first | assumption | omega, by first | assumption | omega, by first | assumption | omega, us998⟩)
                · have c1011 : r505.1.toInt ≠ r916.1.toInt := o_ne h922
                  unfold J_X12_unit_176
                  refine ok_ite (fun h1012 => ?_) (fun h1012 => ?_)
                  · have c1013 : (-1 : Int) = (-1 : Int) := o_eq h1012
                    refine ok_bind (k_X12_wrong L hN (a0 := a0) (x1 := (1 : Int32)) (x2 := (q_I r505.2 12 4 a0)) k_a0 (show 0 ≤ ((q_I r505.2 12 4 a0)).toInt by first | assumption | omega) i507) (fun r1014 hr1015 => ?_)
                    obtain ⟨i1016, ⟨u1018, u1019, u1020, u1021⟩, p1017⟩ := hr1015
                    have u1022 := kp_t u514 u1018
                    have v1023 : q_V r1014 = q_V δ := (u1019).trans v515
                    have v1024 := kr_t v516 u1021
                    have f1025 := ti_b (q_I r1014 12 5 a0)
                    have us1026 := NU.t us531 (⟨u1021 116 (by decide) (by decide) (by decide), u1018 12 26 _ (by decide), u1018 12 24 _ (by decide), fun z => by omega⟩)
                    have f1027 := cb_12_4 i1016 k_a0
                    have f1028 : (q_I r1014 12 4 a0).toInt = (q_I r505.2 12 4 a0).toInt := congrArg Int32.toInt (u1018 12 4 a0 (by decide))
                    have f1029 := ti_b (q_I r1014 12 7 a0)
                    have f1030 : (q_I r1014 12 7 a0).toInt = (q_I r505.2 12 7 a0).toInt := congrArg Int32.toInt (u1018 12 7 a0 (by decide))
                    have f1031 := ti_b (q_I r505.2 12 7 a0)
                    have f1032 : (q_I r505.2 12 7 a0).toInt = (q_I r18.2 12 7 a0).toInt := congrArg Int32.toInt (u510 12 7 a0 (by decide))
                    have f1033 := ti_b (q_I r18.2 12 7 a0)
                    have f1034 : (q_I r18.2 12 7 a0).toInt = (q_I δ 12 7 a0).toInt := congrArg Int32.toInt (u24 12 7 a0 (by decide))
                    have f1035 := cb_12_26 i1016 k_a0
                    have f1036 : (q_I r1014 12 26 a0).toInt = (q_I r505.2 12 26 a0).toInt := congrArg Int32.toInt (u1018 12 26 a0 (by decide))
                    have f1037 := cb_12_26 i507 k_a0
                    have f1038 : (q_I r505.2 12 26 a0).toInt = (q_I r18.2 12 26 a0).toInt := congrArg Int32.toInt (u510 12 26 a0 (by decide))
                    have f1039 := cb_12_26 i20 k_a0
                    have f1040 : (q_I r18.2 12 26 a0).toInt = (q_I δ 12 26 a0).toInt := congrArg Int32.toInt (u24 12 26 a0 (by decide))
                    exact ok_some (show RI ad h.1 δ0 r1014 ∧ (kp [(12, 4), (12, 5), (12, 6), (12, 7), (12, 26)] δ r1014 ∧ q_V r1014 = q_V δ ∧ kr ad [116, 117] δ r1014) ∧ (q_I δ 12 4 a0).toInt ≤ (q_I r1014 12 4 a0).toInt ∧ ((q_I δ 12 5 a0).toInt ≠ -1 → (q_I r1014 12 5 a0).toInt ≠ -1) ∧ (q_I r1014 12 7 a0).toInt = (q_I δ 12 7 a0).toInt ∧ (q_I δ 12 26 a0).toInt ≤ (q_I r1014 12 26 a0).toInt ∧ (q_I r1014 12 26 a0).toInt - (q_I δ 12 26 a0).toInt ≤ (q_I r1014 12 4 a0).toInt - (q_I δ 12 4 a0).toInt ∧ US ad a0 δ r1014 from ⟨i1016, ⟨kp_w (by decide) u1022, v1023, kr_w (by decide) v1024⟩, by first | assumption | omega, by first | assumption | omega, by first | assumption | omega, by first | assumption | omega, by first | assumption | omega, US.bad us1026 (by omega)⟩)
                  · have c1041 : (-1 : Int) ≠ (-1 : Int) := o_ne h1012
                    refine ok_bind (k_X12_pass L hN (a0 := a0) k_a0 i507) (fun r1042 hr1043 => ?_)
                    obtain ⟨i1044, ⟨u1047, u1048, u1049, u1050⟩, p1045, p1046⟩ := hr1043
                    have u1051 := kp_t u514 u1047
                    have v1052 : q_V r1042 = q_V δ := (u1048).trans v515
                    have v1053 := kr_t v516 u1050
                    have f1054 := cb_12_4 i1044 k_a0
                    have f1055 := cb_12_3 i507 k_a0
                    have f1056 : (q_I r505.2 12 3 a0).toInt = (q_I r18.2 12 3 a0).toInt := congrArg Int32.toInt (u510 12 3 a0 (by decide))
                    have f1057 := ti_b (q_I r1042 12 5 a0)
                    have f1058 : (q_I r1042 12 5 a0).toInt = (q_I r505.2 12 5 a0).toInt := congrArg Int32.toInt (u1047 12 5 a0 (by decide))
                    have us1059 := NU.t us531 (⟨u1050 116 (by decide) (by decide) (by decide), u1047 12 26 _ (by decide), u1047 12 24 _ (by decide), fun z => by omega⟩)
                    have f1062 := cb_12_24 i1044 k_a0
                    have f1063 : (q_I r1042 12 24 a0).toInt = (q_I r505.2 12 24 a0).toInt := congrArg Int32.toInt (u1047 12 24 a0 (by decide))
                    have f1064 := cb_12_24 i507 k_a0
                    have f1065 : (q_I r505.2 12 24 a0).toInt = (q_I r18.2 12 24 a0).toInt := congrArg Int32.toInt (u510 12 24 a0 (by decide))
                    have f1066 := cb_12_24 i20 k_a0
                    have f1067 : (q_I r18.2 12 24 a0).toInt = (q_I δ 12 24 a0).toInt := congrArg Int32.toInt (u24 12 24 a0 (by decide))
                    have f1068 := cb_12_26 i1044 k_a0
                    have f1069 : (q_I r1042 12 26 a0).toInt = (q_I r505.2 12 26 a0).toInt := congrArg Int32.toInt (u1047 12 26 a0 (by decide))
                    have f1070 := cb_12_26 i507 k_a0
                    have f1071 : (q_I r505.2 12 26 a0).toInt = (q_I r18.2 12 26 a0).toInt := congrArg Int32.toInt (u510 12 26 a0 (by decide))
                    have f1072 := cb_12_26 i20 k_a0
                    have f1073 : (q_I r18.2 12 26 a0).toInt = (q_I δ 12 26 a0).toInt := congrArg Int32.toInt (u24 12 26 a0 (by decide))
                    refine ok_bind (k_X12_emit L hN (a0 := a0) (x1 := (-1 : Int32)) (x2 := (0 : Int32)) k_a0 (show (q_I r1042 12 24 a0).toInt ≤ 3 by first | assumption | omega) (show (q_I r1042 12 5 a0).toInt = -1 → (q_I r1042 12 26 a0).toInt < 500 by first | assumption | omega) i1044) (fun r1060 hr1061 => ?_)
                    obtain ⟨i1074, ⟨u1079, u1080, u1081⟩, p1075, p1076, p1077, p1078⟩ := hr1061
                    have u1082 := kp_t u1051 u1079
                    have v1083 : q_V r1060 = q_V δ := (u1080).trans v1052
                    have v1084 := kr_t v1053 u1081
                    have f1085 := cb_12_26 i1074 k_a0
                    have us1086 := US.em us1059 p1078 (by decide) (by decide)
                    have f1087 := cb_12_4 i1074 k_a0
                    have f1088 : (q_I r1060 12 4 a0).toInt = (q_I r1042 12 4 a0).toInt := congrArg Int32.toInt (u1079 12 4 a0 (by decide))
                    have f1089 := ti_b (q_I r1060 12 5 a0)
                    have f1090 : (q_I r1060 12 5 a0).toInt = (q_I r1042 12 5 a0).toInt := congrArg Int32.toInt (u1079 12 5 a0 (by decide))
                    have f1091 := ti_b (q_I r1060 12 7 a0)
                    have f1092 : (q_I r1060 12 7 a0).toInt = (q_I r1042 12 7 a0).toInt := congrArg Int32.toInt (u1079 12 7 a0 (by decide))
                    have f1093 := ti_b (q_I r1042 12 7 a0)
                    have f1094 : (q_I r1042 12 7 a0).toInt = (q_I r505.2 12 7 a0).toInt := congrArg Int32.toInt (u1047 12 7 a0 (by decide))
                    have f1095 := ti_b (q_I r505.2 12 7 a0)
                    have f1096 : (q_I r505.2 12 7 a0).toInt = (q_I r18.2 12 7 a0).toInt := congrArg Int32.toInt (u510 12 7 a0 (by decide))
                    have f1097 := ti_b (q_I r18.2 12 7 a0)
                    have f1098 : (q_I r18.2 12 7 a0).toInt = (q_I δ 12 7 a0).toInt := congrArg Int32.toInt (u24 12 7 a0 (by decide))
                    exact ok_some (show RI ad h.1 δ0 r1060 ∧ (kp [(12, 4), (12, 5), (12, 6), (12, 7), (12, 26)] δ r1060 ∧ q_V r1060 = q_V δ ∧ kr ad [116, 117] δ r1060) ∧ (q_I δ 12 4 a0).toInt ≤ (q_I r1060 12 4 a0).toInt ∧ ((q_I δ 12 5 a0).toInt ≠ -1 → (q_I r1060 12 5 a0).toInt ≠ -1) ∧ (q_I r1060 12 7 a0).toInt = (q_I δ 12 7 a0).toInt ∧ (q_I δ 12 26 a0).toInt ≤ (q_I r1060 12 26 a0).toInt ∧ (q_I r1060 12 26 a0).toInt - (q_I δ 12 26 a0).toInt ≤ (q_I r1060 12 4 a0).toInt - (q_I δ 12 4 a0).toInt ∧ US ad a0 δ r1060 from ⟨i1074, ⟨kp_w (by decide) u1082, v1083, kr_w (by decide) v1084⟩, by first | assumption | omega, by first | assumption | omega, by first | assumption | omega, by first | assumption | omega, by first | assumption | omega, us1086⟩)
    · have c1099 : r46.1.toInt ≠ (0 : Int) := o_ne h54
      refine ok_bind (k_X12_readNumber L hN (a0 := a0) (x1 := (0 : Int32)) (x2 := (99999 : Int32)) k_a0 i20) (fun r1100 hr1101 => ?_)
      obtain ⟨i1102, ⟨u1109, u1110, u1111, u1112⟩, p1103, p1104, p1105, p1106, p1107, p1108⟩ := hr1101
      have u1113 := kp_t u28 u1109
      have v1114 : q_V r1100.2 = q_V δ := (u1110).trans v29
      have v1115 := kr_t v30 u1112
      have f1116 := cb_12_4 i1102 k_a0
      have f1117 := ti_b (q_I r1100.2 12 5 a0)
      have f1118 := ti_b r1100.1
      replace p1108 : ((q_I r1100.2 12 5 a0).toInt = -1 → (0 : Int) ≤ (r1100.1).toInt ∧ (r1100.1).toInt ≤ (99999 : Int)) := p1108
      have f1119 := ti_b r1100.1
      have us1120 := NU.t us45 (⟨u1112 116 (by decide) (by decide) (by decide), u1109 12 26 _ (by decide), u1109 12 24 _ (by decide), fun z => by omega⟩)
      have f1123 := cb_12_24 i1102 k_a0
      have f1124 : (q_I r1100.2 12 24 a0).toInt = (q_I r18.2 12 24 a0).toInt := congrArg Int32.toInt (u1109 12 24 a0 (by decide))
      have f1125 := cb_12_24 i20 k_a0
      have f1126 : (q_I r18.2 12 24 a0).toInt = (q_I δ 12 24 a0).toInt := congrArg Int32.toInt (u24 12 24 a0 (by decide))
      have f1127 := cb_12_26 i1102 k_a0
      have f1128 : (q_I r1100.2 12 26 a0).toInt = (q_I r18.2 12 26 a0).toInt := congrArg Int32.toInt (u1109 12 26 a0 (by decide))
      have f1129 := cb_12_26 i20 k_a0
      have f1130 : (q_I r18.2 12 26 a0).toInt = (q_I δ 12 26 a0).toInt := congrArg Int32.toInt (u24 12 26 a0 (by decide))
      refine ok_bind (k_X12_emit L hN (a0 := a0) (x1 := (0 : Int32)) (x2 := r1100.1) k_a0 (show (q_I r1100.2 12 24 a0).toInt ≤ 3 by first | assumption | omega) (show (q_I r1100.2 12 5 a0).toInt = -1 → (q_I r1100.2 12 26 a0).toInt < 500 by first | assumption | omega) i1102) (fun r1121 hr1122 => ?_)
      obtain ⟨i1131, ⟨u1136, u1137, u1138⟩, p1132, p1133, p1134, p1135⟩ := hr1122
      have u1139 := kp_t u1113 u1136
      have v1140 : q_V r1121 = q_V δ := (u1137).trans v1114
      have v1141 := kr_t v1115 u1138
      have f1142 := cb_12_26 i1131 k_a0
      have us1143 := US.em us1120 p1135 (by decide) (by decide)
      have f1144 := cb_12_4 i1131 k_a0
      have f1145 : (q_I r1121 12 4 a0).toInt = (q_I r1100.2 12 4 a0).toInt := congrArg Int32.toInt (u1136 12 4 a0 (by decide))
      have f1146 := ti_b (q_I r1121 12 5 a0)
      have f1147 : (q_I r1121 12 5 a0).toInt = (q_I r1100.2 12 5 a0).toInt := congrArg Int32.toInt (u1136 12 5 a0 (by decide))
      have f1148 := ti_b (q_I r1121 12 7 a0)
      have f1149 : (q_I r1121 12 7 a0).toInt = (q_I r1100.2 12 7 a0).toInt := congrArg Int32.toInt (u1136 12 7 a0 (by decide))
      have f1150 := ti_b (q_I r1100.2 12 7 a0)
      have f1151 : (q_I r1100.2 12 7 a0).toInt = (q_I r18.2 12 7 a0).toInt := congrArg Int32.toInt (u1109 12 7 a0 (by decide))
      have f1152 := ti_b (q_I r18.2 12 7 a0)
      have f1153 : (q_I r18.2 12 7 a0).toInt = (q_I δ 12 7 a0).toInt := congrArg Int32.toInt (u24 12 7 a0 (by decide))
      exact ok_some (show RI ad h.1 δ0 r1121 ∧ (kp [(12, 4), (12, 5), (12, 6), (12, 7), (12, 26)] δ r1121 ∧ q_V r1121 = q_V δ ∧ kr ad [116, 117] δ r1121) ∧ (q_I δ 12 4 a0).toInt ≤ (q_I r1121 12 4 a0).toInt ∧ ((q_I δ 12 5 a0).toInt ≠ -1 → (q_I r1121 12 5 a0).toInt ≠ -1) ∧ (q_I r1121 12 7 a0).toInt = (q_I δ 12 7 a0).toInt ∧ (q_I δ 12 26 a0).toInt ≤ (q_I r1121 12 26 a0).toInt ∧ (q_I r1121 12 26 a0).toInt - (q_I δ 12 26 a0).toInt ≤ (q_I r1121 12 4 a0).toInt - (q_I δ 12 4 a0).toInt ∧ US ad a0 δ r1121 from ⟨i1131, ⟨kp_w (by decide) u1139, v1140, kr_w (by decide) v1141⟩, by first | assumption | omega, by first | assumption | omega, by first | assumption | omega, by first | assumption | omega, by first | assumption | omega, us1143⟩)
set_option maxHeartbeats 4000000 in
theorem kl_X12_product_4 {ad : List Nat} {h : hp} (L : Lay TLx ad h) {δ0 : dp} {N : Nat} (hN : 10000000 ≤ N) {T : Nat → dp → Option (dp)} {K : Int} (hT : ∀ (a0 : Nat) (δ : dp), q_K h.1 a0 = 12 → (q_I δ 12 24 a0).toInt ≤ 3 → (q_I δ 12 26 a0).toInt ≤ (q_I δ 12 4 a0).toInt → 0 ≤ (q_I δ 12 7 a0).toInt → (q_I δ 12 7 a0).toInt ≤ 7 → ((q_I δ 12 7 a0).toInt = 7 → (q_I δ 12 5 a0).toInt ≠ -1) → 8 - (q_I δ 12 7 a0).toInt < K → RI ad h.1 δ0 δ → ok (T a0 δ) (fun r => RI ad h.1 δ0 r ∧ (kp [(12, 4), (12, 5), (12, 6), (12, 7), (12, 26)] δ r ∧ q_V r = q_V δ ∧ kr ad [116, 117] δ r) ∧ (q_I δ 12 4 a0).toInt ≤ (q_I r 12 4 a0).toInt ∧ ((q_I δ 12 5 a0).toInt ≠ -1 → (q_I r 12 5 a0).toInt ≠ -1) ∧ (q_I r 12 7 a0).toInt = (q_I δ 12 7 a0).toInt ∧ (q_I δ 12 26 a0).toInt ≤ (q_I r 12 26 a0).toInt ∧ (q_I r 12 26 a0).toInt - (q_I δ 12 26 a0).toInt ≤ (q_I r 12 4 a0).toInt - (q_I δ 12 4 a0).toInt ∧ US ad a0 δ r)) {a0 : Nat} (k_a0 : q_K h.1 a0 = 12) : ∀ (n : Nat) (δ : dp), RI ad h.1 δ0 δ → (q_I δ 12 24 a0).toInt ≤ 3 → (q_I δ 12 26 a0).toInt ≤ (q_I δ 12 4 a0).toInt → 0 ≤ (q_I δ 12 7 a0).toInt → (q_I δ 12 7 a0).toInt ≤ 7 → ((q_I δ 12 7 a0).toInt = 7 → (q_I δ 12 5 a0).toInt ≠ -1) → 8 - (q_I δ 12 7 a0).toInt ≤ K → 501 - (q_I δ 12 4 a0).toInt < (n : Int) → ok (L_X12_product_4 N h.1 T a0 n δ) (fun r => RI ad h.1 δ0 r ∧ (kp [(12, 4), (12, 5), (12, 6), (12, 7), (12, 26)] δ r ∧ q_V r = q_V δ ∧ kr ad [116, 117] δ r) ∧ (q_I δ 12 4 a0).toInt ≤ (q_I r 12 4 a0).toInt ∧ ((q_I δ 12 5 a0).toInt ≠ -1 → (q_I r 12 5 a0).toInt ≠ -1) ∧ (q_I r 12 7 a0).toInt = (q_I δ 12 7 a0).toInt ∧ (q_I δ 12 26 a0).toInt ≤ (q_I r 12 26 a0).toInt ∧ (q_I r 12 26 a0).toInt - (q_I δ 12 26 a0).toInt ≤ (q_I r 12 4 a0).toInt - (q_I δ 12 4 a0).toInt ∧ LU ad a0 δ r) := by
  intro n
  induction n with
  | zero =>
    intro δ I j0 j1 j2 j3 j4 j5 hm
    have f1 := cb_12_24 I k_a0
    have f2 := cb_12_26 I k_a0
    have f3 := cb_12_4 I k_a0
    have f4 := ti_b (q_I δ 12 7 a0)
    have f5 := ti_b (q_I δ 12 5 a0)
    exfalso; omega
  | succ n ih =>
    intro δ I j0 j1 j2 j3 j4 j5 hm
    unfold L_X12_product_4
    have f1 := cb_12_24 I k_a0
    have f2 := cb_12_26 I k_a0
    have f3 := cb_12_4 I k_a0
    have f4 := ti_b (q_I δ 12 7 a0)
    have f5 := ti_b (q_I δ 12 5 a0)
    refine ok_bind (k_X12_fine L hN (a0 := a0) k_a0 I) (fun r6 hr7 => ?_)
    obtain ⟨i8, p9, p10, p11⟩ := hr7
    try rw [i8]
    have f12 := bo_t p9
    have f13 := ti_b r6.1
    have f14 := ti_b r6.1
    refine ok_ite (fun h15 => ?_) (fun h15 => ?_)
    · have c16 : r6.1.toInt = (0 : Int) := o_eq h15
      unfold J_X12_product_69
      exact ok_some (show RI ad h.1 δ0 δ ∧ (kp [(12, 4), (12, 5), (12, 6), (12, 7), (12, 26)] δ δ ∧ q_V δ = q_V δ ∧ kr ad [116, 117] δ δ) ∧ (q_I δ 12 4 a0).toInt ≤ (q_I δ 12 4 a0).toInt ∧ ((q_I δ 12 5 a0).toInt ≠ -1 → (q_I δ 12 5 a0).toInt ≠ -1) ∧ (q_I δ 12 7 a0).toInt = (q_I δ 12 7 a0).toInt ∧ (q_I δ 12 26 a0).toInt ≤ (q_I δ 12 26 a0).toInt ∧ (q_I δ 12 26 a0).toInt - (q_I δ 12 26 a0).toInt ≤ (q_I δ 12 4 a0).toInt - (q_I δ 12 4 a0).toInt ∧ LU ad a0 δ δ from ⟨I, ⟨kp_w (by decide) kp_r, rfl, kr_w (by decide) kr_r⟩, by first | assumption | omega, by first | assumption | omega, by first | assumption | omega, by first | assumption | omega, by first | assumption | omega, LU.n NU.r⟩)
    · have c17 : r6.1.toInt ≠ (0 : Int) := o_ne h15
      refine ok_bind (k_X12_here L hN (a0 := a0) k_a0 I) (fun r18 hr19 => ?_)
      obtain ⟨i20, ⟨u24, u25, u26, u27⟩, p21, p22, p23⟩ := hr19
      have u28 := kp_t kp_r u24
      have v29 : q_V r18.2 = q_V δ := (u25).trans rfl
      have v30 := kr_t kr_r u27
      have f31 := cb_12_4 i20 k_a0
      have f32 : hc ad r18.2 a0 = (q_R r18.2 (Ad ad 101) (q_I r18.2 12 4 a0).toNatClampNeg).toInt := rfl
      have t33 := ti_tn (q_I r18.2 12 4 a0)
      have f34 : (q_R r18.2 (Ad ad 101) (q_I r18.2 12 4 a0).toNatClampNeg).toInt = (q_R δ (Ad ad 101) (q_I r18.2 12 4 a0).toNatClampNeg).toInt := congrArg Int32.toInt (congrFun (u27 101 (by decide) (by decide) (by decide)) _)
      have f35 := ti_b (q_R δ (Ad ad 101) (q_I r18.2 12 4 a0).toNatClampNeg)
      have f36 := ti_b (q_R r18.2 (Ad ad 101) (q_I r18.2 12 4 a0).toNatClampNeg)
      have f37 := ti_b r18.1
      have f38 := cb_12_3 I k_a0
      have f39 : hc ad δ a0 = (q_R δ (Ad ad 101) (q_I δ 12 4 a0).toNatClampNeg).toInt := rfl
      have t40 := ti_tn (q_I δ 12 4 a0)
      have f41 := ti_b (q_R δ (Ad ad 101) (q_I δ 12 4 a0).toNatClampNeg)
      have f42 := ti_b r18.1
      have f43 := ti_b (q_I r18.2 12 5 a0)
      have f44 : (q_I r18.2 12 5 a0).toInt = (q_I δ 12 5 a0).toInt := congrArg Int32.toInt (u24 12 5 a0 (by decide))
      have us45 := NU.t NU.r (⟨u27 116 (by decide) (by decide) (by decide), u24 12 26 _ (by decide), u24 12 24 _ (by decide), fun z => by omega⟩)
      refine ok_ite (fun h46 => ?_) (fun h46 => ?_)
      · have c47 : r18.1.toInt = (42 : Int) := o_eq h46
        unfold J_X12_product_29
        refine ok_bind (k_X12_here L hN (a0 := a0) k_a0 i20) (fun r48 hr49 => ?_)
        obtain ⟨i50, ⟨u54, u55, u56, u57⟩, p51, p52, p53⟩ := hr49
        have u58 := kp_t u28 u54
        have v59 : q_V r48.2 = q_V δ := (u55).trans v29
        have v60 := kr_t v30 u57
        have f61 := cb_12_4 i50 k_a0
        have f62 : hc ad r48.2 a0 = (q_R r48.2 (Ad ad 101) (q_I r48.2 12 4 a0).toNatClampNeg).toInt := rfl
        have t63 := ti_tn (q_I r48.2 12 4 a0)
        have f64 : (q_R r48.2 (Ad ad 101) (q_I r48.2 12 4 a0).toNatClampNeg).toInt = (q_R r18.2 (Ad ad 101) (q_I r48.2 12 4 a0).toNatClampNeg).toInt := congrArg Int32.toInt (congrFun (u57 101 (by decide) (by decide) (by decide)) _)
        have f65 : (q_R r18.2 (Ad ad 101) (q_I r48.2 12 4 a0).toNatClampNeg).toInt = (q_R δ (Ad ad 101) (q_I r48.2 12 4 a0).toNatClampNeg).toInt := congrArg Int32.toInt (congrFun (u27 101 (by decide) (by decide) (by decide)) _)
        have f66 := ti_b (q_R δ (Ad ad 101) (q_I r48.2 12 4 a0).toNatClampNeg)
        have f67 := ti_b (q_R r18.2 (Ad ad 101) (q_I r48.2 12 4 a0).toNatClampNeg)
        have f68 := ti_b (q_R r48.2 (Ad ad 101) (q_I r48.2 12 4 a0).toNatClampNeg)
        have f69 := ti_b r48.1
        have f70 := cb_12_3 i20 k_a0
        have f71 : (q_I r18.2 12 3 a0).toInt = (q_I δ 12 3 a0).toInt := congrArg Int32.toInt (u24 12 3 a0 (by decide))
        have f72 := ti_b r48.1
        have f73 := ti_b (q_I r48.2 12 5 a0)
        have f74 : (q_I r48.2 12 5 a0).toInt = (q_I r18.2 12 5 a0).toInt := congrArg Int32.toInt (u54 12 5 a0 (by decide))
        have us75 := NU.t us45 (⟨u57 116 (by decide) (by decide) (by decide), u54 12 26 _ (by decide), u54 12 24 _ (by decide), fun z => by omega⟩)
        first | (have q80 := te_addc (c := 1) (n := 1) rfl (q_I r48.2 12 4 a0) (by omega) (by omega); obtain ⟨f81, f82, f83⟩ := q80) | (obtain ⟨q80, f81, f82, f83⟩ := ti_addc (c := 1) (n := 1) rfl (q_I r48.2 12 4 a0))
        refine ok_bdv (fun d76 e77 => ?_)
        have i78 : RI ad h.1 δ0 d76 := by rw [e77]; exact cs_12_4 L i50 k_a0 (show 0 ≤ ((q_I r48.2 12 4 a0) + (1 : Int32)).toInt by omega) (show ((q_I r48.2 12 4 a0) + (1 : Int32)).toInt ≤ 500 by omega)
        have u84 := kp_I u58 e77
        have v85 : q_V d76 = q_V δ := ((show q_V d76 = q_V r48.2 by rw [e77]; rfl)).trans v59
        have v86 := kr_N v60 (show q_R d76 = q_R r48.2 by rw [e77]; rfl)
        have us87 := NU.t us75 (NU.w (ad := ad) e77 (by decide))
        have f90 := cb_12_24 i78 k_a0
        have f91 : (q_I d76 12 24 a0).toInt = (q_I r48.2 12 24 a0).toInt := congrArg Int32.toInt (by rw [e77]; exact rI_o (by decide))
        have f92 := cb_12_24 i50 k_a0
        have f93 : (q_I r48.2 12 24 a0).toInt = (q_I r18.2 12 24 a0).toInt := congrArg Int32.toInt (u54 12 24 a0 (by decide))
        have f94 := cb_12_24 i20 k_a0
        have f95 : (q_I r18.2 12 24 a0).toInt = (q_I δ 12 24 a0).toInt := congrArg Int32.toInt (u24 12 24 a0 (by decide))
        have f96 := cb_12_26 i78 k_a0
        have f97 : (q_I d76 12 26 a0).toInt = (q_I r48.2 12 26 a0).toInt := congrArg Int32.toInt (by rw [e77]; exact rI_o (by decide))
        have f98 := cb_12_26 i50 k_a0
        have f99 : (q_I r48.2 12 26 a0).toInt = (q_I r18.2 12 26 a0).toInt := congrArg Int32.toInt (u54 12 26 a0 (by decide))
        have f100 := cb_12_26 i20 k_a0
        have f101 : (q_I r18.2 12 26 a0).toInt = (q_I δ 12 26 a0).toInt := congrArg Int32.toInt (u24 12 26 a0 (by decide))
        have f102 := cb_12_4 i78 k_a0
        have f103 : (q_I d76 12 4 a0).toInt = ((q_I r48.2 12 4 a0) + (1 : Int32)).toInt := congrArg Int32.toInt (show q_I d76 12 4 a0 = ((q_I r48.2 12 4 a0) + (1 : Int32)) by rw [e77]; exact rI_s)
        have f104 := ti_b (q_I d76 12 7 a0)
        have f105 : (q_I d76 12 7 a0).toInt = (q_I r48.2 12 7 a0).toInt := congrArg Int32.toInt (by rw [e77]; exact rI_o (by decide))
        have f106 := ti_b (q_I r48.2 12 7 a0)
        have f107 : (q_I r48.2 12 7 a0).toInt = (q_I r18.2 12 7 a0).toInt := congrArg Int32.toInt (u54 12 7 a0 (by decide))
        have f108 := ti_b (q_I r18.2 12 7 a0)
        have f109 : (q_I r18.2 12 7 a0).toInt = (q_I δ 12 7 a0).toInt := congrArg Int32.toInt (u24 12 7 a0 (by decide))
        have f110 := ti_b (q_I d76 12 5 a0)
        have f111 : (q_I d76 12 5 a0).toInt = (q_I r48.2 12 5 a0).toInt := congrArg Int32.toInt (by rw [e77]; exact rI_o (by decide))
        refine ok_bind (k_bX12_unit L hN (a0 := a0) hT k_a0 (show (q_I d76 12 24 a0).toInt ≤ 3 by first | assumption | omega) (show (q_I d76 12 26 a0).toInt ≤ (q_I d76 12 4 a0).toInt by first | assumption | omega) (show 0 ≤ (q_I d76 12 7 a0).toInt by first | assumption | omega) (show (q_I d76 12 7 a0).toInt ≤ 7 by first | assumption | omega) (show (q_I d76 12 7 a0).toInt = 7 → (q_I d76 12 5 a0).toInt ≠ -1 by first | assumption | omega) (show 8 - (q_I d76 12 7 a0).toInt ≤ K by first | assumption | omega) i78) (fun r88 hr89 => ?_)
        obtain ⟨i112, ⟨u119, u120, u121⟩, p113, p114, p115, p116, p117, p118⟩ := hr89
        have u122 := kp_t u84 u119
        have v123 : q_V r88 = q_V δ := (u120).trans v85
        have v124 := kr_t v86 u121
        have f125 := cb_12_4 i112 k_a0
        have f126 := ti_b (q_I r88 12 5 a0)
        have f127 := ti_b (q_I r88 12 7 a0)
        have f128 := cb_12_26 i112 k_a0
        have us129 := US.pre us87 p118
        refine ok_ite (fun h130 => ?_) (fun h130 => ?_)
        · have c131 : r48.1.toInt = (42 : Int) := o_eq h130
          unfold J_X12_product_62
          have f134 := cb_12_24 i112 k_a0
          have f135 : (q_I r88 12 24 a0).toInt = (q_I d76 12 24 a0).toInt := congrArg Int32.toInt (u119 12 24 a0 (by decide))
          refine ok_bind (k_X12_emit L hN (a0 := a0) (x1 := (8 : Int32)) (x2 := (0 : Int32)) k_a0 (show (q_I r88 12 24 a0).toInt ≤ 3 by first | assumption | omega) (show (q_I r88 12 5 a0).toInt = -1 → (q_I r88 12 26 a0).toInt < 500 by first | assumption | omega) i112) (fun r132 hr133 => ?_)
          obtain ⟨i136, ⟨u141, u142, u143⟩, p137, p138, p139, p140⟩ := hr133
          have u144 := kp_t u122 u141
          have v145 : q_V r132 = q_V δ := (u142).trans v123
          have v146 := kr_t v124 u143
          have f147 := cb_12_26 i136 k_a0
          have us148 := LU.em us129 p140 (by decide)
          have f149 := cb_12_24 i136 k_a0
          have f150 : (q_I r132 12 24 a0).toInt = (q_I r88 12 24 a0).toInt := congrArg Int32.toInt (u141 12 24 a0 (by decide))
          have f151 := cb_12_4 i136 k_a0
          have f152 : (q_I r132 12 4 a0).toInt = (q_I r88 12 4 a0).toInt := congrArg Int32.toInt (u141 12 4 a0 (by decide))
          have f153 := ti_b (q_I r132 12 7 a0)
          have f154 : (q_I r132 12 7 a0).toInt = (q_I r88 12 7 a0).toInt := congrArg Int32.toInt (u141 12 7 a0 (by decide))
          have f155 := ti_b (q_I r132 12 5 a0)
          have f156 : (q_I r132 12 5 a0).toInt = (q_I r88 12 5 a0).toInt := congrArg Int32.toInt (u141 12 5 a0 (by decide))
          refine ok_mono (ih r132 i136 (show (q_I r132 12 24 a0).toInt ≤ 3 by first | assumption | omega) (show (q_I r132 12 26 a0).toInt ≤ (q_I r132 12 4 a0).toInt by first | assumption | omega) (show 0 ≤ (q_I r132 12 7 a0).toInt by first | assumption | omega) (show (q_I r132 12 7 a0).toInt ≤ 7 by first | assumption | omega) (show (q_I r132 12 7 a0).toInt = 7 → (q_I r132 12 5 a0).toInt ≠ -1 by first | assumption | omega) (show 8 - (q_I r132 12 7 a0).toInt ≤ K by first | assumption | omega) (show 501 - (q_I r132 12 4 a0).toInt < _ by omega)) (fun r157 hr158 => ?_)
          obtain ⟨i159, ⟨u166, u167, u168⟩, p160, p161, p162, p163, p164, p165⟩ := hr158
          have u169 := kp_t u144 u166
          have v170 : q_V r157 = q_V δ := (u167).trans v145
          have v171 := kr_t v146 u168
          have f172 := cb_12_4 i159 k_a0
          have f173 := ti_b (q_I r157 12 5 a0)
          have f174 := ti_b (q_I r157 12 7 a0)
          have f175 := cb_12_26 i159 k_a0
          have us176 := LU.t us148 p165
          exact ⟨by assumption, ⟨kp_w (by decide) u169, v170, kr_w (by decide) v171⟩, by first | assumption | omega, by first | assumption | omega, by first | assumption | omega, by first | assumption | omega, by first | assumption | omega, us176⟩
        · have c177 : r48.1.toInt ≠ (42 : Int) := o_ne h130
          unfold J_X12_product_62
          have f180 := cb_12_24 i112 k_a0
          have f181 : (q_I r88 12 24 a0).toInt = (q_I d76 12 24 a0).toInt := congrArg Int32.toInt (u119 12 24 a0 (by decide))
          refine ok_bind (k_X12_emit L hN (a0 := a0) (x1 := (9 : Int32)) (x2 := (0 : Int32)) k_a0 (show (q_I r88 12 24 a0).toInt ≤ 3 by first | assumption | omega) (show (q_I r88 12 5 a0).toInt = -1 → (q_I r88 12 26 a0).toInt < 500 by first | assumption | omega) i112) (fun r178 hr179 => ?_)
          obtain ⟨i182, ⟨u187, u188, u189⟩, p183, p184, p185, p186⟩ := hr179
          have u190 := kp_t u122 u187
          have v191 : q_V r178 = q_V δ := (u188).trans v123
          have v192 := kr_t v124 u189
          have f193 := cb_12_26 i182 k_a0
          have us194 := LU.em us129 p186 (by decide)
          have f195 := cb_12_24 i182 k_a0
          have f196 : (q_I r178 12 24 a0).toInt = (q_I r88 12 24 a0).toInt := congrArg Int32.toInt (u187 12 24 a0 (by decide))
          have f197 := cb_12_4 i182 k_a0
          have f198 : (q_I r178 12 4 a0).toInt = (q_I r88 12 4 a0).toInt := congrArg Int32.toInt (u187 12 4 a0 (by decide))
          have f199 := ti_b (q_I r178 12 7 a0)
          have f200 : (q_I r178 12 7 a0).toInt = (q_I r88 12 7 a0).toInt := congrArg Int32.toInt (u187 12 7 a0 (by decide))
          have f201 := ti_b (q_I r178 12 5 a0)
          have f202 : (q_I r178 12 5 a0).toInt = (q_I r88 12 5 a0).toInt := congrArg Int32.toInt (u187 12 5 a0 (by decide))
          refine ok_mono (ih r178 i182 (show (q_I r178 12 24 a0).toInt ≤ 3 by first | assumption | omega) (show (q_I r178 12 26 a0).toInt ≤ (q_I r178 12 4 a0).toInt by first | assumption | omega) (show 0 ≤ (q_I r178 12 7 a0).toInt by first | assumption | omega) (show (q_I r178 12 7 a0).toInt ≤ 7 by first | assumption | omega) (show (q_I r178 12 7 a0).toInt = 7 → (q_I r178 12 5 a0).toInt ≠ -1 by first | assumption | omega) (show 8 - (q_I r178 12 7 a0).toInt ≤ K by first | assumption | omega) (show 501 - (q_I r178 12 4 a0).toInt < _ by omega)) (fun r203 hr204 => ?_)
          obtain ⟨i205, ⟨u212, u213, u214⟩, p206, p207, p208, p209, p210, p211⟩ := hr204
          have u215 := kp_t u190 u212
          have v216 : q_V r203 = q_V δ := (u213).trans v191
          have v217 := kr_t v192 u214
          have f218 := cb_12_4 i205 k_a0
          have f219 := ti_b (q_I r203 12 5 a0)
          have f220 := ti_b (q_I r203 12 7 a0)
          have f221 := cb_12_26 i205 k_a0
          have us222 := LU.t us194 p211
          exact ⟨by assumption, ⟨kp_w (by decide) u215, v216, kr_w (by decide) v217⟩, by first | assumption | omega, by first | assumption | omega, by first | assumption | omega, by first | assumption | omega, by first | assumption | omega, us222⟩
      · have c223 : r18.1.toInt ≠ (42 : Int) := o_ne h46
        refine ok_bind (k_X12_here L hN (a0 := a0) k_a0 i20) (fun r224 hr225 => ?_)
        obtain ⟨i226, ⟨u230, u231, u232, u233⟩, p227, p228, p229⟩ := hr225
        have u234 := kp_t u28 u230
        have v235 : q_V r224.2 = q_V δ := (u231).trans v29
        have v236 := kr_t v30 u233
        have f237 := cb_12_4 i226 k_a0
        have f238 : hc ad r224.2 a0 = (q_R r224.2 (Ad ad 101) (q_I r224.2 12 4 a0).toNatClampNeg).toInt := rfl
        have t239 := ti_tn (q_I r224.2 12 4 a0)
        have f240 : (q_R r224.2 (Ad ad 101) (q_I r224.2 12 4 a0).toNatClampNeg).toInt = (q_R r18.2 (Ad ad 101) (q_I r224.2 12 4 a0).toNatClampNeg).toInt := congrArg Int32.toInt (congrFun (u233 101 (by decide) (by decide) (by decide)) _)
        have f241 : (q_R r18.2 (Ad ad 101) (q_I r224.2 12 4 a0).toNatClampNeg).toInt = (q_R δ (Ad ad 101) (q_I r224.2 12 4 a0).toNatClampNeg).toInt := congrArg Int32.toInt (congrFun (u27 101 (by decide) (by decide) (by decide)) _)
        have f242 := ti_b (q_R δ (Ad ad 101) (q_I r224.2 12 4 a0).toNatClampNeg)
        have f243 := ti_b (q_R r18.2 (Ad ad 101) (q_I r224.2 12 4 a0).toNatClampNeg)
        have f244 := ti_b (q_R r224.2 (Ad ad 101) (q_I r224.2 12 4 a0).toNatClampNeg)
        have f245 := ti_b r224.1
        have f246 := cb_12_3 i20 k_a0
        have f247 : (q_I r18.2 12 3 a0).toInt = (q_I δ 12 3 a0).toInt := congrArg Int32.toInt (u24 12 3 a0 (by decide))
        have f248 := ti_b r224.1
        have f249 := ti_b (q_I r224.2 12 5 a0)
        have f250 : (q_I r224.2 12 5 a0).toInt = (q_I r18.2 12 5 a0).toInt := congrArg Int32.toInt (u230 12 5 a0 (by decide))
        have us251 := NU.t us45 (⟨u233 116 (by decide) (by decide) (by decide), u230 12 26 _ (by decide), u230 12 24 _ (by decide), fun z => by omega⟩)
        refine ok_ite (fun h252 => ?_) (fun h252 => ?_)
        · have c253 : r224.1.toInt = (37 : Int) := o_eq h252
          unfold J_X12_product_29
          refine ok_bind (k_X12_here L hN (a0 := a0) k_a0 i226) (fun r254 hr255 => ?_)
          obtain ⟨i256, ⟨u260, u261, u262, u263⟩, p257, p258, p259⟩ := hr255
          have u264 := kp_t u234 u260
          have v265 : q_V r254.2 = q_V δ := (u261).trans v235
          have v266 := kr_t v236 u263
          have f267 := cb_12_4 i256 k_a0
          have f268 : hc ad r254.2 a0 = (q_R r254.2 (Ad ad 101) (q_I r254.2 12 4 a0).toNatClampNeg).toInt := rfl
          have t269 := ti_tn (q_I r254.2 12 4 a0)
          have f270 : (q_R r254.2 (Ad ad 101) (q_I r254.2 12 4 a0).toNatClampNeg).toInt = (q_R r224.2 (Ad ad 101) (q_I r254.2 12 4 a0).toNatClampNeg).toInt := congrArg Int32.toInt (congrFun (u263 101 (by decide) (by decide) (by decide)) _)
          have f271 : (q_R r224.2 (Ad ad 101) (q_I r254.2 12 4 a0).toNatClampNeg).toInt = (q_R r18.2 (Ad ad 101) (q_I r254.2 12 4 a0).toNatClampNeg).toInt := congrArg Int32.toInt (congrFun (u233 101 (by decide) (by decide) (by decide)) _)
          have f272 : (q_R r18.2 (Ad ad 101) (q_I r254.2 12 4 a0).toNatClampNeg).toInt = (q_R δ (Ad ad 101) (q_I r254.2 12 4 a0).toNatClampNeg).toInt := congrArg Int32.toInt (congrFun (u27 101 (by decide) (by decide) (by decide)) _)
          have f273 := ti_b (q_R δ (Ad ad 101) (q_I r254.2 12 4 a0).toNatClampNeg)
          have f274 := ti_b (q_R r18.2 (Ad ad 101) (q_I r254.2 12 4 a0).toNatClampNeg)
          have f275 := ti_b (q_R r224.2 (Ad ad 101) (q_I r254.2 12 4 a0).toNatClampNeg)
          have f276 := ti_b (q_R r254.2 (Ad ad 101) (q_I r254.2 12 4 a0).toNatClampNeg)
          have f277 := ti_b r254.1
          have f278 := cb_12_3 i226 k_a0
          have f279 : (q_I r224.2 12 3 a0).toInt = (q_I r18.2 12 3 a0).toInt := congrArg Int32.toInt (u230 12 3 a0 (by decide))
          have f280 := ti_b r254.1
          have f281 := ti_b (q_I r254.2 12 5 a0)
          have f282 : (q_I r254.2 12 5 a0).toInt = (q_I r224.2 12 5 a0).toInt := congrArg Int32.toInt (u260 12 5 a0 (by decide))
          have us283 := NU.t us251 (⟨u263 116 (by decide) (by decide) (by decide), u260 12 26 _ (by decide), u260 12 24 _ (by decide), fun z => by omega⟩)
          first | (have q288 := te_addc (c := 1) (n := 1) rfl (q_I r254.2 12 4 a0) (by omega) (by omega); obtain ⟨f289, f290, f291⟩ := q288) | (obtain ⟨q288, f289, f290, f291⟩ := ti_addc (c := 1) (n := 1) rfl (q_I r254.2 12 4 a0))
          refine ok_bdv (fun d284 e285 => ?_)
          have i286 : RI ad h.1 δ0 d284 := by rw [e285]; exact cs_12_4 L i256 k_a0 (show 0 ≤ ((q_I r254.2 12 4 a0) + (1 : Int32)).toInt by omega) (show ((q_I r254.2 12 4 a0) + (1 : Int32)).toInt ≤ 500 by omega)
          have u292 := kp_I u264 e285
          have v293 : q_V d284 = q_V δ := ((show q_V d284 = q_V r254.2 by rw [e285]; rfl)).trans v265
          have v294 := kr_N v266 (show q_R d284 = q_R r254.2 by rw [e285]; rfl)
          have us295 := NU.t us283 (NU.w (ad := ad) e285 (by decide))
          have f298 := cb_12_24 i286 k_a0
          have f299 : (q_I d284 12 24 a0).toInt = (q_I r254.2 12 24 a0).toInt := congrArg Int32.toInt (by rw [e285]; exact rI_o (by decide))
          have f300 := cb_12_24 i256 k_a0
          have f301 : (q_I r254.2 12 24 a0).toInt = (q_I r224.2 12 24 a0).toInt := congrArg Int32.toInt (u260 12 24 a0 (by decide))
          have f302 := cb_12_24 i226 k_a0
          have f303 : (q_I r224.2 12 24 a0).toInt = (q_I r18.2 12 24 a0).toInt := congrArg Int32.toInt (u230 12 24 a0 (by decide))
          have f304 := cb_12_24 i20 k_a0
          have f305 : (q_I r18.2 12 24 a0).toInt = (q_I δ 12 24 a0).toInt := congrArg Int32.toInt (u24 12 24 a0 (by decide))
          have f306 := cb_12_26 i286 k_a0
          have f307 : (q_I d284 12 26 a0).toInt = (q_I r254.2 12 26 a0).toInt := congrArg Int32.toInt (by rw [e285]; exact rI_o (by decide))
          have f308 := cb_12_26 i256 k_a0
          have f309 : (q_I r254.2 12 26 a0).toInt = (q_I r224.2 12 26 a0).toInt := congrArg Int32.toInt (u260 12 26 a0 (by decide))
          have f310 := cb_12_26 i226 k_a0
          have f311 : (q_I r224.2 12 26 a0).toInt = (q_I r18.2 12 26 a0).toInt := congrArg Int32.toInt (u230 12 26 a0 (by decide))
          have f312 := cb_12_26 i20 k_a0
          have f313 : (q_I r18.2 12 26 a0).toInt = (q_I δ 12 26 a0).toInt := congrArg Int32.toInt (u24 12 26 a0 (by decide))
          have f314 := cb_12_4 i286 k_a0
          have f315 : (q_I d284 12 4 a0).toInt = ((q_I r254.2 12 4 a0) + (1 : Int32)).toInt := congrArg Int32.toInt (show q_I d284 12 4 a0 = ((q_I r254.2 12 4 a0) + (1 : Int32)) by rw [e285]; exact rI_s)
          have f316 := ti_b (q_I d284 12 7 a0)
          have f317 : (q_I d284 12 7 a0).toInt = (q_I r254.2 12 7 a0).toInt := congrArg Int32.toInt (by rw [e285]; exact rI_o (by decide))
          have f318 := ti_b (q_I r254.2 12 7 a0)
          have f319 : (q_I r254.2 12 7 a0).toInt = (q_I r224.2 12 7 a0).toInt := congrArg Int32.toInt (u260 12 7 a0 (by decide))
          have f320 := ti_b (q_I r224.2 12 7 a0)
          have f321 : (q_I r224.2 12 7 a0).toInt = (q_I r18.2 12 7 a0).toInt := congrArg Int32.toInt (u230 12 7 a0 (by decide))
          have f322 := ti_b (q_I r18.2 12 7 a0)
          have f323 : (q_I r18.2 12 7 a0).toInt = (q_I δ 12 7 a0).toInt := congrArg Int32.toInt (u24 12 7 a0 (by decide))
          have f324 := ti_b (q_I d284 12 5 a0)
          have f325 : (q_I d284 12 5 a0).toInt = (q_I r254.2 12 5 a0).toInt := congrArg Int32.toInt (by rw [e285]; exact rI_o (by decide))
          refine ok_bind (k_bX12_unit L hN (a0 := a0) hT k_a0 (show (q_I d284 12 24 a0).toInt ≤ 3 by first | assumption | omega) (show (q_I d284 12 26 a0).toInt ≤ (q_I d284 12 4 a0).toInt by first | assumption | omega) (show 0 ≤ (q_I d284 12 7 a0).toInt by first | assumption | omega) (show (q_I d284 12 7 a0).toInt ≤ 7 by first | assumption | omega) (show (q_I d284 12 7 a0).toInt = 7 → (q_I d284 12 5 a0).toInt ≠ -1 by first | assumption | omega) (show 8 - (q_I d284 12 7 a0).toInt ≤ K by first | assumption | omega) i286) (fun r296 hr297 => ?_)
          obtain ⟨i326, ⟨u333, u334, u335⟩, p327, p328, p329, p330, p331, p332⟩ := hr297
          have u336 := kp_t u292 u333
          have v337 : q_V r296 = q_V δ := (u334).trans v293
          have v338 := kr_t v294 u335
          have f339 := cb_12_4 i326 k_a0
          have f340 := ti_b (q_I r296 12 5 a0)
          have f341 := ti_b (q_I r296 12 7 a0)
          have f342 := cb_12_26 i326 k_a0
          have us343 := US.pre us295 p332
          refine ok_ite (fun h344 => ?_) (fun h344 => ?_)
          · have c345 : r254.1.toInt = (42 : Int) := o_eq h344
            unfold J_X12_product_62
            have f348 := cb_12_24 i326 k_a0
            have f349 : (q_I r296 12 24 a0).toInt = (q_I d284 12 24 a0).toInt := congrArg Int32.toInt (u333 12 24 a0 (by decide))
            refine ok_bind (k_X12_emit L hN (a0 := a0) (x1 := (8 : Int32)) (x2 := (0 : Int32)) k_a0 (show (q_I r296 12 24 a0).toInt ≤ 3 by first | assumption | omega) (show (q_I r296 12 5 a0).toInt = -1 → (q_I r296 12 26 a0).toInt < 500 by first | assumption | omega) i326) (fun r346 hr347 => ?_)
            obtain ⟨i350, ⟨u355, u356, u357⟩, p351, p352, p353, p354⟩ := hr347
            have u358 := kp_t u336 u355
            have v359 : q_V r346 = q_V δ := (u356).trans v337
            have v360 := kr_t v338 u357
            have f361 := cb_12_26 i350 k_a0
            have us362 := LU.em us343 p354 (by decide)
            have f363 := cb_12_24 i350 k_a0
            have f364 : (q_I r346 12 24 a0).toInt = (q_I r296 12 24 a0).toInt := congrArg Int32.toInt (u355 12 24 a0 (by decide))
            have f365 := cb_12_4 i350 k_a0
            have f366 : (q_I r346 12 4 a0).toInt = (q_I r296 12 4 a0).toInt := congrArg Int32.toInt (u355 12 4 a0 (by decide))
            have f367 := ti_b (q_I r346 12 7 a0)
            have f368 : (q_I r346 12 7 a0).toInt = (q_I r296 12 7 a0).toInt := congrArg Int32.toInt (u355 12 7 a0 (by decide))
            have f369 := ti_b (q_I r346 12 5 a0)
            have f370 : (q_I r346 12 5 a0).toInt = (q_I r296 12 5 a0).toInt := congrArg Int32.toInt (u355 12 5 a0 (by decide))
            refine ok_mono (ih r346 i350 (show (q_I r346 12 24 a0).toInt ≤ 3 by first | assumption | omega) (show (q_I r346 12 26 a0).toInt ≤ (q_I r346 12 4 a0).toInt by first | assumption | omega) (show 0 ≤ (q_I r346 12 7 a0).toInt by first | assumption | omega) (show (q_I r346 12 7 a0).toInt ≤ 7 by first | assumption | omega) (show (q_I r346 12 7 a0).toInt = 7 → (q_I r346 12 5 a0).toInt ≠ -1 by first | assumption | omega) (show 8 - (q_I r346 12 7 a0).toInt ≤ K by first | assumption | omega) (show 501 - (q_I r346 12 4 a0).toInt < _ by omega)) (fun r371 hr372 => ?_)
            obtain ⟨i373, ⟨u380, u381, u382⟩, p374, p375, p376, p377, p378, p379⟩ := hr372
            have u383 := kp_t u358 u380
            have v384 : q_V r371 = q_V δ := (u381).trans v359
            have v385 := kr_t v360 u382
            have f386 := cb_12_4 i373 k_a0
            have f387 := ti_b (q_I r371 12 5 a0)
            have f388 := ti_b (q_I r371 12 7 a0)
            have f389 := cb_12_26 i373 k_a0
            have us390 := LU.t us362 p379
            exact ⟨by assumption, ⟨kp_w (by decide) u383, v384, kr_w (by decide) v385⟩, by first | assumption | omega, by first | assumption | omega, by first | assumption | omega, by first | assumption | omega, by first | assumption | omega, us390⟩
          · have c391 : r254.1.toInt ≠ (42 : Int) := o_ne h344
            unfold J_X12_product_62
            have f394 := cb_12_24 i326 k_a0
            have f395 : (q_I r296 12 24 a0).toInt = (q_I d284 12 24 a0).toInt := congrArg Int32.toInt (u333 12 24 a0 (by decide))
            refine ok_bind (k_X12_emit L hN (a0 := a0) (x1 := (9 : Int32)) (x2 := (0 : Int32)) k_a0 (show (q_I r296 12 24 a0).toInt ≤ 3 by first | assumption | omega) (show (q_I r296 12 5 a0).toInt = -1 → (q_I r296 12 26 a0).toInt < 500 by first | assumption | omega) i326) (fun r392 hr393 => ?_)
            obtain ⟨i396, ⟨u401, u402, u403⟩, p397, p398, p399, p400⟩ := hr393
            have u404 := kp_t u336 u401
            have v405 : q_V r392 = q_V δ := (u402).trans v337
            have v406 := kr_t v338 u403
            have f407 := cb_12_26 i396 k_a0
            have us408 := LU.em us343 p400 (by decide)
            have f409 := cb_12_24 i396 k_a0
            have f410 : (q_I r392 12 24 a0).toInt = (q_I r296 12 24 a0).toInt := congrArg Int32.toInt (u401 12 24 a0 (by decide))
            have f411 := cb_12_4 i396 k_a0
            have f412 : (q_I r392 12 4 a0).toInt = (q_I r296 12 4 a0).toInt := congrArg Int32.toInt (u401 12 4 a0 (by decide))
            have f413 := ti_b (q_I r392 12 7 a0)
            have f414 : (q_I r392 12 7 a0).toInt = (q_I r296 12 7 a0).toInt := congrArg Int32.toInt (u401 12 7 a0 (by decide))
            have f415 := ti_b (q_I r392 12 5 a0)
            have f416 : (q_I r392 12 5 a0).toInt = (q_I r296 12 5 a0).toInt := congrArg Int32.toInt (u401 12 5 a0 (by decide))
            refine ok_mono (ih r392 i396 (show (q_I r392 12 24 a0).toInt ≤ 3 by first | assumption | omega) (show (q_I r392 12 26 a0).toInt ≤ (q_I r392 12 4 a0).toInt by first | assumption | omega) (show 0 ≤ (q_I r392 12 7 a0).toInt by first | assumption | omega) (show (q_I r392 12 7 a0).toInt ≤ 7 by first | assumption | omega) (show (q_I r392 12 7 a0).toInt = 7 → (q_I r392 12 5 a0).toInt ≠ -1 by first | assumption | omega) (show 8 - (q_I r392 12 7 a0).toInt ≤ K by first | assumption | omega) (show 501 - (q_I r392 12 4 a0).toInt < _ by omega)) (fun r417 hr418 => ?_)
            obtain ⟨i419, ⟨u426, u427, u428⟩, p420, p421, p422, p423, p424, p425⟩ := hr418
            have u429 := kp_t u404 u426
            have v430 : q_V r417 = q_V δ := (u427).trans v405
            have v431 := kr_t v406 u428
            have f432 := cb_12_4 i419 k_a0
            have f433 := ti_b (q_I r417 12 5 a0)
            have f434 := ti_b (q_I r417 12 7 a0)
            have f435 := cb_12_26 i419 k_a0
            have us436 := LU.t us408 p425
            exact ⟨by assumption, ⟨kp_w (by decide) u429, v430, kr_w (by decide) v431⟩, by first | assumption | omega, by first | assumption | omega, by first | assumption | omega, by first | assumption | omega, by first | assumption | omega, us436⟩
        · have c437 : r224.1.toInt ≠ (37 : Int) := o_ne h252
          unfold J_X12_product_69
          have f438 := ti_b (q_I r224.2 12 7 a0)
          have f439 : (q_I r224.2 12 7 a0).toInt = (q_I r18.2 12 7 a0).toInt := congrArg Int32.toInt (u230 12 7 a0 (by decide))
          have f440 := ti_b (q_I r18.2 12 7 a0)
          have f441 : (q_I r18.2 12 7 a0).toInt = (q_I δ 12 7 a0).toInt := congrArg Int32.toInt (u24 12 7 a0 (by decide))
          have f442 := cb_12_26 i226 k_a0
          have f443 : (q_I r224.2 12 26 a0).toInt = (q_I r18.2 12 26 a0).toInt := congrArg Int32.toInt (u230 12 26 a0 (by decide))
          have f444 := cb_12_26 i20 k_a0
          have f445 : (q_I r18.2 12 26 a0).toInt = (q_I δ 12 26 a0).toInt := congrArg Int32.toInt (u24 12 26 a0 (by decide))
          exact ok_some (show RI ad h.1 δ0 r224.2 ∧ (kp [(12, 4), (12, 5), (12, 6), (12, 7), (12, 26)] δ r224.2 ∧ q_V r224.2 = q_V δ ∧ kr ad [116, 117] δ r224.2) ∧ (q_I δ 12 4 a0).toInt ≤ (q_I r224.2 12 4 a0).toInt ∧ ((q_I δ 12 5 a0).toInt ≠ -1 → (q_I r224.2 12 5 a0).toInt ≠ -1) ∧ (q_I r224.2 12 7 a0).toInt = (q_I δ 12 7 a0).toInt ∧ (q_I δ 12 26 a0).toInt ≤ (q_I r224.2 12 26 a0).toInt ∧ (q_I r224.2 12 26 a0).toInt - (q_I δ 12 26 a0).toInt ≤ (q_I r224.2 12 4 a0).toInt - (q_I δ 12 4 a0).toInt ∧ LU ad a0 δ r224.2 from ⟨i226, ⟨kp_w (by decide) u234, v235, kr_w (by decide) v236⟩, by first | assumption | omega, by first | assumption | omega, by first | assumption | omega, by first | assumption | omega, by first | assumption | omega, LU.n us251⟩)
set_option maxHeartbeats 4000000 in
theorem k_bX12_product {ad : List Nat} {h : hp} (L : Lay TLx ad h) {δ0 : dp} {N : Nat} (hN : 10000000 ≤ N) {T : Nat → dp → Option (dp)} {K : Int} (hT : ∀ (a0 : Nat) (δ : dp), q_K h.1 a0 = 12 → (q_I δ 12 24 a0).toInt ≤ 3 → (q_I δ 12 26 a0).toInt ≤ (q_I δ 12 4 a0).toInt → 0 ≤ (q_I δ 12 7 a0).toInt → (q_I δ 12 7 a0).toInt ≤ 7 → ((q_I δ 12 7 a0).toInt = 7 → (q_I δ 12 5 a0).toInt ≠ -1) → 8 - (q_I δ 12 7 a0).toInt < K → RI ad h.1 δ0 δ → ok (T a0 δ) (fun r => RI ad h.1 δ0 r ∧ (kp [(12, 4), (12, 5), (12, 6), (12, 7), (12, 26)] δ r ∧ q_V r = q_V δ ∧ kr ad [116, 117] δ r) ∧ (q_I δ 12 4 a0).toInt ≤ (q_I r 12 4 a0).toInt ∧ ((q_I δ 12 5 a0).toInt ≠ -1 → (q_I r 12 5 a0).toInt ≠ -1) ∧ (q_I r 12 7 a0).toInt = (q_I δ 12 7 a0).toInt ∧ (q_I δ 12 26 a0).toInt ≤ (q_I r 12 26 a0).toInt ∧ (q_I r 12 26 a0).toInt - (q_I δ 12 26 a0).toInt ≤ (q_I r 12 4 a0).toInt - (q_I δ 12 4 a0).toInt ∧ US ad a0 δ r)) {a0 : Nat} (k_a0 : q_K h.1 a0 = 12) {δ : dp} (z0 : (q_I δ 12 24 a0).toInt ≤ 3) (z1 : (q_I δ 12 26 a0).toInt ≤ (q_I δ 12 4 a0).toInt) (z2 : 0 ≤ (q_I δ 12 7 a0).toInt) (z3 : (q_I δ 12 7 a0).toInt ≤ 7) (z4 : (q_I δ 12 7 a0).toInt = 7 → (q_I δ 12 5 a0).toInt ≠ -1) (z5 : 8 - (q_I δ 12 7 a0).toInt ≤ K) (I : RI ad h.1 δ0 δ) : ok (B_X12_product N h.1 T a0 δ) (fun r => RI ad h.1 δ0 r ∧ (kp [(12, 4), (12, 5), (12, 6), (12, 7), (12, 26)] δ r ∧ q_V r = q_V δ ∧ kr ad [116, 117] δ r) ∧ (q_I δ 12 4 a0).toInt ≤ (q_I r 12 4 a0).toInt ∧ ((q_I δ 12 5 a0).toInt ≠ -1 → (q_I r 12 5 a0).toInt ≠ -1) ∧ (q_I r 12 7 a0).toInt = (q_I δ 12 7 a0).toInt ∧ (q_I δ 12 26 a0).toInt ≤ (q_I r 12 26 a0).toInt ∧ (q_I r 12 26 a0).toInt - (q_I δ 12 26 a0).toInt ≤ (q_I r 12 4 a0).toInt - (q_I δ 12 4 a0).toInt ∧ US ad a0 δ r) := by
  unfold B_X12_product
  have f1 := cb_12_24 I k_a0
  have f2 := cb_12_26 I k_a0
  have f3 := cb_12_4 I k_a0
  have f4 := ti_b (q_I δ 12 7 a0)
  have f5 := ti_b (q_I δ 12 5 a0)
  refine ok_bind (k_bX12_unit L hN (a0 := a0) hT k_a0 (show (q_I δ 12 24 a0).toInt ≤ 3 by first | assumption | omega) (show (q_I δ 12 26 a0).toInt ≤ (q_I δ 12 4 a0).toInt by first | assumption | omega) (show 0 ≤ (q_I δ 12 7 a0).toInt by first | assumption | omega) (show (q_I δ 12 7 a0).toInt ≤ 7 by first | assumption | omega) (show (q_I δ 12 7 a0).toInt = 7 → (q_I δ 12 5 a0).toInt ≠ -1 by first | assumption | omega) (show 8 - (q_I δ 12 7 a0).toInt ≤ K by first | assumption | omega) I) (fun r6 hr7 => ?_)
  obtain ⟨i8, ⟨u15, u16, u17⟩, p9, p10, p11, p12, p13, p14⟩ := hr7
  have u18 := kp_t kp_r u15
  have v19 : q_V r6 = q_V δ := (u16).trans rfl
  have v20 := kr_t kr_r u17
  have f21 := cb_12_4 i8 k_a0
  have f22 := ti_b (q_I r6 12 5 a0)
  have f23 := ti_b (q_I r6 12 7 a0)
  have f24 := cb_12_26 i8 k_a0
  have us25 := US.pre NU.r p14
  have f26 := cb_12_24 i8 k_a0
  have f27 : (q_I r6 12 24 a0).toInt = (q_I δ 12 24 a0).toInt := congrArg Int32.toInt (u15 12 24 a0 (by decide))
  refine ok_mono (kl_X12_product_4 L hN   hT k_a0 _ r6 i8 (show (q_I r6 12 24 a0).toInt ≤ 3 by first | assumption | omega) (show (q_I r6 12 26 a0).toInt ≤ (q_I r6 12 4 a0).toInt by first | assumption | omega) (show 0 ≤ (q_I r6 12 7 a0).toInt by first | assumption | omega) (show (q_I r6 12 7 a0).toInt ≤ 7 by first | assumption | omega) (show (q_I r6 12 7 a0).toInt = 7 → (q_I r6 12 5 a0).toInt ≠ -1 by first | assumption | omega) (show 8 - (q_I r6 12 7 a0).toInt ≤ K by first | assumption | omega) (show 501 - (q_I r6 12 4 a0).toInt < _ by omega)) (fun r28 hr29 => ?_)
  obtain ⟨i30, ⟨u37, u38, u39⟩, p31, p32, p33, p34, p35, p36⟩ := hr29
  have u40 := kp_t u18 u37
  have v41 : q_V r28 = q_V δ := (u38).trans v19
  have v42 := kr_t v20 u39
  have f43 := cb_12_4 i30 k_a0
  have f44 := ti_b (q_I r28 12 5 a0)
  have f45 := ti_b (q_I r28 12 7 a0)
  have f46 := cb_12_26 i30 k_a0
  have us47 := US.l us25 p36
  exact ⟨by assumption, ⟨kp_w (by decide) u40, v41, kr_w (by decide) v42⟩, by first | assumption | omega, by first | assumption | omega, by first | assumption | omega, by first | assumption | omega, by first | assumption | omega, us47⟩
set_option maxHeartbeats 4000000 in
theorem kl_X12_sum_4 {ad : List Nat} {h : hp} (L : Lay TLx ad h) {δ0 : dp} {N : Nat} (hN : 10000000 ≤ N) {T : Nat → dp → Option (dp)} {K : Int} (hT : ∀ (a0 : Nat) (δ : dp), q_K h.1 a0 = 12 → (q_I δ 12 24 a0).toInt ≤ 3 → (q_I δ 12 26 a0).toInt ≤ (q_I δ 12 4 a0).toInt → 0 ≤ (q_I δ 12 7 a0).toInt → (q_I δ 12 7 a0).toInt ≤ 7 → ((q_I δ 12 7 a0).toInt = 7 → (q_I δ 12 5 a0).toInt ≠ -1) → 8 - (q_I δ 12 7 a0).toInt < K → RI ad h.1 δ0 δ → ok (T a0 δ) (fun r => RI ad h.1 δ0 r ∧ (kp [(12, 4), (12, 5), (12, 6), (12, 7), (12, 26)] δ r ∧ q_V r = q_V δ ∧ kr ad [116, 117] δ r) ∧ (q_I δ 12 4 a0).toInt ≤ (q_I r 12 4 a0).toInt ∧ ((q_I δ 12 5 a0).toInt ≠ -1 → (q_I r 12 5 a0).toInt ≠ -1) ∧ (q_I r 12 7 a0).toInt = (q_I δ 12 7 a0).toInt ∧ (q_I δ 12 26 a0).toInt ≤ (q_I r 12 26 a0).toInt ∧ (q_I r 12 26 a0).toInt - (q_I δ 12 26 a0).toInt ≤ (q_I r 12 4 a0).toInt - (q_I δ 12 4 a0).toInt ∧ US ad a0 δ r)) {a0 : Nat} (k_a0 : q_K h.1 a0 = 12) : ∀ (n : Nat) (δ : dp), RI ad h.1 δ0 δ → (q_I δ 12 24 a0).toInt ≤ 3 → (q_I δ 12 26 a0).toInt ≤ (q_I δ 12 4 a0).toInt → 0 ≤ (q_I δ 12 7 a0).toInt → (q_I δ 12 7 a0).toInt ≤ 7 → ((q_I δ 12 7 a0).toInt = 7 → (q_I δ 12 5 a0).toInt ≠ -1) → 8 - (q_I δ 12 7 a0).toInt ≤ K → 501 - (q_I δ 12 4 a0).toInt < (n : Int) → ok (L_X12_sum_4 N h.1 T a0 n δ) (fun r => RI ad h.1 δ0 r ∧ (kp [(12, 4), (12, 5), (12, 6), (12, 7), (12, 26)] δ r ∧ q_V r = q_V δ ∧ kr ad [116, 117] δ r) ∧ (q_I δ 12 4 a0).toInt ≤ (q_I r 12 4 a0).toInt ∧ ((q_I δ 12 5 a0).toInt ≠ -1 → (q_I r 12 5 a0).toInt ≠ -1) ∧ (q_I r 12 7 a0).toInt = (q_I δ 12 7 a0).toInt ∧ (q_I δ 12 26 a0).toInt ≤ (q_I r 12 26 a0).toInt ∧ (q_I r 12 26 a0).toInt - (q_I δ 12 26 a0).toInt ≤ (q_I r 12 4 a0).toInt - (q_I δ 12 4 a0).toInt ∧ LU ad a0 δ r) := by
  intro n
  induction n with
  | zero =>
    intro δ I j0 j1 j2 j3 j4 j5 hm
    have f1 := cb_12_24 I k_a0
    have f2 := cb_12_26 I k_a0
    have f3 := cb_12_4 I k_a0
    have f4 := ti_b (q_I δ 12 7 a0)
    have f5 := ti_b (q_I δ 12 5 a0)
    exfalso; omega
  | succ n ih =>
    intro δ I j0 j1 j2 j3 j4 j5 hm
    unfold L_X12_sum_4
    have f1 := cb_12_24 I k_a0
    have f2 := cb_12_26 I k_a0
    have f3 := cb_12_4 I k_a0
    have f4 := ti_b (q_I δ 12 7 a0)
    have f5 := ti_b (q_I δ 12 5 a0)
    refine ok_bind (k_X12_fine L hN (a0 := a0) k_a0 I) (fun r6 hr7 => ?_)
    obtain ⟨i8, p9, p10, p11⟩ := hr7
    try rw [i8]
    have f12 := bo_t p9
    have f13 := ti_b r6.1
    have f14 := ti_b r6.1
    refine ok_ite (fun h15 => ?_) (fun h15 => ?_)
    · have c16 : r6.1.toInt = (0 : Int) := o_eq h15
      unfold J_X12_sum_69
      exact ok_some (show RI ad h.1 δ0 δ ∧ (kp [(12, 4), (12, 5), (12, 6), (12, 7), (12, 26)] δ δ ∧ q_V δ = q_V δ ∧ kr ad [116, 117] δ δ) ∧ (q_I δ 12 4 a0).toInt ≤ (q_I δ 12 4 a0).toInt ∧ ((q_I δ 12 5 a0).toInt ≠ -1 → (q_I δ 12 5 a0).toInt ≠ -1) ∧ (q_I δ 12 7 a0).toInt = (q_I δ 12 7 a0).toInt ∧ (q_I δ 12 26 a0).toInt ≤ (q_I δ 12 26 a0).toInt ∧ (q_I δ 12 26 a0).toInt - (q_I δ 12 26 a0).toInt ≤ (q_I δ 12 4 a0).toInt - (q_I δ 12 4 a0).toInt ∧ LU ad a0 δ δ from ⟨I, ⟨kp_w (by decide) kp_r, rfl, kr_w (by decide) kr_r⟩, by first | assumption | omega, by first | assumption | omega, by first | assumption | omega, by first | assumption | omega, by first | assumption | omega, LU.n NU.r⟩)
    · have c17 : r6.1.toInt ≠ (0 : Int) := o_ne h15
      refine ok_bind (k_X12_here L hN (a0 := a0) k_a0 I) (fun r18 hr19 => ?_)
      obtain ⟨i20, ⟨u24, u25, u26, u27⟩, p21, p22, p23⟩ := hr19
      have u28 := kp_t kp_r u24
      have v29 : q_V r18.2 = q_V δ := (u25).trans rfl
      have v30 := kr_t kr_r u27
      have f31 := cb_12_4 i20 k_a0
      have f32 : hc ad r18.2 a0 = (q_R r18.2 (Ad ad 101) (q_I r18.2 12 4 a0).toNatClampNeg).toInt := rfl
      have t33 := ti_tn (q_I r18.2 12 4 a0)
      have f34 : (q_R r18.2 (Ad ad 101) (q_I r18.2 12 4 a0).toNatClampNeg).toInt = (q_R δ (Ad ad 101) (q_I r18.2 12 4 a0).toNatClampNeg).toInt := congrArg Int32.toInt (congrFun (u27 101 (by decide) (by decide) (by decide)) _)
      have f35 := ti_b (q_R δ (Ad ad 101) (q_I r18.2 12 4 a0).toNatClampNeg)
      have f36 := ti_b (q_R r18.2 (Ad ad 101) (q_I r18.2 12 4 a0).toNatClampNeg)
      have f37 := ti_b r18.1
      have f38 := cb_12_3 I k_a0
      have f39 : hc ad δ a0 = (q_R δ (Ad ad 101) (q_I δ 12 4 a0).toNatClampNeg).toInt := rfl
      have t40 := ti_tn (q_I δ 12 4 a0)
      have f41 := ti_b (q_R δ (Ad ad 101) (q_I δ 12 4 a0).toNatClampNeg)
      have f42 := ti_b r18.1
      have f43 := ti_b (q_I r18.2 12 5 a0)
      have f44 : (q_I r18.2 12 5 a0).toInt = (q_I δ 12 5 a0).toInt := congrArg Int32.toInt (u24 12 5 a0 (by decide))
      have us45 := NU.t NU.r (⟨u27 116 (by decide) (by decide) (by decide), u24 12 26 _ (by decide), u24 12 24 _ (by decide), fun z => by omega⟩)
      refine ok_ite (fun h46 => ?_) (fun h46 => ?_)
      · have c47 : r18.1.toInt = (43 : Int) := o_eq h46
        unfold J_X12_sum_29
        refine ok_bind (k_X12_here L hN (a0 := a0) k_a0 i20) (fun r48 hr49 => ?_)
        obtain ⟨i50, ⟨u54, u55, u56, u57⟩, p51, p52, p53⟩ := hr49
        have u58 := kp_t u28 u54
        have v59 : q_V r48.2 = q_V δ := (u55).trans v29
        have v60 := kr_t v30 u57
        have f61 := cb_12_4 i50 k_a0
        have f62 : hc ad r48.2 a0 = (q_R r48.2 (Ad ad 101) (q_I r48.2 12 4 a0).toNatClampNeg).toInt := rfl
        have t63 := ti_tn (q_I r48.2 12 4 a0)
        have f64 : (q_R r48.2 (Ad ad 101) (q_I r48.2 12 4 a0).toNatClampNeg).toInt = (q_R r18.2 (Ad ad 101) (q_I r48.2 12 4 a0).toNatClampNeg).toInt := congrArg Int32.toInt (congrFun (u57 101 (by decide) (by decide) (by decide)) _)
        have f65 : (q_R r18.2 (Ad ad 101) (q_I r48.2 12 4 a0).toNatClampNeg).toInt = (q_R δ (Ad ad 101) (q_I r48.2 12 4 a0).toNatClampNeg).toInt := congrArg Int32.toInt (congrFun (u27 101 (by decide) (by decide) (by decide)) _)
        have f66 := ti_b (q_R δ (Ad ad 101) (q_I r48.2 12 4 a0).toNatClampNeg)
        have f67 := ti_b (q_R r18.2 (Ad ad 101) (q_I r48.2 12 4 a0).toNatClampNeg)
        have f68 := ti_b (q_R r48.2 (Ad ad 101) (q_I r48.2 12 4 a0).toNatClampNeg)
        have f69 := ti_b r48.1
        have f70 := cb_12_3 i20 k_a0
        have f71 : (q_I r18.2 12 3 a0).toInt = (q_I δ 12 3 a0).toInt := congrArg Int32.toInt (u24 12 3 a0 (by decide))
        have f72 := ti_b r48.1
        have f73 := ti_b (q_I r48.2 12 5 a0)
        have f74 : (q_I r48.2 12 5 a0).toInt = (q_I r18.2 12 5 a0).toInt := congrArg Int32.toInt (u54 12 5 a0 (by decide))
        have us75 := NU.t us45 (⟨u57 116 (by decide) (by decide) (by decide), u54 12 26 _ (by decide), u54 12 24 _ (by decide), fun z => by omega⟩)
        first | (have q80 := te_addc (c := 1) (n := 1) rfl (q_I r48.2 12 4 a0) (by omega) (by omega); obtain ⟨f81, f82, f83⟩ := q80) | (obtain ⟨q80, f81, f82, f83⟩ := ti_addc (c := 1) (n := 1) rfl (q_I r48.2 12 4 a0))
        refine ok_bdv (fun d76 e77 => ?_)
        have i78 : RI ad h.1 δ0 d76 := by rw [e77]; exact cs_12_4 L i50 k_a0 (show 0 ≤ ((q_I r48.2 12 4 a0) + (1 : Int32)).toInt by omega) (show ((q_I r48.2 12 4 a0) + (1 : Int32)).toInt ≤ 500 by omega)
        have u84 := kp_I u58 e77
        have v85 : q_V d76 = q_V δ := ((show q_V d76 = q_V r48.2 by rw [e77]; rfl)).trans v59
        have v86 := kr_N v60 (show q_R d76 = q_R r48.2 by rw [e77]; rfl)
        have us87 := NU.t us75 (NU.w (ad := ad) e77 (by decide))
        have f90 := cb_12_24 i78 k_a0
        have f91 : (q_I d76 12 24 a0).toInt = (q_I r48.2 12 24 a0).toInt := congrArg Int32.toInt (by rw [e77]; exact rI_o (by decide))
        have f92 := cb_12_24 i50 k_a0
        have f93 : (q_I r48.2 12 24 a0).toInt = (q_I r18.2 12 24 a0).toInt := congrArg Int32.toInt (u54 12 24 a0 (by decide))
        have f94 := cb_12_24 i20 k_a0
        have f95 : (q_I r18.2 12 24 a0).toInt = (q_I δ 12 24 a0).toInt := congrArg Int32.toInt (u24 12 24 a0 (by decide))
        have f96 := cb_12_26 i78 k_a0
        have f97 : (q_I d76 12 26 a0).toInt = (q_I r48.2 12 26 a0).toInt := congrArg Int32.toInt (by rw [e77]; exact rI_o (by decide))
        have f98 := cb_12_26 i50 k_a0
        have f99 : (q_I r48.2 12 26 a0).toInt = (q_I r18.2 12 26 a0).toInt := congrArg Int32.toInt (u54 12 26 a0 (by decide))
        have f100 := cb_12_26 i20 k_a0
        have f101 : (q_I r18.2 12 26 a0).toInt = (q_I δ 12 26 a0).toInt := congrArg Int32.toInt (u24 12 26 a0 (by decide))
        have f102 := cb_12_4 i78 k_a0
        have f103 : (q_I d76 12 4 a0).toInt = ((q_I r48.2 12 4 a0) + (1 : Int32)).toInt := congrArg Int32.toInt (show q_I d76 12 4 a0 = ((q_I r48.2 12 4 a0) + (1 : Int32)) by rw [e77]; exact rI_s)
        have f104 := ti_b (q_I d76 12 7 a0)
        have f105 : (q_I d76 12 7 a0).toInt = (q_I r48.2 12 7 a0).toInt := congrArg Int32.toInt (by rw [e77]; exact rI_o (by decide))
        have f106 := ti_b (q_I r48.2 12 7 a0)
        have f107 : (q_I r48.2 12 7 a0).toInt = (q_I r18.2 12 7 a0).toInt := congrArg Int32.toInt (u54 12 7 a0 (by decide))
        have f108 := ti_b (q_I r18.2 12 7 a0)
        have f109 : (q_I r18.2 12 7 a0).toInt = (q_I δ 12 7 a0).toInt := congrArg Int32.toInt (u24 12 7 a0 (by decide))
        have f110 := ti_b (q_I d76 12 5 a0)
        have f111 : (q_I d76 12 5 a0).toInt = (q_I r48.2 12 5 a0).toInt := congrArg Int32.toInt (by rw [e77]; exact rI_o (by decide))
        refine ok_bind (k_bX12_product L hN (a0 := a0) hT k_a0 (show (q_I d76 12 24 a0).toInt ≤ 3 by first | assumption | omega) (show (q_I d76 12 26 a0).toInt ≤ (q_I d76 12 4 a0).toInt by first | assumption | omega) (show 0 ≤ (q_I d76 12 7 a0).toInt by first | assumption | omega) (show (q_I d76 12 7 a0).toInt ≤ 7 by first | assumption | omega) (show (q_I d76 12 7 a0).toInt = 7 → (q_I d76 12 5 a0).toInt ≠ -1 by first | assumption | omega) (show 8 - (q_I d76 12 7 a0).toInt ≤ K by first | assumption | omega) i78) (fun r88 hr89 => ?_)
        obtain ⟨i112, ⟨u119, u120, u121⟩, p113, p114, p115, p116, p117, p118⟩ := hr89
        have u122 := kp_t u84 u119
        have v123 : q_V r88 = q_V δ := (u120).trans v85
        have v124 := kr_t v86 u121
        have f125 := cb_12_4 i112 k_a0
        have f126 := ti_b (q_I r88 12 5 a0)
        have f127 := ti_b (q_I r88 12 7 a0)
        have f128 := cb_12_26 i112 k_a0
        have us129 := US.pre us87 p118
        refine ok_ite (fun h130 => ?_) (fun h130 => ?_)
        · have c131 : r48.1.toInt = (43 : Int) := o_eq h130
          unfold J_X12_sum_62
          have f134 := cb_12_24 i112 k_a0
          have f135 : (q_I r88 12 24 a0).toInt = (q_I d76 12 24 a0).toInt := congrArg Int32.toInt (u119 12 24 a0 (by decide))
          refine ok_bind (k_X12_emit L hN (a0 := a0) (x1 := (6 : Int32)) (x2 := (0 : Int32)) k_a0 (show (q_I r88 12 24 a0).toInt ≤ 3 by first | assumption | omega) (show (q_I r88 12 5 a0).toInt = -1 → (q_I r88 12 26 a0).toInt < 500 by first | assumption | omega) i112) (fun r132 hr133 => ?_)
          obtain ⟨i136, ⟨u141, u142, u143⟩, p137, p138, p139, p140⟩ := hr133
          have u144 := kp_t u122 u141
          have v145 : q_V r132 = q_V δ := (u142).trans v123
          have v146 := kr_t v124 u143
          have f147 := cb_12_26 i136 k_a0
          have us148 := LU.em us129 p140 (by decide)
          have f149 := cb_12_24 i136 k_a0
          have f150 : (q_I r132 12 24 a0).toInt = (q_I r88 12 24 a0).toInt := congrArg Int32.toInt (u141 12 24 a0 (by decide))
          have f151 := cb_12_4 i136 k_a0
          have f152 : (q_I r132 12 4 a0).toInt = (q_I r88 12 4 a0).toInt := congrArg Int32.toInt (u141 12 4 a0 (by decide))
          have f153 := ti_b (q_I r132 12 7 a0)
          have f154 : (q_I r132 12 7 a0).toInt = (q_I r88 12 7 a0).toInt := congrArg Int32.toInt (u141 12 7 a0 (by decide))
          have f155 := ti_b (q_I r132 12 5 a0)
          have f156 : (q_I r132 12 5 a0).toInt = (q_I r88 12 5 a0).toInt := congrArg Int32.toInt (u141 12 5 a0 (by decide))
          refine ok_mono (ih r132 i136 (show (q_I r132 12 24 a0).toInt ≤ 3 by first | assumption | omega) (show (q_I r132 12 26 a0).toInt ≤ (q_I r132 12 4 a0).toInt by first | assumption | omega) (show 0 ≤ (q_I r132 12 7 a0).toInt by first | assumption | omega) (show (q_I r132 12 7 a0).toInt ≤ 7 by first | assumption | omega) (show (q_I r132 12 7 a0).toInt = 7 → (q_I r132 12 5 a0).toInt ≠ -1 by first | assumption | omega) (show 8 - (q_I r132 12 7 a0).toInt ≤ K by first | assumption | omega) (show 501 - (q_I r132 12 4 a0).toInt < _ by omega)) (fun r157 hr158 => ?_)
          obtain ⟨i159, ⟨u166, u167, u168⟩, p160, p161, p162, p163, p164, p165⟩ := hr158
          have u169 := kp_t u144 u166
          have v170 : q_V r157 = q_V δ := (u167).trans v145
          have v171 := kr_t v146 u168
          have f172 := cb_12_4 i159 k_a0
          have f173 := ti_b (q_I r157 12 5 a0)
          have f174 := ti_b (q_I r157 12 7 a0)
          have f175 := cb_12_26 i159 k_a0
          have us176 := LU.t us148 p165
          exact ⟨by assumption, ⟨kp_w (by decide) u169, v170, kr_w (by decide) v171⟩, by first | assumption | omega, by first | assumption | omega, by first | assumption | omega, by first | assumption | omega, by first | assumption | omega, us176⟩
        · have c177 : r48.1.toInt ≠ (43 : Int) := o_ne h130
          unfold J_X12_sum_62
          have f180 := cb_12_24 i112 k_a0
          have f181 : (q_I r88 12 24 a0).toInt = (q_I d76 12 24 a0).toInt := congrArg Int32.toInt (u119 12 24 a0 (by decide))
          refine ok_bind (k_X12_emit L hN (a0 := a0) (x1 := (7 : Int32)) (x2 := (0 : Int32)) k_a0 (show (q_I r88 12 24 a0).toInt ≤ 3 by first | assumption | omega) (show (q_I r88 12 5 a0).toInt = -1 → (q_I r88 12 26 a0).toInt < 500 by first | assumption | omega) i112) (fun r178 hr179 => ?_)
          obtain ⟨i182, ⟨u187, u188, u189⟩, p183, p184, p185, p186⟩ := hr179
          have u190 := kp_t u122 u187
          have v191 : q_V r178 = q_V δ := (u188).trans v123
          have v192 := kr_t v124 u189
          have f193 := cb_12_26 i182 k_a0
          have us194 := LU.em us129 p186 (by decide)
          have f195 := cb_12_24 i182 k_a0
          have f196 : (q_I r178 12 24 a0).toInt = (q_I r88 12 24 a0).toInt := congrArg Int32.toInt (u187 12 24 a0 (by decide))
          have f197 := cb_12_4 i182 k_a0
          have f198 : (q_I r178 12 4 a0).toInt = (q_I r88 12 4 a0).toInt := congrArg Int32.toInt (u187 12 4 a0 (by decide))
          have f199 := ti_b (q_I r178 12 7 a0)
          have f200 : (q_I r178 12 7 a0).toInt = (q_I r88 12 7 a0).toInt := congrArg Int32.toInt (u187 12 7 a0 (by decide))
          have f201 := ti_b (q_I r178 12 5 a0)
          have f202 : (q_I r178 12 5 a0).toInt = (q_I r88 12 5 a0).toInt := congrArg Int32.toInt (u187 12 5 a0 (by decide))
          refine ok_mono (ih r178 i182 (show (q_I r178 12 24 a0).toInt ≤ 3 by first | assumption | omega) (show (q_I r178 12 26 a0).toInt ≤ (q_I r178 12 4 a0).toInt by first | assumption | omega) (show 0 ≤ (q_I r178 12 7 a0).toInt by first | assumption | omega) (show (q_I r178 12 7 a0).toInt ≤ 7 by first | assumption | omega) (show (q_I r178 12 7 a0).toInt = 7 → (q_I r178 12 5 a0).toInt ≠ -1 by first | assumption | omega) (show 8 - (q_I r178 12 7 a0).toInt ≤ K by first | assumption | omega) (show 501 - (q_I r178 12 4 a0).toInt < _ by omega)) (fun r203 hr204 => ?_)
          obtain ⟨i205, ⟨u212, u213, u214⟩, p206, p207, p208, p209, p210, p211⟩ := hr204
          have u215 := kp_t u190 u212
          have v216 : q_V r203 = q_V δ := (u213).trans v191
          have v217 := kr_t v192 u214
          have f218 := cb_12_4 i205 k_a0
          have f219 := ti_b (q_I r203 12 5 a0)
          have f220 := ti_b (q_I r203 12 7 a0)
          have f221 := cb_12_26 i205 k_a0
          have us222 := LU.t us194 p211
          exact ⟨by assumption, ⟨kp_w (by decide) u215, v216, kr_w (by decide) v217⟩, by first | assumption | omega, by first | assumption | omega, by first | assumption | omega, by first | assumption | omega, by first | assumption | omega, us222⟩
      · have c223 : r18.1.toInt ≠ (43 : Int) := o_ne h46
        refine ok_bind (k_X12_here L hN (a0 := a0) k_a0 i20) (fun r224 hr225 => ?_)
        obtain ⟨i226, ⟨u230, u231, u232, u233⟩, p227, p228, p229⟩ := hr225
        have u234 := kp_t u28 u230
        have v235 : q_V r224.2 = q_V δ := (u231).trans v29
        have v236 := kr_t v30 u233
        have f237 := cb_12_4 i226 k_a0
        have f238 : hc ad r224.2 a0 = (q_R r224.2 (Ad ad 101) (q_I r224.2 12 4 a0).toNatClampNeg).toInt := rfl
        have t239 := ti_tn (q_I r224.2 12 4 a0)
        have f240 : (q_R r224.2 (Ad ad 101) (q_I r224.2 12 4 a0).toNatClampNeg).toInt = (q_R r18.2 (Ad ad 101) (q_I r224.2 12 4 a0).toNatClampNeg).toInt := congrArg Int32.toInt (congrFun (u233 101 (by decide) (by decide) (by decide)) _)
        have f241 : (q_R r18.2 (Ad ad 101) (q_I r224.2 12 4 a0).toNatClampNeg).toInt = (q_R δ (Ad ad 101) (q_I r224.2 12 4 a0).toNatClampNeg).toInt := congrArg Int32.toInt (congrFun (u27 101 (by decide) (by decide) (by decide)) _)
        have f242 := ti_b (q_R δ (Ad ad 101) (q_I r224.2 12 4 a0).toNatClampNeg)
        have f243 := ti_b (q_R r18.2 (Ad ad 101) (q_I r224.2 12 4 a0).toNatClampNeg)
        have f244 := ti_b (q_R r224.2 (Ad ad 101) (q_I r224.2 12 4 a0).toNatClampNeg)
        have f245 := ti_b r224.1
        have f246 := cb_12_3 i20 k_a0
        have f247 : (q_I r18.2 12 3 a0).toInt = (q_I δ 12 3 a0).toInt := congrArg Int32.toInt (u24 12 3 a0 (by decide))
        have f248 := ti_b r224.1
        have f249 := ti_b (q_I r224.2 12 5 a0)
        have f250 : (q_I r224.2 12 5 a0).toInt = (q_I r18.2 12 5 a0).toInt := congrArg Int32.toInt (u230 12 5 a0 (by decide))
        have us251 := NU.t us45 (⟨u233 116 (by decide) (by decide) (by decide), u230 12 26 _ (by decide), u230 12 24 _ (by decide), fun z => by omega⟩)
        refine ok_ite (fun h252 => ?_) (fun h252 => ?_)
        · have c253 : r224.1.toInt = (45 : Int) := o_eq h252
          unfold J_X12_sum_29
          refine ok_bind (k_X12_here L hN (a0 := a0) k_a0 i226) (fun r254 hr255 => ?_)
          obtain ⟨i256, ⟨u260, u261, u262, u263⟩, p257, p258, p259⟩ := hr255
          have u264 := kp_t u234 u260
          have v265 : q_V r254.2 = q_V δ := (u261).trans v235
          have v266 := kr_t v236 u263
          have f267 := cb_12_4 i256 k_a0
          have f268 : hc ad r254.2 a0 = (q_R r254.2 (Ad ad 101) (q_I r254.2 12 4 a0).toNatClampNeg).toInt := rfl
          have t269 := ti_tn (q_I r254.2 12 4 a0)
          have f270 : (q_R r254.2 (Ad ad 101) (q_I r254.2 12 4 a0).toNatClampNeg).toInt = (q_R r224.2 (Ad ad 101) (q_I r254.2 12 4 a0).toNatClampNeg).toInt := congrArg Int32.toInt (congrFun (u263 101 (by decide) (by decide) (by decide)) _)
          have f271 : (q_R r224.2 (Ad ad 101) (q_I r254.2 12 4 a0).toNatClampNeg).toInt = (q_R r18.2 (Ad ad 101) (q_I r254.2 12 4 a0).toNatClampNeg).toInt := congrArg Int32.toInt (congrFun (u233 101 (by decide) (by decide) (by decide)) _)
          have f272 : (q_R r18.2 (Ad ad 101) (q_I r254.2 12 4 a0).toNatClampNeg).toInt = (q_R δ (Ad ad 101) (q_I r254.2 12 4 a0).toNatClampNeg).toInt := congrArg Int32.toInt (congrFun (u27 101 (by decide) (by decide) (by decide)) _)
          have f273 := ti_b (q_R δ (Ad ad 101) (q_I r254.2 12 4 a0).toNatClampNeg)
          have f274 := ti_b (q_R r18.2 (Ad ad 101) (q_I r254.2 12 4 a0).toNatClampNeg)
          have f275 := ti_b (q_R r224.2 (Ad ad 101) (q_I r254.2 12 4 a0).toNatClampNeg)
          have f276 := ti_b (q_R r254.2 (Ad ad 101) (q_I r254.2 12 4 a0).toNatClampNeg)
          have f277 := ti_b r254.1
          have f278 := cb_12_3 i226 k_a0
          have f279 : (q_I r224.2 12 3 a0).toInt = (q_I r18.2 12 3 a0).toInt := congrArg Int32.toInt (u230 12 3 a0 (by decide))
          have f280 := ti_b r254.1
          have f281 := ti_b (q_I r254.2 12 5 a0)
          have f282 : (q_I r254.2 12 5 a0).toInt = (q_I r224.2 12 5 a0).toInt := congrArg Int32.toInt (u260 12 5 a0 (by decide))
          have us283 := NU.t us251 (⟨u263 116 (by decide) (by decide) (by decide), u260 12 26 _ (by decide), u260 12 24 _ (by decide), fun z => by omega⟩)
          first | (have q288 := te_addc (c := 1) (n := 1) rfl (q_I r254.2 12 4 a0) (by omega) (by omega); obtain ⟨f289, f290, f291⟩ := q288) | (obtain ⟨q288, f289, f290, f291⟩ := ti_addc (c := 1) (n := 1) rfl (q_I r254.2 12 4 a0))
          refine ok_bdv (fun d284 e285 => ?_)
          have i286 : RI ad h.1 δ0 d284 := by rw [e285]; exact cs_12_4 L i256 k_a0 (show 0 ≤ ((q_I r254.2 12 4 a0) + (1 : Int32)).toInt by omega) (show ((q_I r254.2 12 4 a0) + (1 : Int32)).toInt ≤ 500 by omega)
          have u292 := kp_I u264 e285
          have v293 : q_V d284 = q_V δ := ((show q_V d284 = q_V r254.2 by rw [e285]; rfl)).trans v265
          have v294 := kr_N v266 (show q_R d284 = q_R r254.2 by rw [e285]; rfl)
          have us295 := NU.t us283 (NU.w (ad := ad) e285 (by decide))
          have f298 := cb_12_24 i286 k_a0
          have f299 : (q_I d284 12 24 a0).toInt = (q_I r254.2 12 24 a0).toInt := congrArg Int32.toInt (by rw [e285]; exact rI_o (by decide))
          have f300 := cb_12_24 i256 k_a0
          have f301 : (q_I r254.2 12 24 a0).toInt = (q_I r224.2 12 24 a0).toInt := congrArg Int32.toInt (u260 12 24 a0 (by decide))
          have f302 := cb_12_24 i226 k_a0
          have f303 : (q_I r224.2 12 24 a0).toInt = (q_I r18.2 12 24 a0).toInt := congrArg Int32.toInt (u230 12 24 a0 (by decide))
          have f304 := cb_12_24 i20 k_a0
          have f305 : (q_I r18.2 12 24 a0).toInt = (q_I δ 12 24 a0).toInt := congrArg Int32.toInt (u24 12 24 a0 (by decide))
          have f306 := cb_12_26 i286 k_a0
          have f307 : (q_I d284 12 26 a0).toInt = (q_I r254.2 12 26 a0).toInt := congrArg Int32.toInt (by rw [e285]; exact rI_o (by decide))
          have f308 := cb_12_26 i256 k_a0
          have f309 : (q_I r254.2 12 26 a0).toInt = (q_I r224.2 12 26 a0).toInt := congrArg Int32.toInt (u260 12 26 a0 (by decide))
          have f310 := cb_12_26 i226 k_a0
          have f311 : (q_I r224.2 12 26 a0).toInt = (q_I r18.2 12 26 a0).toInt := congrArg Int32.toInt (u230 12 26 a0 (by decide))
          have f312 := cb_12_26 i20 k_a0
          have f313 : (q_I r18.2 12 26 a0).toInt = (q_I δ 12 26 a0).toInt := congrArg Int32.toInt (u24 12 26 a0 (by decide))
          have f314 := cb_12_4 i286 k_a0
          have f315 : (q_I d284 12 4 a0).toInt = ((q_I r254.2 12 4 a0) + (1 : Int32)).toInt := congrArg Int32.toInt (show q_I d284 12 4 a0 = ((q_I r254.2 12 4 a0) + (1 : Int32)) by rw [e285]; exact rI_s)
          have f316 := ti_b (q_I d284 12 7 a0)
          have f317 : (q_I d284 12 7 a0).toInt = (q_I r254.2 12 7 a0).toInt := congrArg Int32.toInt (by rw [e285]; exact rI_o (by decide))
          have f318 := ti_b (q_I r254.2 12 7 a0)
          have f319 : (q_I r254.2 12 7 a0).toInt = (q_I r224.2 12 7 a0).toInt := congrArg Int32.toInt (u260 12 7 a0 (by decide))
          have f320 := ti_b (q_I r224.2 12 7 a0)
          have f321 : (q_I r224.2 12 7 a0).toInt = (q_I r18.2 12 7 a0).toInt := congrArg Int32.toInt (u230 12 7 a0 (by decide))
          have f322 := ti_b (q_I r18.2 12 7 a0)
          have f323 : (q_I r18.2 12 7 a0).toInt = (q_I δ 12 7 a0).toInt := congrArg Int32.toInt (u24 12 7 a0 (by decide))
          have f324 := ti_b (q_I d284 12 5 a0)
          have f325 : (q_I d284 12 5 a0).toInt = (q_I r254.2 12 5 a0).toInt := congrArg Int32.toInt (by rw [e285]; exact rI_o (by decide))
          refine ok_bind (k_bX12_product L hN (a0 := a0) hT k_a0 (show (q_I d284 12 24 a0).toInt ≤ 3 by first | assumption | omega) (show (q_I d284 12 26 a0).toInt ≤ (q_I d284 12 4 a0).toInt by first | assumption | omega) (show 0 ≤ (q_I d284 12 7 a0).toInt by first | assumption | omega) (show (q_I d284 12 7 a0).toInt ≤ 7 by first | assumption | omega) (show (q_I d284 12 7 a0).toInt = 7 → (q_I d284 12 5 a0).toInt ≠ -1 by first | assumption | omega) (show 8 - (q_I d284 12 7 a0).toInt ≤ K by first | assumption | omega) i286) (fun r296 hr297 => ?_)
          obtain ⟨i326, ⟨u333, u334, u335⟩, p327, p328, p329, p330, p331, p332⟩ := hr297
          have u336 := kp_t u292 u333
          have v337 : q_V r296 = q_V δ := (u334).trans v293
          have v338 := kr_t v294 u335
          have f339 := cb_12_4 i326 k_a0
          have f340 := ti_b (q_I r296 12 5 a0)
          have f341 := ti_b (q_I r296 12 7 a0)
          have f342 := cb_12_26 i326 k_a0
          have us343 := US.pre us295 p332
          refine ok_ite (fun h344 => ?_) (fun h344 => ?_)
          · have c345 : r254.1.toInt = (43 : Int) := o_eq h344
            unfold J_X12_sum_62
            have f348 := cb_12_24 i326 k_a0
            have f349 : (q_I r296 12 24 a0).toInt = (q_I d284 12 24 a0).toInt := congrArg Int32.toInt (u333 12 24 a0 (by decide))
            refine ok_bind (k_X12_emit L hN (a0 := a0) (x1 := (6 : Int32)) (x2 := (0 : Int32)) k_a0 (show (q_I r296 12 24 a0).toInt ≤ 3 by first | assumption | omega) (show (q_I r296 12 5 a0).toInt = -1 → (q_I r296 12 26 a0).toInt < 500 by first | assumption | omega) i326) (fun r346 hr347 => ?_)
            obtain ⟨i350, ⟨u355, u356, u357⟩, p351, p352, p353, p354⟩ := hr347
            have u358 := kp_t u336 u355
            have v359 : q_V r346 = q_V δ := (u356).trans v337
            have v360 := kr_t v338 u357
            have f361 := cb_12_26 i350 k_a0
            have us362 := LU.em us343 p354 (by decide)
            have f363 := cb_12_24 i350 k_a0
            have f364 : (q_I r346 12 24 a0).toInt = (q_I r296 12 24 a0).toInt := congrArg Int32.toInt (u355 12 24 a0 (by decide))
            have f365 := cb_12_4 i350 k_a0
            have f366 : (q_I r346 12 4 a0).toInt = (q_I r296 12 4 a0).toInt := congrArg Int32.toInt (u355 12 4 a0 (by decide))
            have f367 := ti_b (q_I r346 12 7 a0)
            have f368 : (q_I r346 12 7 a0).toInt = (q_I r296 12 7 a0).toInt := congrArg Int32.toInt (u355 12 7 a0 (by decide))
            have f369 := ti_b (q_I r346 12 5 a0)
            have f370 : (q_I r346 12 5 a0).toInt = (q_I r296 12 5 a0).toInt := congrArg Int32.toInt (u355 12 5 a0 (by decide))
            refine ok_mono (ih r346 i350 (show (q_I r346 12 24 a0).toInt ≤ 3 by first | assumption | omega) (show (q_I r346 12 26 a0).toInt ≤ (q_I r346 12 4 a0).toInt by first | assumption | omega) (show 0 ≤ (q_I r346 12 7 a0).toInt by first | assumption | omega) (show (q_I r346 12 7 a0).toInt ≤ 7 by first | assumption | omega) (show (q_I r346 12 7 a0).toInt = 7 → (q_I r346 12 5 a0).toInt ≠ -1 by first | assumption | omega) (show 8 - (q_I r346 12 7 a0).toInt ≤ K by first | assumption | omega) (show 501 - (q_I r346 12 4 a0).toInt < _ by omega)) (fun r371 hr372 => ?_)
            obtain ⟨i373, ⟨u380, u381, u382⟩, p374, p375, p376, p377, p378, p379⟩ := hr372
            have u383 := kp_t u358 u380
            have v384 : q_V r371 = q_V δ := (u381).trans v359
            have v385 := kr_t v360 u382
            have f386 := cb_12_4 i373 k_a0
            have f387 := ti_b (q_I r371 12 5 a0)
            have f388 := ti_b (q_I r371 12 7 a0)
            have f389 := cb_12_26 i373 k_a0
            have us390 := LU.t us362 p379
            exact ⟨by assumption, ⟨kp_w (by decide) u383, v384, kr_w (by decide) v385⟩, by first | assumption | omega, by first | assumption | omega, by first | assumption | omega, by first | assumption | omega, by first | assumption | omega, us390⟩
          · have c391 : r254.1.toInt ≠ (43 : Int) := o_ne h344
            unfold J_X12_sum_62
            have f394 := cb_12_24 i326 k_a0
            have f395 : (q_I r296 12 24 a0).toInt = (q_I d284 12 24 a0).toInt := congrArg Int32.toInt (u333 12 24 a0 (by decide))
            refine ok_bind (k_X12_emit L hN (a0 := a0) (x1 := (7 : Int32)) (x2 := (0 : Int32)) k_a0 (show (q_I r296 12 24 a0).toInt ≤ 3 by first | assumption | omega) (show (q_I r296 12 5 a0).toInt = -1 → (q_I r296 12 26 a0).toInt < 500 by first | assumption | omega) i326) (fun r392 hr393 => ?_)
            obtain ⟨i396, ⟨u401, u402, u403⟩, p397, p398, p399, p400⟩ := hr393
            have u404 := kp_t u336 u401
            have v405 : q_V r392 = q_V δ := (u402).trans v337
            have v406 := kr_t v338 u403
            have f407 := cb_12_26 i396 k_a0
            have us408 := LU.em us343 p400 (by decide)
            have f409 := cb_12_24 i396 k_a0
            have f410 : (q_I r392 12 24 a0).toInt = (q_I r296 12 24 a0).toInt := congrArg Int32.toInt (u401 12 24 a0 (by decide))
            have f411 := cb_12_4 i396 k_a0
            have f412 : (q_I r392 12 4 a0).toInt = (q_I r296 12 4 a0).toInt := congrArg Int32.toInt (u401 12 4 a0 (by decide))
            have f413 := ti_b (q_I r392 12 7 a0)
            have f414 : (q_I r392 12 7 a0).toInt = (q_I r296 12 7 a0).toInt := congrArg Int32.toInt (u401 12 7 a0 (by decide))
            have f415 := ti_b (q_I r392 12 5 a0)
            have f416 : (q_I r392 12 5 a0).toInt = (q_I r296 12 5 a0).toInt := congrArg Int32.toInt (u401 12 5 a0 (by decide))
            refine ok_mono (ih r392 i396 (show (q_I r392 12 24 a0).toInt ≤ 3 by first | assumption | omega) (show (q_I r392 12 26 a0).toInt ≤ (q_I r392 12 4 a0).toInt by first | assumption | omega) (show 0 ≤ (q_I r392 12 7 a0).toInt by first | assumption | omega) (show (q_I r392 12 7 a0).toInt ≤ 7 by first | assumption | omega) (show (q_I r392 12 7 a0).toInt = 7 → (q_I r392 12 5 a0).toInt ≠ -1 by first | assumption | omega) (show 8 - (q_I r392 12 7 a0).toInt ≤ K by first | assumption | omega) (show 501 - (q_I r392 12 4 a0).toInt < _ by omega)) (fun r417 hr418 => ?_)
            obtain ⟨i419, ⟨u426, u427, u428⟩, p420, p421, p422, p423, p424, p425⟩ := hr418
            have u429 := kp_t u404 u426
            have v430 : q_V r417 = q_V δ := (u427).trans v405
            have v431 := kr_t v406 u428
            have f432 := cb_12_4 i419 k_a0
            have f433 := ti_b (q_I r417 12 5 a0)
            have f434 := ti_b (q_I r417 12 7 a0)
            have f435 := cb_12_26 i419 k_a0
            have us436 := LU.t us408 p425
            exact ⟨by assumption, ⟨kp_w (by decide) u429, v430, kr_w (by decide) v431⟩, by first | assumption | omega, by first | assumption | omega, by first | assumption | omega, by first | assumption | omega, by first | assumption | omega, us436⟩
        · have c437 : r224.1.toInt ≠ (45 : Int) := o_ne h252
          unfold J_X12_sum_69
          have f438 := ti_b (q_I r224.2 12 7 a0)
          have f439 : (q_I r224.2 12 7 a0).toInt = (q_I r18.2 12 7 a0).toInt := congrArg Int32.toInt (u230 12 7 a0 (by decide))
          have f440 := ti_b (q_I r18.2 12 7 a0)
          have f441 : (q_I r18.2 12 7 a0).toInt = (q_I δ 12 7 a0).toInt := congrArg Int32.toInt (u24 12 7 a0 (by decide))
          have f442 := cb_12_26 i226 k_a0
          have f443 : (q_I r224.2 12 26 a0).toInt = (q_I r18.2 12 26 a0).toInt := congrArg Int32.toInt (u230 12 26 a0 (by decide))
          have f444 := cb_12_26 i20 k_a0
          have f445 : (q_I r18.2 12 26 a0).toInt = (q_I δ 12 26 a0).toInt := congrArg Int32.toInt (u24 12 26 a0 (by decide))
          exact ok_some (show RI ad h.1 δ0 r224.2 ∧ (kp [(12, 4), (12, 5), (12, 6), (12, 7), (12, 26)] δ r224.2 ∧ q_V r224.2 = q_V δ ∧ kr ad [116, 117] δ r224.2) ∧ (q_I δ 12 4 a0).toInt ≤ (q_I r224.2 12 4 a0).toInt ∧ ((q_I δ 12 5 a0).toInt ≠ -1 → (q_I r224.2 12 5 a0).toInt ≠ -1) ∧ (q_I r224.2 12 7 a0).toInt = (q_I δ 12 7 a0).toInt ∧ (q_I δ 12 26 a0).toInt ≤ (q_I r224.2 12 26 a0).toInt ∧ (q_I r224.2 12 26 a0).toInt - (q_I δ 12 26 a0).toInt ≤ (q_I r224.2 12 4 a0).toInt - (q_I δ 12 4 a0).toInt ∧ LU ad a0 δ r224.2 from ⟨i226, ⟨kp_w (by decide) u234, v235, kr_w (by decide) v236⟩, by first | assumption | omega, by first | assumption | omega, by first | assumption | omega, by first | assumption | omega, by first | assumption | omega, LU.n us251⟩)
set_option maxHeartbeats 4000000 in
theorem ke_X12_sum {ad : List Nat} {h : hp} (L : Lay TLx ad h) {δ0 : dp} {N : Nat} (hN : 10000000 ≤ N) : ∀ (k : Nat), ∀ (a0 : Nat) (δ : dp), q_K h.1 a0 = 12 → (q_I δ 12 24 a0).toInt ≤ 3 → (q_I δ 12 26 a0).toInt ≤ (q_I δ 12 4 a0).toInt → 0 ≤ (q_I δ 12 7 a0).toInt → (q_I δ 12 7 a0).toInt ≤ 7 → ((q_I δ 12 7 a0).toInt = 7 → (q_I δ 12 5 a0).toInt ≠ -1) → 8 - (q_I δ 12 7 a0).toInt < (k : Int) → RI ad h.1 δ0 δ → ok (E_X12_sum N h.1 k a0 δ) (fun r => RI ad h.1 δ0 r ∧ (kp [(12, 4), (12, 5), (12, 6), (12, 7), (12, 26)] δ r ∧ q_V r = q_V δ ∧ kr ad [116, 117] δ r) ∧ (q_I δ 12 4 a0).toInt ≤ (q_I r 12 4 a0).toInt ∧ ((q_I δ 12 5 a0).toInt ≠ -1 → (q_I r 12 5 a0).toInt ≠ -1) ∧ (q_I r 12 7 a0).toInt = (q_I δ 12 7 a0).toInt ∧ (q_I δ 12 26 a0).toInt ≤ (q_I r 12 26 a0).toInt ∧ (q_I r 12 26 a0).toInt - (q_I δ 12 26 a0).toInt ≤ (q_I r 12 4 a0).toInt - (q_I δ 12 4 a0).toInt ∧ US ad a0 δ r) := by
  intro k
  induction k with
  | zero =>
    intro a0 δ k_a0 z0 z1 z2 z3 z4 hd I
    exfalso; omega
  | succ k ih =>
    intro a0 δ k_a0 z0 z1 z2 z3 z4 hd I
    unfold E_X12_sum B_X12_sum
    have f1 := cb_12_24 I k_a0
    have f2 := cb_12_26 I k_a0
    have f3 := cb_12_4 I k_a0
    have f4 := ti_b (q_I δ 12 7 a0)
    have f5 := ti_b (q_I δ 12 5 a0)
    refine ok_bind (k_bX12_product L hN (a0 := a0) ih k_a0 (show (q_I δ 12 24 a0).toInt ≤ 3 by first | assumption | omega) (show (q_I δ 12 26 a0).toInt ≤ (q_I δ 12 4 a0).toInt by first | assumption | omega) (show 0 ≤ (q_I δ 12 7 a0).toInt by first | assumption | omega) (show (q_I δ 12 7 a0).toInt ≤ 7 by first | assumption | omega) (show (q_I δ 12 7 a0).toInt = 7 → (q_I δ 12 5 a0).toInt ≠ -1 by first | assumption | omega) (show 8 - (q_I δ 12 7 a0).toInt ≤ (k : Int) by first | assumption | omega) I) (fun r6 hr7 => ?_)
    obtain ⟨i8, ⟨u15, u16, u17⟩, p9, p10, p11, p12, p13, p14⟩ := hr7
    have u18 := kp_t kp_r u15
    have v19 : q_V r6 = q_V δ := (u16).trans rfl
    have v20 := kr_t kr_r u17
    have f21 := cb_12_4 i8 k_a0
    have f22 := ti_b (q_I r6 12 5 a0)
    have f23 := ti_b (q_I r6 12 7 a0)
    have f24 := cb_12_26 i8 k_a0
    have us25 := US.pre NU.r p14
    have f26 := cb_12_24 i8 k_a0
    have f27 : (q_I r6 12 24 a0).toInt = (q_I δ 12 24 a0).toInt := congrArg Int32.toInt (u15 12 24 a0 (by decide))
    refine ok_mono (kl_X12_sum_4 L hN   ih k_a0 _ r6 i8 (show (q_I r6 12 24 a0).toInt ≤ 3 by first | assumption | omega) (show (q_I r6 12 26 a0).toInt ≤ (q_I r6 12 4 a0).toInt by first | assumption | omega) (show 0 ≤ (q_I r6 12 7 a0).toInt by first | assumption | omega) (show (q_I r6 12 7 a0).toInt ≤ 7 by first | assumption | omega) (show (q_I r6 12 7 a0).toInt = 7 → (q_I r6 12 5 a0).toInt ≠ -1 by first | assumption | omega) (show 8 - (q_I r6 12 7 a0).toInt ≤ (k : Int) by first | assumption | omega) (show 501 - (q_I r6 12 4 a0).toInt < _ by omega)) (fun r28 hr29 => ?_)
    obtain ⟨i30, ⟨u37, u38, u39⟩, p31, p32, p33, p34, p35, p36⟩ := hr29
    have u40 := kp_t u18 u37
    have v41 : q_V r28 = q_V δ := (u38).trans v19
    have v42 := kr_t v20 u39
    have f43 := cb_12_4 i30 k_a0
    have f44 := ti_b (q_I r28 12 5 a0)
    have f45 := ti_b (q_I r28 12 7 a0)
    have f46 := cb_12_26 i30 k_a0
    have us47 := US.l us25 p36
    exact ⟨by assumption, ⟨kp_w (by decide) u40, v41, kr_w (by decide) v42⟩, by first | assumption | omega, by first | assumption | omega, by first | assumption | omega, by first | assumption | omega, by first | assumption | omega, us47⟩
set_option maxHeartbeats 4000000 in
theorem k_X12_sum {ad : List Nat} {h : hp} (L : Lay TLx ad h) {δ0 : dp} {N : Nat} (hN : 10000000 ≤ N) {a0 : Nat} (k_a0 : q_K h.1 a0 = 12) {δ : dp} (z0 : (q_I δ 12 24 a0).toInt ≤ 3) (z1 : (q_I δ 12 26 a0).toInt ≤ (q_I δ 12 4 a0).toInt) (z2 : 0 ≤ (q_I δ 12 7 a0).toInt) (z3 : (q_I δ 12 7 a0).toInt ≤ 7) (z4 : (q_I δ 12 7 a0).toInt = 7 → (q_I δ 12 5 a0).toInt ≠ -1) (hd : 8 - (q_I δ 12 7 a0).toInt < 20) (I : RI ad h.1 δ0 δ) : ok (D_X12_sum N h.1 a0 δ) (fun r => RI ad h.1 δ0 r ∧ (kp [(12, 4), (12, 5), (12, 6), (12, 7), (12, 26)] δ r ∧ q_V r = q_V δ ∧ kr ad [116, 117] δ r) ∧ (q_I δ 12 4 a0).toInt ≤ (q_I r 12 4 a0).toInt ∧ ((q_I δ 12 5 a0).toInt ≠ -1 → (q_I r 12 5 a0).toInt ≠ -1) ∧ (q_I r 12 7 a0).toInt = (q_I δ 12 7 a0).toInt ∧ (q_I δ 12 26 a0).toInt ≤ (q_I r 12 26 a0).toInt ∧ (q_I r 12 26 a0).toInt - (q_I δ 12 26 a0).toInt ≤ (q_I r 12 4 a0).toInt - (q_I δ 12 4 a0).toInt ∧ US ad a0 δ r) := ke_X12_sum L hN 20 a0 δ k_a0 z0 z1 z2 z3 z4 hd I
set_option maxHeartbeats 4000000 in
theorem k_X12_stepOf {ad : List Nat} {h : hp} (L : Lay TLx ad h) {δ0 : dp} {N : Nat} (hN : 10000000 ≤ N) {x0 : Int32} {δ : dp} (I : RI ad h.1 δ0 δ) : ok (D_X12_stepOf N h.1 x0 δ) (fun r => r.2 = δ ∧ -1 ≤ (r.1).toInt ∧ (r.1).toInt ≤ 5 ∧ ((r.1).toInt = -1 ∨ (x0).toInt ≠ 0)) := by
  unfold D_X12_stepOf
  refine ok_bind (k_X12_of L hN (a0 := 5) (show 5 < 16 by first | assumption | omega) I) (fun r1 hr2 => ?_)
  obtain ⟨i3, p4⟩ := hr2
  try rw [i3]
  have f5 := ti_b r1.1
  have f6 := ti_b r1.1
  have f7 := ti_b x0
  refine ok_ite (fun h8 => ?_) (fun h8 => ?_)
  · have c9 : x0.toInt = r1.1.toInt := o_eq h8
    unfold J_X12_stepOf_79
    exact ok_some (show δ = δ ∧ -1 ≤ (0 : Int) ∧ (0 : Int) ≤ 5 ∧ ((0 : Int) = -1 ∨ (x0).toInt ≠ 0) from ⟨rfl, by first | assumption | omega, by first | assumption | omega, by first | assumption | omega⟩)
  · have c10 : x0.toInt ≠ r1.1.toInt := o_ne h8
    refine ok_bind (k_X12_of L hN (a0 := 6) (show 6 < 16 by first | assumption | omega) I) (fun r11 hr12 => ?_)
    obtain ⟨i13, p14⟩ := hr12
    try rw [i13]
    have f15 := ti_b r11.1
    have f16 := ti_b r11.1
    refine ok_ite (fun h17 => ?_) (fun h17 => ?_)
    · have c18 : x0.toInt = r11.1.toInt := o_eq h17
      unfold J_X12_stepOf_79
      exact ok_some (show δ = δ ∧ -1 ≤ (1 : Int) ∧ (1 : Int) ≤ 5 ∧ ((1 : Int) = -1 ∨ (x0).toInt ≠ 0) from ⟨rfl, by first | assumption | omega, by first | assumption | omega, by first | assumption | omega⟩)
    · have c19 : x0.toInt ≠ r11.1.toInt := o_ne h17
      refine ok_bind (k_X12_of L hN (a0 := 7) (show 7 < 16 by first | assumption | omega) I) (fun r20 hr21 => ?_)
      obtain ⟨i22, p23⟩ := hr21
      try rw [i22]
      have f24 := ti_b r20.1
      have f25 := ti_b r20.1
      refine ok_ite (fun h26 => ?_) (fun h26 => ?_)
      · have c27 : x0.toInt = r20.1.toInt := o_eq h26
        unfold J_X12_stepOf_79
        exact ok_some (show δ = δ ∧ -1 ≤ (2 : Int) ∧ (2 : Int) ≤ 5 ∧ ((2 : Int) = -1 ∨ (x0).toInt ≠ 0) from ⟨rfl, by first | assumption | omega, by first | assumption | omega, by first | assumption | omega⟩)
      · have c28 : x0.toInt ≠ r20.1.toInt := o_ne h26
        refine ok_bind (k_X12_of L hN (a0 := 8) (show 8 < 16 by first | assumption | omega) I) (fun r29 hr30 => ?_)
        obtain ⟨i31, p32⟩ := hr30
        try rw [i31]
        have f33 := ti_b r29.1
        have f34 := ti_b r29.1
        refine ok_ite (fun h35 => ?_) (fun h35 => ?_)
        · have c36 : x0.toInt = r29.1.toInt := o_eq h35
          unfold J_X12_stepOf_79
          exact ok_some (show δ = δ ∧ -1 ≤ (3 : Int) ∧ (3 : Int) ≤ 5 ∧ ((3 : Int) = -1 ∨ (x0).toInt ≠ 0) from ⟨rfl, by first | assumption | omega, by first | assumption | omega, by first | assumption | omega⟩)
        · have c37 : x0.toInt ≠ r29.1.toInt := o_ne h35
          refine ok_bind (k_X12_of L hN (a0 := 9) (show 9 < 16 by first | assumption | omega) I) (fun r38 hr39 => ?_)
          obtain ⟨i40, p41⟩ := hr39
          try rw [i40]
          have f42 := ti_b r38.1
          have f43 := ti_b r38.1
          refine ok_ite (fun h44 => ?_) (fun h44 => ?_)
          · have c45 : x0.toInt = r38.1.toInt := o_eq h44
            unfold J_X12_stepOf_79
            exact ok_some (show δ = δ ∧ -1 ≤ (4 : Int) ∧ (4 : Int) ≤ 5 ∧ ((4 : Int) = -1 ∨ (x0).toInt ≠ 0) from ⟨rfl, by first | assumption | omega, by first | assumption | omega, by first | assumption | omega⟩)
          · have c46 : x0.toInt ≠ r38.1.toInt := o_ne h44
            refine ok_bind (k_X12_of L hN (a0 := 10) (show 10 < 16 by first | assumption | omega) I) (fun r47 hr48 => ?_)
            obtain ⟨i49, p50⟩ := hr48
            try rw [i49]
            have f51 := ti_b r47.1
            have f52 := ti_b r47.1
            refine ok_ite (fun h53 => ?_) (fun h53 => ?_)
            · have c54 : x0.toInt = r47.1.toInt := o_eq h53
              unfold J_X12_stepOf_79
              exact ok_some (show δ = δ ∧ -1 ≤ (5 : Int) ∧ (5 : Int) ≤ 5 ∧ ((5 : Int) = -1 ∨ (x0).toInt ≠ 0) from ⟨rfl, by first | assumption | omega, by first | assumption | omega, by first | assumption | omega⟩)
            · have c55 : x0.toInt ≠ r47.1.toInt := o_ne h53
              unfold J_X12_stepOf_79
              exact ok_some (show δ = δ ∧ -1 ≤ (-1 : Int) ∧ (-1 : Int) ≤ 5 ∧ ((-1 : Int) = -1 ∨ (x0).toInt ≠ 0) from ⟨rfl, by first | assumption | omega, by first | assumption | omega, by first | assumption | omega⟩)
set_option maxHeartbeats 4000000 in
theorem kl_X12_readSteps_0 {ad : List Nat} {h : hp} (L : Lay TLx ad h) {δ0 : dp} {N : Nat} (hN : 10000000 ≤ N) {T : Nat → dp → Option (dp)} {K : Int} (hT : ∀ (a0 : Nat) (δ : dp), q_K h.1 a0 = 12 → (q_I δ 12 24 a0).toInt ≤ 3 → (q_I δ 12 26 a0).toInt ≤ (q_I δ 12 4 a0).toInt → (q_I δ 12 7 a0).toInt = 0 → 4 - (q_I δ 12 27 a0).toInt < K → RI ad h.1 δ0 δ → ok (T a0 δ) (fun r => RI ad h.1 δ0 r ∧ (kp [(12, 4), (12, 5), (12, 6), (12, 7), (12, 25), (12, 26), (12, 27)] δ r ∧ q_V r = q_V δ ∧ kr ad [113, 114, 115, 116, 117] δ r) ∧ (q_I δ 12 4 a0).toInt ≤ (q_I r 12 4 a0).toInt ∧ ((q_I δ 12 5 a0).toInt ≠ -1 → (q_I r 12 5 a0).toInt ≠ -1) ∧ (q_I r 12 7 a0).toInt = (q_I δ 12 7 a0).toInt ∧ (q_I r 12 27 a0).toInt = (q_I δ 12 27 a0).toInt ∧ (q_I r 12 26 a0).toInt ≤ (q_I r 12 4 a0).toInt)) {a0 : Nat} (k_a0 : q_K h.1 a0 = 12) : ∀ (n : Nat) (δ : dp), RI ad h.1 δ0 δ → (q_I δ 12 24 a0).toInt ≤ 3 → (q_I δ 12 26 a0).toInt ≤ (q_I δ 12 4 a0).toInt → (q_I δ 12 7 a0).toInt = 0 → 4 - (q_I δ 12 27 a0).toInt ≤ K → 501 - (q_I δ 12 4 a0).toInt < (n : Int) → ok (L_X12_readSteps_0 N h.1 T a0 n δ) (fun r => RI ad h.1 δ0 r ∧ (kp [(12, 4), (12, 5), (12, 6), (12, 7), (12, 25), (12, 26), (12, 27)] δ r ∧ q_V r = q_V δ ∧ kr ad [113, 114, 115, 116, 117] δ r) ∧ (q_I δ 12 4 a0).toInt ≤ (q_I r 12 4 a0).toInt ∧ ((q_I δ 12 5 a0).toInt ≠ -1 → (q_I r 12 5 a0).toInt ≠ -1) ∧ (q_I r 12 7 a0).toInt = (q_I δ 12 7 a0).toInt ∧ (q_I r 12 27 a0).toInt = (q_I δ 12 27 a0).toInt ∧ (q_I r 12 26 a0).toInt ≤ (q_I r 12 4 a0).toInt) := by
  intro n
  induction n with
  | zero =>
    intro δ I j0 j1 j2 j3 hm
    have f1 := cb_12_24 I k_a0
    have f2 := cb_12_26 I k_a0
    have f3 := cb_12_4 I k_a0
    have f4 := ti_b (q_I δ 12 7 a0)
    have f5 := cb_12_27 I k_a0
    exfalso; omega
  | succ n ih =>
    intro δ I j0 j1 j2 j3 hm
    unfold L_X12_readSteps_0
    have f1 := cb_12_24 I k_a0
    have f2 := cb_12_26 I k_a0
    have f3 := cb_12_4 I k_a0
    have f4 := ti_b (q_I δ 12 7 a0)
    have f5 := cb_12_27 I k_a0
    refine ok_bind (k_X12_fine L hN (a0 := a0) k_a0 I) (fun r6 hr7 => ?_)
    obtain ⟨i8, p9, p10, p11⟩ := hr7
    try rw [i8]
    have f12 := bo_t p9
    have f13 := ti_b r6.1
    have f14 := ti_b (q_I δ 12 5 a0)
    have f15 := ti_b r6.1
    refine ok_ite (fun h16 => ?_) (fun h16 => ?_)
    · have c17 : r6.1.toInt = (0 : Int) := o_eq h16
      unfold J_X12_readSteps_239
      exact ok_some (show RI ad h.1 δ0 δ ∧ (kp [(12, 4), (12, 5), (12, 6), (12, 7), (12, 25), (12, 26), (12, 27)] δ δ ∧ q_V δ = q_V δ ∧ kr ad [113, 114, 115, 116, 117] δ δ) ∧ (q_I δ 12 4 a0).toInt ≤ (q_I δ 12 4 a0).toInt ∧ ((q_I δ 12 5 a0).toInt ≠ -1 → (q_I δ 12 5 a0).toInt ≠ -1) ∧ (q_I δ 12 7 a0).toInt = (q_I δ 12 7 a0).toInt ∧ (q_I δ 12 27 a0).toInt = (q_I δ 12 27 a0).toInt ∧ (q_I δ 12 26 a0).toInt ≤ (q_I δ 12 4 a0).toInt from ⟨I, ⟨kp_w (by decide) kp_r, rfl, kr_w (by decide) kr_r⟩, by first | assumption | omega, by first | assumption | omega, by first | assumption | omega, by first | assumption | omega, by first | assumption | omega⟩)
    · have c18 : r6.1.toInt ≠ (0 : Int) := o_ne h16
      refine ok_bind (k_X12_isMore L hN (a0 := a0) k_a0 I) (fun r19 hr20 => ?_)
      obtain ⟨i21, ⟨u25, u26, u27, u28⟩, p22, p23, p24⟩ := hr20
      have u29 := kp_t kp_r u25
      have v30 : q_V r19.2 = q_V δ := (u26).trans rfl
      have v31 := kr_t kr_r u28
      have f32 := bo_t p22
      have f33 := cb_12_4 i21 k_a0
      have f34 := ti_b r19.1
      have f35 := cb_12_3 I k_a0
      have f36 := ti_b r19.1
      refine ok_ite (fun h37 => ?_) (fun h37 => ?_)
      · have c38 : r19.1.toInt = (0 : Int) := o_eq h37
        unfold J_X12_readSteps_239
        have f39 := ti_b (q_I r19.2 12 5 a0)
        have f40 : (q_I r19.2 12 5 a0).toInt = (q_I δ 12 5 a0).toInt := congrArg Int32.toInt (u25 12 5 a0 (by decide))
        have f41 := ti_b (q_I r19.2 12 7 a0)
        have f42 : (q_I r19.2 12 7 a0).toInt = (q_I δ 12 7 a0).toInt := congrArg Int32.toInt (u25 12 7 a0 (by decide))
        have f43 := cb_12_27 i21 k_a0
        have f44 : (q_I r19.2 12 27 a0).toInt = (q_I δ 12 27 a0).toInt := congrArg Int32.toInt (u25 12 27 a0 (by decide))
        have f45 := cb_12_26 i21 k_a0
        have f46 : (q_I r19.2 12 26 a0).toInt = (q_I δ 12 26 a0).toInt := congrArg Int32.toInt (u25 12 26 a0 (by decide))
        exact ok_some (show RI ad h.1 δ0 r19.2 ∧ (kp [(12, 4), (12, 5), (12, 6), (12, 7), (12, 25), (12, 26), (12, 27)] δ r19.2 ∧ q_V r19.2 = q_V δ ∧ kr ad [113, 114, 115, 116, 117] δ r19.2) ∧ (q_I δ 12 4 a0).toInt ≤ (q_I r19.2 12 4 a0).toInt ∧ ((q_I δ 12 5 a0).toInt ≠ -1 → (q_I r19.2 12 5 a0).toInt ≠ -1) ∧ (q_I r19.2 12 7 a0).toInt = (q_I δ 12 7 a0).toInt ∧ (q_I r19.2 12 27 a0).toInt = (q_I δ 12 27 a0).toInt ∧ (q_I r19.2 12 26 a0).toInt ≤ (q_I r19.2 12 4 a0).toInt from ⟨i21, ⟨kp_w (by decide) u29, v30, kr_w (by decide) v31⟩, by first | assumption | omega, by first | assumption | omega, by first | assumption | omega, by first | assumption | omega, by first | assumption | omega⟩)
      · have c47 : r19.1.toInt ≠ (0 : Int) := o_ne h37
        refine ok_bind (k_X12_here L hN (a0 := a0) k_a0 i21) (fun r48 hr49 => ?_)
        obtain ⟨i50, ⟨u54, u55, u56, u57⟩, p51, p52, p53⟩ := hr49
        have u58 := kp_t u29 u54
        have v59 : q_V r48.2 = q_V δ := (u55).trans v30
        have v60 := kr_t v31 u57
        have f61 := cb_12_4 i50 k_a0
        have f62 : hc ad r48.2 a0 = (q_R r48.2 (Ad ad 101) (q_I r48.2 12 4 a0).toNatClampNeg).toInt := rfl
        have t63 := ti_tn (q_I r48.2 12 4 a0)
        have f64 : (q_R r48.2 (Ad ad 101) (q_I r48.2 12 4 a0).toNatClampNeg).toInt = (q_R r19.2 (Ad ad 101) (q_I r48.2 12 4 a0).toNatClampNeg).toInt := congrArg Int32.toInt (congrFun (u57 101 (by decide) (by decide) (by decide)) _)
        have f65 : (q_R r19.2 (Ad ad 101) (q_I r48.2 12 4 a0).toNatClampNeg).toInt = (q_R δ (Ad ad 101) (q_I r48.2 12 4 a0).toNatClampNeg).toInt := congrArg Int32.toInt (congrFun (u28 101 (by decide) (by decide) (by decide)) _)
        have f66 := ti_b (q_R δ (Ad ad 101) (q_I r48.2 12 4 a0).toNatClampNeg)
        have f67 := ti_b (q_R r19.2 (Ad ad 101) (q_I r48.2 12 4 a0).toNatClampNeg)
        have f68 := ti_b (q_R r48.2 (Ad ad 101) (q_I r48.2 12 4 a0).toNatClampNeg)
        have f69 := ti_b r48.1
        have f70 := cb_12_3 i21 k_a0
        have f71 : (q_I r19.2 12 3 a0).toInt = (q_I δ 12 3 a0).toInt := congrArg Int32.toInt (u25 12 3 a0 (by decide))
        have f72 : hc ad r19.2 a0 = (q_R r19.2 (Ad ad 101) (q_I r19.2 12 4 a0).toNatClampNeg).toInt := rfl
        have t73 := ti_tn (q_I r19.2 12 4 a0)
        have f74 : (q_R r19.2 (Ad ad 101) (q_I r19.2 12 4 a0).toNatClampNeg).toInt = (q_R δ (Ad ad 101) (q_I r19.2 12 4 a0).toNatClampNeg).toInt := congrArg Int32.toInt (congrFun (u28 101 (by decide) (by decide) (by decide)) _)
        have f75 := ti_b (q_R δ (Ad ad 101) (q_I r19.2 12 4 a0).toNatClampNeg)
        have f76 := ti_b (q_R r19.2 (Ad ad 101) (q_I r19.2 12 4 a0).toNatClampNeg)
        have f77 := ti_b r48.1
        refine ok_ite (fun h78 => ?_) (fun h78 => ?_)
        · have c79 : r48.1.toInt = (93 : Int) := o_eq h78
          unfold J_X12_readSteps_239
          have f80 := ti_b (q_I r48.2 12 5 a0)
          have f81 : (q_I r48.2 12 5 a0).toInt = (q_I r19.2 12 5 a0).toInt := congrArg Int32.toInt (u54 12 5 a0 (by decide))
          have f82 := ti_b (q_I r19.2 12 5 a0)
          have f83 : (q_I r19.2 12 5 a0).toInt = (q_I δ 12 5 a0).toInt := congrArg Int32.toInt (u25 12 5 a0 (by decide))
          have f84 := ti_b (q_I r48.2 12 7 a0)
          have f85 : (q_I r48.2 12 7 a0).toInt = (q_I r19.2 12 7 a0).toInt := congrArg Int32.toInt (u54 12 7 a0 (by decide))
          have f86 := ti_b (q_I r19.2 12 7 a0)
          have f87 : (q_I r19.2 12 7 a0).toInt = (q_I δ 12 7 a0).toInt := congrArg Int32.toInt (u25 12 7 a0 (by decide))
          have f88 := cb_12_27 i50 k_a0
          have f89 : (q_I r48.2 12 27 a0).toInt = (q_I r19.2 12 27 a0).toInt := congrArg Int32.toInt (u54 12 27 a0 (by decide))
          have f90 := cb_12_27 i21 k_a0
          have f91 : (q_I r19.2 12 27 a0).toInt = (q_I δ 12 27 a0).toInt := congrArg Int32.toInt (u25 12 27 a0 (by decide))
          have f92 := cb_12_26 i50 k_a0
          have f93 : (q_I r48.2 12 26 a0).toInt = (q_I r19.2 12 26 a0).toInt := congrArg Int32.toInt (u54 12 26 a0 (by decide))
          have f94 := cb_12_26 i21 k_a0
          have f95 : (q_I r19.2 12 26 a0).toInt = (q_I δ 12 26 a0).toInt := congrArg Int32.toInt (u25 12 26 a0 (by decide))
          exact ok_some (show RI ad h.1 δ0 r48.2 ∧ (kp [(12, 4), (12, 5), (12, 6), (12, 7), (12, 25), (12, 26), (12, 27)] δ r48.2 ∧ q_V r48.2 = q_V δ ∧ kr ad [113, 114, 115, 116, 117] δ r48.2) ∧ (q_I δ 12 4 a0).toInt ≤ (q_I r48.2 12 4 a0).toInt ∧ ((q_I δ 12 5 a0).toInt ≠ -1 → (q_I r48.2 12 5 a0).toInt ≠ -1) ∧ (q_I r48.2 12 7 a0).toInt = (q_I δ 12 7 a0).toInt ∧ (q_I r48.2 12 27 a0).toInt = (q_I δ 12 27 a0).toInt ∧ (q_I r48.2 12 26 a0).toInt ≤ (q_I r48.2 12 4 a0).toInt from ⟨i50, ⟨kp_w (by decide) u58, v59, kr_w (by decide) v60⟩, by first | assumption | omega, by first | assumption | omega, by first | assumption | omega, by first | assumption | omega, by first | assumption | omega⟩)
        · have c96 : r48.1.toInt ≠ (93 : Int) := o_ne h78
          refine ok_bind (k_X12_word L hN (a0 := a0) k_a0 i50) (fun r97 hr98 => ?_)
          obtain ⟨i99, ⟨u102, u103, u104, u105⟩, p100, p101⟩ := hr98
          have u106 := kp_t u58 u102
          have v107 : q_V r97.2 = q_V δ := (u103).trans v59
          have v108 := kr_t v60 u105
          have f109 := cb_12_4 i99 k_a0
          have f110 : hc ad r97.2 a0 = (q_R r97.2 (Ad ad 101) (q_I r97.2 12 4 a0).toNatClampNeg).toInt := rfl
          have t111 := ti_tn (q_I r97.2 12 4 a0)
          have f112 : (q_R r97.2 (Ad ad 101) (q_I r97.2 12 4 a0).toNatClampNeg).toInt = (q_R r48.2 (Ad ad 101) (q_I r97.2 12 4 a0).toNatClampNeg).toInt := congrArg Int32.toInt (congrFun (u105 101 (by decide) (by decide) (by decide)) _)
          have f113 : (q_R r48.2 (Ad ad 101) (q_I r97.2 12 4 a0).toNatClampNeg).toInt = (q_R r19.2 (Ad ad 101) (q_I r97.2 12 4 a0).toNatClampNeg).toInt := congrArg Int32.toInt (congrFun (u57 101 (by decide) (by decide) (by decide)) _)
          have f114 : (q_R r19.2 (Ad ad 101) (q_I r97.2 12 4 a0).toNatClampNeg).toInt = (q_R δ (Ad ad 101) (q_I r97.2 12 4 a0).toNatClampNeg).toInt := congrArg Int32.toInt (congrFun (u28 101 (by decide) (by decide) (by decide)) _)
          have f115 := ti_b (q_R δ (Ad ad 101) (q_I r97.2 12 4 a0).toNatClampNeg)
          have f116 := ti_b (q_R r19.2 (Ad ad 101) (q_I r97.2 12 4 a0).toNatClampNeg)
          have f117 := ti_b (q_R r48.2 (Ad ad 101) (q_I r97.2 12 4 a0).toNatClampNeg)
          have f118 := ti_b (q_R r97.2 (Ad ad 101) (q_I r97.2 12 4 a0).toNatClampNeg)
          have f119 := ti_b r97.1
          have f120 := cb_12_3 i50 k_a0
          have f121 : (q_I r48.2 12 3 a0).toInt = (q_I r19.2 12 3 a0).toInt := congrArg Int32.toInt (u54 12 3 a0 (by decide))
          have f122 := ti_b r97.1
          refine ok_bind (k_X12_stepOf L hN (x0 := r97.1)  i99) (fun r123 hr124 => ?_)
          obtain ⟨i125, p126, p127, p128⟩ := hr124
          try rw [i125]
          have f129 := ti_b r123.1
          have f130 := ti_b r123.1
          refine ok_ite (fun h131 => ?_) (fun h131 => ?_)
          · have c132 : r123.1.toInt = (-1 : Int) := o_eq h131
            refine ok_bind (k_X12_wrong L hN (a0 := a0) (x1 := (1 : Int32)) (x2 := (q_I r97.2 12 4 a0)) k_a0 (show 0 ≤ ((q_I r97.2 12 4 a0)).toInt by first | assumption | omega) i99) (fun r133 hr134 => ?_)
            obtain ⟨i135, ⟨u137, u138, u139, u140⟩, p136⟩ := hr134
            have u141 := kp_t u106 u137
            have v142 : q_V r133 = q_V δ := (u138).trans v107
            have v143 := kr_t v108 u140
            have f144 := ti_b (q_I r133 12 5 a0)
            unfold J_X12_readSteps_79
            refine ok_bind (k_X12_fine L hN (a0 := a0) k_a0 i135) (fun r145 hr146 => ?_)
            obtain ⟨i147, p148, p149, p150⟩ := hr146
            try rw [i147]
            have f151 := bo_t p148
            have f152 := ti_b r145.1
            have f153 := ti_b r145.1
            refine ok_ite (fun h154 => ?_) (fun h154 => ?_)
            · have c155 : r145.1.toInt = (0 : Int) := o_eq h154
              have f156 := cb_12_4 i135 k_a0
              have f157 : (q_I r133 12 4 a0).toInt = (q_I r97.2 12 4 a0).toInt := congrArg Int32.toInt (u137 12 4 a0 (by decide))
              have f158 := ti_b (q_I r133 12 7 a0)
              have f159 : (q_I r133 12 7 a0).toInt = (q_I r97.2 12 7 a0).toInt := congrArg Int32.toInt (u137 12 7 a0 (by decide))
              have f160 := ti_b (q_I r97.2 12 7 a0)
              have f161 : (q_I r97.2 12 7 a0).toInt = (q_I r48.2 12 7 a0).toInt := congrArg Int32.toInt (u102 12 7 a0 (by decide))
              have f162 := ti_b (q_I r48.2 12 7 a0)
              have f163 : (q_I r48.2 12 7 a0).toInt = (q_I r19.2 12 7 a0).toInt := congrArg Int32.toInt (u54 12 7 a0 (by decide))
              have f164 := ti_b (q_I r19.2 12 7 a0)
              have f165 : (q_I r19.2 12 7 a0).toInt = (q_I δ 12 7 a0).toInt := congrArg Int32.toInt (u25 12 7 a0 (by decide))
              have f166 := cb_12_27 i135 k_a0
              have f167 : (q_I r133 12 27 a0).toInt = (q_I r97.2 12 27 a0).toInt := congrArg Int32.toInt (u137 12 27 a0 (by decide))
              have f168 := cb_12_27 i99 k_a0
              have f169 : (q_I r97.2 12 27 a0).toInt = (q_I r48.2 12 27 a0).toInt := congrArg Int32.toInt (u102 12 27 a0 (by decide))
              have f170 := cb_12_27 i50 k_a0
              have f171 : (q_I r48.2 12 27 a0).toInt = (q_I r19.2 12 27 a0).toInt := congrArg Int32.toInt (u54 12 27 a0 (by decide))
              have f172 := cb_12_27 i21 k_a0
              have f173 : (q_I r19.2 12 27 a0).toInt = (q_I δ 12 27 a0).toInt := congrArg Int32.toInt (u25 12 27 a0 (by decide))
              have f174 := cb_12_26 i135 k_a0
              have f175 : (q_I r133 12 26 a0).toInt = (q_I r97.2 12 26 a0).toInt := congrArg Int32.toInt (u137 12 26 a0 (by decide))
              have f176 := cb_12_26 i99 k_a0
              have f177 : (q_I r97.2 12 26 a0).toInt = (q_I r48.2 12 26 a0).toInt := congrArg Int32.toInt (u102 12 26 a0 (by decide))
              have f178 := cb_12_26 i50 k_a0
              have f179 : (q_I r48.2 12 26 a0).toInt = (q_I r19.2 12 26 a0).toInt := congrArg Int32.toInt (u54 12 26 a0 (by decide))
              have f180 := cb_12_26 i21 k_a0
              have f181 : (q_I r19.2 12 26 a0).toInt = (q_I δ 12 26 a0).toInt := congrArg Int32.toInt (u25 12 26 a0 (by decide))
              exact ok_some (show RI ad h.1 δ0 r133 ∧ (kp [(12, 4), (12, 5), (12, 6), (12, 7), (12, 25), (12, 26), (12, 27)] δ r133 ∧ q_V r133 = q_V δ ∧ kr ad [113, 114, 115, 116, 117] δ r133) ∧ (q_I δ 12 4 a0).toInt ≤ (q_I r133 12 4 a0).toInt ∧ ((q_I δ 12 5 a0).toInt ≠ -1 → (q_I r133 12 5 a0).toInt ≠ -1) ∧ (q_I r133 12 7 a0).toInt = (q_I δ 12 7 a0).toInt ∧ (q_I r133 12 27 a0).toInt = (q_I δ 12 27 a0).toInt ∧ (q_I r133 12 26 a0).toInt ≤ (q_I r133 12 4 a0).toInt from ⟨i135, ⟨kp_w (by decide) u141, v142, kr_w (by decide) v143⟩, by first | assumption | omega, by first | assumption | omega, by first | assumption | omega, by first | assumption | omega, by first | assumption | omega⟩)
            · have c182 : r145.1.toInt ≠ (0 : Int) := o_ne h154
              refine ok_bind (k_X12_pass L hN (a0 := a0) k_a0 i135) (fun r183 hr184 => ?_)
              obtain ⟨i185, ⟨u188, u189, u190, u191⟩, p186, p187⟩ := hr184
              have u192 := kp_t u141 u188
              have v193 : q_V r183 = q_V δ := (u189).trans v142
              have v194 := kr_t v143 u191
              have f195 := cb_12_4 i135 k_a0
              have f196 : (q_I r133 12 4 a0).toInt = (q_I r97.2 12 4 a0).toInt := congrArg Int32.toInt (u137 12 4 a0 (by decide))
              have f197 := cb_12_4 i185 k_a0
              have f198 : hc ad r133 a0 = (q_R r133 (Ad ad 101) (q_I r133 12 4 a0).toNatClampNeg).toInt := rfl
              have t199 := ti_tn (q_I r133 12 4 a0)
              have f200 : (q_R r133 (Ad ad 101) (q_I r133 12 4 a0).toNatClampNeg).toInt = (q_R r97.2 (Ad ad 101) (q_I r133 12 4 a0).toNatClampNeg).toInt := congrArg Int32.toInt (congrFun (u140 101 (by decide) (by decide) (by decide)) _)
              have f201 : (q_R r97.2 (Ad ad 101) (q_I r133 12 4 a0).toNatClampNeg).toInt = (q_R r48.2 (Ad ad 101) (q_I r133 12 4 a0).toNatClampNeg).toInt := congrArg Int32.toInt (congrFun (u105 101 (by decide) (by decide) (by decide)) _)
              have f202 : (q_R r48.2 (Ad ad 101) (q_I r133 12 4 a0).toNatClampNeg).toInt = (q_R r19.2 (Ad ad 101) (q_I r133 12 4 a0).toNatClampNeg).toInt := congrArg Int32.toInt (congrFun (u57 101 (by decide) (by decide) (by decide)) _)
              have f203 : (q_R r19.2 (Ad ad 101) (q_I r133 12 4 a0).toNatClampNeg).toInt = (q_R δ (Ad ad 101) (q_I r133 12 4 a0).toNatClampNeg).toInt := congrArg Int32.toInt (congrFun (u28 101 (by decide) (by decide) (by decide)) _)
              have f204 := ti_b (q_R δ (Ad ad 101) (q_I r133 12 4 a0).toNatClampNeg)
              have f205 := ti_b (q_R r19.2 (Ad ad 101) (q_I r133 12 4 a0).toNatClampNeg)
              have f206 := ti_b (q_R r48.2 (Ad ad 101) (q_I r133 12 4 a0).toNatClampNeg)
              have f207 := ti_b (q_R r97.2 (Ad ad 101) (q_I r133 12 4 a0).toNatClampNeg)
              have f208 := ti_b (q_R r133 (Ad ad 101) (q_I r133 12 4 a0).toNatClampNeg)
              have f209 := cb_12_3 i135 k_a0
              have f210 : (q_I r133 12 3 a0).toInt = (q_I r97.2 12 3 a0).toInt := congrArg Int32.toInt (u137 12 3 a0 (by decide))
              have f211 := cb_12_3 i99 k_a0
              have f212 : (q_I r97.2 12 3 a0).toInt = (q_I r48.2 12 3 a0).toInt := congrArg Int32.toInt (u102 12 3 a0 (by decide))
              have f216 := cb_12_24 i185 k_a0
              have f217 : (q_I r183 12 24 a0).toInt = (q_I r133 12 24 a0).toInt := congrArg Int32.toInt (u188 12 24 a0 (by decide))
              have f218 := cb_12_24 i135 k_a0
              have f219 : (q_I r133 12 24 a0).toInt = (q_I r97.2 12 24 a0).toInt := congrArg Int32.toInt (u137 12 24 a0 (by decide))
              have f220 := cb_12_24 i99 k_a0
              have f221 : (q_I r97.2 12 24 a0).toInt = (q_I r48.2 12 24 a0).toInt := congrArg Int32.toInt (u102 12 24 a0 (by decide))
              have f222 := cb_12_24 i50 k_a0
              have f223 : (q_I r48.2 12 24 a0).toInt = (q_I r19.2 12 24 a0).toInt := congrArg Int32.toInt (u54 12 24 a0 (by decide))
              have f224 := cb_12_24 i21 k_a0
              have f225 : (q_I r19.2 12 24 a0).toInt = (q_I δ 12 24 a0).toInt := congrArg Int32.toInt (u25 12 24 a0 (by decide))
              first | (have q226 := te_mulc (c := 60) (n := 60) rfl (q_I r183 12 24 a0) (by omega) (by omega); obtain ⟨f227, f228, f229⟩ := q226) | (obtain ⟨q226, f227, f228, f229⟩ := ti_mulc (c := 60) (n := 60) rfl (q_I r183 12 24 a0))
              have f230 := cb_12_25 i185 k_a0
              have f231 : (q_I r183 12 25 a0).toInt = (q_I r133 12 25 a0).toInt := congrArg Int32.toInt (u188 12 25 a0 (by decide))
              have f232 := cb_12_25 i135 k_a0
              have f233 : (q_I r133 12 25 a0).toInt = (q_I r97.2 12 25 a0).toInt := congrArg Int32.toInt (u137 12 25 a0 (by decide))
              have f234 := cb_12_25 i99 k_a0
              have f235 : (q_I r97.2 12 25 a0).toInt = (q_I r48.2 12 25 a0).toInt := congrArg Int32.toInt (u102 12 25 a0 (by decide))
              have f236 := cb_12_25 i50 k_a0
              have f237 : (q_I r48.2 12 25 a0).toInt = (q_I r19.2 12 25 a0).toInt := congrArg Int32.toInt (u54 12 25 a0 (by decide))
              have f238 := cb_12_25 i21 k_a0
              have f239 : (q_I r19.2 12 25 a0).toInt = (q_I δ 12 25 a0).toInt := congrArg Int32.toInt (u25 12 25 a0 (by decide))
              have f240 := cb_12_25 I k_a0
              refine ok_biv (fun vx213 e214 => ?_)
              first | (have q241 := te_add ((60 : Int32) * (q_I r183 12 24 a0)) (q_I r183 12 25 a0) (by omega) (by omega); rw [← e214] at q241; obtain ⟨f242, f243, f244⟩ := q241) | (obtain ⟨q241, f242, f243, f244⟩ : ∃ q : Int, vx213.toInt = ((60 : Int32) * (q_I r183 12 24 a0)).toInt + (q_I r183 12 25 a0).toInt + 4294967296 * q ∧ -2147483648 ≤ vx213.toInt ∧ vx213.toInt ≤ 2147483647 := by rw [e214]; exact ti_add ((60 : Int32) * (q_I r183 12 24 a0)) (q_I r183 12 25 a0))
              first | (have q249 := te_addc (c := 1) (n := 1) rfl (q_I r183 12 25 a0) (by omega) (by omega); obtain ⟨f250, f251, f252⟩ := q249) | (obtain ⟨q249, f250, f251, f252⟩ := ti_addc (c := 1) (n := 1) rfl (q_I r183 12 25 a0))
              refine ok_bdv (fun d245 e246 => ?_)
              have i247 : RI ad h.1 δ0 d245 := by rw [e246]; exact cs_12_25 L i185 k_a0 (show 0 ≤ ((q_I r183 12 25 a0) + (1 : Int32)).toInt by omega) (show ((q_I r183 12 25 a0) + (1 : Int32)).toInt ≤ 60 by omega)
              have u253 := kp_I u192 e246
              have v254 : q_V d245 = q_V δ := ((show q_V d245 = q_V r183 by rw [e246]; rfl)).trans v193
              have v255 := kr_N v194 (show q_R d245 = q_R r183 by rw [e246]; rfl)
              obtain ⟨b256, o257, k258, n259, w260⟩ := gO_12_29 L k_a0
              obtain rfl := gS_12_29 L k_a0 o257
              refine ok_at o257 ?_
              have t261 := ti_tn vx213
              refine ok_gd (fun hc262 => ?_) ?_
              · rcases hc262 with hc262 | hc262
                · have c263 : vx213.toInt < (0 : Int) := o_lt hc262
                  omega
                · omega
              refine ok_bdv (fun d264 e265 => ?_)
              have i266 : RI ad h.1 δ0 d264 := by rw [e265]; exact RI.sR L i247 w260
              have u267 := kp_N u253 (show q_I d264 = q_I d245 by rw [e265]; rfl)
              have v268 : q_V d264 = q_V δ := ((show q_V d264 = q_V d245 by rw [e265]; rfl)).trans v254
              have v269 := kr_s L (by decide) v255 e265
              refine ok_ite (fun h270 => ?_) (fun h270 => ?_)
              · have c271 : r123.1.toInt = (5 : Int) := o_eq h270
                obtain ⟨b272, o273, k274, n275, w276⟩ := gO_12_30 L k_a0
                obtain rfl := gS_12_30 L k_a0 o273
                refine ok_at o273 ?_
                refine ok_bind (k_X12_readNumber L hN (a0 := a0) (x1 := (1 : Int32)) (x2 := (99 : Int32)) k_a0 i266) (fun r277 hr278 => ?_)
                obtain ⟨i279, ⟨u286, u287, u288, u289⟩, p280, p281, p282, p283, p284, p285⟩ := hr278
                have u290 := kp_t u267 u286
                have v291 : q_V r277.2 = q_V δ := (u287).trans v268
                have v292 := kr_t v269 u289
                have f293 := cb_12_4 i266 k_a0
                have f294 : (q_I d264 12 4 a0).toInt = (q_I d245 12 4 a0).toInt := congrArg Int32.toInt (by rw [e265]; rfl)
                have f295 := cb_12_4 i247 k_a0
                have f296 : (q_I d245 12 4 a0).toInt = (q_I r183 12 4 a0).toInt := congrArg Int32.toInt (by rw [e246]; exact rI_o (by decide))
                have f297 := cb_12_4 i279 k_a0
                have f298 := ti_b (q_I d264 12 5 a0)
                have f299 : (q_I d264 12 5 a0).toInt = (q_I d245 12 5 a0).toInt := congrArg Int32.toInt (by rw [e265]; rfl)
                have f300 := ti_b (q_I d245 12 5 a0)
                have f301 : (q_I d245 12 5 a0).toInt = (q_I r183 12 5 a0).toInt := congrArg Int32.toInt (by rw [e246]; exact rI_o (by decide))
                have f302 := ti_b (q_I r183 12 5 a0)
                have f303 : (q_I r183 12 5 a0).toInt = (q_I r133 12 5 a0).toInt := congrArg Int32.toInt (u188 12 5 a0 (by decide))
                have f304 := ti_b (q_I r277.2 12 5 a0)
                have f305 := ti_b r277.1
                replace p285 : ((q_I r277.2 12 5 a0).toInt = -1 → (1 : Int) ≤ (r277.1).toInt ∧ (r277.1).toInt ≤ (99 : Int)) := p285
                have f306 := ti_b r277.1
                refine ok_gd (fun hc307 => ?_) ?_
                · rcases hc307 with hc307 | hc307
                  · have c308 : vx213.toInt < (0 : Int) := o_lt hc307
                    omega
                  · omega
                refine ok_bdv (fun d309 e310 => ?_)
                have i311 : RI ad h.1 δ0 d309 := by rw [e310]; exact RI.sR L i279 w276
                have u312 := kp_N u290 (show q_I d309 = q_I r277.2 by rw [e310]; rfl)
                have v313 : q_V d309 = q_V δ := ((show q_V d309 = q_V r277.2 by rw [e310]; rfl)).trans v291
                have v314 := kr_s L (by decide) v292 e310
                refine ok_bind (k_X12_sign L hN (a0 := a0) (x1 := (91 : Int32)) k_a0 (show (91 : Int) ≠ 0 by first | assumption | omega) i311) (fun r315 hr316 => ?_)
                obtain ⟨i317, ⟨u321, u322, u323, u324⟩, p318, p319, p320⟩ := hr316
                have u325 := kp_t u312 u321
                have v326 : q_V r315 = q_V δ := (u322).trans v313
                have v327 := kr_t v314 u324
                have f328 := cb_12_4 i311 k_a0
                have f329 : (q_I d309 12 4 a0).toInt = (q_I r277.2 12 4 a0).toInt := congrArg Int32.toInt (by rw [e310]; rfl)
                have f330 := cb_12_4 i317 k_a0
                have f331 := ti_b (q_I d309 12 5 a0)
                have f332 : (q_I d309 12 5 a0).toInt = (q_I r277.2 12 5 a0).toInt := congrArg Int32.toInt (by rw [e310]; rfl)
                have f333 := ti_b (q_I r315 12 5 a0)
                have f337 := cb_12_27 i317 k_a0
                have f338 : (q_I r315 12 27 a0).toInt = (q_I d309 12 27 a0).toInt := congrArg Int32.toInt (u321 12 27 a0 (by decide))
                have f339 := cb_12_27 i311 k_a0
                have f340 : (q_I d309 12 27 a0).toInt = (q_I r277.2 12 27 a0).toInt := congrArg Int32.toInt (by rw [e310]; rfl)
                have f341 := cb_12_27 i279 k_a0
                have f342 : (q_I r277.2 12 27 a0).toInt = (q_I d264 12 27 a0).toInt := congrArg Int32.toInt (u286 12 27 a0 (by decide))
                have f343 := cb_12_27 i266 k_a0
                have f344 : (q_I d264 12 27 a0).toInt = (q_I d245 12 27 a0).toInt := congrArg Int32.toInt (by rw [e265]; rfl)
                have f345 := cb_12_27 i247 k_a0
                have f346 : (q_I d245 12 27 a0).toInt = (q_I r183 12 27 a0).toInt := congrArg Int32.toInt (by rw [e246]; exact rI_o (by decide))
                have f347 := cb_12_27 i185 k_a0
                have f348 : (q_I r183 12 27 a0).toInt = (q_I r133 12 27 a0).toInt := congrArg Int32.toInt (u188 12 27 a0 (by decide))
                have f349 := cb_12_27 i135 k_a0
                have f350 : (q_I r133 12 27 a0).toInt = (q_I r97.2 12 27 a0).toInt := congrArg Int32.toInt (u137 12 27 a0 (by decide))
                have f351 := cb_12_27 i99 k_a0
                have f352 : (q_I r97.2 12 27 a0).toInt = (q_I r48.2 12 27 a0).toInt := congrArg Int32.toInt (u102 12 27 a0 (by decide))
                have f353 := cb_12_27 i50 k_a0
                have f354 : (q_I r48.2 12 27 a0).toInt = (q_I r19.2 12 27 a0).toInt := congrArg Int32.toInt (u54 12 27 a0 (by decide))
                have f355 := cb_12_27 i21 k_a0
                have f356 : (q_I r19.2 12 27 a0).toInt = (q_I δ 12 27 a0).toInt := congrArg Int32.toInt (u25 12 27 a0 (by decide))
                first | (have q358 := te_addc (c := 1) (n := 1) rfl (q_I r315 12 27 a0) (by omega) (by omega); obtain ⟨f359, f360, f361⟩ := q358) | (obtain ⟨q358, f359, f360, f361⟩ := ti_addc (c := 1) (n := 1) rfl (q_I r315 12 27 a0))
                refine ok_bdv (fun d334 e335 => ?_)
                have i336 : RI ad h.1 δ0 d334 := by rw [e335]; exact cs_12_27 L i317 k_a0 (show 0 ≤ ((q_I r315 12 27 a0) + (1 : Int32)).toInt by omega) (show ((q_I r315 12 27 a0) + (1 : Int32)).toInt ≤ 3 by omega)
                have u362 := kp_I u325 e335
                have v363 : q_V d334 = q_V δ := ((show q_V d334 = q_V r315 by rw [e335]; rfl)).trans v326
                have v364 := kr_N v327 (show q_R d334 = q_R r315 by rw [e335]; rfl)
                have f367 := cb_12_24 i336 k_a0
                have f368 : (q_I d334 12 24 a0).toInt = (q_I r315 12 24 a0).toInt := congrArg Int32.toInt (by rw [e335]; exact rI_o (by decide))
                have f369 := cb_12_24 i317 k_a0
                have f370 : (q_I r315 12 24 a0).toInt = (q_I d309 12 24 a0).toInt := congrArg Int32.toInt (u321 12 24 a0 (by decide))
                have f371 := cb_12_24 i311 k_a0
                have f372 : (q_I d309 12 24 a0).toInt = (q_I r277.2 12 24 a0).toInt := congrArg Int32.toInt (by rw [e310]; rfl)
                have f373 := cb_12_24 i279 k_a0
                have f374 : (q_I r277.2 12 24 a0).toInt = (q_I d264 12 24 a0).toInt := congrArg Int32.toInt (u286 12 24 a0 (by decide))
                have f375 := cb_12_24 i266 k_a0
                have f376 : (q_I d264 12 24 a0).toInt = (q_I d245 12 24 a0).toInt := congrArg Int32.toInt (by rw [e265]; rfl)
                have f377 := cb_12_24 i247 k_a0
                have f378 : (q_I d245 12 24 a0).toInt = (q_I r183 12 24 a0).toInt := congrArg Int32.toInt (by rw [e246]; exact rI_o (by decide))
                have f379 := cb_12_26 i336 k_a0
                have f380 : (q_I d334 12 26 a0).toInt = (q_I r315 12 26 a0).toInt := congrArg Int32.toInt (by rw [e335]; exact rI_o (by decide))
                have f381 := cb_12_26 i317 k_a0
                have f382 : (q_I r315 12 26 a0).toInt = (q_I d309 12 26 a0).toInt := congrArg Int32.toInt (u321 12 26 a0 (by decide))
                have f383 := cb_12_26 i311 k_a0
                have f384 : (q_I d309 12 26 a0).toInt = (q_I r277.2 12 26 a0).toInt := congrArg Int32.toInt (by rw [e310]; rfl)
                have f385 := cb_12_26 i279 k_a0
                have f386 : (q_I r277.2 12 26 a0).toInt = (q_I d264 12 26 a0).toInt := congrArg Int32.toInt (u286 12 26 a0 (by decide))
                have f387 := cb_12_26 i266 k_a0
                have f388 : (q_I d264 12 26 a0).toInt = (q_I d245 12 26 a0).toInt := congrArg Int32.toInt (by rw [e265]; rfl)
                have f389 := cb_12_26 i247 k_a0
                have f390 : (q_I d245 12 26 a0).toInt = (q_I r183 12 26 a0).toInt := congrArg Int32.toInt (by rw [e246]; exact rI_o (by decide))
                have f391 := cb_12_26 i185 k_a0
                have f392 : (q_I r183 12 26 a0).toInt = (q_I r133 12 26 a0).toInt := congrArg Int32.toInt (u188 12 26 a0 (by decide))
                have f393 := cb_12_26 i135 k_a0
                have f394 : (q_I r133 12 26 a0).toInt = (q_I r97.2 12 26 a0).toInt := congrArg Int32.toInt (u137 12 26 a0 (by decide))
                have f395 := cb_12_26 i99 k_a0
                have f396 : (q_I r97.2 12 26 a0).toInt = (q_I r48.2 12 26 a0).toInt := congrArg Int32.toInt (u102 12 26 a0 (by decide))
                have f397 := cb_12_26 i50 k_a0
                have f398 : (q_I r48.2 12 26 a0).toInt = (q_I r19.2 12 26 a0).toInt := congrArg Int32.toInt (u54 12 26 a0 (by decide))
                have f399 := cb_12_26 i21 k_a0
                have f400 : (q_I r19.2 12 26 a0).toInt = (q_I δ 12 26 a0).toInt := congrArg Int32.toInt (u25 12 26 a0 (by decide))
                have f401 := cb_12_4 i336 k_a0
                have f402 : (q_I d334 12 4 a0).toInt = (q_I r315 12 4 a0).toInt := congrArg Int32.toInt (by rw [e335]; exact rI_o (by decide))
                have f403 := ti_b (q_I d334 12 7 a0)
                have f404 : (q_I d334 12 7 a0).toInt = (q_I r315 12 7 a0).toInt := congrArg Int32.toInt (by rw [e335]; exact rI_o (by decide))
                have f405 := ti_b (q_I r315 12 7 a0)
                have f406 : (q_I r315 12 7 a0).toInt = (q_I d309 12 7 a0).toInt := congrArg Int32.toInt (u321 12 7 a0 (by decide))
                have f407 := ti_b (q_I d309 12 7 a0)
                have f408 : (q_I d309 12 7 a0).toInt = (q_I r277.2 12 7 a0).toInt := congrArg Int32.toInt (by rw [e310]; rfl)
                have f409 := ti_b (q_I r277.2 12 7 a0)
                have f410 : (q_I r277.2 12 7 a0).toInt = (q_I d264 12 7 a0).toInt := congrArg Int32.toInt (u286 12 7 a0 (by decide))
                have f411 := ti_b (q_I d264 12 7 a0)
                have f412 : (q_I d264 12 7 a0).toInt = (q_I d245 12 7 a0).toInt := congrArg Int32.toInt (by rw [e265]; rfl)
                have f413 := ti_b (q_I d245 12 7 a0)
                have f414 : (q_I d245 12 7 a0).toInt = (q_I r183 12 7 a0).toInt := congrArg Int32.toInt (by rw [e246]; exact rI_o (by decide))
                have f415 := ti_b (q_I r183 12 7 a0)
                have f416 : (q_I r183 12 7 a0).toInt = (q_I r133 12 7 a0).toInt := congrArg Int32.toInt (u188 12 7 a0 (by decide))
                have f417 := ti_b (q_I r133 12 7 a0)
                have f418 : (q_I r133 12 7 a0).toInt = (q_I r97.2 12 7 a0).toInt := congrArg Int32.toInt (u137 12 7 a0 (by decide))
                have f419 := ti_b (q_I r97.2 12 7 a0)
                have f420 : (q_I r97.2 12 7 a0).toInt = (q_I r48.2 12 7 a0).toInt := congrArg Int32.toInt (u102 12 7 a0 (by decide))
                have f421 := ti_b (q_I r48.2 12 7 a0)
                have f422 : (q_I r48.2 12 7 a0).toInt = (q_I r19.2 12 7 a0).toInt := congrArg Int32.toInt (u54 12 7 a0 (by decide))
                have f423 := ti_b (q_I r19.2 12 7 a0)
                have f424 : (q_I r19.2 12 7 a0).toInt = (q_I δ 12 7 a0).toInt := congrArg Int32.toInt (u25 12 7 a0 (by decide))
                have f425 := cb_12_27 i336 k_a0
                have f426 : (q_I d334 12 27 a0).toInt = ((q_I r315 12 27 a0) + (1 : Int32)).toInt := congrArg Int32.toInt (show q_I d334 12 27 a0 = ((q_I r315 12 27 a0) + (1 : Int32)) by rw [e335]; exact rI_s)
                refine ok_bind (hT a0 d334 k_a0 (show (q_I d334 12 24 a0).toInt ≤ 3 by first | assumption | omega) (show (q_I d334 12 26 a0).toInt ≤ (q_I d334 12 4 a0).toInt by first | assumption | omega) (show (q_I d334 12 7 a0).toInt = 0 by first | assumption | omega) (show 4 - (q_I d334 12 27 a0).toInt < _ by first | assumption | omega) i336) (fun r365 hr366 => ?_)
                obtain ⟨i427, ⟨u433, u434, u435⟩, p428, p429, p430, p431, p432⟩ := hr366
                have u436 := kp_t u362 u433
                have v437 : q_V r365 = q_V δ := (u434).trans v363
                have v438 := kr_t v364 u435
                have f439 := cb_12_4 i427 k_a0
                have f440 := ti_b (q_I d334 12 5 a0)
                have f441 : (q_I d334 12 5 a0).toInt = (q_I r315 12 5 a0).toInt := congrArg Int32.toInt (by rw [e335]; exact rI_o (by decide))
                have f442 := ti_b (q_I r365 12 5 a0)
                have f443 := ti_b (q_I r365 12 7 a0)
                have f444 := cb_12_27 i427 k_a0
                have f445 := cb_12_26 i427 k_a0
                first | (have q450 := te_subc (c := 1) (n := 1) rfl (q_I r365 12 27 a0) (by omega) (by omega); obtain ⟨f451, f452, f453⟩ := q450) | (obtain ⟨q450, f451, f452, f453⟩ := ti_subc (c := 1) (n := 1) rfl (q_I r365 12 27 a0))
                refine ok_bdv (fun d446 e447 => ?_)
                have i448 : RI ad h.1 δ0 d446 := by rw [e447]; exact cs_12_27 L i427 k_a0 (show 0 ≤ ((q_I r365 12 27 a0) - (1 : Int32)).toInt by omega) (show ((q_I r365 12 27 a0) - (1 : Int32)).toInt ≤ 3 by omega)
                have u454 := kp_I u436 e447
                have v455 : q_V d446 = q_V δ := ((show q_V d446 = q_V r365 by rw [e447]; rfl)).trans v437
                have v456 := kr_N v438 (show q_R d446 = q_R r365 by rw [e447]; rfl)
                refine ok_bind (k_X12_sign L hN (a0 := a0) (x1 := (93 : Int32)) k_a0 (show (93 : Int) ≠ 0 by first | assumption | omega) i448) (fun r457 hr458 => ?_)
                obtain ⟨i459, ⟨u463, u464, u465, u466⟩, p460, p461, p462⟩ := hr458
                have u467 := kp_t u454 u463
                have v468 : q_V r457 = q_V δ := (u464).trans v455
                have v469 := kr_t v456 u466
                have f470 := cb_12_4 i448 k_a0
                have f471 : (q_I d446 12 4 a0).toInt = (q_I r365 12 4 a0).toInt := congrArg Int32.toInt (by rw [e447]; exact rI_o (by decide))
                have f472 := cb_12_4 i459 k_a0
                have f473 := ti_b (q_I d446 12 5 a0)
                have f474 : (q_I d446 12 5 a0).toInt = (q_I r365 12 5 a0).toInt := congrArg Int32.toInt (by rw [e447]; exact rI_o (by decide))
                have f475 := ti_b (q_I r457 12 5 a0)
                obtain ⟨b476, o477, k478, n479, w480⟩ := gO_12_31 L k_a0
                obtain rfl := gS_12_31 L k_a0 o477
                refine ok_at o477 ?_
                refine ok_gd (fun hc481 => ?_) ?_
                · rcases hc481 with hc481 | hc481
                  · have c482 : vx213.toInt < (0 : Int) := o_lt hc481
                    omega
                  · omega
                refine ok_bdv (fun d483 e484 => ?_)
                have i485 : RI ad h.1 δ0 d483 := by rw [e484]; exact RI.sR L i459 w480
                have u486 := kp_N u467 (show q_I d483 = q_I r457 by rw [e484]; rfl)
                have v487 : q_V d483 = q_V δ := ((show q_V d483 = q_V r457 by rw [e484]; rfl)).trans v468
                have v488 := kr_s L (by decide) v469 e484
                unfold J_X12_readSteps_236
                have f489 := cb_12_24 i485 k_a0
                have f490 : (q_I d483 12 24 a0).toInt = (q_I r457 12 24 a0).toInt := congrArg Int32.toInt (by rw [e484]; rfl)
                have f491 := cb_12_24 i459 k_a0
                have f492 : (q_I r457 12 24 a0).toInt = (q_I d446 12 24 a0).toInt := congrArg Int32.toInt (u463 12 24 a0 (by decide))
                have f493 := cb_12_24 i448 k_a0
                have f494 : (q_I d446 12 24 a0).toInt = (q_I r365 12 24 a0).toInt := congrArg Int32.toInt (by rw [e447]; exact rI_o (by decide))
                have f495 := cb_12_24 i427 k_a0
                have f496 : (q_I r365 12 24 a0).toInt = (q_I d334 12 24 a0).toInt := congrArg Int32.toInt (u433 12 24 a0 (by decide))
                have f497 := cb_12_26 i485 k_a0
                have f498 : (q_I d483 12 26 a0).toInt = (q_I r457 12 26 a0).toInt := congrArg Int32.toInt (by rw [e484]; rfl)
                have f499 := cb_12_26 i459 k_a0
                have f500 : (q_I r457 12 26 a0).toInt = (q_I d446 12 26 a0).toInt := congrArg Int32.toInt (u463 12 26 a0 (by decide))
                have f501 := cb_12_26 i448 k_a0
                have f502 : (q_I d446 12 26 a0).toInt = (q_I r365 12 26 a0).toInt := congrArg Int32.toInt (by rw [e447]; exact rI_o (by decide))
                have f503 := cb_12_4 i485 k_a0
                have f504 : (q_I d483 12 4 a0).toInt = (q_I r457 12 4 a0).toInt := congrArg Int32.toInt (by rw [e484]; rfl)
                have f505 := ti_b (q_I d483 12 7 a0)
                have f506 : (q_I d483 12 7 a0).toInt = (q_I r457 12 7 a0).toInt := congrArg Int32.toInt (by rw [e484]; rfl)
                have f507 := ti_b (q_I r457 12 7 a0)
                have f508 : (q_I r457 12 7 a0).toInt = (q_I d446 12 7 a0).toInt := congrArg Int32.toInt (u463 12 7 a0 (by decide))
                have f509 := ti_b (q_I d446 12 7 a0)
                have f510 : (q_I d446 12 7 a0).toInt = (q_I r365 12 7 a0).toInt := congrArg Int32.toInt (by rw [e447]; exact rI_o (by decide))
                have f511 := cb_12_27 i485 k_a0
                have f512 : (q_I d483 12 27 a0).toInt = (q_I r457 12 27 a0).toInt := congrArg Int32.toInt (by rw [e484]; rfl)
                have f513 := cb_12_27 i459 k_a0
                have f514 : (q_I r457 12 27 a0).toInt = (q_I d446 12 27 a0).toInt := congrArg Int32.toInt (u463 12 27 a0 (by decide))
                have f515 := cb_12_27 i448 k_a0
                have f516 : (q_I d446 12 27 a0).toInt = ((q_I r365 12 27 a0) - (1 : Int32)).toInt := congrArg Int32.toInt (show q_I d446 12 27 a0 = ((q_I r365 12 27 a0) - (1 : Int32)) by rw [e447]; exact rI_s)
                refine ok_mono (ih d483 i485 (show (q_I d483 12 24 a0).toInt ≤ 3 by first | assumption | omega) (show (q_I d483 12 26 a0).toInt ≤ (q_I d483 12 4 a0).toInt by first | assumption | omega) (show (q_I d483 12 7 a0).toInt = 0 by first | assumption | omega) (show 4 - (q_I d483 12 27 a0).toInt ≤ K by first | assumption | omega) (show 501 - (q_I d483 12 4 a0).toInt < _ by omega)) (fun r517 hr518 => ?_)
                obtain ⟨i519, ⟨u525, u526, u527⟩, p520, p521, p522, p523, p524⟩ := hr518
                have u528 := kp_t u486 u525
                have v529 : q_V r517 = q_V δ := (u526).trans v487
                have v530 := kr_t v488 u527
                have f531 := cb_12_4 i519 k_a0
                have f532 := ti_b (q_I d483 12 5 a0)
                have f533 : (q_I d483 12 5 a0).toInt = (q_I r457 12 5 a0).toInt := congrArg Int32.toInt (by rw [e484]; rfl)
                have f534 := ti_b (q_I r517 12 5 a0)
                have f535 := ti_b (q_I r517 12 7 a0)
                have f536 := cb_12_27 i519 k_a0
                have f537 := cb_12_26 i519 k_a0
                exact ⟨by assumption, ⟨kp_w (by decide) u528, v529, kr_w (by decide) v530⟩, by first | assumption | omega, by first | assumption | omega, by first | assumption | omega, by first | assumption | omega, by first | assumption | omega⟩
              · have c538 : r123.1.toInt ≠ (5 : Int) := o_ne h270
                obtain ⟨b539, o540, k541, n542, w543⟩ := gO_12_30 L k_a0
                obtain rfl := gS_12_30 L k_a0 o540
                refine ok_at o540 ?_
                refine ok_gd (fun hc544 => ?_) ?_
                · rcases hc544 with hc544 | hc544
                  · have c545 : vx213.toInt < (0 : Int) := o_lt hc544
                    omega
                  · omega
                refine ok_bdv (fun d546 e547 => ?_)
                have i548 : RI ad h.1 δ0 d546 := by rw [e547]; exact RI.sR L i266 w543
                have u549 := kp_N u267 (show q_I d546 = q_I d264 by rw [e547]; rfl)
                have v550 : q_V d546 = q_V δ := ((show q_V d546 = q_V d264 by rw [e547]; rfl)).trans v268
                have v551 := kr_s L (by decide) v269 e547
                have f554 := cb_12_24 i548 k_a0
                have f555 : (q_I d546 12 24 a0).toInt = (q_I d264 12 24 a0).toInt := congrArg Int32.toInt (by rw [e547]; rfl)
                have f556 := cb_12_24 i266 k_a0
                have f557 : (q_I d264 12 24 a0).toInt = (q_I d245 12 24 a0).toInt := congrArg Int32.toInt (by rw [e265]; rfl)
                have f558 := cb_12_24 i247 k_a0
                have f559 : (q_I d245 12 24 a0).toInt = (q_I r183 12 24 a0).toInt := congrArg Int32.toInt (by rw [e246]; exact rI_o (by decide))
                have f560 := cb_12_26 i548 k_a0
                have f561 : (q_I d546 12 26 a0).toInt = (q_I d264 12 26 a0).toInt := congrArg Int32.toInt (by rw [e547]; rfl)
                have f562 := cb_12_26 i266 k_a0
                have f563 : (q_I d264 12 26 a0).toInt = (q_I d245 12 26 a0).toInt := congrArg Int32.toInt (by rw [e265]; rfl)
                have f564 := cb_12_26 i247 k_a0
                have f565 : (q_I d245 12 26 a0).toInt = (q_I r183 12 26 a0).toInt := congrArg Int32.toInt (by rw [e246]; exact rI_o (by decide))
                have f566 := cb_12_26 i185 k_a0
                have f567 : (q_I r183 12 26 a0).toInt = (q_I r133 12 26 a0).toInt := congrArg Int32.toInt (u188 12 26 a0 (by decide))
                have f568 := cb_12_26 i135 k_a0
                have f569 : (q_I r133 12 26 a0).toInt = (q_I r97.2 12 26 a0).toInt := congrArg Int32.toInt (u137 12 26 a0 (by decide))
                have f570 := cb_12_26 i99 k_a0
                have f571 : (q_I r97.2 12 26 a0).toInt = (q_I r48.2 12 26 a0).toInt := congrArg Int32.toInt (u102 12 26 a0 (by decide))
                have f572 := cb_12_26 i50 k_a0
                have f573 : (q_I r48.2 12 26 a0).toInt = (q_I r19.2 12 26 a0).toInt := congrArg Int32.toInt (u54 12 26 a0 (by decide))
                have f574 := cb_12_26 i21 k_a0
                have f575 : (q_I r19.2 12 26 a0).toInt = (q_I δ 12 26 a0).toInt := congrArg Int32.toInt (u25 12 26 a0 (by decide))
                have f576 := cb_12_4 i548 k_a0
                have f577 : (q_I d546 12 4 a0).toInt = (q_I d264 12 4 a0).toInt := congrArg Int32.toInt (by rw [e547]; rfl)
                have f578 := cb_12_4 i266 k_a0
                have f579 : (q_I d264 12 4 a0).toInt = (q_I d245 12 4 a0).toInt := congrArg Int32.toInt (by rw [e265]; rfl)
                have f580 := cb_12_4 i247 k_a0
                have f581 : (q_I d245 12 4 a0).toInt = (q_I r183 12 4 a0).toInt := congrArg Int32.toInt (by rw [e246]; exact rI_o (by decide))
                have f582 := ti_b (q_I d546 12 7 a0)
                have f583 : (q_I d546 12 7 a0).toInt = (q_I d264 12 7 a0).toInt := congrArg Int32.toInt (by rw [e547]; rfl)
                have f584 := ti_b (q_I d264 12 7 a0)
                have f585 : (q_I d264 12 7 a0).toInt = (q_I d245 12 7 a0).toInt := congrArg Int32.toInt (by rw [e265]; rfl)
                have f586 := ti_b (q_I d245 12 7 a0)
                have f587 : (q_I d245 12 7 a0).toInt = (q_I r183 12 7 a0).toInt := congrArg Int32.toInt (by rw [e246]; exact rI_o (by decide))
                have f588 := ti_b (q_I r183 12 7 a0)
                have f589 : (q_I r183 12 7 a0).toInt = (q_I r133 12 7 a0).toInt := congrArg Int32.toInt (u188 12 7 a0 (by decide))
                have f590 := ti_b (q_I r133 12 7 a0)
                have f591 : (q_I r133 12 7 a0).toInt = (q_I r97.2 12 7 a0).toInt := congrArg Int32.toInt (u137 12 7 a0 (by decide))
                have f592 := ti_b (q_I r97.2 12 7 a0)
                have f593 : (q_I r97.2 12 7 a0).toInt = (q_I r48.2 12 7 a0).toInt := congrArg Int32.toInt (u102 12 7 a0 (by decide))
                have f594 := ti_b (q_I r48.2 12 7 a0)
                have f595 : (q_I r48.2 12 7 a0).toInt = (q_I r19.2 12 7 a0).toInt := congrArg Int32.toInt (u54 12 7 a0 (by decide))
                have f596 := ti_b (q_I r19.2 12 7 a0)
                have f597 : (q_I r19.2 12 7 a0).toInt = (q_I δ 12 7 a0).toInt := congrArg Int32.toInt (u25 12 7 a0 (by decide))
                have f598 := ti_b (q_I d546 12 5 a0)
                have f599 : (q_I d546 12 5 a0).toInt = (q_I d264 12 5 a0).toInt := congrArg Int32.toInt (by rw [e547]; rfl)
                have f600 := ti_b (q_I d264 12 5 a0)
                have f601 : (q_I d264 12 5 a0).toInt = (q_I d245 12 5 a0).toInt := congrArg Int32.toInt (by rw [e265]; rfl)
                have f602 := ti_b (q_I d245 12 5 a0)
                have f603 : (q_I d245 12 5 a0).toInt = (q_I r183 12 5 a0).toInt := congrArg Int32.toInt (by rw [e246]; exact rI_o (by decide))
                have f604 := ti_b (q_I r183 12 5 a0)
                have f605 : (q_I r183 12 5 a0).toInt = (q_I r133 12 5 a0).toInt := congrArg Int32.toInt (u188 12 5 a0 (by decide))
                refine ok_bind (k_X12_sum L hN (a0 := a0) k_a0 (show (q_I d546 12 24 a0).toInt ≤ 3 by first | assumption | omega) (show (q_I d546 12 26 a0).toInt ≤ (q_I d546 12 4 a0).toInt by first | assumption | omega) (show 0 ≤ (q_I d546 12 7 a0).toInt by first | assumption | omega) (show (q_I d546 12 7 a0).toInt ≤ 7 by first | assumption | omega) (show (q_I d546 12 7 a0).toInt = 7 → (q_I d546 12 5 a0).toInt ≠ -1 by first | assumption | omega) (show 8 - (q_I d546 12 7 a0).toInt < 20 by first | assumption | omega) i548) (fun r552 hr553 => ?_)
                obtain ⟨i606, ⟨u613, u614, u615⟩, p607, p608, p609, p610, p611, p612⟩ := hr553
                have u616 := kp_t u549 u613
                have v617 : q_V r552 = q_V δ := (u614).trans v550
                have v618 := kr_t v551 u615
                have f619 := cb_12_4 i606 k_a0
                have f620 := ti_b (q_I r552 12 5 a0)
                have f621 := ti_b (q_I r552 12 7 a0)
                have f622 := cb_12_26 i606 k_a0
                obtain ⟨b623, o624, k625, n626, w627⟩ := gO_12_31 L k_a0
                obtain rfl := gS_12_31 L k_a0 o624
                refine ok_at o624 ?_
                refine ok_gd (fun hc628 => ?_) ?_
                · rcases hc628 with hc628 | hc628
                  · have c629 : vx213.toInt < (0 : Int) := o_lt hc628
                    omega
                  · omega
                refine ok_bdv (fun d630 e631 => ?_)
                have i632 : RI ad h.1 δ0 d630 := by rw [e631]; exact RI.sR L i606 w627
                have u633 := kp_N u616 (show q_I d630 = q_I r552 by rw [e631]; rfl)
                have v634 : q_V d630 = q_V δ := ((show q_V d630 = q_V r552 by rw [e631]; rfl)).trans v617
                have v635 := kr_s L (by decide) v618 e631
                refine ok_bind (k_X12_sign L hN (a0 := a0) (x1 := (59 : Int32)) k_a0 (show (59 : Int) ≠ 0 by first | assumption | omega) i632) (fun r636 hr637 => ?_)
                obtain ⟨i638, ⟨u642, u643, u644, u645⟩, p639, p640, p641⟩ := hr637
                have u646 := kp_t u633 u642
                have v647 : q_V r636 = q_V δ := (u643).trans v634
                have v648 := kr_t v635 u645
                have f649 := cb_12_4 i632 k_a0
                have f650 : (q_I d630 12 4 a0).toInt = (q_I r552 12 4 a0).toInt := congrArg Int32.toInt (by rw [e631]; rfl)
                have f651 := cb_12_4 i638 k_a0
                have f652 := ti_b (q_I d630 12 5 a0)
                have f653 : (q_I d630 12 5 a0).toInt = (q_I r552 12 5 a0).toInt := congrArg Int32.toInt (by rw [e631]; rfl)
                have f654 := ti_b (q_I r636 12 5 a0)
                unfold J_X12_readSteps_236
                have f655 := cb_12_24 i638 k_a0
                have f656 : (q_I r636 12 24 a0).toInt = (q_I d630 12 24 a0).toInt := congrArg Int32.toInt (u642 12 24 a0 (by decide))
                have f657 := cb_12_24 i632 k_a0
                have f658 : (q_I d630 12 24 a0).toInt = (q_I r552 12 24 a0).toInt := congrArg Int32.toInt (by rw [e631]; rfl)
                have f659 := cb_12_24 i606 k_a0
                have f660 : (q_I r552 12 24 a0).toInt = (q_I d546 12 24 a0).toInt := congrArg Int32.toInt (u613 12 24 a0 (by decide))
                have f661 := cb_12_26 i638 k_a0
                have f662 : (q_I r636 12 26 a0).toInt = (q_I d630 12 26 a0).toInt := congrArg Int32.toInt (u642 12 26 a0 (by decide))
                have f663 := cb_12_26 i632 k_a0
                have f664 : (q_I d630 12 26 a0).toInt = (q_I r552 12 26 a0).toInt := congrArg Int32.toInt (by rw [e631]; rfl)
                have f665 := ti_b (q_I r636 12 7 a0)
                have f666 : (q_I r636 12 7 a0).toInt = (q_I d630 12 7 a0).toInt := congrArg Int32.toInt (u642 12 7 a0 (by decide))
                have f667 := ti_b (q_I d630 12 7 a0)
                have f668 : (q_I d630 12 7 a0).toInt = (q_I r552 12 7 a0).toInt := congrArg Int32.toInt (by rw [e631]; rfl)
                have f669 := cb_12_27 i638 k_a0
                have f670 : (q_I r636 12 27 a0).toInt = (q_I d630 12 27 a0).toInt := congrArg Int32.toInt (u642 12 27 a0 (by decide))
                have f671 := cb_12_27 i632 k_a0
                have f672 : (q_I d630 12 27 a0).toInt = (q_I r552 12 27 a0).toInt := congrArg Int32.toInt (by rw [e631]; rfl)
                have f673 := cb_12_27 i606 k_a0
                have f674 : (q_I r552 12 27 a0).toInt = (q_I d546 12 27 a0).toInt := congrArg Int32.toInt (u613 12 27 a0 (by decide))
                have f675 := cb_12_27 i548 k_a0
                have f676 : (q_I d546 12 27 a0).toInt = (q_I d264 12 27 a0).toInt := congrArg Int32.toInt (by rw [e547]; rfl)
                have f677 := cb_12_27 i266 k_a0
                have f678 : (q_I d264 12 27 a0).toInt = (q_I d245 12 27 a0).toInt := congrArg Int32.toInt (by rw [e265]; rfl)
                have f679 := cb_12_27 i247 k_a0
                have f680 : (q_I d245 12 27 a0).toInt = (q_I r183 12 27 a0).toInt := congrArg Int32.toInt (by rw [e246]; exact rI_o (by decide))
                have f681 := cb_12_27 i185 k_a0
                have f682 : (q_I r183 12 27 a0).toInt = (q_I r133 12 27 a0).toInt := congrArg Int32.toInt (u188 12 27 a0 (by decide))
                have f683 := cb_12_27 i135 k_a0
                have f684 : (q_I r133 12 27 a0).toInt = (q_I r97.2 12 27 a0).toInt := congrArg Int32.toInt (u137 12 27 a0 (by decide))
                have f685 := cb_12_27 i99 k_a0
                have f686 : (q_I r97.2 12 27 a0).toInt = (q_I r48.2 12 27 a0).toInt := congrArg Int32.toInt (u102 12 27 a0 (by decide))
                have f687 := cb_12_27 i50 k_a0
                have f688 : (q_I r48.2 12 27 a0).toInt = (q_I r19.2 12 27 a0).toInt := congrArg Int32.toInt (u54 12 27 a0 (by decide))
                have f689 := cb_12_27 i21 k_a0
                have f690 : (q_I r19.2 12 27 a0).toInt = (q_I δ 12 27 a0).toInt := congrArg Int32.toInt (u25 12 27 a0 (by decide))
                refine ok_mono (ih r636 i638 (show (q_I r636 12 24 a0).toInt ≤ 3 by first | assumption | omega) (show (q_I r636 12 26 a0).toInt ≤ (q_I r636 12 4 a0).toInt by first | assumption | omega) (show (q_I r636 12 7 a0).toInt = 0 by first | assumption | omega) (show 4 - (q_I r636 12 27 a0).toInt ≤ K by first | assumption | omega) (show 501 - (q_I r636 12 4 a0).toInt < _ by omega)) (fun r691 hr692 => ?_)
                obtain ⟨i693, ⟨u699, u700, u701⟩, p694, p695, p696, p697, p698⟩ := hr692
                have u702 := kp_t u646 u699
                have v703 : q_V r691 = q_V δ := (u700).trans v647
                have v704 := kr_t v648 u701
                have f705 := cb_12_4 i693 k_a0
                have f706 := ti_b (q_I r691 12 5 a0)
                have f707 := ti_b (q_I r691 12 7 a0)
                have f708 := cb_12_27 i693 k_a0
                have f709 := cb_12_26 i693 k_a0
                exact ⟨by assumption, ⟨kp_w (by decide) u702, v703, kr_w (by decide) v704⟩, by first | assumption | omega, by first | assumption | omega, by first | assumption | omega, by first | assumption | omega, by first | assumption | omega⟩
          · have c710 : r123.1.toInt ≠ (-1 : Int) := o_ne h131
            have f711 := cb_12_25 i99 k_a0
            have f712 : (q_I r97.2 12 25 a0).toInt = (q_I r48.2 12 25 a0).toInt := congrArg Int32.toInt (u102 12 25 a0 (by decide))
            have f713 := cb_12_25 i50 k_a0
            have f714 : (q_I r48.2 12 25 a0).toInt = (q_I r19.2 12 25 a0).toInt := congrArg Int32.toInt (u54 12 25 a0 (by decide))
            have f715 := cb_12_25 i21 k_a0
            have f716 : (q_I r19.2 12 25 a0).toInt = (q_I δ 12 25 a0).toInt := congrArg Int32.toInt (u25 12 25 a0 (by decide))
            have f717 := cb_12_25 I k_a0
            refine ok_ite (fun h718 => ?_) (fun h718 => ?_)
            · have c719 : (q_I r97.2 12 25 a0).toInt = (60 : Int) := o_eq h718
              unfold J_X12_readSteps_70
              refine ok_bind (k_X12_wrong L hN (a0 := a0) (x1 := (3 : Int32)) (x2 := (q_I r97.2 12 4 a0)) k_a0 (show 0 ≤ ((q_I r97.2 12 4 a0)).toInt by first | assumption | omega) i99) (fun r720 hr721 => ?_)
              obtain ⟨i722, ⟨u724, u725, u726, u727⟩, p723⟩ := hr721
              have u728 := kp_t u106 u724
              have v729 : q_V r720 = q_V δ := (u725).trans v107
              have v730 := kr_t v108 u727
              have f731 := ti_b (q_I r720 12 5 a0)
              unfold J_X12_readSteps_79
              refine ok_bind (k_X12_fine L hN (a0 := a0) k_a0 i722) (fun r732 hr733 => ?_)
              obtain ⟨i734, p735, p736, p737⟩ := hr733
              try rw [i734]
              have f738 := bo_t p735
              have f739 := ti_b r732.1
              have f740 := ti_b r732.1
              refine ok_ite (fun h741 => ?_) (fun h741 => ?_)
              · have c742 : r732.1.toInt = (0 : Int) := o_eq h741
                have f743 := cb_12_4 i722 k_a0
                have f744 : (q_I r720 12 4 a0).toInt = (q_I r97.2 12 4 a0).toInt := congrArg Int32.toInt (u724 12 4 a0 (by decide))
                have f745 := ti_b (q_I r720 12 7 a0)
                have f746 : (q_I r720 12 7 a0).toInt = (q_I r97.2 12 7 a0).toInt := congrArg Int32.toInt (u724 12 7 a0 (by decide))
                have f747 := ti_b (q_I r97.2 12 7 a0)
                have f748 : (q_I r97.2 12 7 a0).toInt = (q_I r48.2 12 7 a0).toInt := congrArg Int32.toInt (u102 12 7 a0 (by decide))
                have f749 := ti_b (q_I r48.2 12 7 a0)
                have f750 : (q_I r48.2 12 7 a0).toInt = (q_I r19.2 12 7 a0).toInt := congrArg Int32.toInt (u54 12 7 a0 (by decide))
                have f751 := ti_b (q_I r19.2 12 7 a0)
                have f752 : (q_I r19.2 12 7 a0).toInt = (q_I δ 12 7 a0).toInt := congrArg Int32.toInt (u25 12 7 a0 (by decide))
                have f753 := cb_12_27 i722 k_a0
                have f754 : (q_I r720 12 27 a0).toInt = (q_I r97.2 12 27 a0).toInt := congrArg Int32.toInt (u724 12 27 a0 (by decide))
                have f755 := cb_12_27 i99 k_a0
                have f756 : (q_I r97.2 12 27 a0).toInt = (q_I r48.2 12 27 a0).toInt := congrArg Int32.toInt (u102 12 27 a0 (by decide))
                have f757 := cb_12_27 i50 k_a0
                have f758 : (q_I r48.2 12 27 a0).toInt = (q_I r19.2 12 27 a0).toInt := congrArg Int32.toInt (u54 12 27 a0 (by decide))
                have f759 := cb_12_27 i21 k_a0
                have f760 : (q_I r19.2 12 27 a0).toInt = (q_I δ 12 27 a0).toInt := congrArg Int32.toInt (u25 12 27 a0 (by decide))
                have f761 := cb_12_26 i722 k_a0
                have f762 : (q_I r720 12 26 a0).toInt = (q_I r97.2 12 26 a0).toInt := congrArg Int32.toInt (u724 12 26 a0 (by decide))
                have f763 := cb_12_26 i99 k_a0
                have f764 : (q_I r97.2 12 26 a0).toInt = (q_I r48.2 12 26 a0).toInt := congrArg Int32.toInt (u102 12 26 a0 (by decide))
                have f765 := cb_12_26 i50 k_a0
                have f766 : (q_I r48.2 12 26 a0).toInt = (q_I r19.2 12 26 a0).toInt := congrArg Int32.toInt (u54 12 26 a0 (by decide))
                have f767 := cb_12_26 i21 k_a0
                have f768 : (q_I r19.2 12 26 a0).toInt = (q_I δ 12 26 a0).toInt := congrArg Int32.toInt (u25 12 26 a0 (by decide))
                exact ok_some (show RI ad h.1 δ0 r720 ∧ (kp [(12, 4), (12, 5), (12, 6), (12, 7), (12, 25), (12, 26), (12, 27)] δ r720 ∧ q_V r720 = q_V δ ∧ kr ad [113, 114, 115, 116, 117] δ r720) ∧ (q_I δ 12 4 a0).toInt ≤ (q_I r720 12 4 a0).toInt ∧ ((q_I δ 12 5 a0).toInt ≠ -1 → (q_I r720 12 5 a0).toInt ≠ -1) ∧ (q_I r720 12 7 a0).toInt = (q_I δ 12 7 a0).toInt ∧ (q_I r720 12 27 a0).toInt = (q_I δ 12 27 a0).toInt ∧ (q_I r720 12 26 a0).toInt ≤ (q_I r720 12 4 a0).toInt from ⟨i722, ⟨kp_w (by decide) u728, v729, kr_w (by decide) v730⟩, by first | assumption | omega, by first | assumption | omega, by first | assumption | omega, by first | assumption | omega, by first | assumption | omega⟩)
              · have c769 : r732.1.toInt ≠ (0 : Int) := o_ne h741
                refine ok_bind (k_X12_pass L hN (a0 := a0) k_a0 i722) (fun r770 hr771 => ?_)
                obtain ⟨i772, ⟨u775, u776, u777, u778⟩, p773, p774⟩ := hr771
                have u779 := kp_t u728 u775
                have v780 : q_V r770 = q_V δ := (u776).trans v729
                have v781 := kr_t v730 u778
                have f782 := cb_12_4 i722 k_a0
                have f783 : (q_I r720 12 4 a0).toInt = (q_I r97.2 12 4 a0).toInt := congrArg Int32.toInt (u724 12 4 a0 (by decide))
                have f784 := cb_12_4 i772 k_a0
                have f785 : hc ad r720 a0 = (q_R r720 (Ad ad 101) (q_I r720 12 4 a0).toNatClampNeg).toInt := rfl
                have t786 := ti_tn (q_I r720 12 4 a0)
                have f787 : (q_R r720 (Ad ad 101) (q_I r720 12 4 a0).toNatClampNeg).toInt = (q_R r97.2 (Ad ad 101) (q_I r720 12 4 a0).toNatClampNeg).toInt := congrArg Int32.toInt (congrFun (u727 101 (by decide) (by decide) (by decide)) _)
                have f788 : (q_R r97.2 (Ad ad 101) (q_I r720 12 4 a0).toNatClampNeg).toInt = (q_R r48.2 (Ad ad 101) (q_I r720 12 4 a0).toNatClampNeg).toInt := congrArg Int32.toInt (congrFun (u105 101 (by decide) (by decide) (by decide)) _)
                have f789 : (q_R r48.2 (Ad ad 101) (q_I r720 12 4 a0).toNatClampNeg).toInt = (q_R r19.2 (Ad ad 101) (q_I r720 12 4 a0).toNatClampNeg).toInt := congrArg Int32.toInt (congrFun (u57 101 (by decide) (by decide) (by decide)) _)
                have f790 : (q_R r19.2 (Ad ad 101) (q_I r720 12 4 a0).toNatClampNeg).toInt = (q_R δ (Ad ad 101) (q_I r720 12 4 a0).toNatClampNeg).toInt := congrArg Int32.toInt (congrFun (u28 101 (by decide) (by decide) (by decide)) _)
                have f791 := ti_b (q_R δ (Ad ad 101) (q_I r720 12 4 a0).toNatClampNeg)
                have f792 := ti_b (q_R r19.2 (Ad ad 101) (q_I r720 12 4 a0).toNatClampNeg)
                have f793 := ti_b (q_R r48.2 (Ad ad 101) (q_I r720 12 4 a0).toNatClampNeg)
                have f794 := ti_b (q_R r97.2 (Ad ad 101) (q_I r720 12 4 a0).toNatClampNeg)
                have f795 := ti_b (q_R r720 (Ad ad 101) (q_I r720 12 4 a0).toNatClampNeg)
                have f796 := cb_12_3 i722 k_a0
                have f797 : (q_I r720 12 3 a0).toInt = (q_I r97.2 12 3 a0).toInt := congrArg Int32.toInt (u724 12 3 a0 (by decide))
                have f798 := cb_12_3 i99 k_a0
                have f799 : (q_I r97.2 12 3 a0).toInt = (q_I r48.2 12 3 a0).toInt := congrArg Int32.toInt (u102 12 3 a0 (by decide))
                have f803 := cb_12_24 i772 k_a0
                have f804 : (q_I r770 12 24 a0).toInt = (q_I r720 12 24 a0).toInt := congrArg Int32.toInt (u775 12 24 a0 (by decide))
                have f805 := cb_12_24 i722 k_a0
                have f806 : (q_I r720 12 24 a0).toInt = (q_I r97.2 12 24 a0).toInt := congrArg Int32.toInt (u724 12 24 a0 (by decide))
                have f807 := cb_12_24 i99 k_a0
                have f808 : (q_I r97.2 12 24 a0).toInt = (q_I r48.2 12 24 a0).toInt := congrArg Int32.toInt (u102 12 24 a0 (by decide))
                have f809 := cb_12_24 i50 k_a0
                have f810 : (q_I r48.2 12 24 a0).toInt = (q_I r19.2 12 24 a0).toInt := congrArg Int32.toInt (u54 12 24 a0 (by decide))
                have f811 := cb_12_24 i21 k_a0
                have f812 : (q_I r19.2 12 24 a0).toInt = (q_I δ 12 24 a0).toInt := congrArg Int32.toInt (u25 12 24 a0 (by decide))
                first | (have q813 := te_mulc (c := 60) (n := 60) rfl (q_I r770 12 24 a0) (by omega) (by omega); obtain ⟨f814, f815, f816⟩ := q813) | (obtain ⟨q813, f814, f815, f816⟩ := ti_mulc (c := 60) (n := 60) rfl (q_I r770 12 24 a0))
                have f817 := cb_12_25 i772 k_a0
                have f818 : (q_I r770 12 25 a0).toInt = (q_I r720 12 25 a0).toInt := congrArg Int32.toInt (u775 12 25 a0 (by decide))
                have f819 := cb_12_25 i722 k_a0
                have f820 : (q_I r720 12 25 a0).toInt = (q_I r97.2 12 25 a0).toInt := congrArg Int32.toInt (u724 12 25 a0 (by decide))
                refine ok_biv (fun vx800 e801 => ?_)
                first | (have q821 := te_add ((60 : Int32) * (q_I r770 12 24 a0)) (q_I r770 12 25 a0) (by omega) (by omega); rw [← e801] at q821; obtain ⟨f822, f823, f824⟩ := q821) | (obtain ⟨q821, f822, f823, f824⟩ : ∃ q : Int, vx800.toInt = ((60 : Int32) * (q_I r770 12 24 a0)).toInt + (q_I r770 12 25 a0).toInt + 4294967296 * q ∧ -2147483648 ≤ vx800.toInt ∧ vx800.toInt ≤ 2147483647 := by rw [e801]; exact ti_add ((60 : Int32) * (q_I r770 12 24 a0)) (q_I r770 12 25 a0))
                first | (have q829 := te_addc (c := 1) (n := 1) rfl (q_I r770 12 25 a0) (by omega) (by omega); obtain ⟨f830, f831, f832⟩ := q829) | (obtain ⟨q829, f830, f831, f832⟩ := ti_addc (c := 1) (n := 1) rfl (q_I r770 12 25 a0))
                refine ok_bdv (fun d825 e826 => ?_)
                have i827 : RI ad h.1 δ0 d825 := by rw [e826]; exact cs_12_25 L i772 k_a0 (show 0 ≤ ((q_I r770 12 25 a0) + (1 : Int32)).toInt by omega) (show ((q_I r770 12 25 a0) + (1 : Int32)).toInt ≤ 60 by omega)
                have u833 := kp_I u779 e826
                have v834 : q_V d825 = q_V δ := ((show q_V d825 = q_V r770 by rw [e826]; rfl)).trans v780
                have v835 := kr_N v781 (show q_R d825 = q_R r770 by rw [e826]; rfl)
                obtain ⟨b836, o837, k838, n839, w840⟩ := gO_12_29 L k_a0
                obtain rfl := gS_12_29 L k_a0 o837
                refine ok_at o837 ?_
                have t841 := ti_tn vx800
                refine ok_gd (fun hc842 => ?_) ?_
                · rcases hc842 with hc842 | hc842
                  · have c843 : vx800.toInt < (0 : Int) := o_lt hc842
                    omega
                  · omega
                refine ok_bdv (fun d844 e845 => ?_)
                have i846 : RI ad h.1 δ0 d844 := by rw [e845]; exact RI.sR L i827 w840
                have u847 := kp_N u833 (show q_I d844 = q_I d825 by rw [e845]; rfl)
                have v848 : q_V d844 = q_V δ := ((show q_V d844 = q_V d825 by rw [e845]; rfl)).trans v834
                have v849 := kr_s L (by decide) v835 e845
                refine ok_ite (fun h850 => ?_) (fun h850 => ?_)
                · have c851 : r123.1.toInt = (5 : Int) := o_eq h850
                  obtain ⟨b852, o853, k854, n855, w856⟩ := gO_12_30 L k_a0
                  obtain rfl := gS_12_30 L k_a0 o853
                  refine ok_at o853 ?_
                  refine ok_bind (k_X12_readNumber L hN (a0 := a0) (x1 := (1 : Int32)) (x2 := (99 : Int32)) k_a0 i846) (fun r857 hr858 => ?_)
                  obtain ⟨i859, ⟨u866, u867, u868, u869⟩, p860, p861, p862, p863, p864, p865⟩ := hr858
                  have u870 := kp_t u847 u866
                  have v871 : q_V r857.2 = q_V δ := (u867).trans v848
                  have v872 := kr_t v849 u869
                  have f873 := cb_12_4 i846 k_a0
                  have f874 : (q_I d844 12 4 a0).toInt = (q_I d825 12 4 a0).toInt := congrArg Int32.toInt (by rw [e845]; rfl)
                  have f875 := cb_12_4 i827 k_a0
                  have f876 : (q_I d825 12 4 a0).toInt = (q_I r770 12 4 a0).toInt := congrArg Int32.toInt (by rw [e826]; exact rI_o (by decide))
                  have f877 := cb_12_4 i859 k_a0
                  have f878 := ti_b (q_I d844 12 5 a0)
                  have f879 : (q_I d844 12 5 a0).toInt = (q_I d825 12 5 a0).toInt := congrArg Int32.toInt (by rw [e845]; rfl)
                  have f880 := ti_b (q_I d825 12 5 a0)
                  have f881 : (q_I d825 12 5 a0).toInt = (q_I r770 12 5 a0).toInt := congrArg Int32.toInt (by rw [e826]; exact rI_o (by decide))
                  have f882 := ti_b (q_I r770 12 5 a0)
                  have f883 : (q_I r770 12 5 a0).toInt = (q_I r720 12 5 a0).toInt := congrArg Int32.toInt (u775 12 5 a0 (by decide))
                  have f884 := ti_b (q_I r857.2 12 5 a0)
                  have f885 := ti_b r857.1
                  replace p865 : ((q_I r857.2 12 5 a0).toInt = -1 → (1 : Int) ≤ (r857.1).toInt ∧ (r857.1).toInt ≤ (99 : Int)) := p865
                  have f886 := ti_b r857.1
                  refine ok_gd (fun hc887 => ?_) ?_
                  · rcases hc887 with hc887 | hc887
                    · have c888 : vx800.toInt < (0 : Int) := o_lt hc887
                      omega
                    · omega
                  refine ok_bdv (fun d889 e890 => ?_)
                  have i891 : RI ad h.1 δ0 d889 := by rw [e890]; exact RI.sR L i859 w856
                  have u892 := kp_N u870 (show q_I d889 = q_I r857.2 by rw [e890]; rfl)
                  have v893 : q_V d889 = q_V δ := ((show q_V d889 = q_V r857.2 by rw [e890]; rfl)).trans v871
                  have v894 := kr_s L (by decide) v872 e890
                  refine ok_bind (k_X12_sign L hN (a0 := a0) (x1 := (91 : Int32)) k_a0 (show (91 : Int) ≠ 0 by first | assumption | omega) i891) (fun r895 hr896 => ?_)
                  obtain ⟨i897, ⟨u901, u902, u903, u904⟩, p898, p899, p900⟩ := hr896
                  have u905 := kp_t u892 u901
                  have v906 : q_V r895 = q_V δ := (u902).trans v893
                  have v907 := kr_t v894 u904
                  have f908 := cb_12_4 i891 k_a0
                  have f909 : (q_I d889 12 4 a0).toInt = (q_I r857.2 12 4 a0).toInt := congrArg Int32.toInt (by rw [e890]; rfl)
                  have f910 := cb_12_4 i897 k_a0
                  have f911 := ti_b (q_I d889 12 5 a0)
                  have f912 : (q_I d889 12 5 a0).toInt = (q_I r857.2 12 5 a0).toInt := congrArg Int32.toInt (by rw [e890]; rfl)
                  have f913 := ti_b (q_I r895 12 5 a0)
                  have f917 := cb_12_27 i897 k_a0
                  have f918 : (q_I r895 12 27 a0).toInt = (q_I d889 12 27 a0).toInt := congrArg Int32.toInt (u901 12 27 a0 (by decide))
                  have f919 := cb_12_27 i891 k_a0
                  have f920 : (q_I d889 12 27 a0).toInt = (q_I r857.2 12 27 a0).toInt := congrArg Int32.toInt (by rw [e890]; rfl)
                  have f921 := cb_12_27 i859 k_a0
                  have f922 : (q_I r857.2 12 27 a0).toInt = (q_I d844 12 27 a0).toInt := congrArg Int32.toInt (u866 12 27 a0 (by decide))
                  have f923 := cb_12_27 i846 k_a0
                  have f924 : (q_I d844 12 27 a0).toInt = (q_I d825 12 27 a0).toInt := congrArg Int32.toInt (by rw [e845]; rfl)
                  have f925 := cb_12_27 i827 k_a0
                  have f926 : (q_I d825 12 27 a0).toInt = (q_I r770 12 27 a0).toInt := congrArg Int32.toInt (by rw [e826]; exact rI_o (by decide))
                  have f927 := cb_12_27 i772 k_a0
                  have f928 : (q_I r770 12 27 a0).toInt = (q_I r720 12 27 a0).toInt := congrArg Int32.toInt (u775 12 27 a0 (by decide))
                  have f929 := cb_12_27 i722 k_a0
                  have f930 : (q_I r720 12 27 a0).toInt = (q_I r97.2 12 27 a0).toInt := congrArg Int32.toInt (u724 12 27 a0 (by decide))
                  have f931 := cb_12_27 i99 k_a0
                  have f932 : (q_I r97.2 12 27 a0).toInt = (q_I r48.2 12 27 a0).toInt := congrArg Int32.toInt (u102 12 27 a0 (by decide))
                  have f933 := cb_12_27 i50 k_a0
                  have f934 : (q_I r48.2 12 27 a0).toInt = (q_I r19.2 12 27 a0).toInt := congrArg Int32.toInt (u54 12 27 a0 (by decide))
                  have f935 := cb_12_27 i21 k_a0
                  have f936 : (q_I r19.2 12 27 a0).toInt = (q_I δ 12 27 a0).toInt := congrArg Int32.toInt (u25 12 27 a0 (by decide))
                  first | (have q938 := te_addc (c := 1) (n := 1) rfl (q_I r895 12 27 a0) (by omega) (by omega); obtain ⟨f939, f940, f941⟩ := q938) | (obtain ⟨q938, f939, f940, f941⟩ := ti_addc (c := 1) (n := 1) rfl (q_I r895 12 27 a0))
                  refine ok_bdv (fun d914 e915 => ?_)
                  have i916 : RI ad h.1 δ0 d914 := by rw [e915]; exact cs_12_27 L i897 k_a0 (show 0 ≤ ((q_I r895 12 27 a0) + (1 : Int32)).toInt by omega) (show ((q_I r895 12 27 a0) + (1 : Int32)).toInt ≤ 3 by omega)
                  have u942 := kp_I u905 e915
                  have v943 : q_V d914 = q_V δ := ((show q_V d914 = q_V r895 by rw [e915]; rfl)).trans v906
                  have v944 := kr_N v907 (show q_R d914 = q_R r895 by rw [e915]; rfl)
                  have f947 := cb_12_24 i916 k_a0
                  have f948 : (q_I d914 12 24 a0).toInt = (q_I r895 12 24 a0).toInt := congrArg Int32.toInt (by rw [e915]; exact rI_o (by decide))
                  have f949 := cb_12_24 i897 k_a0
                  have f950 : (q_I r895 12 24 a0).toInt = (q_I d889 12 24 a0).toInt := congrArg Int32.toInt (u901 12 24 a0 (by decide))
                  have f951 := cb_12_24 i891 k_a0
                  have f952 : (q_I d889 12 24 a0).toInt = (q_I r857.2 12 24 a0).toInt := congrArg Int32.toInt (by rw [e890]; rfl)
                  have f953 := cb_12_24 i859 k_a0
                  have f954 : (q_I r857.2 12 24 a0).toInt = (q_I d844 12 24 a0).toInt := congrArg Int32.toInt (u866 12 24 a0 (by decide))
                  have f955 := cb_12_24 i846 k_a0
                  have f956 : (q_I d844 12 24 a0).toInt = (q_I d825 12 24 a0).toInt := congrArg Int32.toInt (by rw [e845]; rfl)
                  have f957 := cb_12_24 i827 k_a0
                  have f958 : (q_I d825 12 24 a0).toInt = (q_I r770 12 24 a0).toInt := congrArg Int32.toInt (by rw [e826]; exact rI_o (by decide))
                  have f959 := cb_12_26 i916 k_a0
                  have f960 : (q_I d914 12 26 a0).toInt = (q_I r895 12 26 a0).toInt := congrArg Int32.toInt (by rw [e915]; exact rI_o (by decide))
                  have f961 := cb_12_26 i897 k_a0
                  have f962 : (q_I r895 12 26 a0).toInt = (q_I d889 12 26 a0).toInt := congrArg Int32.toInt (u901 12 26 a0 (by decide))
                  have f963 := cb_12_26 i891 k_a0
                  have f964 : (q_I d889 12 26 a0).toInt = (q_I r857.2 12 26 a0).toInt := congrArg Int32.toInt (by rw [e890]; rfl)
                  have f965 := cb_12_26 i859 k_a0
                  have f966 : (q_I r857.2 12 26 a0).toInt = (q_I d844 12 26 a0).toInt := congrArg Int32.toInt (u866 12 26 a0 (by decide))
                  have f967 := cb_12_26 i846 k_a0
                  have f968 : (q_I d844 12 26 a0).toInt = (q_I d825 12 26 a0).toInt := congrArg Int32.toInt (by rw [e845]; rfl)
                  have f969 := cb_12_26 i827 k_a0
                  have f970 : (q_I d825 12 26 a0).toInt = (q_I r770 12 26 a0).toInt := congrArg Int32.toInt (by rw [e826]; exact rI_o (by decide))
                  have f971 := cb_12_26 i772 k_a0
                  have f972 : (q_I r770 12 26 a0).toInt = (q_I r720 12 26 a0).toInt := congrArg Int32.toInt (u775 12 26 a0 (by decide))
                  have f973 := cb_12_26 i722 k_a0
                  have f974 : (q_I r720 12 26 a0).toInt = (q_I r97.2 12 26 a0).toInt := congrArg Int32.toInt (u724 12 26 a0 (by decide))
                  have f975 := cb_12_26 i99 k_a0
                  have f976 : (q_I r97.2 12 26 a0).toInt = (q_I r48.2 12 26 a0).toInt := congrArg Int32.toInt (u102 12 26 a0 (by decide))
                  have f977 := cb_12_26 i50 k_a0
                  have f978 : (q_I r48.2 12 26 a0).toInt = (q_I r19.2 12 26 a0).toInt := congrArg Int32.toInt (u54 12 26 a0 (by decide))
                  have f979 := cb_12_26 i21 k_a0
                  have f980 : (q_I r19.2 12 26 a0).toInt = (q_I δ 12 26 a0).toInt := congrArg Int32.toInt (u25 12 26 a0 (by decide))
                  have f981 := cb_12_4 i916 k_a0
                  have f982 : (q_I d914 12 4 a0).toInt = (q_I r895 12 4 a0).toInt := congrArg Int32.toInt (by rw [e915]; exact rI_o (by decide))
                  have f983 := ti_b (q_I d914 12 7 a0)
                  have f984 : (q_I d914 12 7 a0).toInt = (q_I r895 12 7 a0).toInt := congrArg Int32.toInt (by rw [e915]; exact rI_o (by decide))
                  have f985 := ti_b (q_I r895 12 7 a0)
                  have f986 : (q_I r895 12 7 a0).toInt = (q_I d889 12 7 a0).toInt := congrArg Int32.toInt (u901 12 7 a0 (by decide))
                  have f987 := ti_b (q_I d889 12 7 a0)
                  have f988 : (q_I d889 12 7 a0).toInt = (q_I r857.2 12 7 a0).toInt := congrArg Int32.toInt (by rw [e890]; rfl)
                  have f989 := ti_b (q_I r857.2 12 7 a0)
                  have f990 : (q_I r857.2 12 7 a0).toInt = (q_I d844 12 7 a0).toInt := congrArg Int32.toInt (u866 12 7 a0 (by decide))
                  have f991 := ti_b (q_I d844 12 7 a0)
                  have f992 : (q_I d844 12 7 a0).toInt = (q_I d825 12 7 a0).toInt := congrArg Int32.toInt (by rw [e845]; rfl)
                  have f993 := ti_b (q_I d825 12 7 a0)
                  have f994 : (q_I d825 12 7 a0).toInt = (q_I r770 12 7 a0).toInt := congrArg Int32.toInt (by rw [e826]; exact rI_o (by decide))
                  have f995 := ti_b (q_I r770 12 7 a0)
                  have f996 : (q_I r770 12 7 a0).toInt = (q_I r720 12 7 a0).toInt := congrArg Int32.toInt (u775 12 7 a0 (by decide))
                  have f997 := ti_b (q_I r720 12 7 a0)
                  have f998 : (q_I r720 12 7 a0).toInt = (q_I r97.2 12 7 a0).toInt := congrArg Int32.toInt (u724 12 7 a0 (by decide))
                  have f999 := ti_b (q_I r97.2 12 7 a0)
                  have f1000 : (q_I r97.2 12 7 a0).toInt = (q_I r48.2 12 7 a0).toInt := congrArg Int32.toInt (u102 12 7 a0 (by decide))
                  have f1001 := ti_b (q_I r48.2 12 7 a0)
                  have f1002 : (q_I r48.2 12 7 a0).toInt = (q_I r19.2 12 7 a0).toInt := congrArg Int32.toInt (u54 12 7 a0 (by decide))
                  have f1003 := ti_b (q_I r19.2 12 7 a0)
                  have f1004 : (q_I r19.2 12 7 a0).toInt = (q_I δ 12 7 a0).toInt := congrArg Int32.toInt (u25 12 7 a0 (by decide))
                  have f1005 := cb_12_27 i916 k_a0
                  have f1006 : (q_I d914 12 27 a0).toInt = ((q_I r895 12 27 a0) + (1 : Int32)).toInt := congrArg Int32.toInt (show q_I d914 12 27 a0 = ((q_I r895 12 27 a0) + (1 : Int32)) by rw [e915]; exact rI_s)
                  refine ok_bind (hT a0 d914 k_a0 (show (q_I d914 12 24 a0).toInt ≤ 3 by first | assumption | omega) (show (q_I d914 12 26 a0).toInt ≤ (q_I d914 12 4 a0).toInt by first | assumption | omega) (show (q_I d914 12 7 a0).toInt = 0 by first | assumption | omega) (show 4 - (q_I d914 12 27 a0).toInt < _ by first | assumption | omega) i916) (fun r945 hr946 => ?_)
                  obtain ⟨i1007, ⟨u1013, u1014, u1015⟩, p1008, p1009, p1010, p1011, p1012⟩ := hr946
                  have u1016 := kp_t u942 u1013
                  have v1017 : q_V r945 = q_V δ := (u1014).trans v943
                  have v1018 := kr_t v944 u1015
                  have f1019 := cb_12_4 i1007 k_a0
                  have f1020 := ti_b (q_I d914 12 5 a0)
                  have f1021 : (q_I d914 12 5 a0).toInt = (q_I r895 12 5 a0).toInt := congrArg Int32.toInt (by rw [e915]; exact rI_o (by decide))
                  have f1022 := ti_b (q_I r945 12 5 a0)
                  have f1023 := ti_b (q_I r945 12 7 a0)
                  have f1024 := cb_12_27 i1007 k_a0
                  have f1025 := cb_12_26 i1007 k_a0
                  first | (have q1030 := te_subc (c := 1) (n := 1) rfl (q_I r945 12 27 a0) (by omega) (by omega); obtain ⟨f1031, f1032, f1033⟩ := q1030) | (obtain ⟨q1030, f1031, f1032, f1033⟩ := ti_subc (c := 1) (n := 1) rfl (q_I r945 12 27 a0))
                  refine ok_bdv (fun d1026 e1027 => ?_)
                  have i1028 : RI ad h.1 δ0 d1026 := by rw [e1027]; exact cs_12_27 L i1007 k_a0 (show 0 ≤ ((q_I r945 12 27 a0) - (1 : Int32)).toInt by omega) (show ((q_I r945 12 27 a0) - (1 : Int32)).toInt ≤ 3 by omega)
                  have u1034 := kp_I u1016 e1027
                  have v1035 : q_V d1026 = q_V δ := ((show q_V d1026 = q_V r945 by rw [e1027]; rfl)).trans v1017
                  have v1036 := kr_N v1018 (show q_R d1026 = q_R r945 by rw [e1027]; rfl)
                  refine ok_bind (k_X12_sign L hN (a0 := a0) (x1 := (93 : Int32)) k_a0 (show (93 : Int) ≠ 0 by first | assumption | omega) i1028) (fun r1037 hr1038 => ?_)
                  obtain ⟨i1039, ⟨u1043, u1044, u1045, u1046⟩, p1040, p1041, p1042⟩ := hr1038
                  have u1047 := kp_t u1034 u1043
                  have v1048 : q_V r1037 = q_V δ := (u1044).trans v1035
                  have v1049 := kr_t v1036 u1046
                  have f1050 := cb_12_4 i1028 k_a0
                  have f1051 : (q_I d1026 12 4 a0).toInt = (q_I r945 12 4 a0).toInt := congrArg Int32.toInt (by rw [e1027]; exact rI_o (by decide))
                  have f1052 := cb_12_4 i1039 k_a0
                  have f1053 := ti_b (q_I d1026 12 5 a0)
                  have f1054 : (q_I d1026 12 5 a0).toInt = (q_I r945 12 5 a0).toInt := congrArg Int32.toInt (by rw [e1027]; exact rI_o (by decide))
                  have f1055 := ti_b (q_I r1037 12 5 a0)
                  obtain ⟨b1056, o1057, k1058, n1059, w1060⟩ := gO_12_31 L k_a0
                  obtain rfl := gS_12_31 L k_a0 o1057
                  refine ok_at o1057 ?_
                  refine ok_gd (fun hc1061 => ?_) ?_
                  · rcases hc1061 with hc1061 | hc1061
                    · have c1062 : vx800.toInt < (0 : Int) := o_lt hc1061
                      omega
                    · omega
                  refine ok_bdv (fun d1063 e1064 => ?_)
                  have i1065 : RI ad h.1 δ0 d1063 := by rw [e1064]; exact RI.sR L i1039 w1060
                  have u1066 := kp_N u1047 (show q_I d1063 = q_I r1037 by rw [e1064]; rfl)
                  have v1067 : q_V d1063 = q_V δ := ((show q_V d1063 = q_V r1037 by rw [e1064]; rfl)).trans v1048
                  have v1068 := kr_s L (by decide) v1049 e1064
                  unfold J_X12_readSteps_236
                  have f1069 := cb_12_24 i1065 k_a0
                  have f1070 : (q_I d1063 12 24 a0).toInt = (q_I r1037 12 24 a0).toInt := congrArg Int32.toInt (by rw [e1064]; rfl)
                  have f1071 := cb_12_24 i1039 k_a0
                  have f1072 : (q_I r1037 12 24 a0).toInt = (q_I d1026 12 24 a0).toInt := congrArg Int32.toInt (u1043 12 24 a0 (by decide))
                  have f1073 := cb_12_24 i1028 k_a0
                  have f1074 : (q_I d1026 12 24 a0).toInt = (q_I r945 12 24 a0).toInt := congrArg Int32.toInt (by rw [e1027]; exact rI_o (by decide))
                  have f1075 := cb_12_24 i1007 k_a0
                  have f1076 : (q_I r945 12 24 a0).toInt = (q_I d914 12 24 a0).toInt := congrArg Int32.toInt (u1013 12 24 a0 (by decide))
                  have f1077 := cb_12_26 i1065 k_a0
                  have f1078 : (q_I d1063 12 26 a0).toInt = (q_I r1037 12 26 a0).toInt := congrArg Int32.toInt (by rw [e1064]; rfl)
                  have f1079 := cb_12_26 i1039 k_a0
                  have f1080 : (q_I r1037 12 26 a0).toInt = (q_I d1026 12 26 a0).toInt := congrArg Int32.toInt (u1043 12 26 a0 (by decide))
                  have f1081 := cb_12_26 i1028 k_a0
                  have f1082 : (q_I d1026 12 26 a0).toInt = (q_I r945 12 26 a0).toInt := congrArg Int32.toInt (by rw [e1027]; exact rI_o (by decide))
                  have f1083 := cb_12_4 i1065 k_a0
                  have f1084 : (q_I d1063 12 4 a0).toInt = (q_I r1037 12 4 a0).toInt := congrArg Int32.toInt (by rw [e1064]; rfl)
                  have f1085 := ti_b (q_I d1063 12 7 a0)
                  have f1086 : (q_I d1063 12 7 a0).toInt = (q_I r1037 12 7 a0).toInt := congrArg Int32.toInt (by rw [e1064]; rfl)
                  have f1087 := ti_b (q_I r1037 12 7 a0)
                  have f1088 : (q_I r1037 12 7 a0).toInt = (q_I d1026 12 7 a0).toInt := congrArg Int32.toInt (u1043 12 7 a0 (by decide))
                  have f1089 := ti_b (q_I d1026 12 7 a0)
                  have f1090 : (q_I d1026 12 7 a0).toInt = (q_I r945 12 7 a0).toInt := congrArg Int32.toInt (by rw [e1027]; exact rI_o (by decide))
                  have f1091 := cb_12_27 i1065 k_a0
                  have f1092 : (q_I d1063 12 27 a0).toInt = (q_I r1037 12 27 a0).toInt := congrArg Int32.toInt (by rw [e1064]; rfl)
                  have f1093 := cb_12_27 i1039 k_a0
                  have f1094 : (q_I r1037 12 27 a0).toInt = (q_I d1026 12 27 a0).toInt := congrArg Int32.toInt (u1043 12 27 a0 (by decide))
                  have f1095 := cb_12_27 i1028 k_a0
                  have f1096 : (q_I d1026 12 27 a0).toInt = ((q_I r945 12 27 a0) - (1 : Int32)).toInt := congrArg Int32.toInt (show q_I d1026 12 27 a0 = ((q_I r945 12 27 a0) - (1 : Int32)) by rw [e1027]; exact rI_s)
                  refine ok_mono (ih d1063 i1065 (show (q_I d1063 12 24 a0).toInt ≤ 3 by first | assumption | omega) (show (q_I d1063 12 26 a0).toInt ≤ (q_I d1063 12 4 a0).toInt by first | assumption | omega) (show (q_I d1063 12 7 a0).toInt = 0 by first | assumption | omega) (show 4 - (q_I d1063 12 27 a0).toInt ≤ K by first | assumption | omega) (show 501 - (q_I d1063 12 4 a0).toInt < _ by omega)) (fun r1097 hr1098 => ?_)
                  obtain ⟨i1099, ⟨u1105, u1106, u1107⟩, p1100, p1101, p1102, p1103, p1104⟩ := hr1098
                  have u1108 := kp_t u1066 u1105
                  have v1109 : q_V r1097 = q_V δ := (u1106).trans v1067
                  have v1110 := kr_t v1068 u1107
                  have f1111 := cb_12_4 i1099 k_a0
                  have f1112 := ti_b (q_I d1063 12 5 a0)
                  have f1113 : (q_I d1063 12 5 a0).toInt = (q_I r1037 12 5 a0).toInt := congrArg Int32.toInt (by rw [e1064]; rfl)
                  have f1114 := ti_b (q_I r1097 12 5 a0)
                  have f1115 := ti_b (q_I r1097 12 7 a0)
                  have f1116 := cb_12_27 i1099 k_a0
                  have f1117 := cb_12_26 i1099 k_a0
                  exact ⟨by assumption, ⟨kp_w (by decide) u1108, v1109, kr_w (by decide) v1110⟩, by first | assumption | omega, by first | assumption | omega, by first | assumption | omega, by first | assumption | omega, by first | assumption | omega⟩
                · have c1118 : r123.1.toInt ≠ (5 : Int) := o_ne h850
                  obtain ⟨b1119, o1120, k1121, n1122, w1123⟩ := gO_12_30 L k_a0
                  obtain rfl := gS_12_30 L k_a0 o1120
                  refine ok_at o1120 ?_
                  refine ok_gd (fun hc1124 => ?_) ?_
                  · rcases hc1124 with hc1124 | hc1124
                    · have c1125 : vx800.toInt < (0 : Int) := o_lt hc1124
                      omega
                    · omega
                  refine ok_bdv (fun d1126 e1127 => ?_)
                  have i1128 : RI ad h.1 δ0 d1126 := by rw [e1127]; exact RI.sR L i846 w1123
                  have u1129 := kp_N u847 (show q_I d1126 = q_I d844 by rw [e1127]; rfl)
                  have v1130 : q_V d1126 = q_V δ := ((show q_V d1126 = q_V d844 by rw [e1127]; rfl)).trans v848
                  have v1131 := kr_s L (by decide) v849 e1127
                  have f1134 := cb_12_24 i1128 k_a0
                  have f1135 : (q_I d1126 12 24 a0).toInt = (q_I d844 12 24 a0).toInt := congrArg Int32.toInt (by rw [e1127]; rfl)
                  have f1136 := cb_12_24 i846 k_a0
                  have f1137 : (q_I d844 12 24 a0).toInt = (q_I d825 12 24 a0).toInt := congrArg Int32.toInt (by rw [e845]; rfl)
                  have f1138 := cb_12_24 i827 k_a0
                  have f1139 : (q_I d825 12 24 a0).toInt = (q_I r770 12 24 a0).toInt := congrArg Int32.toInt (by rw [e826]; exact rI_o (by decide))
                  have f1140 := cb_12_26 i1128 k_a0
                  have f1141 : (q_I d1126 12 26 a0).toInt = (q_I d844 12 26 a0).toInt := congrArg Int32.toInt (by rw [e1127]; rfl)
                  have f1142 := cb_12_26 i846 k_a0
                  have f1143 : (q_I d844 12 26 a0).toInt = (q_I d825 12 26 a0).toInt := congrArg Int32.toInt (by rw [e845]; rfl)
                  have f1144 := cb_12_26 i827 k_a0
                  have f1145 : (q_I d825 12 26 a0).toInt = (q_I r770 12 26 a0).toInt := congrArg Int32.toInt (by rw [e826]; exact rI_o (by decide))
                  have f1146 := cb_12_26 i772 k_a0
                  have f1147 : (q_I r770 12 26 a0).toInt = (q_I r720 12 26 a0).toInt := congrArg Int32.toInt (u775 12 26 a0 (by decide))
                  have f1148 := cb_12_26 i722 k_a0
                  have f1149 : (q_I r720 12 26 a0).toInt = (q_I r97.2 12 26 a0).toInt := congrArg Int32.toInt (u724 12 26 a0 (by decide))
                  have f1150 := cb_12_26 i99 k_a0
                  have f1151 : (q_I r97.2 12 26 a0).toInt = (q_I r48.2 12 26 a0).toInt := congrArg Int32.toInt (u102 12 26 a0 (by decide))
                  have f1152 := cb_12_26 i50 k_a0
                  have f1153 : (q_I r48.2 12 26 a0).toInt = (q_I r19.2 12 26 a0).toInt := congrArg Int32.toInt (u54 12 26 a0 (by decide))
                  have f1154 := cb_12_26 i21 k_a0
                  have f1155 : (q_I r19.2 12 26 a0).toInt = (q_I δ 12 26 a0).toInt := congrArg Int32.toInt (u25 12 26 a0 (by decide))
                  have f1156 := cb_12_4 i1128 k_a0
                  have f1157 : (q_I d1126 12 4 a0).toInt = (q_I d844 12 4 a0).toInt := congrArg Int32.toInt (by rw [e1127]; rfl)
                  have f1158 := cb_12_4 i846 k_a0
                  have f1159 : (q_I d844 12 4 a0).toInt = (q_I d825 12 4 a0).toInt := congrArg Int32.toInt (by rw [e845]; rfl)
                  have f1160 := cb_12_4 i827 k_a0
                  have f1161 : (q_I d825 12 4 a0).toInt = (q_I r770 12 4 a0).toInt := congrArg Int32.toInt (by rw [e826]; exact rI_o (by decide))
                  have f1162 := ti_b (q_I d1126 12 7 a0)
                  have f1163 : (q_I d1126 12 7 a0).toInt = (q_I d844 12 7 a0).toInt := congrArg Int32.toInt (by rw [e1127]; rfl)
                  have f1164 := ti_b (q_I d844 12 7 a0)
                  have f1165 : (q_I d844 12 7 a0).toInt = (q_I d825 12 7 a0).toInt := congrArg Int32.toInt (by rw [e845]; rfl)
                  have f1166 := ti_b (q_I d825 12 7 a0)
                  have f1167 : (q_I d825 12 7 a0).toInt = (q_I r770 12 7 a0).toInt := congrArg Int32.toInt (by rw [e826]; exact rI_o (by decide))
                  have f1168 := ti_b (q_I r770 12 7 a0)
                  have f1169 : (q_I r770 12 7 a0).toInt = (q_I r720 12 7 a0).toInt := congrArg Int32.toInt (u775 12 7 a0 (by decide))
                  have f1170 := ti_b (q_I r720 12 7 a0)
                  have f1171 : (q_I r720 12 7 a0).toInt = (q_I r97.2 12 7 a0).toInt := congrArg Int32.toInt (u724 12 7 a0 (by decide))
                  have f1172 := ti_b (q_I r97.2 12 7 a0)
                  have f1173 : (q_I r97.2 12 7 a0).toInt = (q_I r48.2 12 7 a0).toInt := congrArg Int32.toInt (u102 12 7 a0 (by decide))
                  have f1174 := ti_b (q_I r48.2 12 7 a0)
                  have f1175 : (q_I r48.2 12 7 a0).toInt = (q_I r19.2 12 7 a0).toInt := congrArg Int32.toInt (u54 12 7 a0 (by decide))
                  have f1176 := ti_b (q_I r19.2 12 7 a0)
                  have f1177 : (q_I r19.2 12 7 a0).toInt = (q_I δ 12 7 a0).toInt := congrArg Int32.toInt (u25 12 7 a0 (by decide))
                  have f1178 := ti_b (q_I d1126 12 5 a0)
                  have f1179 : (q_I d1126 12 5 a0).toInt = (q_I d844 12 5 a0).toInt := congrArg Int32.toInt (by rw [e1127]; rfl)
                  have f1180 := ti_b (q_I d844 12 5 a0)
                  have f1181 : (q_I d844 12 5 a0).toInt = (q_I d825 12 5 a0).toInt := congrArg Int32.toInt (by rw [e845]; rfl)
                  have f1182 := ti_b (q_I d825 12 5 a0)
                  have f1183 : (q_I d825 12 5 a0).toInt = (q_I r770 12 5 a0).toInt := congrArg Int32.toInt (by rw [e826]; exact rI_o (by decide))
                  have f1184 := ti_b (q_I r770 12 5 a0)
                  have f1185 : (q_I r770 12 5 a0).toInt = (q_I r720 12 5 a0).toInt := congrArg Int32.toInt (u775 12 5 a0 (by decide))
                  refine ok_bind (k_X12_sum L hN (a0 := a0) k_a0 (show (q_I d1126 12 24 a0).toInt ≤ 3 by first | assumption | omega) (show (q_I d1126 12 26 a0).toInt ≤ (q_I d1126 12 4 a0).toInt by first | assumption | omega) (show 0 ≤ (q_I d1126 12 7 a0).toInt by first | assumption | omega) (show (q_I d1126 12 7 a0).toInt ≤ 7 by first | assumption | omega) (show (q_I d1126 12 7 a0).toInt = 7 → (q_I d1126 12 5 a0).toInt ≠ -1 by first | assumption | omega) (show 8 - (q_I d1126 12 7 a0).toInt < 20 by first | assumption | omega) i1128) (fun r1132 hr1133 => ?_)
                  obtain ⟨i1186, ⟨u1193, u1194, u1195⟩, p1187, p1188, p1189, p1190, p1191, p1192⟩ := hr1133
                  have u1196 := kp_t u1129 u1193
                  have v1197 : q_V r1132 = q_V δ := (u1194).trans v1130
                  have v1198 := kr_t v1131 u1195
                  have f1199 := cb_12_4 i1186 k_a0
                  have f1200 := ti_b (q_I r1132 12 5 a0)
                  have f1201 := ti_b (q_I r1132 12 7 a0)
                  have f1202 := cb_12_26 i1186 k_a0
                  obtain ⟨b1203, o1204, k1205, n1206, w1207⟩ := gO_12_31 L k_a0
                  obtain rfl := gS_12_31 L k_a0 o1204
                  refine ok_at o1204 ?_
                  refine ok_gd (fun hc1208 => ?_) ?_
                  · rcases hc1208 with hc1208 | hc1208
                    · have c1209 : vx800.toInt < (0 : Int) := o_lt hc1208
                      omega
                    · omega
                  refine ok_bdv (fun d1210 e1211 => ?_)
                  have i1212 : RI ad h.1 δ0 d1210 := by rw [e1211]; exact RI.sR L i1186 w1207
                  have u1213 := kp_N u1196 (show q_I d1210 = q_I r1132 by rw [e1211]; rfl)
                  have v1214 : q_V d1210 = q_V δ := ((show q_V d1210 = q_V r1132 by rw [e1211]; rfl)).trans v1197
                  have v1215 := kr_s L (by decide) v1198 e1211
                  refine ok_bind (k_X12_sign L hN (a0 := a0) (x1 := (59 : Int32)) k_a0 (show (59 : Int) ≠ 0 by first | assumption | omega) i1212) (fun r1216 hr1217 => ?_)
                  obtain ⟨i1218, ⟨u1222, u1223, u1224, u1225⟩, p1219, p1220, p1221⟩ := hr1217
                  have u1226 := kp_t u1213 u1222
                  have v1227 : q_V r1216 = q_V δ := (u1223).trans v1214
                  have v1228 := kr_t v1215 u1225
                  have f1229 := cb_12_4 i1212 k_a0
                  have f1230 : (q_I d1210 12 4 a0).toInt = (q_I r1132 12 4 a0).toInt := congrArg Int32.toInt (by rw [e1211]; rfl)
                  have f1231 := cb_12_4 i1218 k_a0
                  have f1232 := ti_b (q_I d1210 12 5 a0)
                  have f1233 : (q_I d1210 12 5 a0).toInt = (q_I r1132 12 5 a0).toInt := congrArg Int32.toInt (by rw [e1211]; rfl)
                  have f1234 := ti_b (q_I r1216 12 5 a0)
                  unfold J_X12_readSteps_236
                  have f1235 := cb_12_24 i1218 k_a0
                  have f1236 : (q_I r1216 12 24 a0).toInt = (q_I d1210 12 24 a0).toInt := congrArg Int32.toInt (u1222 12 24 a0 (by decide))
                  have f1237 := cb_12_24 i1212 k_a0
                  have f1238 : (q_I d1210 12 24 a0).toInt = (q_I r1132 12 24 a0).toInt := congrArg Int32.toInt (by rw [e1211]; rfl)
                  have f1239 := cb_12_24 i1186 k_a0
                  have f1240 : (q_I r1132 12 24 a0).toInt = (q_I d1126 12 24 a0).toInt := congrArg Int32.toInt (u1193 12 24 a0 (by decide))
                  have f1241 := cb_12_26 i1218 k_a0
                  have f1242 : (q_I r1216 12 26 a0).toInt = (q_I d1210 12 26 a0).toInt := congrArg Int32.toInt (u1222 12 26 a0 (by decide))
                  have f1243 := cb_12_26 i1212 k_a0
                  have f1244 : (q_I d1210 12 26 a0).toInt = (q_I r1132 12 26 a0).toInt := congrArg Int32.toInt (by rw [e1211]; rfl)
                  have f1245 := ti_b (q_I r1216 12 7 a0)
                  have f1246 : (q_I r1216 12 7 a0).toInt = (q_I d1210 12 7 a0).toInt := congrArg Int32.toInt (u1222 12 7 a0 (by decide))
                  have f1247 := ti_b (q_I d1210 12 7 a0)
                  have f1248 : (q_I d1210 12 7 a0).toInt = (q_I r1132 12 7 a0).toInt := congrArg Int32.toInt (by rw [e1211]; rfl)
                  have f1249 := cb_12_27 i1218 k_a0
                  have f1250 : (q_I r1216 12 27 a0).toInt = (q_I d1210 12 27 a0).toInt := congrArg Int32.toInt (u1222 12 27 a0 (by decide))
                  have f1251 := cb_12_27 i1212 k_a0
                  have f1252 : (q_I d1210 12 27 a0).toInt = (q_I r1132 12 27 a0).toInt := congrArg Int32.toInt (by rw [e1211]; rfl)
                  have f1253 := cb_12_27 i1186 k_a0
                  have f1254 : (q_I r1132 12 27 a0).toInt = (q_I d1126 12 27 a0).toInt := congrArg Int32.toInt (u1193 12 27 a0 (by decide))
                  have f1255 := cb_12_27 i1128 k_a0
                  have f1256 : (q_I d1126 12 27 a0).toInt = (q_I d844 12 27 a0).toInt := congrArg Int32.toInt (by rw [e1127]; rfl)
                  have f1257 := cb_12_27 i846 k_a0
                  have f1258 : (q_I d844 12 27 a0).toInt = (q_I d825 12 27 a0).toInt := congrArg Int32.toInt (by rw [e845]; rfl)
                  have f1259 := cb_12_27 i827 k_a0
                  have f1260 : (q_I d825 12 27 a0).toInt = (q_I r770 12 27 a0).toInt := congrArg Int32.toInt (by rw [e826]; exact rI_o (by decide))
                  have f1261 := cb_12_27 i772 k_a0
                  have f1262 : (q_I r770 12 27 a0).toInt = (q_I r720 12 27 a0).toInt := congrArg Int32.toInt (u775 12 27 a0 (by decide))
                  have f1263 := cb_12_27 i722 k_a0
                  have f1264 : (q_I r720 12 27 a0).toInt = (q_I r97.2 12 27 a0).toInt := congrArg Int32.toInt (u724 12 27 a0 (by decide))
                  have f1265 := cb_12_27 i99 k_a0
                  have f1266 : (q_I r97.2 12 27 a0).toInt = (q_I r48.2 12 27 a0).toInt := congrArg Int32.toInt (u102 12 27 a0 (by decide))
                  have f1267 := cb_12_27 i50 k_a0
                  have f1268 : (q_I r48.2 12 27 a0).toInt = (q_I r19.2 12 27 a0).toInt := congrArg Int32.toInt (u54 12 27 a0 (by decide))
                  have f1269 := cb_12_27 i21 k_a0
                  have f1270 : (q_I r19.2 12 27 a0).toInt = (q_I δ 12 27 a0).toInt := congrArg Int32.toInt (u25 12 27 a0 (by decide))
                  refine ok_mono (ih r1216 i1218 (show (q_I r1216 12 24 a0).toInt ≤ 3 by first | assumption | omega) (show (q_I r1216 12 26 a0).toInt ≤ (q_I r1216 12 4 a0).toInt by first | assumption | omega) (show (q_I r1216 12 7 a0).toInt = 0 by first | assumption | omega) (show 4 - (q_I r1216 12 27 a0).toInt ≤ K by first | assumption | omega) (show 501 - (q_I r1216 12 4 a0).toInt < _ by omega)) (fun r1271 hr1272 => ?_)
                  obtain ⟨i1273, ⟨u1279, u1280, u1281⟩, p1274, p1275, p1276, p1277, p1278⟩ := hr1272
                  have u1282 := kp_t u1226 u1279
                  have v1283 : q_V r1271 = q_V δ := (u1280).trans v1227
                  have v1284 := kr_t v1228 u1281
                  have f1285 := cb_12_4 i1273 k_a0
                  have f1286 := ti_b (q_I r1271 12 5 a0)
                  have f1287 := ti_b (q_I r1271 12 7 a0)
                  have f1288 := cb_12_27 i1273 k_a0
                  have f1289 := cb_12_26 i1273 k_a0
                  exact ⟨by assumption, ⟨kp_w (by decide) u1282, v1283, kr_w (by decide) v1284⟩, by first | assumption | omega, by first | assumption | omega, by first | assumption | omega, by first | assumption | omega, by first | assumption | omega⟩
            · have c1290 : (q_I r97.2 12 25 a0).toInt ≠ (60 : Int) := o_ne h718
              refine ok_ite (fun h1291 => ?_) (fun h1291 => ?_)
              · have c1292 : r123.1.toInt = (5 : Int) := o_eq h1291
                have f1293 := cb_12_27 i99 k_a0
                have f1294 : (q_I r97.2 12 27 a0).toInt = (q_I r48.2 12 27 a0).toInt := congrArg Int32.toInt (u102 12 27 a0 (by decide))
                have f1295 := cb_12_27 i50 k_a0
                have f1296 : (q_I r48.2 12 27 a0).toInt = (q_I r19.2 12 27 a0).toInt := congrArg Int32.toInt (u54 12 27 a0 (by decide))
                have f1297 := cb_12_27 i21 k_a0
                have f1298 : (q_I r19.2 12 27 a0).toInt = (q_I δ 12 27 a0).toInt := congrArg Int32.toInt (u25 12 27 a0 (by decide))
                refine ok_ite (fun h1299 => ?_) (fun h1299 => ?_)
                · have c1300 : (q_I r97.2 12 27 a0).toInt = (3 : Int) := o_eq h1299
                  unfold J_X12_readSteps_70
                  refine ok_bind (k_X12_wrong L hN (a0 := a0) (x1 := (3 : Int32)) (x2 := (q_I r97.2 12 4 a0)) k_a0 (show 0 ≤ ((q_I r97.2 12 4 a0)).toInt by first | assumption | omega) i99) (fun r1301 hr1302 => ?_)
                  obtain ⟨i1303, ⟨u1305, u1306, u1307, u1308⟩, p1304⟩ := hr1302
                  have u1309 := kp_t u106 u1305
                  have v1310 : q_V r1301 = q_V δ := (u1306).trans v107
                  have v1311 := kr_t v108 u1308
                  have f1312 := ti_b (q_I r1301 12 5 a0)
                  unfold J_X12_readSteps_79
                  refine ok_bind (k_X12_fine L hN (a0 := a0) k_a0 i1303) (fun r1313 hr1314 => ?_)
                  obtain ⟨i1315, p1316, p1317, p1318⟩ := hr1314
                  try rw [i1315]
                  have f1319 := bo_t p1316
                  have f1320 := ti_b r1313.1
                  have f1321 := ti_b r1313.1
                  refine ok_ite (fun h1322 => ?_) (fun h1322 => ?_)
                  · have c1323 : r1313.1.toInt = (0 : Int) := o_eq h1322
                    have f1324 := cb_12_4 i1303 k_a0
                    have f1325 : (q_I r1301 12 4 a0).toInt = (q_I r97.2 12 4 a0).toInt := congrArg Int32.toInt (u1305 12 4 a0 (by decide))
                    have f1326 := ti_b (q_I r1301 12 7 a0)
                    have f1327 : (q_I r1301 12 7 a0).toInt = (q_I r97.2 12 7 a0).toInt := congrArg Int32.toInt (u1305 12 7 a0 (by decide))
                    have f1328 := ti_b (q_I r97.2 12 7 a0)
                    have f1329 : (q_I r97.2 12 7 a0).toInt = (q_I r48.2 12 7 a0).toInt := congrArg Int32.toInt (u102 12 7 a0 (by decide))
                    have f1330 := ti_b (q_I r48.2 12 7 a0)
                    have f1331 : (q_I r48.2 12 7 a0).toInt = (q_I r19.2 12 7 a0).toInt := congrArg Int32.toInt (u54 12 7 a0 (by decide))
                    have f1332 := ti_b (q_I r19.2 12 7 a0)
                    have f1333 : (q_I r19.2 12 7 a0).toInt = (q_I δ 12 7 a0).toInt := congrArg Int32.toInt (u25 12 7 a0 (by decide))
                    have f1334 := cb_12_27 i1303 k_a0
                    have f1335 : (q_I r1301 12 27 a0).toInt = (q_I r97.2 12 27 a0).toInt := congrArg Int32.toInt (u1305 12 27 a0 (by decide))
                    have f1336 := cb_12_26 i1303 k_a0
                    have f1337 : (q_I r1301 12 26 a0).toInt = (q_I r97.2 12 26 a0).toInt := congrArg Int32.toInt (u1305 12 26 a0 (by decide))
                    have f1338 := cb_12_26 i99 k_a0
                    have f1339 : (q_I r97.2 12 26 a0).toInt = (q_I r48.2 12 26 a0).toInt := congrArg Int32.toInt (u102 12 26 a0 (by decide))
                    have f1340 := cb_12_26 i50 k_a0
                    have f1341 : (q_I r48.2 12 26 a0).toInt = (q_I r19.2 12 26 a0).toInt := congrArg Int32.toInt (u54 12 26 a0 (by decide))
                    have f1342 := cb_12_26 i21 k_a0
                    have f1343 : (q_I r19.2 12 26 a0).toInt = (q_I δ 12 26 a0).toInt := congrArg Int32.toInt (u25 12 26 a0 (by decide))
                    exact ok_some (show RI ad h.1 δ0 r1301 ∧ (kp [(12, 4), (12, 5), (12, 6), (12, 7), (12, 25), (12, 26), (12, 27)] δ r1301 ∧ q_V r1301 = q_V δ ∧ kr ad [113, 114, 115, 116, 117] δ r1301) ∧ (q_I δ 12 4 a0).toInt ≤ (q_I r1301 12 4 a0).toInt ∧ ((q_I δ 12 5 a0).toInt ≠ -1 → (q_I r1301 12 5 a0).toInt ≠ -1) ∧ (q_I r1301 12 7 a0).toInt = (q_I δ 12 7 a0).toInt ∧ (q_I r1301 12 27 a0).toInt = (q_I δ 12 27 a0).toInt ∧ (q_I r1301 12 26 a0).toInt ≤ (q_I r1301 12 4 a0).toInt from ⟨i1303, ⟨kp_w (by decide) u1309, v1310, kr_w (by decide) v1311⟩, by first | assumption | omega, by first | assumption | omega, by first | assumption | omega, by first | assumption | omega, by first | assumption | omega⟩)
                  · have c1344 : r1313.1.toInt ≠ (0 : Int) := o_ne h1322
                    refine ok_bind (k_X12_pass L hN (a0 := a0) k_a0 i1303) (fun r1345 hr1346 => ?_)
                    obtain ⟨i1347, ⟨u1350, u1351, u1352, u1353⟩, p1348, p1349⟩ := hr1346
                    have u1354 := kp_t u1309 u1350
                    have v1355 : q_V r1345 = q_V δ := (u1351).trans v1310
                    have v1356 := kr_t v1311 u1353
                    have f1357 := cb_12_4 i1303 k_a0
                    have f1358 : (q_I r1301 12 4 a0).toInt = (q_I r97.2 12 4 a0).toInt := congrArg Int32.toInt (u1305 12 4 a0 (by decide))
                    have f1359 := cb_12_4 i1347 k_a0
                    have f1360 : hc ad r1301 a0 = (q_R r1301 (Ad ad 101) (q_I r1301 12 4 a0).toNatClampNeg).toInt := rfl
                    have t1361 := ti_tn (q_I r1301 12 4 a0)
                    have f1362 : (q_R r1301 (Ad ad 101) (q_I r1301 12 4 a0).toNatClampNeg).toInt = (q_R r97.2 (Ad ad 101) (q_I r1301 12 4 a0).toNatClampNeg).toInt := congrArg Int32.toInt (congrFun (u1308 101 (by decide) (by decide) (by decide)) _)
                    have f1363 : (q_R r97.2 (Ad ad 101) (q_I r1301 12 4 a0).toNatClampNeg).toInt = (q_R r48.2 (Ad ad 101) (q_I r1301 12 4 a0).toNatClampNeg).toInt := congrArg Int32.toInt (congrFun (u105 101 (by decide) (by decide) (by decide)) _)
                    have f1364 : (q_R r48.2 (Ad ad 101) (q_I r1301 12 4 a0).toNatClampNeg).toInt = (q_R r19.2 (Ad ad 101) (q_I r1301 12 4 a0).toNatClampNeg).toInt := congrArg Int32.toInt (congrFun (u57 101 (by decide) (by decide) (by decide)) _)
                    have f1365 : (q_R r19.2 (Ad ad 101) (q_I r1301 12 4 a0).toNatClampNeg).toInt = (q_R δ (Ad ad 101) (q_I r1301 12 4 a0).toNatClampNeg).toInt := congrArg Int32.toInt (congrFun (u28 101 (by decide) (by decide) (by decide)) _)
                    have f1366 := ti_b (q_R δ (Ad ad 101) (q_I r1301 12 4 a0).toNatClampNeg)
                    have f1367 := ti_b (q_R r19.2 (Ad ad 101) (q_I r1301 12 4 a0).toNatClampNeg)
                    have f1368 := ti_b (q_R r48.2 (Ad ad 101) (q_I r1301 12 4 a0).toNatClampNeg)
                    have f1369 := ti_b (q_R r97.2 (Ad ad 101) (q_I r1301 12 4 a0).toNatClampNeg)
                    have f1370 := ti_b (q_R r1301 (Ad ad 101) (q_I r1301 12 4 a0).toNatClampNeg)
                    have f1371 := cb_12_3 i1303 k_a0
                    have f1372 : (q_I r1301 12 3 a0).toInt = (q_I r97.2 12 3 a0).toInt := congrArg Int32.toInt (u1305 12 3 a0 (by decide))
                    have f1373 := cb_12_3 i99 k_a0
                    have f1374 : (q_I r97.2 12 3 a0).toInt = (q_I r48.2 12 3 a0).toInt := congrArg Int32.toInt (u102 12 3 a0 (by decide))
                    have f1378 := cb_12_24 i1347 k_a0
                    have f1379 : (q_I r1345 12 24 a0).toInt = (q_I r1301 12 24 a0).toInt := congrArg Int32.toInt (u1350 12 24 a0 (by decide))
                    have f1380 := cb_12_24 i1303 k_a0
                    have f1381 : (q_I r1301 12 24 a0).toInt = (q_I r97.2 12 24 a0).toInt := congrArg Int32.toInt (u1305 12 24 a0 (by decide))
                    have f1382 := cb_12_24 i99 k_a0
                    have f1383 : (q_I r97.2 12 24 a0).toInt = (q_I r48.2 12 24 a0).toInt := congrArg Int32.toInt (u102 12 24 a0 (by decide))
                    have f1384 := cb_12_24 i50 k_a0
                    have f1385 : (q_I r48.2 12 24 a0).toInt = (q_I r19.2 12 24 a0).toInt := congrArg Int32.toInt (u54 12 24 a0 (by decide))
                    have f1386 := cb_12_24 i21 k_a0
                    have f1387 : (q_I r19.2 12 24 a0).toInt = (q_I δ 12 24 a0).toInt := congrArg Int32.toInt (u25 12 24 a0 (by decide))
                    first | (have q1388 := te_mulc (c := 60) (n := 60) rfl (q_I r1345 12 24 a0) (by omega) (by omega); obtain ⟨f1389, f1390, f1391⟩ := q1388) | (obtain ⟨q1388, f1389, f1390, f1391⟩ := ti_mulc (c := 60) (n := 60) rfl (q_I r1345 12 24 a0))
                    have f1392 := cb_12_25 i1347 k_a0
                    have f1393 : (q_I r1345 12 25 a0).toInt = (q_I r1301 12 25 a0).toInt := congrArg Int32.toInt (u1350 12 25 a0 (by decide))
                    have f1394 := cb_12_25 i1303 k_a0
                    have f1395 : (q_I r1301 12 25 a0).toInt = (q_I r97.2 12 25 a0).toInt := congrArg Int32.toInt (u1305 12 25 a0 (by decide))
                    refine ok_biv (fun vx1375 e1376 => ?_)
                    first | (have q1396 := te_add ((60 : Int32) * (q_I r1345 12 24 a0)) (q_I r1345 12 25 a0) (by omega) (by omega); rw [← e1376] at q1396; obtain ⟨f1397, f1398, f1399⟩ := q1396) | (obtain ⟨q1396, f1397, f1398, f1399⟩ : ∃ q : Int, vx1375.toInt = ((60 : Int32) * (q_I r1345 12 24 a0)).toInt + (q_I r1345 12 25 a0).toInt + 4294967296 * q ∧ -2147483648 ≤ vx1375.toInt ∧ vx1375.toInt ≤ 2147483647 := by rw [e1376]; exact ti_add ((60 : Int32) * (q_I r1345 12 24 a0)) (q_I r1345 12 25 a0))
                    first | (have q1404 := te_addc (c := 1) (n := 1) rfl (q_I r1345 12 25 a0) (by omega) (by omega); obtain ⟨f1405, f1406, f1407⟩ := q1404) | (obtain ⟨q1404, f1405, f1406, f1407⟩ := ti_addc (c := 1) (n := 1) rfl (q_I r1345 12 25 a0))
                    refine ok_bdv (fun d1400 e1401 => ?_)
                    have i1402 : RI ad h.1 δ0 d1400 := by rw [e1401]; exact cs_12_25 L i1347 k_a0 (show 0 ≤ ((q_I r1345 12 25 a0) + (1 : Int32)).toInt by omega) (show ((q_I r1345 12 25 a0) + (1 : Int32)).toInt ≤ 60 by omega)
                    have u1408 := kp_I u1354 e1401
                    have v1409 : q_V d1400 = q_V δ := ((show q_V d1400 = q_V r1345 by rw [e1401]; rfl)).trans v1355
                    have v1410 := kr_N v1356 (show q_R d1400 = q_R r1345 by rw [e1401]; rfl)
                    obtain ⟨b1411, o1412, k1413, n1414, w1415⟩ := gO_12_29 L k_a0
                    obtain rfl := gS_12_29 L k_a0 o1412
                    refine ok_at o1412 ?_
                    have t1416 := ti_tn vx1375
                    refine ok_gd (fun hc1417 => ?_) ?_
                    · rcases hc1417 with hc1417 | hc1417
                      · have c1418 : vx1375.toInt < (0 : Int) := o_lt hc1417
                        omega
                      · omega
                    refine ok_bdv (fun d1419 e1420 => ?_)
                    have i1421 : RI ad h.1 δ0 d1419 := by rw [e1420]; exact RI.sR L i1402 w1415
                    have u1422 := kp_N u1408 (show q_I d1419 = q_I d1400 by rw [e1420]; rfl)
                    have v1423 : q_V d1419 = q_V δ := ((show q_V d1419 = q_V d1400 by rw [e1420]; rfl)).trans v1409
                    have v1424 := kr_s L (by decide) v1410 e1420
                    refine ok_ite (fun h1425 => ?_) (fun h1425 => ?_)
                    · have c1426 : r123.1.toInt = (5 : Int) := o_eq h1425
                      obtain ⟨b1427, o1428, k1429, n1430, w1431⟩ := gO_12_30 L k_a0
                      obtain rfl := gS_12_30 L k_a0 o1428
                      refine ok_at o1428 ?_
                      refine ok_bind (k_X12_readNumber L hN (a0 := a0) (x1 := (1 : Int32)) (x2 := (99 : Int32)) k_a0 i1421) (fun r1432 hr1433 => ?_)
                      obtain ⟨i1434, ⟨u1441, u1442, u1443, u1444⟩, p1435, p1436, p1437, p1438, p1439, p1440⟩ := hr1433
                      have u1445 := kp_t u1422 u1441
                      have v1446 : q_V r1432.2 = q_V δ := (u1442).trans v1423
                      have v1447 := kr_t v1424 u1444
                      have f1448 := cb_12_4 i1421 k_a0
                      have f1449 : (q_I d1419 12 4 a0).toInt = (q_I d1400 12 4 a0).toInt := congrArg Int32.toInt (by rw [e1420]; rfl)
                      have f1450 := cb_12_4 i1402 k_a0
                      have f1451 : (q_I d1400 12 4 a0).toInt = (q_I r1345 12 4 a0).toInt := congrArg Int32.toInt (by rw [e1401]; exact rI_o (by decide))
                      have f1452 := cb_12_4 i1434 k_a0
                      have f1453 := ti_b (q_I d1419 12 5 a0)
                      have f1454 : (q_I d1419 12 5 a0).toInt = (q_I d1400 12 5 a0).toInt := congrArg Int32.toInt (by rw [e1420]; rfl)
                      have f1455 := ti_b (q_I d1400 12 5 a0)
                      have f1456 : (q_I d1400 12 5 a0).toInt = (q_I r1345 12 5 a0).toInt := congrArg Int32.toInt (by rw [e1401]; exact rI_o (by decide))
                      have f1457 := ti_b (q_I r1345 12 5 a0)
                      have f1458 : (q_I r1345 12 5 a0).toInt = (q_I r1301 12 5 a0).toInt := congrArg Int32.toInt (u1350 12 5 a0 (by decide))
                      have f1459 := ti_b (q_I r1432.2 12 5 a0)
                      have f1460 := ti_b r1432.1
                      replace p1440 : ((q_I r1432.2 12 5 a0).toInt = -1 → (1 : Int) ≤ (r1432.1).toInt ∧ (r1432.1).toInt ≤ (99 : Int)) := p1440
                      have f1461 := ti_b r1432.1
                      refine ok_gd (fun hc1462 => ?_) ?_
                      · rcases hc1462 with hc1462 | hc1462
                        · have c1463 : vx1375.toInt < (0 : Int) := o_lt hc1462
                          omega
                        · omega
                      refine ok_bdv (fun d1464 e1465 => ?_)
                      have i1466 : RI ad h.1 δ0 d1464 := by rw [e1465]; exact RI.sR L i1434 w1431
                      have u1467 := kp_N u1445 (show q_I d1464 = q_I r1432.2 by rw [e1465]; rfl)
                      have v1468 : q_V d1464 = q_V δ := ((show q_V d1464 = q_V r1432.2 by rw [e1465]; rfl)).trans v1446
                      have v1469 := kr_s L (by decide) v1447 e1465
                      refine ok_bind (k_X12_sign L hN (a0 := a0) (x1 := (91 : Int32)) k_a0 (show (91 : Int) ≠ 0 by first | assumption | omega) i1466) (fun r1470 hr1471 => ?_)
                      obtain ⟨i1472, ⟨u1476, u1477, u1478, u1479⟩, p1473, p1474, p1475⟩ := hr1471
                      have u1480 := kp_t u1467 u1476
                      have v1481 : q_V r1470 = q_V δ := (u1477).trans v1468
                      have v1482 := kr_t v1469 u1479
                      have f1483 := cb_12_4 i1466 k_a0
                      have f1484 : (q_I d1464 12 4 a0).toInt = (q_I r1432.2 12 4 a0).toInt := congrArg Int32.toInt (by rw [e1465]; rfl)
                      have f1485 := cb_12_4 i1472 k_a0
                      have f1486 := ti_b (q_I d1464 12 5 a0)
                      have f1487 : (q_I d1464 12 5 a0).toInt = (q_I r1432.2 12 5 a0).toInt := congrArg Int32.toInt (by rw [e1465]; rfl)
                      have f1488 := ti_b (q_I r1470 12 5 a0)
                      have f1492 := cb_12_27 i1472 k_a0
                      have f1493 : (q_I r1470 12 27 a0).toInt = (q_I d1464 12 27 a0).toInt := congrArg Int32.toInt (u1476 12 27 a0 (by decide))
                      have f1494 := cb_12_27 i1466 k_a0
                      have f1495 : (q_I d1464 12 27 a0).toInt = (q_I r1432.2 12 27 a0).toInt := congrArg Int32.toInt (by rw [e1465]; rfl)
                      have f1496 := cb_12_27 i1434 k_a0
                      have f1497 : (q_I r1432.2 12 27 a0).toInt = (q_I d1419 12 27 a0).toInt := congrArg Int32.toInt (u1441 12 27 a0 (by decide))
                      have f1498 := cb_12_27 i1421 k_a0
                      have f1499 : (q_I d1419 12 27 a0).toInt = (q_I d1400 12 27 a0).toInt := congrArg Int32.toInt (by rw [e1420]; rfl)
                      have f1500 := cb_12_27 i1402 k_a0
                      have f1501 : (q_I d1400 12 27 a0).toInt = (q_I r1345 12 27 a0).toInt := congrArg Int32.toInt (by rw [e1401]; exact rI_o (by decide))
                      have f1502 := cb_12_27 i1347 k_a0
                      have f1503 : (q_I r1345 12 27 a0).toInt = (q_I r1301 12 27 a0).toInt := congrArg Int32.toInt (u1350 12 27 a0 (by decide))
                      have f1504 := cb_12_27 i1303 k_a0
                      have f1505 : (q_I r1301 12 27 a0).toInt = (q_I r97.2 12 27 a0).toInt := congrArg Int32.toInt (u1305 12 27 a0 (by decide))
                      first | (have q1507 := te_addc (c := 1) (n := 1) rfl (q_I r1470 12 27 a0) (by omega) (by omega); obtain ⟨f1508, f1509, f1510⟩ := q1507) | (obtain ⟨q1507, f1508, f1509, f1510⟩ := ti_addc (c := 1) (n := 1) rfl (q_I r1470 12 27 a0))
                      refine ok_bdv (fun d1489 e1490 => ?_)
                      have i1491 : RI ad h.1 δ0 d1489 := by rw [e1490]; exact cs_12_27 L i1472 k_a0 (show 0 ≤ ((q_I r1470 12 27 a0) + (1 : Int32)).toInt by omega) (show ((q_I r1470 12 27 a0) + (1 : Int32)).toInt ≤ 3 by omega)
                      have u1511 := kp_I u1480 e1490
                      have v1512 : q_V d1489 = q_V δ := ((show q_V d1489 = q_V r1470 by rw [e1490]; rfl)).trans v1481
                      have v1513 := kr_N v1482 (show q_R d1489 = q_R r1470 by rw [e1490]; rfl)
                      have f1516 := cb_12_24 i1491 k_a0
                      have f1517 : (q_I d1489 12 24 a0).toInt = (q_I r1470 12 24 a0).toInt := congrArg Int32.toInt (by rw [e1490]; exact rI_o (by decide))
                      have f1518 := cb_12_24 i1472 k_a0
                      have f1519 : (q_I r1470 12 24 a0).toInt = (q_I d1464 12 24 a0).toInt := congrArg Int32.toInt (u1476 12 24 a0 (by decide))
                      have f1520 := cb_12_24 i1466 k_a0
                      have f1521 : (q_I d1464 12 24 a0).toInt = (q_I r1432.2 12 24 a0).toInt := congrArg Int32.toInt (by rw [e1465]; rfl)
                      have f1522 := cb_12_24 i1434 k_a0
                      have f1523 : (q_I r1432.2 12 24 a0).toInt = (q_I d1419 12 24 a0).toInt := congrArg Int32.toInt (u1441 12 24 a0 (by decide))
                      have f1524 := cb_12_24 i1421 k_a0
                      have f1525 : (q_I d1419 12 24 a0).toInt = (q_I d1400 12 24 a0).toInt := congrArg Int32.toInt (by rw [e1420]; rfl)
                      have f1526 := cb_12_24 i1402 k_a0
                      have f1527 : (q_I d1400 12 24 a0).toInt = (q_I r1345 12 24 a0).toInt := congrArg Int32.toInt (by rw [e1401]; exact rI_o (by decide))
                      have f1528 := cb_12_26 i1491 k_a0
                      have f1529 : (q_I d1489 12 26 a0).toInt = (q_I r1470 12 26 a0).toInt := congrArg Int32.toInt (by rw [e1490]; exact rI_o (by decide))
                      have f1530 := cb_12_26 i1472 k_a0
                      have f1531 : (q_I r1470 12 26 a0).toInt = (q_I d1464 12 26 a0).toInt := congrArg Int32.toInt (u1476 12 26 a0 (by decide))
                      have f1532 := cb_12_26 i1466 k_a0
                      have f1533 : (q_I d1464 12 26 a0).toInt = (q_I r1432.2 12 26 a0).toInt := congrArg Int32.toInt (by rw [e1465]; rfl)
                      have f1534 := cb_12_26 i1434 k_a0
                      have f1535 : (q_I r1432.2 12 26 a0).toInt = (q_I d1419 12 26 a0).toInt := congrArg Int32.toInt (u1441 12 26 a0 (by decide))
                      have f1536 := cb_12_26 i1421 k_a0
                      have f1537 : (q_I d1419 12 26 a0).toInt = (q_I d1400 12 26 a0).toInt := congrArg Int32.toInt (by rw [e1420]; rfl)
                      have f1538 := cb_12_26 i1402 k_a0
                      have f1539 : (q_I d1400 12 26 a0).toInt = (q_I r1345 12 26 a0).toInt := congrArg Int32.toInt (by rw [e1401]; exact rI_o (by decide))
                      have f1540 := cb_12_26 i1347 k_a0
                      have f1541 : (q_I r1345 12 26 a0).toInt = (q_I r1301 12 26 a0).toInt := congrArg Int32.toInt (u1350 12 26 a0 (by decide))
                      have f1542 := cb_12_26 i1303 k_a0
                      have f1543 : (q_I r1301 12 26 a0).toInt = (q_I r97.2 12 26 a0).toInt := congrArg Int32.toInt (u1305 12 26 a0 (by decide))
                      have f1544 := cb_12_26 i99 k_a0
                      have f1545 : (q_I r97.2 12 26 a0).toInt = (q_I r48.2 12 26 a0).toInt := congrArg Int32.toInt (u102 12 26 a0 (by decide))
                      have f1546 := cb_12_26 i50 k_a0
                      have f1547 : (q_I r48.2 12 26 a0).toInt = (q_I r19.2 12 26 a0).toInt := congrArg Int32.toInt (u54 12 26 a0 (by decide))
                      have f1548 := cb_12_26 i21 k_a0
                      have f1549 : (q_I r19.2 12 26 a0).toInt = (q_I δ 12 26 a0).toInt := congrArg Int32.toInt (u25 12 26 a0 (by decide))
                      have f1550 := cb_12_4 i1491 k_a0
                      have f1551 : (q_I d1489 12 4 a0).toInt = (q_I r1470 12 4 a0).toInt := congrArg Int32.toInt (by rw [e1490]; exact rI_o (by decide))
                      have f1552 := ti_b (q_I d1489 12 7 a0)
                      have f1553 : (q_I d1489 12 7 a0).toInt = (q_I r1470 12 7 a0).toInt := congrArg Int32.toInt (by rw [e1490]; exact rI_o (by decide))
                      have f1554 := ti_b (q_I r1470 12 7 a0)
                      have f1555 : (q_I r1470 12 7 a0).toInt = (q_I d1464 12 7 a0).toInt := congrArg Int32.toInt (u1476 12 7 a0 (by decide))
                      have f1556 := ti_b (q_I d1464 12 7 a0)
                      have f1557 : (q_I d1464 12 7 a0).toInt = (q_I r1432.2 12 7 a0).toInt := congrArg Int32.toInt (by rw [e1465]; rfl)
                      have f1558 := ti_b (q_I r1432.2 12 7 a0)
                      have f1559 : (q_I r1432.2 12 7 a0).toInt = (q_I d1419 12 7 a0).toInt := congrArg Int32.toInt (u1441 12 7 a0 (by decide))
                      have f1560 := ti_b (q_I d1419 12 7 a0)
                      have f1561 : (q_I d1419 12 7 a0).toInt = (q_I d1400 12 7 a0).toInt := congrArg Int32.toInt (by rw [e1420]; rfl)
                      have f1562 := ti_b (q_I d1400 12 7 a0)
                      have f1563 : (q_I d1400 12 7 a0).toInt = (q_I r1345 12 7 a0).toInt := congrArg Int32.toInt (by rw [e1401]; exact rI_o (by decide))
                      have f1564 := ti_b (q_I r1345 12 7 a0)
                      have f1565 : (q_I r1345 12 7 a0).toInt = (q_I r1301 12 7 a0).toInt := congrArg Int32.toInt (u1350 12 7 a0 (by decide))
                      have f1566 := ti_b (q_I r1301 12 7 a0)
                      have f1567 : (q_I r1301 12 7 a0).toInt = (q_I r97.2 12 7 a0).toInt := congrArg Int32.toInt (u1305 12 7 a0 (by decide))
                      have f1568 := ti_b (q_I r97.2 12 7 a0)
                      have f1569 : (q_I r97.2 12 7 a0).toInt = (q_I r48.2 12 7 a0).toInt := congrArg Int32.toInt (u102 12 7 a0 (by decide))
                      have f1570 := ti_b (q_I r48.2 12 7 a0)
                      have f1571 : (q_I r48.2 12 7 a0).toInt = (q_I r19.2 12 7 a0).toInt := congrArg Int32.toInt (u54 12 7 a0 (by decide))
                      have f1572 := ti_b (q_I r19.2 12 7 a0)
                      have f1573 : (q_I r19.2 12 7 a0).toInt = (q_I δ 12 7 a0).toInt := congrArg Int32.toInt (u25 12 7 a0 (by decide))
                      have f1574 := cb_12_27 i1491 k_a0
                      have f1575 : (q_I d1489 12 27 a0).toInt = ((q_I r1470 12 27 a0) + (1 : Int32)).toInt := congrArg Int32.toInt (show q_I d1489 12 27 a0 = ((q_I r1470 12 27 a0) + (1 : Int32)) by rw [e1490]; exact rI_s)
                      refine ok_bind (hT a0 d1489 k_a0 (show (q_I d1489 12 24 a0).toInt ≤ 3 by first | assumption | omega) (show (q_I d1489 12 26 a0).toInt ≤ (q_I d1489 12 4 a0).toInt by first | assumption | omega) (show (q_I d1489 12 7 a0).toInt = 0 by first | assumption | omega) (show 4 - (q_I d1489 12 27 a0).toInt < _ by first | assumption | omega) i1491) (fun r1514 hr1515 => ?_)
                      obtain ⟨i1576, ⟨u1582, u1583, u1584⟩, p1577, p1578, p1579, p1580, p1581⟩ := hr1515
                      have u1585 := kp_t u1511 u1582
                      have v1586 : q_V r1514 = q_V δ := (u1583).trans v1512
                      have v1587 := kr_t v1513 u1584
                      have f1588 := cb_12_4 i1576 k_a0
                      have f1589 := ti_b (q_I d1489 12 5 a0)
                      have f1590 : (q_I d1489 12 5 a0).toInt = (q_I r1470 12 5 a0).toInt := congrArg Int32.toInt (by rw [e1490]; exact rI_o (by decide))
                      have f1591 := ti_b (q_I r1514 12 5 a0)
                      have f1592 := ti_b (q_I r1514 12 7 a0)
                      have f1593 := cb_12_27 i1576 k_a0
                      have f1594 := cb_12_26 i1576 k_a0
                      first | (have q1599 := te_subc (c := 1) (n := 1) rfl (q_I r1514 12 27 a0) (by omega) (by omega); obtain ⟨f1600, f1601, f1602⟩ := q1599) | (obtain ⟨q1599, f1600, f1601, f1602⟩ := ti_subc (c := 1) (n := 1) rfl (q_I r1514 12 27 a0))
                      refine ok_bdv (fun d1595 e1596 => ?_)
                      have i1597 : RI ad h.1 δ0 d1595 := by rw [e1596]; exact cs_12_27 L i1576 k_a0 (show 0 ≤ ((q_I r1514 12 27 a0) - (1 : Int32)).toInt by omega) (show ((q_I r1514 12 27 a0) - (1 : Int32)).toInt ≤ 3 by omega)
                      have u1603 := kp_I u1585 e1596
                      have v1604 : q_V d1595 = q_V δ := ((show q_V d1595 = q_V r1514 by rw [e1596]; rfl)).trans v1586
                      have v1605 := kr_N v1587 (show q_R d1595 = q_R r1514 by rw [e1596]; rfl)
                      refine ok_bind (k_X12_sign L hN (a0 := a0) (x1 := (93 : Int32)) k_a0 (show (93 : Int) ≠ 0 by first | assumption | omega) i1597) (fun r1606 hr1607 => ?_)
                      obtain ⟨i1608, ⟨u1612, u1613, u1614, u1615⟩, p1609, p1610, p1611⟩ := hr1607
                      have u1616 := kp_t u1603 u1612
                      have v1617 : q_V r1606 = q_V δ := (u1613).trans v1604
                      have v1618 := kr_t v1605 u1615
                      have f1619 := cb_12_4 i1597 k_a0
                      have f1620 : (q_I d1595 12 4 a0).toInt = (q_I r1514 12 4 a0).toInt := congrArg Int32.toInt (by rw [e1596]; exact rI_o (by decide))
                      have f1621 := cb_12_4 i1608 k_a0
                      have f1622 := ti_b (q_I d1595 12 5 a0)
                      have f1623 : (q_I d1595 12 5 a0).toInt = (q_I r1514 12 5 a0).toInt := congrArg Int32.toInt (by rw [e1596]; exact rI_o (by decide))
                      have f1624 := ti_b (q_I r1606 12 5 a0)
                      obtain ⟨b1625, o1626, k1627, n1628, w1629⟩ := gO_12_31 L k_a0
                      obtain rfl := gS_12_31 L k_a0 o1626
                      refine ok_at o1626 ?_
                      refine ok_gd (fun hc1630 => ?_) ?_
                      · rcases hc1630 with hc1630 | hc1630
                        · have c1631 : vx1375.toInt < (0 : Int) := o_lt hc1630
                          omega
                        · omega
                      refine ok_bdv (fun d1632 e1633 => ?_)
                      have i1634 : RI ad h.1 δ0 d1632 := by rw [e1633]; exact RI.sR L i1608 w1629
                      have u1635 := kp_N u1616 (show q_I d1632 = q_I r1606 by rw [e1633]; rfl)
                      have v1636 : q_V d1632 = q_V δ := ((show q_V d1632 = q_V r1606 by rw [e1633]; rfl)).trans v1617
                      have v1637 := kr_s L (by decide) v1618 e1633
                      unfold J_X12_readSteps_236
                      have f1638 := cb_12_24 i1634 k_a0
                      have f1639 : (q_I d1632 12 24 a0).toInt = (q_I r1606 12 24 a0).toInt := congrArg Int32.toInt (by rw [e1633]; rfl)
                      have f1640 := cb_12_24 i1608 k_a0
                      have f1641 : (q_I r1606 12 24 a0).toInt = (q_I d1595 12 24 a0).toInt := congrArg Int32.toInt (u1612 12 24 a0 (by decide))
                      have f1642 := cb_12_24 i1597 k_a0
                      have f1643 : (q_I d1595 12 24 a0).toInt = (q_I r1514 12 24 a0).toInt := congrArg Int32.toInt (by rw [e1596]; exact rI_o (by decide))
                      have f1644 := cb_12_24 i1576 k_a0
                      have f1645 : (q_I r1514 12 24 a0).toInt = (q_I d1489 12 24 a0).toInt := congrArg Int32.toInt (u1582 12 24 a0 (by decide))
                      have f1646 := cb_12_26 i1634 k_a0
                      have f1647 : (q_I d1632 12 26 a0).toInt = (q_I r1606 12 26 a0).toInt := congrArg Int32.toInt (by rw [e1633]; rfl)
                      have f1648 := cb_12_26 i1608 k_a0
                      have f1649 : (q_I r1606 12 26 a0).toInt = (q_I d1595 12 26 a0).toInt := congrArg Int32.toInt (u1612 12 26 a0 (by decide))
                      have f1650 := cb_12_26 i1597 k_a0
                      have f1651 : (q_I d1595 12 26 a0).toInt = (q_I r1514 12 26 a0).toInt := congrArg Int32.toInt (by rw [e1596]; exact rI_o (by decide))
                      have f1652 := cb_12_4 i1634 k_a0
                      have f1653 : (q_I d1632 12 4 a0).toInt = (q_I r1606 12 4 a0).toInt := congrArg Int32.toInt (by rw [e1633]; rfl)
                      have f1654 := ti_b (q_I d1632 12 7 a0)
                      have f1655 : (q_I d1632 12 7 a0).toInt = (q_I r1606 12 7 a0).toInt := congrArg Int32.toInt (by rw [e1633]; rfl)
                      have f1656 := ti_b (q_I r1606 12 7 a0)
                      have f1657 : (q_I r1606 12 7 a0).toInt = (q_I d1595 12 7 a0).toInt := congrArg Int32.toInt (u1612 12 7 a0 (by decide))
                      have f1658 := ti_b (q_I d1595 12 7 a0)
                      have f1659 : (q_I d1595 12 7 a0).toInt = (q_I r1514 12 7 a0).toInt := congrArg Int32.toInt (by rw [e1596]; exact rI_o (by decide))
                      have f1660 := cb_12_27 i1634 k_a0
                      have f1661 : (q_I d1632 12 27 a0).toInt = (q_I r1606 12 27 a0).toInt := congrArg Int32.toInt (by rw [e1633]; rfl)
                      have f1662 := cb_12_27 i1608 k_a0
                      have f1663 : (q_I r1606 12 27 a0).toInt = (q_I d1595 12 27 a0).toInt := congrArg Int32.toInt (u1612 12 27 a0 (by decide))
                      have f1664 := cb_12_27 i1597 k_a0
                      have f1665 : (q_I d1595 12 27 a0).toInt = ((q_I r1514 12 27 a0) - (1 : Int32)).toInt := congrArg Int32.toInt (show q_I d1595 12 27 a0 = ((q_I r1514 12 27 a0) - (1 : Int32)) by rw [e1596]; exact rI_s)
                      refine ok_mono (ih d1632 i1634 (show (q_I d1632 12 24 a0).toInt ≤ 3 by first | assumption | omega) (show (q_I d1632 12 26 a0).toInt ≤ (q_I d1632 12 4 a0).toInt by first | assumption | omega) (show (q_I d1632 12 7 a0).toInt = 0 by first | assumption | omega) (show 4 - (q_I d1632 12 27 a0).toInt ≤ K by first | assumption | omega) (show 501 - (q_I d1632 12 4 a0).toInt < _ by omega)) (fun r1666 hr1667 => ?_)
                      obtain ⟨i1668, ⟨u1674, u1675, u1676⟩, p1669, p1670, p1671, p1672, p1673⟩ := hr1667
                      have u1677 := kp_t u1635 u1674
                      have v1678 : q_V r1666 = q_V δ := (u1675).trans v1636
                      have v1679 := kr_t v1637 u1676
                      have f1680 := cb_12_4 i1668 k_a0
                      have f1681 := ti_b (q_I d1632 12 5 a0)
                      have f1682 : (q_I d1632 12 5 a0).toInt = (q_I r1606 12 5 a0).toInt := congrArg Int32.toInt (by rw [e1633]; rfl)
                      have f1683 := ti_b (q_I r1666 12 5 a0)
                      have f1684 := ti_b (q_I r1666 12 7 a0)
                      have f1685 := cb_12_27 i1668 k_a0
                      have f1686 := cb_12_26 i1668 k_a0
                      exact ⟨by assumption, ⟨kp_w (by decide) u1677, v1678, kr_w (by decide) v1679⟩, by first | assumption | omega, by first | assumption | omega, by first | assumption | omega, by first | assumption | omega, by first | assumption | omega⟩
                    · have c1687 : r123.1.toInt ≠ (5 : Int) := o_ne h1425
                      obtain ⟨b1688, o1689, k1690, n1691, w1692⟩ := gO_12_30 L k_a0
                      obtain rfl := gS_12_30 L k_a0 o1689
                      refine ok_at o1689 ?_
                      refine ok_gd (fun hc1693 => ?_) ?_
                      · rcases hc1693 with hc1693 | hc1693
                        · have c1694 : vx1375.toInt < (0 : Int) := o_lt hc1693
                          omega
                        · omega
                      refine ok_bdv (fun d1695 e1696 => ?_)
                      have i1697 : RI ad h.1 δ0 d1695 := by rw [e1696]; exact RI.sR L i1421 w1692
                      have u1698 := kp_N u1422 (show q_I d1695 = q_I d1419 by rw [e1696]; rfl)
                      have v1699 : q_V d1695 = q_V δ := ((show q_V d1695 = q_V d1419 by rw [e1696]; rfl)).trans v1423
                      have v1700 := kr_s L (by decide) v1424 e1696
                      have f1703 := cb_12_24 i1697 k_a0
                      have f1704 : (q_I d1695 12 24 a0).toInt = (q_I d1419 12 24 a0).toInt := congrArg Int32.toInt (by rw [e1696]; rfl)
                      have f1705 := cb_12_24 i1421 k_a0
                      have f1706 : (q_I d1419 12 24 a0).toInt = (q_I d1400 12 24 a0).toInt := congrArg Int32.toInt (by rw [e1420]; rfl)
                      have f1707 := cb_12_24 i1402 k_a0
                      have f1708 : (q_I d1400 12 24 a0).toInt = (q_I r1345 12 24 a0).toInt := congrArg Int32.toInt (by rw [e1401]; exact rI_o (by decide))
                      have f1709 := cb_12_26 i1697 k_a0
                      have f1710 : (q_I d1695 12 26 a0).toInt = (q_I d1419 12 26 a0).toInt := congrArg Int32.toInt (by rw [e1696]; rfl)
                      have f1711 := cb_12_26 i1421 k_a0
                      have f1712 : (q_I d1419 12 26 a0).toInt = (q_I d1400 12 26 a0).toInt := congrArg Int32.toInt (by rw [e1420]; rfl)
                      have f1713 := cb_12_26 i1402 k_a0
                      have f1714 : (q_I d1400 12 26 a0).toInt = (q_I r1345 12 26 a0).toInt := congrArg Int32.toInt (by rw [e1401]; exact rI_o (by decide))
                      have f1715 := cb_12_26 i1347 k_a0
                      have f1716 : (q_I r1345 12 26 a0).toInt = (q_I r1301 12 26 a0).toInt := congrArg Int32.toInt (u1350 12 26 a0 (by decide))
                      have f1717 := cb_12_26 i1303 k_a0
                      have f1718 : (q_I r1301 12 26 a0).toInt = (q_I r97.2 12 26 a0).toInt := congrArg Int32.toInt (u1305 12 26 a0 (by decide))
                      have f1719 := cb_12_26 i99 k_a0
                      have f1720 : (q_I r97.2 12 26 a0).toInt = (q_I r48.2 12 26 a0).toInt := congrArg Int32.toInt (u102 12 26 a0 (by decide))
                      have f1721 := cb_12_26 i50 k_a0
                      have f1722 : (q_I r48.2 12 26 a0).toInt = (q_I r19.2 12 26 a0).toInt := congrArg Int32.toInt (u54 12 26 a0 (by decide))
                      have f1723 := cb_12_26 i21 k_a0
                      have f1724 : (q_I r19.2 12 26 a0).toInt = (q_I δ 12 26 a0).toInt := congrArg Int32.toInt (u25 12 26 a0 (by decide))
                      have f1725 := cb_12_4 i1697 k_a0
                      have f1726 : (q_I d1695 12 4 a0).toInt = (q_I d1419 12 4 a0).toInt := congrArg Int32.toInt (by rw [e1696]; rfl)
                      have f1727 := cb_12_4 i1421 k_a0
                      have f1728 : (q_I d1419 12 4 a0).toInt = (q_I d1400 12 4 a0).toInt := congrArg Int32.toInt (by rw [e1420]; rfl)
                      have f1729 := cb_12_4 i1402 k_a0
                      have f1730 : (q_I d1400 12 4 a0).toInt = (q_I r1345 12 4 a0).toInt := congrArg Int32.toInt (by rw [e1401]; exact rI_o (by decide))
                      have f1731 := ti_b (q_I d1695 12 7 a0)
                      have f1732 : (q_I d1695 12 7 a0).toInt = (q_I d1419 12 7 a0).toInt := congrArg Int32.toInt (by rw [e1696]; rfl)
                      have f1733 := ti_b (q_I d1419 12 7 a0)
                      have f1734 : (q_I d1419 12 7 a0).toInt = (q_I d1400 12 7 a0).toInt := congrArg Int32.toInt (by rw [e1420]; rfl)
                      have f1735 := ti_b (q_I d1400 12 7 a0)
                      have f1736 : (q_I d1400 12 7 a0).toInt = (q_I r1345 12 7 a0).toInt := congrArg Int32.toInt (by rw [e1401]; exact rI_o (by decide))
                      have f1737 := ti_b (q_I r1345 12 7 a0)
                      have f1738 : (q_I r1345 12 7 a0).toInt = (q_I r1301 12 7 a0).toInt := congrArg Int32.toInt (u1350 12 7 a0 (by decide))
                      have f1739 := ti_b (q_I r1301 12 7 a0)
                      have f1740 : (q_I r1301 12 7 a0).toInt = (q_I r97.2 12 7 a0).toInt := congrArg Int32.toInt (u1305 12 7 a0 (by decide))
                      have f1741 := ti_b (q_I r97.2 12 7 a0)
                      have f1742 : (q_I r97.2 12 7 a0).toInt = (q_I r48.2 12 7 a0).toInt := congrArg Int32.toInt (u102 12 7 a0 (by decide))
                      have f1743 := ti_b (q_I r48.2 12 7 a0)
                      have f1744 : (q_I r48.2 12 7 a0).toInt = (q_I r19.2 12 7 a0).toInt := congrArg Int32.toInt (u54 12 7 a0 (by decide))
                      have f1745 := ti_b (q_I r19.2 12 7 a0)
                      have f1746 : (q_I r19.2 12 7 a0).toInt = (q_I δ 12 7 a0).toInt := congrArg Int32.toInt (u25 12 7 a0 (by decide))
                      have f1747 := ti_b (q_I d1695 12 5 a0)
                      have f1748 : (q_I d1695 12 5 a0).toInt = (q_I d1419 12 5 a0).toInt := congrArg Int32.toInt (by rw [e1696]; rfl)
                      have f1749 := ti_b (q_I d1419 12 5 a0)
                      have f1750 : (q_I d1419 12 5 a0).toInt = (q_I d1400 12 5 a0).toInt := congrArg Int32.toInt (by rw [e1420]; rfl)
                      have f1751 := ti_b (q_I d1400 12 5 a0)
                      have f1752 : (q_I d1400 12 5 a0).toInt = (q_I r1345 12 5 a0).toInt := congrArg Int32.toInt (by rw [e1401]; exact rI_o (by decide))
                      have f1753 := ti_b (q_I r1345 12 5 a0)
                      have f1754 : (q_I r1345 12 5 a0).toInt = (q_I r1301 12 5 a0).toInt := congrArg Int32.toInt (u1350 12 5 a0 (by decide))
                      refine ok_bind (k_X12_sum L hN (a0 := a0) k_a0 (show (q_I d1695 12 24 a0).toInt ≤ 3 by first | assumption | omega) (show (q_I d1695 12 26 a0).toInt ≤ (q_I d1695 12 4 a0).toInt by first | assumption | omega) (show 0 ≤ (q_I d1695 12 7 a0).toInt by first | assumption | omega) (show (q_I d1695 12 7 a0).toInt ≤ 7 by first | assumption | omega) (show (q_I d1695 12 7 a0).toInt = 7 → (q_I d1695 12 5 a0).toInt ≠ -1 by first | assumption | omega) (show 8 - (q_I d1695 12 7 a0).toInt < 20 by first | assumption | omega) i1697) (fun r1701 hr1702 => ?_)
                      obtain ⟨i1755, ⟨u1762, u1763, u1764⟩, p1756, p1757, p1758, p1759, p1760, p1761⟩ := hr1702
                      have u1765 := kp_t u1698 u1762
                      have v1766 : q_V r1701 = q_V δ := (u1763).trans v1699
                      have v1767 := kr_t v1700 u1764
                      have f1768 := cb_12_4 i1755 k_a0
                      have f1769 := ti_b (q_I r1701 12 5 a0)
                      have f1770 := ti_b (q_I r1701 12 7 a0)
                      have f1771 := cb_12_26 i1755 k_a0
                      obtain ⟨b1772, o1773, k1774, n1775, w1776⟩ := gO_12_31 L k_a0
                      obtain rfl := gS_12_31 L k_a0 o1773
                      refine ok_at o1773 ?_
                      refine ok_gd (fun hc1777 => ?_) ?_
                      · rcases hc1777 with hc1777 | hc1777
                        · have c1778 : vx1375.toInt < (0 : Int) := o_lt hc1777
                          omega
                        · omega
                      refine ok_bdv (fun d1779 e1780 => ?_)
                      have i1781 : RI ad h.1 δ0 d1779 := by rw [e1780]; exact RI.sR L i1755 w1776
                      have u1782 := kp_N u1765 (show q_I d1779 = q_I r1701 by rw [e1780]; rfl)
                      have v1783 : q_V d1779 = q_V δ := ((show q_V d1779 = q_V r1701 by rw [e1780]; rfl)).trans v1766
                      have v1784 := kr_s L (by decide) v1767 e1780
                      refine ok_bind (k_X12_sign L hN (a0 := a0) (x1 := (59 : Int32)) k_a0 (show (59 : Int) ≠ 0 by first | assumption | omega) i1781) (fun r1785 hr1786 => ?_)
                      obtain ⟨i1787, ⟨u1791, u1792, u1793, u1794⟩, p1788, p1789, p1790⟩ := hr1786
                      have u1795 := kp_t u1782 u1791
                      have v1796 : q_V r1785 = q_V δ := (u1792).trans v1783
                      have v1797 := kr_t v1784 u1794
                      have f1798 := cb_12_4 i1781 k_a0
                      have f1799 : (q_I d1779 12 4 a0).toInt = (q_I r1701 12 4 a0).toInt := congrArg Int32.toInt (by rw [e1780]; rfl)
                      have f1800 := cb_12_4 i1787 k_a0
                      have f1801 := ti_b (q_I d1779 12 5 a0)
                      have f1802 : (q_I d1779 12 5 a0).toInt = (q_I r1701 12 5 a0).toInt := congrArg Int32.toInt (by rw [e1780]; rfl)
                      have f1803 := ti_b (q_I r1785 12 5 a0)
                      unfold J_X12_readSteps_236
                      have f1804 := cb_12_24 i1787 k_a0
                      have f1805 : (q_I r1785 12 24 a0).toInt = (q_I d1779 12 24 a0).toInt := congrArg Int32.toInt (u1791 12 24 a0 (by decide))
                      have f1806 := cb_12_24 i1781 k_a0
                      have f1807 : (q_I d1779 12 24 a0).toInt = (q_I r1701 12 24 a0).toInt := congrArg Int32.toInt (by rw [e1780]; rfl)
                      have f1808 := cb_12_24 i1755 k_a0
                      have f1809 : (q_I r1701 12 24 a0).toInt = (q_I d1695 12 24 a0).toInt := congrArg Int32.toInt (u1762 12 24 a0 (by decide))
                      have f1810 := cb_12_26 i1787 k_a0
                      have f1811 : (q_I r1785 12 26 a0).toInt = (q_I d1779 12 26 a0).toInt := congrArg Int32.toInt (u1791 12 26 a0 (by decide))
                      have f1812 := cb_12_26 i1781 k_a0
                      have f1813 : (q_I d1779 12 26 a0).toInt = (q_I r1701 12 26 a0).toInt := congrArg Int32.toInt (by rw [e1780]; rfl)
                      have f1814 := ti_b (q_I r1785 12 7 a0)
                      have f1815 : (q_I r1785 12 7 a0).toInt = (q_I d1779 12 7 a0).toInt := congrArg Int32.toInt (u1791 12 7 a0 (by decide))
                      have f1816 := ti_b (q_I d1779 12 7 a0)
                      have f1817 : (q_I d1779 12 7 a0).toInt = (q_I r1701 12 7 a0).toInt := congrArg Int32.toInt (by rw [e1780]; rfl)
                      have f1818 := cb_12_27 i1787 k_a0
                      have f1819 : (q_I r1785 12 27 a0).toInt = (q_I d1779 12 27 a0).toInt := congrArg Int32.toInt (u1791 12 27 a0 (by decide))
                      have f1820 := cb_12_27 i1781 k_a0
                      have f1821 : (q_I d1779 12 27 a0).toInt = (q_I r1701 12 27 a0).toInt := congrArg Int32.toInt (by rw [e1780]; rfl)
                      have f1822 := cb_12_27 i1755 k_a0
                      have f1823 : (q_I r1701 12 27 a0).toInt = (q_I d1695 12 27 a0).toInt := congrArg Int32.toInt (u1762 12 27 a0 (by decide))
                      have f1824 := cb_12_27 i1697 k_a0
                      have f1825 : (q_I d1695 12 27 a0).toInt = (q_I d1419 12 27 a0).toInt := congrArg Int32.toInt (by rw [e1696]; rfl)
                      have f1826 := cb_12_27 i1421 k_a0
                      have f1827 : (q_I d1419 12 27 a0).toInt = (q_I d1400 12 27 a0).toInt := congrArg Int32.toInt (by rw [e1420]; rfl)
                      have f1828 := cb_12_27 i1402 k_a0
                      have f1829 : (q_I d1400 12 27 a0).toInt = (q_I r1345 12 27 a0).toInt := congrArg Int32.toInt (by rw [e1401]; exact rI_o (by decide))
                      have f1830 := cb_12_27 i1347 k_a0
                      have f1831 : (q_I r1345 12 27 a0).toInt = (q_I r1301 12 27 a0).toInt := congrArg Int32.toInt (u1350 12 27 a0 (by decide))
                      have f1832 := cb_12_27 i1303 k_a0
                      have f1833 : (q_I r1301 12 27 a0).toInt = (q_I r97.2 12 27 a0).toInt := congrArg Int32.toInt (u1305 12 27 a0 (by decide))
                      refine ok_mono (ih r1785 i1787 (show (q_I r1785 12 24 a0).toInt ≤ 3 by first | assumption | omega) (show (q_I r1785 12 26 a0).toInt ≤ (q_I r1785 12 4 a0).toInt by first | assumption | omega) (show (q_I r1785 12 7 a0).toInt = 0 by first | assumption | omega) (show 4 - (q_I r1785 12 27 a0).toInt ≤ K by first | assumption | omega) (show 501 - (q_I r1785 12 4 a0).toInt < _ by omega)) (fun r1834 hr1835 => ?_)
                      obtain ⟨i1836, ⟨u1842, u1843, u1844⟩, p1837, p1838, p1839, p1840, p1841⟩ := hr1835
                      have u1845 := kp_t u1795 u1842
                      have v1846 : q_V r1834 = q_V δ := (u1843).trans v1796
                      have v1847 := kr_t v1797 u1844
                      have f1848 := cb_12_4 i1836 k_a0
                      have f1849 := ti_b (q_I r1834 12 5 a0)
                      have f1850 := ti_b (q_I r1834 12 7 a0)
                      have f1851 := cb_12_27 i1836 k_a0
                      have f1852 := cb_12_26 i1836 k_a0
                      exact ⟨by assumption, ⟨kp_w (by decide) u1845, v1846, kr_w (by decide) v1847⟩, by first | assumption | omega, by first | assumption | omega, by first | assumption | omega, by first | assumption | omega, by first | assumption | omega⟩
                · have c1853 : (q_I r97.2 12 27 a0).toInt ≠ (3 : Int) := o_ne h1299
                  unfold J_X12_readSteps_79
                  refine ok_bind (k_X12_fine L hN (a0 := a0) k_a0 i99) (fun r1854 hr1855 => ?_)
                  obtain ⟨i1856, p1857, p1858, p1859⟩ := hr1855
                  try rw [i1856]
                  have f1860 := bo_t p1857
                  have f1861 := ti_b r1854.1
                  have f1862 := ti_b (q_I r97.2 12 5 a0)
                  have f1863 : (q_I r97.2 12 5 a0).toInt = (q_I r48.2 12 5 a0).toInt := congrArg Int32.toInt (u102 12 5 a0 (by decide))
                  have f1864 := ti_b (q_I r48.2 12 5 a0)
                  have f1865 : (q_I r48.2 12 5 a0).toInt = (q_I r19.2 12 5 a0).toInt := congrArg Int32.toInt (u54 12 5 a0 (by decide))
                  have f1866 := ti_b (q_I r19.2 12 5 a0)
                  have f1867 : (q_I r19.2 12 5 a0).toInt = (q_I δ 12 5 a0).toInt := congrArg Int32.toInt (u25 12 5 a0 (by decide))
                  have f1868 := ti_b r1854.1
                  refine ok_ite (fun h1869 => ?_) (fun h1869 => ?_)
                  · have c1870 : r1854.1.toInt = (0 : Int) := o_eq h1869
                    have f1871 := ti_b (q_I r97.2 12 7 a0)
                    have f1872 : (q_I r97.2 12 7 a0).toInt = (q_I r48.2 12 7 a0).toInt := congrArg Int32.toInt (u102 12 7 a0 (by decide))
                    have f1873 := ti_b (q_I r48.2 12 7 a0)
                    have f1874 : (q_I r48.2 12 7 a0).toInt = (q_I r19.2 12 7 a0).toInt := congrArg Int32.toInt (u54 12 7 a0 (by decide))
                    have f1875 := ti_b (q_I r19.2 12 7 a0)
                    have f1876 : (q_I r19.2 12 7 a0).toInt = (q_I δ 12 7 a0).toInt := congrArg Int32.toInt (u25 12 7 a0 (by decide))
                    have f1877 := cb_12_26 i99 k_a0
                    have f1878 : (q_I r97.2 12 26 a0).toInt = (q_I r48.2 12 26 a0).toInt := congrArg Int32.toInt (u102 12 26 a0 (by decide))
                    have f1879 := cb_12_26 i50 k_a0
                    have f1880 : (q_I r48.2 12 26 a0).toInt = (q_I r19.2 12 26 a0).toInt := congrArg Int32.toInt (u54 12 26 a0 (by decide))
                    have f1881 := cb_12_26 i21 k_a0
                    have f1882 : (q_I r19.2 12 26 a0).toInt = (q_I δ 12 26 a0).toInt := congrArg Int32.toInt (u25 12 26 a0 (by decide))
                    exact ok_some (show RI ad h.1 δ0 r97.2 ∧ (kp [(12, 4), (12, 5), (12, 6), (12, 7), (12, 25), (12, 26), (12, 27)] δ r97.2 ∧ q_V r97.2 = q_V δ ∧ kr ad [113, 114, 115, 116, 117] δ r97.2) ∧ (q_I δ 12 4 a0).toInt ≤ (q_I r97.2 12 4 a0).toInt ∧ ((q_I δ 12 5 a0).toInt ≠ -1 → (q_I r97.2 12 5 a0).toInt ≠ -1) ∧ (q_I r97.2 12 7 a0).toInt = (q_I δ 12 7 a0).toInt ∧ (q_I r97.2 12 27 a0).toInt = (q_I δ 12 27 a0).toInt ∧ (q_I r97.2 12 26 a0).toInt ≤ (q_I r97.2 12 4 a0).toInt from ⟨i99, ⟨kp_w (by decide) u106, v107, kr_w (by decide) v108⟩, by first | assumption | omega, by first | assumption | omega, by first | assumption | omega, by first | assumption | omega, by first | assumption | omega⟩)
                  · have c1883 : r1854.1.toInt ≠ (0 : Int) := o_ne h1869
                    refine ok_bind (k_X12_pass L hN (a0 := a0) k_a0 i99) (fun r1884 hr1885 => ?_)
                    obtain ⟨i1886, ⟨u1889, u1890, u1891, u1892⟩, p1887, p1888⟩ := hr1885
                    have u1893 := kp_t u106 u1889
                    have v1894 : q_V r1884 = q_V δ := (u1890).trans v107
                    have v1895 := kr_t v108 u1892
                    have f1896 := cb_12_4 i1886 k_a0
                    have f1897 := cb_12_3 i99 k_a0
                    have f1898 : (q_I r97.2 12 3 a0).toInt = (q_I r48.2 12 3 a0).toInt := congrArg Int32.toInt (u102 12 3 a0 (by decide))
                    have f1902 := cb_12_24 i1886 k_a0
                    have f1903 : (q_I r1884 12 24 a0).toInt = (q_I r97.2 12 24 a0).toInt := congrArg Int32.toInt (u1889 12 24 a0 (by decide))
                    have f1904 := cb_12_24 i99 k_a0
                    have f1905 : (q_I r97.2 12 24 a0).toInt = (q_I r48.2 12 24 a0).toInt := congrArg Int32.toInt (u102 12 24 a0 (by decide))
                    have f1906 := cb_12_24 i50 k_a0
                    have f1907 : (q_I r48.2 12 24 a0).toInt = (q_I r19.2 12 24 a0).toInt := congrArg Int32.toInt (u54 12 24 a0 (by decide))
                    have f1908 := cb_12_24 i21 k_a0
                    have f1909 : (q_I r19.2 12 24 a0).toInt = (q_I δ 12 24 a0).toInt := congrArg Int32.toInt (u25 12 24 a0 (by decide))
                    first | (have q1910 := te_mulc (c := 60) (n := 60) rfl (q_I r1884 12 24 a0) (by omega) (by omega); obtain ⟨f1911, f1912, f1913⟩ := q1910) | (obtain ⟨q1910, f1911, f1912, f1913⟩ := ti_mulc (c := 60) (n := 60) rfl (q_I r1884 12 24 a0))
                    have f1914 := cb_12_25 i1886 k_a0
                    have f1915 : (q_I r1884 12 25 a0).toInt = (q_I r97.2 12 25 a0).toInt := congrArg Int32.toInt (u1889 12 25 a0 (by decide))
                    refine ok_biv (fun vx1899 e1900 => ?_)
                    first | (have q1916 := te_add ((60 : Int32) * (q_I r1884 12 24 a0)) (q_I r1884 12 25 a0) (by omega) (by omega); rw [← e1900] at q1916; obtain ⟨f1917, f1918, f1919⟩ := q1916) | (obtain ⟨q1916, f1917, f1918, f1919⟩ : ∃ q : Int, vx1899.toInt = ((60 : Int32) * (q_I r1884 12 24 a0)).toInt + (q_I r1884 12 25 a0).toInt + 4294967296 * q ∧ -2147483648 ≤ vx1899.toInt ∧ vx1899.toInt ≤ 2147483647 := by rw [e1900]; exact ti_add ((60 : Int32) * (q_I r1884 12 24 a0)) (q_I r1884 12 25 a0))
                    first | (have q1924 := te_addc (c := 1) (n := 1) rfl (q_I r1884 12 25 a0) (by omega) (by omega); obtain ⟨f1925, f1926, f1927⟩ := q1924) | (obtain ⟨q1924, f1925, f1926, f1927⟩ := ti_addc (c := 1) (n := 1) rfl (q_I r1884 12 25 a0))
                    refine ok_bdv (fun d1920 e1921 => ?_)
                    have i1922 : RI ad h.1 δ0 d1920 := by rw [e1921]; exact cs_12_25 L i1886 k_a0 (show 0 ≤ ((q_I r1884 12 25 a0) + (1 : Int32)).toInt by omega) (show ((q_I r1884 12 25 a0) + (1 : Int32)).toInt ≤ 60 by omega)
                    have u1928 := kp_I u1893 e1921
                    have v1929 : q_V d1920 = q_V δ := ((show q_V d1920 = q_V r1884 by rw [e1921]; rfl)).trans v1894
                    have v1930 := kr_N v1895 (show q_R d1920 = q_R r1884 by rw [e1921]; rfl)
                    obtain ⟨b1931, o1932, k1933, n1934, w1935⟩ := gO_12_29 L k_a0
                    obtain rfl := gS_12_29 L k_a0 o1932
                    refine ok_at o1932 ?_
                    have t1936 := ti_tn vx1899
                    refine ok_gd (fun hc1937 => ?_) ?_
                    · rcases hc1937 with hc1937 | hc1937
                      · have c1938 : vx1899.toInt < (0 : Int) := o_lt hc1937
                        omega
                      · omega
                    refine ok_bdv (fun d1939 e1940 => ?_)
                    have i1941 : RI ad h.1 δ0 d1939 := by rw [e1940]; exact RI.sR L i1922 w1935
                    have u1942 := kp_N u1928 (show q_I d1939 = q_I d1920 by rw [e1940]; rfl)
                    have v1943 : q_V d1939 = q_V δ := ((show q_V d1939 = q_V d1920 by rw [e1940]; rfl)).trans v1929
                    have v1944 := kr_s L (by decide) v1930 e1940
                    refine ok_ite (fun h1945 => ?_) (fun h1945 => ?_)
                    · have c1946 : r123.1.toInt = (5 : Int) := o_eq h1945
                      obtain ⟨b1947, o1948, k1949, n1950, w1951⟩ := gO_12_30 L k_a0
                      obtain rfl := gS_12_30 L k_a0 o1948
                      refine ok_at o1948 ?_
                      refine ok_bind (k_X12_readNumber L hN (a0 := a0) (x1 := (1 : Int32)) (x2 := (99 : Int32)) k_a0 i1941) (fun r1952 hr1953 => ?_)
                      obtain ⟨i1954, ⟨u1961, u1962, u1963, u1964⟩, p1955, p1956, p1957, p1958, p1959, p1960⟩ := hr1953
                      have u1965 := kp_t u1942 u1961
                      have v1966 : q_V r1952.2 = q_V δ := (u1962).trans v1943
                      have v1967 := kr_t v1944 u1964
                      have f1968 := cb_12_4 i1941 k_a0
                      have f1969 : (q_I d1939 12 4 a0).toInt = (q_I d1920 12 4 a0).toInt := congrArg Int32.toInt (by rw [e1940]; rfl)
                      have f1970 := cb_12_4 i1922 k_a0
                      have f1971 : (q_I d1920 12 4 a0).toInt = (q_I r1884 12 4 a0).toInt := congrArg Int32.toInt (by rw [e1921]; exact rI_o (by decide))
                      have f1972 := cb_12_4 i1954 k_a0
                      have f1973 := ti_b (q_I d1939 12 5 a0)
                      have f1974 : (q_I d1939 12 5 a0).toInt = (q_I d1920 12 5 a0).toInt := congrArg Int32.toInt (by rw [e1940]; rfl)
                      have f1975 := ti_b (q_I d1920 12 5 a0)
                      have f1976 : (q_I d1920 12 5 a0).toInt = (q_I r1884 12 5 a0).toInt := congrArg Int32.toInt (by rw [e1921]; exact rI_o (by decide))
                      have f1977 := ti_b (q_I r1884 12 5 a0)
                      have f1978 : (q_I r1884 12 5 a0).toInt = (q_I r97.2 12 5 a0).toInt := congrArg Int32.toInt (u1889 12 5 a0 (by decide))
                      have f1979 := ti_b (q_I r1952.2 12 5 a0)
                      have f1980 := ti_b r1952.1
                      replace p1960 : ((q_I r1952.2 12 5 a0).toInt = -1 → (1 : Int) ≤ (r1952.1).toInt ∧ (r1952.1).toInt ≤ (99 : Int)) := p1960
                      have f1981 := ti_b r1952.1
                      refine ok_gd (fun hc1982 => ?_) ?_
                      · rcases hc1982 with hc1982 | hc1982
                        · have c1983 : vx1899.toInt < (0 : Int) := o_lt hc1982
                          omega
                        · omega
                      refine ok_bdv (fun d1984 e1985 => ?_)
                      have i1986 : RI ad h.1 δ0 d1984 := by rw [e1985]; exact RI.sR L i1954 w1951
                      have u1987 := kp_N u1965 (show q_I d1984 = q_I r1952.2 by rw [e1985]; rfl)
                      have v1988 : q_V d1984 = q_V δ := ((show q_V d1984 = q_V r1952.2 by rw [e1985]; rfl)).trans v1966
                      have v1989 := kr_s L (by decide) v1967 e1985
                      refine ok_bind (k_X12_sign L hN (a0 := a0) (x1 := (91 : Int32)) k_a0 (show (91 : Int) ≠ 0 by first | assumption | omega) i1986) (fun r1990 hr1991 => ?_)
                      obtain ⟨i1992, ⟨u1996, u1997, u1998, u1999⟩, p1993, p1994, p1995⟩ := hr1991
                      have u2000 := kp_t u1987 u1996
                      have v2001 : q_V r1990 = q_V δ := (u1997).trans v1988
                      have v2002 := kr_t v1989 u1999
                      have f2003 := cb_12_4 i1986 k_a0
                      have f2004 : (q_I d1984 12 4 a0).toInt = (q_I r1952.2 12 4 a0).toInt := congrArg Int32.toInt (by rw [e1985]; rfl)
                      have f2005 := cb_12_4 i1992 k_a0
                      have f2006 := ti_b (q_I d1984 12 5 a0)
                      have f2007 : (q_I d1984 12 5 a0).toInt = (q_I r1952.2 12 5 a0).toInt := congrArg Int32.toInt (by rw [e1985]; rfl)
                      have f2008 := ti_b (q_I r1990 12 5 a0)
                      have f2012 := cb_12_27 i1992 k_a0
                      have f2013 : (q_I r1990 12 27 a0).toInt = (q_I d1984 12 27 a0).toInt := congrArg Int32.toInt (u1996 12 27 a0 (by decide))
                      have f2014 := cb_12_27 i1986 k_a0
                      have f2015 : (q_I d1984 12 27 a0).toInt = (q_I r1952.2 12 27 a0).toInt := congrArg Int32.toInt (by rw [e1985]; rfl)
                      have f2016 := cb_12_27 i1954 k_a0
                      have f2017 : (q_I r1952.2 12 27 a0).toInt = (q_I d1939 12 27 a0).toInt := congrArg Int32.toInt (u1961 12 27 a0 (by decide))
                      have f2018 := cb_12_27 i1941 k_a0
                      have f2019 : (q_I d1939 12 27 a0).toInt = (q_I d1920 12 27 a0).toInt := congrArg Int32.toInt (by rw [e1940]; rfl)
                      have f2020 := cb_12_27 i1922 k_a0
                      have f2021 : (q_I d1920 12 27 a0).toInt = (q_I r1884 12 27 a0).toInt := congrArg Int32.toInt (by rw [e1921]; exact rI_o (by decide))
                      have f2022 := cb_12_27 i1886 k_a0
                      have f2023 : (q_I r1884 12 27 a0).toInt = (q_I r97.2 12 27 a0).toInt := congrArg Int32.toInt (u1889 12 27 a0 (by decide))
                      first | (have q2025 := te_addc (c := 1) (n := 1) rfl (q_I r1990 12 27 a0) (by omega) (by omega); obtain ⟨f2026, f2027, f2028⟩ := q2025) | (obtain ⟨q2025, f2026, f2027, f2028⟩ := ti_addc (c := 1) (n := 1) rfl (q_I r1990 12 27 a0))
                      refine ok_bdv (fun d2009 e2010 => ?_)
                      have i2011 : RI ad h.1 δ0 d2009 := by rw [e2010]; exact cs_12_27 L i1992 k_a0 (show 0 ≤ ((q_I r1990 12 27 a0) + (1 : Int32)).toInt by omega) (show ((q_I r1990 12 27 a0) + (1 : Int32)).toInt ≤ 3 by omega)
                      have u2029 := kp_I u2000 e2010
                      have v2030 : q_V d2009 = q_V δ := ((show q_V d2009 = q_V r1990 by rw [e2010]; rfl)).trans v2001
                      have v2031 := kr_N v2002 (show q_R d2009 = q_R r1990 by rw [e2010]; rfl)
                      have f2034 := cb_12_24 i2011 k_a0
                      have f2035 : (q_I d2009 12 24 a0).toInt = (q_I r1990 12 24 a0).toInt := congrArg Int32.toInt (by rw [e2010]; exact rI_o (by decide))
                      have f2036 := cb_12_24 i1992 k_a0
                      have f2037 : (q_I r1990 12 24 a0).toInt = (q_I d1984 12 24 a0).toInt := congrArg Int32.toInt (u1996 12 24 a0 (by decide))
                      have f2038 := cb_12_24 i1986 k_a0
                      have f2039 : (q_I d1984 12 24 a0).toInt = (q_I r1952.2 12 24 a0).toInt := congrArg Int32.toInt (by rw [e1985]; rfl)
                      have f2040 := cb_12_24 i1954 k_a0
                      have f2041 : (q_I r1952.2 12 24 a0).toInt = (q_I d1939 12 24 a0).toInt := congrArg Int32.toInt (u1961 12 24 a0 (by decide))
                      have f2042 := cb_12_24 i1941 k_a0
                      have f2043 : (q_I d1939 12 24 a0).toInt = (q_I d1920 12 24 a0).toInt := congrArg Int32.toInt (by rw [e1940]; rfl)
                      have f2044 := cb_12_24 i1922 k_a0
                      have f2045 : (q_I d1920 12 24 a0).toInt = (q_I r1884 12 24 a0).toInt := congrArg Int32.toInt (by rw [e1921]; exact rI_o (by decide))
                      have f2046 := cb_12_26 i2011 k_a0
                      have f2047 : (q_I d2009 12 26 a0).toInt = (q_I r1990 12 26 a0).toInt := congrArg Int32.toInt (by rw [e2010]; exact rI_o (by decide))
                      have f2048 := cb_12_26 i1992 k_a0
                      have f2049 : (q_I r1990 12 26 a0).toInt = (q_I d1984 12 26 a0).toInt := congrArg Int32.toInt (u1996 12 26 a0 (by decide))
                      have f2050 := cb_12_26 i1986 k_a0
                      have f2051 : (q_I d1984 12 26 a0).toInt = (q_I r1952.2 12 26 a0).toInt := congrArg Int32.toInt (by rw [e1985]; rfl)
                      have f2052 := cb_12_26 i1954 k_a0
                      have f2053 : (q_I r1952.2 12 26 a0).toInt = (q_I d1939 12 26 a0).toInt := congrArg Int32.toInt (u1961 12 26 a0 (by decide))
                      have f2054 := cb_12_26 i1941 k_a0
                      have f2055 : (q_I d1939 12 26 a0).toInt = (q_I d1920 12 26 a0).toInt := congrArg Int32.toInt (by rw [e1940]; rfl)
                      have f2056 := cb_12_26 i1922 k_a0
                      have f2057 : (q_I d1920 12 26 a0).toInt = (q_I r1884 12 26 a0).toInt := congrArg Int32.toInt (by rw [e1921]; exact rI_o (by decide))
                      have f2058 := cb_12_26 i1886 k_a0
                      have f2059 : (q_I r1884 12 26 a0).toInt = (q_I r97.2 12 26 a0).toInt := congrArg Int32.toInt (u1889 12 26 a0 (by decide))
                      have f2060 := cb_12_26 i99 k_a0
                      have f2061 : (q_I r97.2 12 26 a0).toInt = (q_I r48.2 12 26 a0).toInt := congrArg Int32.toInt (u102 12 26 a0 (by decide))
                      have f2062 := cb_12_26 i50 k_a0
                      have f2063 : (q_I r48.2 12 26 a0).toInt = (q_I r19.2 12 26 a0).toInt := congrArg Int32.toInt (u54 12 26 a0 (by decide))
                      have f2064 := cb_12_26 i21 k_a0
                      have f2065 : (q_I r19.2 12 26 a0).toInt = (q_I δ 12 26 a0).toInt := congrArg Int32.toInt (u25 12 26 a0 (by decide))
                      have f2066 := cb_12_4 i2011 k_a0
                      have f2067 : (q_I d2009 12 4 a0).toInt = (q_I r1990 12 4 a0).toInt := congrArg Int32.toInt (by rw [e2010]; exact rI_o (by decide))
                      have f2068 := ti_b (q_I d2009 12 7 a0)
                      have f2069 : (q_I d2009 12 7 a0).toInt = (q_I r1990 12 7 a0).toInt := congrArg Int32.toInt (by rw [e2010]; exact rI_o (by decide))
                      have f2070 := ti_b (q_I r1990 12 7 a0)
                      have f2071 : (q_I r1990 12 7 a0).toInt = (q_I d1984 12 7 a0).toInt := congrArg Int32.toInt (u1996 12 7 a0 (by decide))
                      have f2072 := ti_b (q_I d1984 12 7 a0)
                      have f2073 : (q_I d1984 12 7 a0).toInt = (q_I r1952.2 12 7 a0).toInt := congrArg Int32.toInt (by rw [e1985]; rfl)
                      have f2074 := ti_b (q_I r1952.2 12 7 a0)
                      have f2075 : (q_I r1952.2 12 7 a0).toInt = (q_I d1939 12 7 a0).toInt := congrArg Int32.toInt (u1961 12 7 a0 (by decide))
                      have f2076 := ti_b (q_I d1939 12 7 a0)
                      have f2077 : (q_I d1939 12 7 a0).toInt = (q_I d1920 12 7 a0).toInt := congrArg Int32.toInt (by rw [e1940]; rfl)
                      have f2078 := ti_b (q_I d1920 12 7 a0)
                      have f2079 : (q_I d1920 12 7 a0).toInt = (q_I r1884 12 7 a0).toInt := congrArg Int32.toInt (by rw [e1921]; exact rI_o (by decide))
                      have f2080 := ti_b (q_I r1884 12 7 a0)
                      have f2081 : (q_I r1884 12 7 a0).toInt = (q_I r97.2 12 7 a0).toInt := congrArg Int32.toInt (u1889 12 7 a0 (by decide))
                      have f2082 := ti_b (q_I r97.2 12 7 a0)
                      have f2083 : (q_I r97.2 12 7 a0).toInt = (q_I r48.2 12 7 a0).toInt := congrArg Int32.toInt (u102 12 7 a0 (by decide))
                      have f2084 := ti_b (q_I r48.2 12 7 a0)
                      have f2085 : (q_I r48.2 12 7 a0).toInt = (q_I r19.2 12 7 a0).toInt := congrArg Int32.toInt (u54 12 7 a0 (by decide))
                      have f2086 := ti_b (q_I r19.2 12 7 a0)
                      have f2087 : (q_I r19.2 12 7 a0).toInt = (q_I δ 12 7 a0).toInt := congrArg Int32.toInt (u25 12 7 a0 (by decide))
                      have f2088 := cb_12_27 i2011 k_a0
                      have f2089 : (q_I d2009 12 27 a0).toInt = ((q_I r1990 12 27 a0) + (1 : Int32)).toInt := congrArg Int32.toInt (show q_I d2009 12 27 a0 = ((q_I r1990 12 27 a0) + (1 : Int32)) by rw [e2010]; exact rI_s)
                      refine ok_bind (hT a0 d2009 k_a0 (show (q_I d2009 12 24 a0).toInt ≤ 3 by first | assumption | omega) (show (q_I d2009 12 26 a0).toInt ≤ (q_I d2009 12 4 a0).toInt by first | assumption | omega) (show (q_I d2009 12 7 a0).toInt = 0 by first | assumption | omega) (show 4 - (q_I d2009 12 27 a0).toInt < _ by first | assumption | omega) i2011) (fun r2032 hr2033 => ?_)
                      obtain ⟨i2090, ⟨u2096, u2097, u2098⟩, p2091, p2092, p2093, p2094, p2095⟩ := hr2033
                      have u2099 := kp_t u2029 u2096
                      have v2100 : q_V r2032 = q_V δ := (u2097).trans v2030
                      have v2101 := kr_t v2031 u2098
                      have f2102 := cb_12_4 i2090 k_a0
                      have f2103 := ti_b (q_I d2009 12 5 a0)
                      have f2104 : (q_I d2009 12 5 a0).toInt = (q_I r1990 12 5 a0).toInt := congrArg Int32.toInt (by rw [e2010]; exact rI_o (by decide))
                      have f2105 := ti_b (q_I r2032 12 5 a0)
                      have f2106 := ti_b (q_I r2032 12 7 a0)
                      have f2107 := cb_12_27 i2090 k_a0
                      have f2108 := cb_12_26 i2090 k_a0
                      first | (have q2113 := te_subc (c := 1) (n := 1) rfl (q_I r2032 12 27 a0) (by omega) (by omega); obtain ⟨f2114, f2115, f2116⟩ := q2113) | (obtain ⟨q2113, f2114, f2115, f2116⟩ := ti_subc (c := 1) (n := 1) rfl (q_I r2032 12 27 a0))
                      refine ok_bdv (fun d2109 e2110 => ?_)
                      have i2111 : RI ad h.1 δ0 d2109 := by rw [e2110]; exact cs_12_27 L i2090 k_a0 (show 0 ≤ ((q_I r2032 12 27 a0) - (1 : Int32)).toInt by omega) (show ((q_I r2032 12 27 a0) - (1 : Int32)).toInt ≤ 3 by omega)
                      have u2117 := kp_I u2099 e2110
                      have v2118 : q_V d2109 = q_V δ := ((show q_V d2109 = q_V r2032 by rw [e2110]; rfl)).trans v2100
                      have v2119 := kr_N v2101 (show q_R d2109 = q_R r2032 by rw [e2110]; rfl)
                      refine ok_bind (k_X12_sign L hN (a0 := a0) (x1 := (93 : Int32)) k_a0 (show (93 : Int) ≠ 0 by first | assumption | omega) i2111) (fun r2120 hr2121 => ?_)
                      obtain ⟨i2122, ⟨u2126, u2127, u2128, u2129⟩, p2123, p2124, p2125⟩ := hr2121
                      have u2130 := kp_t u2117 u2126
                      have v2131 : q_V r2120 = q_V δ := (u2127).trans v2118
                      have v2132 := kr_t v2119 u2129
                      have f2133 := cb_12_4 i2111 k_a0
                      have f2134 : (q_I d2109 12 4 a0).toInt = (q_I r2032 12 4 a0).toInt := congrArg Int32.toInt (by rw [e2110]; exact rI_o (by decide))
                      have f2135 := cb_12_4 i2122 k_a0
                      have f2136 := ti_b (q_I d2109 12 5 a0)
                      have f2137 : (q_I d2109 12 5 a0).toInt = (q_I r2032 12 5 a0).toInt := congrArg Int32.toInt (by rw [e2110]; exact rI_o (by decide))
                      have f2138 := ti_b (q_I r2120 12 5 a0)
                      obtain ⟨b2139, o2140, k2141, n2142, w2143⟩ := gO_12_31 L k_a0
                      obtain rfl := gS_12_31 L k_a0 o2140
                      refine ok_at o2140 ?_
                      refine ok_gd (fun hc2144 => ?_) ?_
                      · rcases hc2144 with hc2144 | hc2144
                        · have c2145 : vx1899.toInt < (0 : Int) := o_lt hc2144
                          omega
                        · omega
                      refine ok_bdv (fun d2146 e2147 => ?_)
                      have i2148 : RI ad h.1 δ0 d2146 := by rw [e2147]; exact RI.sR L i2122 w2143
                      have u2149 := kp_N u2130 (show q_I d2146 = q_I r2120 by rw [e2147]; rfl)
                      have v2150 : q_V d2146 = q_V δ := ((show q_V d2146 = q_V r2120 by rw [e2147]; rfl)).trans v2131
                      have v2151 := kr_s L (by decide) v2132 e2147
                      unfold J_X12_readSteps_236
                      have f2152 := cb_12_24 i2148 k_a0
                      have f2153 : (q_I d2146 12 24 a0).toInt = (q_I r2120 12 24 a0).toInt := congrArg Int32.toInt (by rw [e2147]; rfl)
                      have f2154 := cb_12_24 i2122 k_a0
                      have f2155 : (q_I r2120 12 24 a0).toInt = (q_I d2109 12 24 a0).toInt := congrArg Int32.toInt (u2126 12 24 a0 (by decide))
                      have f2156 := cb_12_24 i2111 k_a0
                      have f2157 : (q_I d2109 12 24 a0).toInt = (q_I r2032 12 24 a0).toInt := congrArg Int32.toInt (by rw [e2110]; exact rI_o (by decide))
                      have f2158 := cb_12_24 i2090 k_a0
                      have f2159 : (q_I r2032 12 24 a0).toInt = (q_I d2009 12 24 a0).toInt := congrArg Int32.toInt (u2096 12 24 a0 (by decide))
                      have f2160 := cb_12_26 i2148 k_a0
                      have f2161 : (q_I d2146 12 26 a0).toInt = (q_I r2120 12 26 a0).toInt := congrArg Int32.toInt (by rw [e2147]; rfl)
                      have f2162 := cb_12_26 i2122 k_a0
                      have f2163 : (q_I r2120 12 26 a0).toInt = (q_I d2109 12 26 a0).toInt := congrArg Int32.toInt (u2126 12 26 a0 (by decide))
                      have f2164 := cb_12_26 i2111 k_a0
                      have f2165 : (q_I d2109 12 26 a0).toInt = (q_I r2032 12 26 a0).toInt := congrArg Int32.toInt (by rw [e2110]; exact rI_o (by decide))
                      have f2166 := cb_12_4 i2148 k_a0
                      have f2167 : (q_I d2146 12 4 a0).toInt = (q_I r2120 12 4 a0).toInt := congrArg Int32.toInt (by rw [e2147]; rfl)
                      have f2168 := ti_b (q_I d2146 12 7 a0)
                      have f2169 : (q_I d2146 12 7 a0).toInt = (q_I r2120 12 7 a0).toInt := congrArg Int32.toInt (by rw [e2147]; rfl)
                      have f2170 := ti_b (q_I r2120 12 7 a0)
                      have f2171 : (q_I r2120 12 7 a0).toInt = (q_I d2109 12 7 a0).toInt := congrArg Int32.toInt (u2126 12 7 a0 (by decide))
                      have f2172 := ti_b (q_I d2109 12 7 a0)
                      have f2173 : (q_I d2109 12 7 a0).toInt = (q_I r2032 12 7 a0).toInt := congrArg Int32.toInt (by rw [e2110]; exact rI_o (by decide))
                      have f2174 := cb_12_27 i2148 k_a0
                      have f2175 : (q_I d2146 12 27 a0).toInt = (q_I r2120 12 27 a0).toInt := congrArg Int32.toInt (by rw [e2147]; rfl)
                      have f2176 := cb_12_27 i2122 k_a0
                      have f2177 : (q_I r2120 12 27 a0).toInt = (q_I d2109 12 27 a0).toInt := congrArg Int32.toInt (u2126 12 27 a0 (by decide))
                      have f2178 := cb_12_27 i2111 k_a0
                      have f2179 : (q_I d2109 12 27 a0).toInt = ((q_I r2032 12 27 a0) - (1 : Int32)).toInt := congrArg Int32.toInt (show q_I d2109 12 27 a0 = ((q_I r2032 12 27 a0) - (1 : Int32)) by rw [e2110]; exact rI_s)
                      refine ok_mono (ih d2146 i2148 (show (q_I d2146 12 24 a0).toInt ≤ 3 by first | assumption | omega) (show (q_I d2146 12 26 a0).toInt ≤ (q_I d2146 12 4 a0).toInt by first | assumption | omega) (show (q_I d2146 12 7 a0).toInt = 0 by first | assumption | omega) (show 4 - (q_I d2146 12 27 a0).toInt ≤ K by first | assumption | omega) (show 501 - (q_I d2146 12 4 a0).toInt < _ by omega)) (fun r2180 hr2181 => ?_)
                      obtain ⟨i2182, ⟨u2188, u2189, u2190⟩, p2183, p2184, p2185, p2186, p2187⟩ := hr2181
                      have u2191 := kp_t u2149 u2188
                      have v2192 : q_V r2180 = q_V δ := (u2189).trans v2150
                      have v2193 := kr_t v2151 u2190
                      have f2194 := cb_12_4 i2182 k_a0
                      have f2195 := ti_b (q_I d2146 12 5 a0)
                      have f2196 : (q_I d2146 12 5 a0).toInt = (q_I r2120 12 5 a0).toInt := congrArg Int32.toInt (by rw [e2147]; rfl)
                      have f2197 := ti_b (q_I r2180 12 5 a0)
                      have f2198 := ti_b (q_I r2180 12 7 a0)
                      have f2199 := cb_12_27 i2182 k_a0
                      have f2200 := cb_12_26 i2182 k_a0
                      exact ⟨by assumption, ⟨kp_w (by decide) u2191, v2192, kr_w (by decide) v2193⟩, by first | assumption | omega, by first | assumption | omega, by first | assumption | omega, by first | assumption | omega, by first | assumption | omega⟩
                    · have c2201 : r123.1.toInt ≠ (5 : Int) := o_ne h1945
                      obtain ⟨b2202, o2203, k2204, n2205, w2206⟩ := gO_12_30 L k_a0
                      obtain rfl := gS_12_30 L k_a0 o2203
                      refine ok_at o2203 ?_
                      refine ok_gd (fun hc2207 => ?_) ?_
                      · rcases hc2207 with hc2207 | hc2207
                        · have c2208 : vx1899.toInt < (0 : Int) := o_lt hc2207
                          omega
                        · omega
                      refine ok_bdv (fun d2209 e2210 => ?_)
                      have i2211 : RI ad h.1 δ0 d2209 := by rw [e2210]; exact RI.sR L i1941 w2206
                      have u2212 := kp_N u1942 (show q_I d2209 = q_I d1939 by rw [e2210]; rfl)
                      have v2213 : q_V d2209 = q_V δ := ((show q_V d2209 = q_V d1939 by rw [e2210]; rfl)).trans v1943
                      have v2214 := kr_s L (by decide) v1944 e2210
                      have f2217 := cb_12_24 i2211 k_a0
                      have f2218 : (q_I d2209 12 24 a0).toInt = (q_I d1939 12 24 a0).toInt := congrArg Int32.toInt (by rw [e2210]; rfl)
                      have f2219 := cb_12_24 i1941 k_a0
                      have f2220 : (q_I d1939 12 24 a0).toInt = (q_I d1920 12 24 a0).toInt := congrArg Int32.toInt (by rw [e1940]; rfl)
                      have f2221 := cb_12_24 i1922 k_a0
                      have f2222 : (q_I d1920 12 24 a0).toInt = (q_I r1884 12 24 a0).toInt := congrArg Int32.toInt (by rw [e1921]; exact rI_o (by decide))
                      have f2223 := cb_12_26 i2211 k_a0
                      have f2224 : (q_I d2209 12 26 a0).toInt = (q_I d1939 12 26 a0).toInt := congrArg Int32.toInt (by rw [e2210]; rfl)
                      have f2225 := cb_12_26 i1941 k_a0
                      have f2226 : (q_I d1939 12 26 a0).toInt = (q_I d1920 12 26 a0).toInt := congrArg Int32.toInt (by rw [e1940]; rfl)
                      have f2227 := cb_12_26 i1922 k_a0
                      have f2228 : (q_I d1920 12 26 a0).toInt = (q_I r1884 12 26 a0).toInt := congrArg Int32.toInt (by rw [e1921]; exact rI_o (by decide))
                      have f2229 := cb_12_26 i1886 k_a0
                      have f2230 : (q_I r1884 12 26 a0).toInt = (q_I r97.2 12 26 a0).toInt := congrArg Int32.toInt (u1889 12 26 a0 (by decide))
                      have f2231 := cb_12_26 i99 k_a0
                      have f2232 : (q_I r97.2 12 26 a0).toInt = (q_I r48.2 12 26 a0).toInt := congrArg Int32.toInt (u102 12 26 a0 (by decide))
                      have f2233 := cb_12_26 i50 k_a0
                      have f2234 : (q_I r48.2 12 26 a0).toInt = (q_I r19.2 12 26 a0).toInt := congrArg Int32.toInt (u54 12 26 a0 (by decide))
                      have f2235 := cb_12_26 i21 k_a0
                      have f2236 : (q_I r19.2 12 26 a0).toInt = (q_I δ 12 26 a0).toInt := congrArg Int32.toInt (u25 12 26 a0 (by decide))
                      have f2237 := cb_12_4 i2211 k_a0
                      have f2238 : (q_I d2209 12 4 a0).toInt = (q_I d1939 12 4 a0).toInt := congrArg Int32.toInt (by rw [e2210]; rfl)
                      have f2239 := cb_12_4 i1941 k_a0
                      have f2240 : (q_I d1939 12 4 a0).toInt = (q_I d1920 12 4 a0).toInt := congrArg Int32.toInt (by rw [e1940]; rfl)
                      have f2241 := cb_12_4 i1922 k_a0
                      have f2242 : (q_I d1920 12 4 a0).toInt = (q_I r1884 12 4 a0).toInt := congrArg Int32.toInt (by rw [e1921]; exact rI_o (by decide))
                      have f2243 := ti_b (q_I d2209 12 7 a0)
                      have f2244 : (q_I d2209 12 7 a0).toInt = (q_I d1939 12 7 a0).toInt := congrArg Int32.toInt (by rw [e2210]; rfl)
                      have f2245 := ti_b (q_I d1939 12 7 a0)
                      have f2246 : (q_I d1939 12 7 a0).toInt = (q_I d1920 12 7 a0).toInt := congrArg Int32.toInt (by rw [e1940]; rfl)
                      have f2247 := ti_b (q_I d1920 12 7 a0)
                      have f2248 : (q_I d1920 12 7 a0).toInt = (q_I r1884 12 7 a0).toInt := congrArg Int32.toInt (by rw [e1921]; exact rI_o (by decide))
                      have f2249 := ti_b (q_I r1884 12 7 a0)
                      have f2250 : (q_I r1884 12 7 a0).toInt = (q_I r97.2 12 7 a0).toInt := congrArg Int32.toInt (u1889 12 7 a0 (by decide))
                      have f2251 := ti_b (q_I r97.2 12 7 a0)
                      have f2252 : (q_I r97.2 12 7 a0).toInt = (q_I r48.2 12 7 a0).toInt := congrArg Int32.toInt (u102 12 7 a0 (by decide))
                      have f2253 := ti_b (q_I r48.2 12 7 a0)
                      have f2254 : (q_I r48.2 12 7 a0).toInt = (q_I r19.2 12 7 a0).toInt := congrArg Int32.toInt (u54 12 7 a0 (by decide))
                      have f2255 := ti_b (q_I r19.2 12 7 a0)
                      have f2256 : (q_I r19.2 12 7 a0).toInt = (q_I δ 12 7 a0).toInt := congrArg Int32.toInt (u25 12 7 a0 (by decide))
                      have f2257 := ti_b (q_I d2209 12 5 a0)
                      have f2258 : (q_I d2209 12 5 a0).toInt = (q_I d1939 12 5 a0).toInt := congrArg Int32.toInt (by rw [e2210]; rfl)
                      have f2259 := ti_b (q_I d1939 12 5 a0)
                      have f2260 : (q_I d1939 12 5 a0).toInt = (q_I d1920 12 5 a0).toInt := congrArg Int32.toInt (by rw [e1940]; rfl)
                      have f2261 := ti_b (q_I d1920 12 5 a0)
                      have f2262 : (q_I d1920 12 5 a0).toInt = (q_I r1884 12 5 a0).toInt := congrArg Int32.toInt (by rw [e1921]; exact rI_o (by decide))
                      have f2263 := ti_b (q_I r1884 12 5 a0)
                      have f2264 : (q_I r1884 12 5 a0).toInt = (q_I r97.2 12 5 a0).toInt := congrArg Int32.toInt (u1889 12 5 a0 (by decide))
                      refine ok_bind (k_X12_sum L hN (a0 := a0) k_a0 (show (q_I d2209 12 24 a0).toInt ≤ 3 by first | assumption | omega) (show (q_I d2209 12 26 a0).toInt ≤ (q_I d2209 12 4 a0).toInt by first | assumption | omega) (show 0 ≤ (q_I d2209 12 7 a0).toInt by first | assumption | omega) (show (q_I d2209 12 7 a0).toInt ≤ 7 by first | assumption | omega) (show (q_I d2209 12 7 a0).toInt = 7 → (q_I d2209 12 5 a0).toInt ≠ -1 by first | assumption | omega) (show 8 - (q_I d2209 12 7 a0).toInt < 20 by first | assumption | omega) i2211) (fun r2215 hr2216 => ?_)
                      obtain ⟨i2265, ⟨u2272, u2273, u2274⟩, p2266, p2267, p2268, p2269, p2270, p2271⟩ := hr2216
                      have u2275 := kp_t u2212 u2272
                      have v2276 : q_V r2215 = q_V δ := (u2273).trans v2213
                      have v2277 := kr_t v2214 u2274
                      have f2278 := cb_12_4 i2265 k_a0
                      have f2279 := ti_b (q_I r2215 12 5 a0)
                      have f2280 := ti_b (q_I r2215 12 7 a0)
                      have f2281 := cb_12_26 i2265 k_a0
                      obtain ⟨b2282, o2283, k2284, n2285, w2286⟩ := gO_12_31 L k_a0
                      obtain rfl := gS_12_31 L k_a0 o2283
                      refine ok_at o2283 ?_
                      refine ok_gd (fun hc2287 => ?_) ?_
                      · rcases hc2287 with hc2287 | hc2287
                        · have c2288 : vx1899.toInt < (0 : Int) := o_lt hc2287
                          omega
                        · omega
                      refine ok_bdv (fun d2289 e2290 => ?_)
                      have i2291 : RI ad h.1 δ0 d2289 := by rw [e2290]; exact RI.sR L i2265 w2286
                      have u2292 := kp_N u2275 (show q_I d2289 = q_I r2215 by rw [e2290]; rfl)
                      have v2293 : q_V d2289 = q_V δ := ((show q_V d2289 = q_V r2215 by rw [e2290]; rfl)).trans v2276
                      have v2294 := kr_s L (by decide) v2277 e2290
                      refine ok_bind (k_X12_sign L hN (a0 := a0) (x1 := (59 : Int32)) k_a0 (show (59 : Int) ≠ 0 by first | assumption | omega) i2291) (fun r2295 hr2296 => ?_)
                      obtain ⟨i2297, ⟨u2301, u2302, u2303, u2304⟩, p2298, p2299, p2300⟩ := hr2296
                      have u2305 := kp_t u2292 u2301
                      have v2306 : q_V r2295 = q_V δ := (u2302).trans v2293
                      have v2307 := kr_t v2294 u2304
                      have f2308 := cb_12_4 i2291 k_a0
                      have f2309 : (q_I d2289 12 4 a0).toInt = (q_I r2215 12 4 a0).toInt := congrArg Int32.toInt (by rw [e2290]; rfl)
                      have f2310 := cb_12_4 i2297 k_a0
                      have f2311 := ti_b (q_I d2289 12 5 a0)
                      have f2312 : (q_I d2289 12 5 a0).toInt = (q_I r2215 12 5 a0).toInt := congrArg Int32.toInt (by rw [e2290]; rfl)
                      have f2313 := ti_b (q_I r2295 12 5 a0)
                      unfold J_X12_readSteps_236
                      have f2314 := cb_12_24 i2297 k_a0
                      have f2315 : (q_I r2295 12 24 a0).toInt = (q_I d2289 12 24 a0).toInt := congrArg Int32.toInt (u2301 12 24 a0 (by decide))
                      have f2316 := cb_12_24 i2291 k_a0
                      have f2317 : (q_I d2289 12 24 a0).toInt = (q_I r2215 12 24 a0).toInt := congrArg Int32.toInt (by rw [e2290]; rfl)
                      have f2318 := cb_12_24 i2265 k_a0
                      have f2319 : (q_I r2215 12 24 a0).toInt = (q_I d2209 12 24 a0).toInt := congrArg Int32.toInt (u2272 12 24 a0 (by decide))
                      have f2320 := cb_12_26 i2297 k_a0
                      have f2321 : (q_I r2295 12 26 a0).toInt = (q_I d2289 12 26 a0).toInt := congrArg Int32.toInt (u2301 12 26 a0 (by decide))
                      have f2322 := cb_12_26 i2291 k_a0
                      have f2323 : (q_I d2289 12 26 a0).toInt = (q_I r2215 12 26 a0).toInt := congrArg Int32.toInt (by rw [e2290]; rfl)
                      have f2324 := ti_b (q_I r2295 12 7 a0)
                      have f2325 : (q_I r2295 12 7 a0).toInt = (q_I d2289 12 7 a0).toInt := congrArg Int32.toInt (u2301 12 7 a0 (by decide))
                      have f2326 := ti_b (q_I d2289 12 7 a0)
                      have f2327 : (q_I d2289 12 7 a0).toInt = (q_I r2215 12 7 a0).toInt := congrArg Int32.toInt (by rw [e2290]; rfl)
                      have f2328 := cb_12_27 i2297 k_a0
                      have f2329 : (q_I r2295 12 27 a0).toInt = (q_I d2289 12 27 a0).toInt := congrArg Int32.toInt (u2301 12 27 a0 (by decide))
                      have f2330 := cb_12_27 i2291 k_a0
                      have f2331 : (q_I d2289 12 27 a0).toInt = (q_I r2215 12 27 a0).toInt := congrArg Int32.toInt (by rw [e2290]; rfl)
                      have f2332 := cb_12_27 i2265 k_a0
                      have f2333 : (q_I r2215 12 27 a0).toInt = (q_I d2209 12 27 a0).toInt := congrArg Int32.toInt (u2272 12 27 a0 (by decide))
                      have f2334 := cb_12_27 i2211 k_a0
                      have f2335 : (q_I d2209 12 27 a0).toInt = (q_I d1939 12 27 a0).toInt := congrArg Int32.toInt (by rw [e2210]; rfl)
                      have f2336 := cb_12_27 i1941 k_a0
                      have f2337 : (q_I d1939 12 27 a0).toInt = (q_I d1920 12 27 a0).toInt := congrArg Int32.toInt (by rw [e1940]; rfl)
                      have f2338 := cb_12_27 i1922 k_a0
                      have f2339 : (q_I d1920 12 27 a0).toInt = (q_I r1884 12 27 a0).toInt := congrArg Int32.toInt (by rw [e1921]; exact rI_o (by decide))
                      have f2340 := cb_12_27 i1886 k_a0
                      have f2341 : (q_I r1884 12 27 a0).toInt = (q_I r97.2 12 27 a0).toInt := congrArg Int32.toInt (u1889 12 27 a0 (by decide))
                      refine ok_mono (ih r2295 i2297 (show (q_I r2295 12 24 a0).toInt ≤ 3 by first | assumption | omega) (show (q_I r2295 12 26 a0).toInt ≤ (q_I r2295 12 4 a0).toInt by first | assumption | omega) (show (q_I r2295 12 7 a0).toInt = 0 by first | assumption | omega) (show 4 - (q_I r2295 12 27 a0).toInt ≤ K by first | assumption | omega) (show 501 - (q_I r2295 12 4 a0).toInt < _ by omega)) (fun r2342 hr2343 => ?_)
                      obtain ⟨i2344, ⟨u2350, u2351, u2352⟩, p2345, p2346, p2347, p2348, p2349⟩ := hr2343
                      have u2353 := kp_t u2305 u2350
                      have v2354 : q_V r2342 = q_V δ := (u2351).trans v2306
                      have v2355 := kr_t v2307 u2352
                      have f2356 := cb_12_4 i2344 k_a0
                      have f2357 := ti_b (q_I r2342 12 5 a0)
                      have f2358 := ti_b (q_I r2342 12 7 a0)
                      have f2359 := cb_12_27 i2344 k_a0
                      have f2360 := cb_12_26 i2344 k_a0
                      exact ⟨by assumption, ⟨kp_w (by decide) u2353, v2354, kr_w (by decide) v2355⟩, by first | assumption | omega, by first | assumption | omega, by first | assumption | omega, by first | assumption | omega, by first | assumption | omega⟩
              · have c2361 : r123.1.toInt ≠ (5 : Int) := o_ne h1291
                unfold J_X12_readSteps_79
                refine ok_bind (k_X12_fine L hN (a0 := a0) k_a0 i99) (fun r2362 hr2363 => ?_)
                obtain ⟨i2364, p2365, p2366, p2367⟩ := hr2363
                try rw [i2364]
                have f2368 := bo_t p2365
                have f2369 := ti_b r2362.1
                have f2370 := ti_b (q_I r97.2 12 5 a0)
                have f2371 : (q_I r97.2 12 5 a0).toInt = (q_I r48.2 12 5 a0).toInt := congrArg Int32.toInt (u102 12 5 a0 (by decide))
                have f2372 := ti_b (q_I r48.2 12 5 a0)
                have f2373 : (q_I r48.2 12 5 a0).toInt = (q_I r19.2 12 5 a0).toInt := congrArg Int32.toInt (u54 12 5 a0 (by decide))
                have f2374 := ti_b (q_I r19.2 12 5 a0)
                have f2375 : (q_I r19.2 12 5 a0).toInt = (q_I δ 12 5 a0).toInt := congrArg Int32.toInt (u25 12 5 a0 (by decide))
                have f2376 := ti_b r2362.1
                refine ok_ite (fun h2377 => ?_) (fun h2377 => ?_)
                · have c2378 : r2362.1.toInt = (0 : Int) := o_eq h2377
                  have f2379 := ti_b (q_I r97.2 12 7 a0)
                  have f2380 : (q_I r97.2 12 7 a0).toInt = (q_I r48.2 12 7 a0).toInt := congrArg Int32.toInt (u102 12 7 a0 (by decide))
                  have f2381 := ti_b (q_I r48.2 12 7 a0)
                  have f2382 : (q_I r48.2 12 7 a0).toInt = (q_I r19.2 12 7 a0).toInt := congrArg Int32.toInt (u54 12 7 a0 (by decide))
                  have f2383 := ti_b (q_I r19.2 12 7 a0)
                  have f2384 : (q_I r19.2 12 7 a0).toInt = (q_I δ 12 7 a0).toInt := congrArg Int32.toInt (u25 12 7 a0 (by decide))
                  have f2385 := cb_12_27 i99 k_a0
                  have f2386 : (q_I r97.2 12 27 a0).toInt = (q_I r48.2 12 27 a0).toInt := congrArg Int32.toInt (u102 12 27 a0 (by decide))
                  have f2387 := cb_12_27 i50 k_a0
                  have f2388 : (q_I r48.2 12 27 a0).toInt = (q_I r19.2 12 27 a0).toInt := congrArg Int32.toInt (u54 12 27 a0 (by decide))
                  have f2389 := cb_12_27 i21 k_a0
                  have f2390 : (q_I r19.2 12 27 a0).toInt = (q_I δ 12 27 a0).toInt := congrArg Int32.toInt (u25 12 27 a0 (by decide))
                  have f2391 := cb_12_26 i99 k_a0
                  have f2392 : (q_I r97.2 12 26 a0).toInt = (q_I r48.2 12 26 a0).toInt := congrArg Int32.toInt (u102 12 26 a0 (by decide))
                  have f2393 := cb_12_26 i50 k_a0
                  have f2394 : (q_I r48.2 12 26 a0).toInt = (q_I r19.2 12 26 a0).toInt := congrArg Int32.toInt (u54 12 26 a0 (by decide))
                  have f2395 := cb_12_26 i21 k_a0
                  have f2396 : (q_I r19.2 12 26 a0).toInt = (q_I δ 12 26 a0).toInt := congrArg Int32.toInt (u25 12 26 a0 (by decide))
                  exact ok_some (show RI ad h.1 δ0 r97.2 ∧ (kp [(12, 4), (12, 5), (12, 6), (12, 7), (12, 25), (12, 26), (12, 27)] δ r97.2 ∧ q_V r97.2 = q_V δ ∧ kr ad [113, 114, 115, 116, 117] δ r97.2) ∧ (q_I δ 12 4 a0).toInt ≤ (q_I r97.2 12 4 a0).toInt ∧ ((q_I δ 12 5 a0).toInt ≠ -1 → (q_I r97.2 12 5 a0).toInt ≠ -1) ∧ (q_I r97.2 12 7 a0).toInt = (q_I δ 12 7 a0).toInt ∧ (q_I r97.2 12 27 a0).toInt = (q_I δ 12 27 a0).toInt ∧ (q_I r97.2 12 26 a0).toInt ≤ (q_I r97.2 12 4 a0).toInt from ⟨i99, ⟨kp_w (by decide) u106, v107, kr_w (by decide) v108⟩, by first | assumption | omega, by first | assumption | omega, by first | assumption | omega, by first | assumption | omega, by first | assumption | omega⟩)
                · have c2397 : r2362.1.toInt ≠ (0 : Int) := o_ne h2377
                  refine ok_bind (k_X12_pass L hN (a0 := a0) k_a0 i99) (fun r2398 hr2399 => ?_)
                  obtain ⟨i2400, ⟨u2403, u2404, u2405, u2406⟩, p2401, p2402⟩ := hr2399
                  have u2407 := kp_t u106 u2403
                  have v2408 : q_V r2398 = q_V δ := (u2404).trans v107
                  have v2409 := kr_t v108 u2406
                  have f2410 := cb_12_4 i2400 k_a0
                  have f2411 := cb_12_3 i99 k_a0
                  have f2412 : (q_I r97.2 12 3 a0).toInt = (q_I r48.2 12 3 a0).toInt := congrArg Int32.toInt (u102 12 3 a0 (by decide))
                  have f2416 := cb_12_24 i2400 k_a0
                  have f2417 : (q_I r2398 12 24 a0).toInt = (q_I r97.2 12 24 a0).toInt := congrArg Int32.toInt (u2403 12 24 a0 (by decide))
                  have f2418 := cb_12_24 i99 k_a0
                  have f2419 : (q_I r97.2 12 24 a0).toInt = (q_I r48.2 12 24 a0).toInt := congrArg Int32.toInt (u102 12 24 a0 (by decide))
                  have f2420 := cb_12_24 i50 k_a0
                  have f2421 : (q_I r48.2 12 24 a0).toInt = (q_I r19.2 12 24 a0).toInt := congrArg Int32.toInt (u54 12 24 a0 (by decide))
                  have f2422 := cb_12_24 i21 k_a0
                  have f2423 : (q_I r19.2 12 24 a0).toInt = (q_I δ 12 24 a0).toInt := congrArg Int32.toInt (u25 12 24 a0 (by decide))
                  first | (have q2424 := te_mulc (c := 60) (n := 60) rfl (q_I r2398 12 24 a0) (by omega) (by omega); obtain ⟨f2425, f2426, f2427⟩ := q2424) | (obtain ⟨q2424, f2425, f2426, f2427⟩ := ti_mulc (c := 60) (n := 60) rfl (q_I r2398 12 24 a0))
                  have f2428 := cb_12_25 i2400 k_a0
                  have f2429 : (q_I r2398 12 25 a0).toInt = (q_I r97.2 12 25 a0).toInt := congrArg Int32.toInt (u2403 12 25 a0 (by decide))
                  refine ok_biv (fun vx2413 e2414 => ?_)
                  first | (have q2430 := te_add ((60 : Int32) * (q_I r2398 12 24 a0)) (q_I r2398 12 25 a0) (by omega) (by omega); rw [← e2414] at q2430; obtain ⟨f2431, f2432, f2433⟩ := q2430) | (obtain ⟨q2430, f2431, f2432, f2433⟩ : ∃ q : Int, vx2413.toInt = ((60 : Int32) * (q_I r2398 12 24 a0)).toInt + (q_I r2398 12 25 a0).toInt + 4294967296 * q ∧ -2147483648 ≤ vx2413.toInt ∧ vx2413.toInt ≤ 2147483647 := by rw [e2414]; exact ti_add ((60 : Int32) * (q_I r2398 12 24 a0)) (q_I r2398 12 25 a0))
                  first | (have q2438 := te_addc (c := 1) (n := 1) rfl (q_I r2398 12 25 a0) (by omega) (by omega); obtain ⟨f2439, f2440, f2441⟩ := q2438) | (obtain ⟨q2438, f2439, f2440, f2441⟩ := ti_addc (c := 1) (n := 1) rfl (q_I r2398 12 25 a0))
                  refine ok_bdv (fun d2434 e2435 => ?_)
                  have i2436 : RI ad h.1 δ0 d2434 := by rw [e2435]; exact cs_12_25 L i2400 k_a0 (show 0 ≤ ((q_I r2398 12 25 a0) + (1 : Int32)).toInt by omega) (show ((q_I r2398 12 25 a0) + (1 : Int32)).toInt ≤ 60 by omega)
                  have u2442 := kp_I u2407 e2435
                  have v2443 : q_V d2434 = q_V δ := ((show q_V d2434 = q_V r2398 by rw [e2435]; rfl)).trans v2408
                  have v2444 := kr_N v2409 (show q_R d2434 = q_R r2398 by rw [e2435]; rfl)
                  obtain ⟨b2445, o2446, k2447, n2448, w2449⟩ := gO_12_29 L k_a0
                  obtain rfl := gS_12_29 L k_a0 o2446
                  refine ok_at o2446 ?_
                  have t2450 := ti_tn vx2413
                  refine ok_gd (fun hc2451 => ?_) ?_
                  · rcases hc2451 with hc2451 | hc2451
                    · have c2452 : vx2413.toInt < (0 : Int) := o_lt hc2451
                      omega
                    · omega
                  refine ok_bdv (fun d2453 e2454 => ?_)
                  have i2455 : RI ad h.1 δ0 d2453 := by rw [e2454]; exact RI.sR L i2436 w2449
                  have u2456 := kp_N u2442 (show q_I d2453 = q_I d2434 by rw [e2454]; rfl)
                  have v2457 : q_V d2453 = q_V δ := ((show q_V d2453 = q_V d2434 by rw [e2454]; rfl)).trans v2443
                  have v2458 := kr_s L (by decide) v2444 e2454
                  refine ok_ite (fun h2459 => ?_) (fun h2459 => ?_)
                  · have c2460 : r123.1.toInt = (5 : Int) := o_eq h2459
                    obtain ⟨b2461, o2462, k2463, n2464, w2465⟩ := gO_12_30 L k_a0
                    obtain rfl := gS_12_30 L k_a0 o2462
                    refine ok_at o2462 ?_
                    refine ok_bind (k_X12_readNumber L hN (a0 := a0) (x1 := (1 : Int32)) (x2 := (99 : Int32)) k_a0 i2455) (fun r2466 hr2467 => ?_)
                    obtain ⟨i2468, ⟨u2475, u2476, u2477, u2478⟩, p2469, p2470, p2471, p2472, p2473, p2474⟩ := hr2467
                    have u2479 := kp_t u2456 u2475
                    have v2480 : q_V r2466.2 = q_V δ := (u2476).trans v2457
                    have v2481 := kr_t v2458 u2478
                    have f2482 := cb_12_4 i2455 k_a0
                    have f2483 : (q_I d2453 12 4 a0).toInt = (q_I d2434 12 4 a0).toInt := congrArg Int32.toInt (by rw [e2454]; rfl)
                    have f2484 := cb_12_4 i2436 k_a0
                    have f2485 : (q_I d2434 12 4 a0).toInt = (q_I r2398 12 4 a0).toInt := congrArg Int32.toInt (by rw [e2435]; exact rI_o (by decide))
                    have f2486 := cb_12_4 i2468 k_a0
                    have f2487 := ti_b (q_I d2453 12 5 a0)
                    have f2488 : (q_I d2453 12 5 a0).toInt = (q_I d2434 12 5 a0).toInt := congrArg Int32.toInt (by rw [e2454]; rfl)
                    have f2489 := ti_b (q_I d2434 12 5 a0)
                    have f2490 : (q_I d2434 12 5 a0).toInt = (q_I r2398 12 5 a0).toInt := congrArg Int32.toInt (by rw [e2435]; exact rI_o (by decide))
                    have f2491 := ti_b (q_I r2398 12 5 a0)
                    have f2492 : (q_I r2398 12 5 a0).toInt = (q_I r97.2 12 5 a0).toInt := congrArg Int32.toInt (u2403 12 5 a0 (by decide))
                    have f2493 := ti_b (q_I r2466.2 12 5 a0)
                    have f2494 := ti_b r2466.1
                    replace p2474 : ((q_I r2466.2 12 5 a0).toInt = -1 → (1 : Int) ≤ (r2466.1).toInt ∧ (r2466.1).toInt ≤ (99 : Int)) := p2474
                    have f2495 := ti_b r2466.1
                    refine ok_gd (fun hc2496 => ?_) ?_
                    · rcases hc2496 with hc2496 | hc2496
                      · have c2497 : vx2413.toInt < (0 : Int) := o_lt hc2496
                        omega
                      · omega
                    refine ok_bdv (fun d2498 e2499 => ?_)
                    have i2500 : RI ad h.1 δ0 d2498 := by rw [e2499]; exact RI.sR L i2468 w2465
                    have u2501 := kp_N u2479 (show q_I d2498 = q_I r2466.2 by rw [e2499]; rfl)
                    have v2502 : q_V d2498 = q_V δ := ((show q_V d2498 = q_V r2466.2 by rw [e2499]; rfl)).trans v2480
                    have v2503 := kr_s L (by decide) v2481 e2499
                    refine ok_bind (k_X12_sign L hN (a0 := a0) (x1 := (91 : Int32)) k_a0 (show (91 : Int) ≠ 0 by first | assumption | omega) i2500) (fun r2504 hr2505 => ?_)
                    obtain ⟨i2506, ⟨u2510, u2511, u2512, u2513⟩, p2507, p2508, p2509⟩ := hr2505
                    have u2514 := kp_t u2501 u2510
                    have v2515 : q_V r2504 = q_V δ := (u2511).trans v2502
                    have v2516 := kr_t v2503 u2513
                    have f2517 := cb_12_4 i2500 k_a0
                    have f2518 : (q_I d2498 12 4 a0).toInt = (q_I r2466.2 12 4 a0).toInt := congrArg Int32.toInt (by rw [e2499]; rfl)
                    have f2519 := cb_12_4 i2506 k_a0
                    have f2520 := ti_b (q_I d2498 12 5 a0)
                    have f2521 : (q_I d2498 12 5 a0).toInt = (q_I r2466.2 12 5 a0).toInt := congrArg Int32.toInt (by rw [e2499]; rfl)
                    have f2522 := ti_b (q_I r2504 12 5 a0)
                    have f2526 := cb_12_27 i2506 k_a0
                    have f2527 : (q_I r2504 12 27 a0).toInt = (q_I d2498 12 27 a0).toInt := congrArg Int32.toInt (u2510 12 27 a0 (by decide))
                    have f2528 := cb_12_27 i2500 k_a0
                    have f2529 : (q_I d2498 12 27 a0).toInt = (q_I r2466.2 12 27 a0).toInt := congrArg Int32.toInt (by rw [e2499]; rfl)
                    have f2530 := cb_12_27 i2468 k_a0
                    have f2531 : (q_I r2466.2 12 27 a0).toInt = (q_I d2453 12 27 a0).toInt := congrArg Int32.toInt (u2475 12 27 a0 (by decide))
                    have f2532 := cb_12_27 i2455 k_a0
                    have f2533 : (q_I d2453 12 27 a0).toInt = (q_I d2434 12 27 a0).toInt := congrArg Int32.toInt (by rw [e2454]; rfl)
                    have f2534 := cb_12_27 i2436 k_a0
                    have f2535 : (q_I d2434 12 27 a0).toInt = (q_I r2398 12 27 a0).toInt := congrArg Int32.toInt (by rw [e2435]; exact rI_o (by decide))
                    have f2536 := cb_12_27 i2400 k_a0
                    have f2537 : (q_I r2398 12 27 a0).toInt = (q_I r97.2 12 27 a0).toInt := congrArg Int32.toInt (u2403 12 27 a0 (by decide))
                    have f2538 := cb_12_27 i99 k_a0
                    have f2539 : (q_I r97.2 12 27 a0).toInt = (q_I r48.2 12 27 a0).toInt := congrArg Int32.toInt (u102 12 27 a0 (by decide))
                    have f2540 := cb_12_27 i50 k_a0
                    have f2541 : (q_I r48.2 12 27 a0).toInt = (q_I r19.2 12 27 a0).toInt := congrArg Int32.toInt (u54 12 27 a0 (by decide))
                    have f2542 := cb_12_27 i21 k_a0
                    have f2543 : (q_I r19.2 12 27 a0).toInt = (q_I δ 12 27 a0).toInt := congrArg Int32.toInt (u25 12 27 a0 (by decide))
                    first | (have q2545 := te_addc (c := 1) (n := 1) rfl (q_I r2504 12 27 a0) (by omega) (by omega); obtain ⟨f2546, f2547, f2548⟩ := q2545) | (obtain ⟨q2545, f2546, f2547, f2548⟩ := ti_addc (c := 1) (n := 1) rfl (q_I r2504 12 27 a0))
                    refine ok_bdv (fun d2523 e2524 => ?_)
                    have i2525 : RI ad h.1 δ0 d2523 := by rw [e2524]; exact cs_12_27 L i2506 k_a0 (show 0 ≤ ((q_I r2504 12 27 a0) + (1 : Int32)).toInt by omega) (show ((q_I r2504 12 27 a0) + (1 : Int32)).toInt ≤ 3 by omega)
                    have u2549 := kp_I u2514 e2524
                    have v2550 : q_V d2523 = q_V δ := ((show q_V d2523 = q_V r2504 by rw [e2524]; rfl)).trans v2515
                    have v2551 := kr_N v2516 (show q_R d2523 = q_R r2504 by rw [e2524]; rfl)
                    have f2554 := cb_12_24 i2525 k_a0
                    have f2555 : (q_I d2523 12 24 a0).toInt = (q_I r2504 12 24 a0).toInt := congrArg Int32.toInt (by rw [e2524]; exact rI_o (by decide))
                    have f2556 := cb_12_24 i2506 k_a0
                    have f2557 : (q_I r2504 12 24 a0).toInt = (q_I d2498 12 24 a0).toInt := congrArg Int32.toInt (u2510 12 24 a0 (by decide))
                    have f2558 := cb_12_24 i2500 k_a0
                    have f2559 : (q_I d2498 12 24 a0).toInt = (q_I r2466.2 12 24 a0).toInt := congrArg Int32.toInt (by rw [e2499]; rfl)
                    have f2560 := cb_12_24 i2468 k_a0
                    have f2561 : (q_I r2466.2 12 24 a0).toInt = (q_I d2453 12 24 a0).toInt := congrArg Int32.toInt (u2475 12 24 a0 (by decide))
                    have f2562 := cb_12_24 i2455 k_a0
                    have f2563 : (q_I d2453 12 24 a0).toInt = (q_I d2434 12 24 a0).toInt := congrArg Int32.toInt (by rw [e2454]; rfl)
                    have f2564 := cb_12_24 i2436 k_a0
                    have f2565 : (q_I d2434 12 24 a0).toInt = (q_I r2398 12 24 a0).toInt := congrArg Int32.toInt (by rw [e2435]; exact rI_o (by decide))
                    have f2566 := cb_12_26 i2525 k_a0
                    have f2567 : (q_I d2523 12 26 a0).toInt = (q_I r2504 12 26 a0).toInt := congrArg Int32.toInt (by rw [e2524]; exact rI_o (by decide))
                    have f2568 := cb_12_26 i2506 k_a0
                    have f2569 : (q_I r2504 12 26 a0).toInt = (q_I d2498 12 26 a0).toInt := congrArg Int32.toInt (u2510 12 26 a0 (by decide))
                    have f2570 := cb_12_26 i2500 k_a0
                    have f2571 : (q_I d2498 12 26 a0).toInt = (q_I r2466.2 12 26 a0).toInt := congrArg Int32.toInt (by rw [e2499]; rfl)
                    have f2572 := cb_12_26 i2468 k_a0
                    have f2573 : (q_I r2466.2 12 26 a0).toInt = (q_I d2453 12 26 a0).toInt := congrArg Int32.toInt (u2475 12 26 a0 (by decide))
                    have f2574 := cb_12_26 i2455 k_a0
                    have f2575 : (q_I d2453 12 26 a0).toInt = (q_I d2434 12 26 a0).toInt := congrArg Int32.toInt (by rw [e2454]; rfl)
                    have f2576 := cb_12_26 i2436 k_a0
                    have f2577 : (q_I d2434 12 26 a0).toInt = (q_I r2398 12 26 a0).toInt := congrArg Int32.toInt (by rw [e2435]; exact rI_o (by decide))
                    have f2578 := cb_12_26 i2400 k_a0
                    have f2579 : (q_I r2398 12 26 a0).toInt = (q_I r97.2 12 26 a0).toInt := congrArg Int32.toInt (u2403 12 26 a0 (by decide))
                    have f2580 := cb_12_26 i99 k_a0
                    have f2581 : (q_I r97.2 12 26 a0).toInt = (q_I r48.2 12 26 a0).toInt := congrArg Int32.toInt (u102 12 26 a0 (by decide))
                    have f2582 := cb_12_26 i50 k_a0
                    have f2583 : (q_I r48.2 12 26 a0).toInt = (q_I r19.2 12 26 a0).toInt := congrArg Int32.toInt (u54 12 26 a0 (by decide))
                    have f2584 := cb_12_26 i21 k_a0
                    have f2585 : (q_I r19.2 12 26 a0).toInt = (q_I δ 12 26 a0).toInt := congrArg Int32.toInt (u25 12 26 a0 (by decide))
                    have f2586 := cb_12_4 i2525 k_a0
                    have f2587 : (q_I d2523 12 4 a0).toInt = (q_I r2504 12 4 a0).toInt := congrArg Int32.toInt (by rw [e2524]; exact rI_o (by decide))
                    have f2588 := ti_b (q_I d2523 12 7 a0)
                    have f2589 : (q_I d2523 12 7 a0).toInt = (q_I r2504 12 7 a0).toInt := congrArg Int32.toInt (by rw [e2524]; exact rI_o (by decide))
                    have f2590 := ti_b (q_I r2504 12 7 a0)
                    have f2591 : (q_I r2504 12 7 a0).toInt = (q_I d2498 12 7 a0).toInt := congrArg Int32.toInt (u2510 12 7 a0 (by decide))
                    have f2592 := ti_b (q_I d2498 12 7 a0)
                    have f2593 : (q_I d2498 12 7 a0).toInt = (q_I r2466.2 12 7 a0).toInt := congrArg Int32.toInt (by rw [e2499]; rfl)
                    have f2594 := ti_b (q_I r2466.2 12 7 a0)
                    have f2595 : (q_I r2466.2 12 7 a0).toInt = (q_I d2453 12 7 a0).toInt := congrArg Int32.toInt (u2475 12 7 a0 (by decide))
                    have f2596 := ti_b (q_I d2453 12 7 a0)
                    have f2597 : (q_I d2453 12 7 a0).toInt = (q_I d2434 12 7 a0).toInt := congrArg Int32.toInt (by rw [e2454]; rfl)
                    have f2598 := ti_b (q_I d2434 12 7 a0)
                    have f2599 : (q_I d2434 12 7 a0).toInt = (q_I r2398 12 7 a0).toInt := congrArg Int32.toInt (by rw [e2435]; exact rI_o (by decide))
                    have f2600 := ti_b (q_I r2398 12 7 a0)
                    have f2601 : (q_I r2398 12 7 a0).toInt = (q_I r97.2 12 7 a0).toInt := congrArg Int32.toInt (u2403 12 7 a0 (by decide))
                    have f2602 := ti_b (q_I r97.2 12 7 a0)
                    have f2603 : (q_I r97.2 12 7 a0).toInt = (q_I r48.2 12 7 a0).toInt := congrArg Int32.toInt (u102 12 7 a0 (by decide))
                    have f2604 := ti_b (q_I r48.2 12 7 a0)
                    have f2605 : (q_I r48.2 12 7 a0).toInt = (q_I r19.2 12 7 a0).toInt := congrArg Int32.toInt (u54 12 7 a0 (by decide))
                    have f2606 := ti_b (q_I r19.2 12 7 a0)
                    have f2607 : (q_I r19.2 12 7 a0).toInt = (q_I δ 12 7 a0).toInt := congrArg Int32.toInt (u25 12 7 a0 (by decide))
                    have f2608 := cb_12_27 i2525 k_a0
                    have f2609 : (q_I d2523 12 27 a0).toInt = ((q_I r2504 12 27 a0) + (1 : Int32)).toInt := congrArg Int32.toInt (show q_I d2523 12 27 a0 = ((q_I r2504 12 27 a0) + (1 : Int32)) by rw [e2524]; exact rI_s)
                    refine ok_bind (hT a0 d2523 k_a0 (show (q_I d2523 12 24 a0).toInt ≤ 3 by first | assumption | omega) (show (q_I d2523 12 26 a0).toInt ≤ (q_I d2523 12 4 a0).toInt by first | assumption | omega) (show (q_I d2523 12 7 a0).toInt = 0 by first | assumption | omega) (show 4 - (q_I d2523 12 27 a0).toInt < _ by first | assumption | omega) i2525) (fun r2552 hr2553 => ?_)
                    obtain ⟨i2610, ⟨u2616, u2617, u2618⟩, p2611, p2612, p2613, p2614, p2615⟩ := hr2553
                    have u2619 := kp_t u2549 u2616
                    have v2620 : q_V r2552 = q_V δ := (u2617).trans v2550
                    have v2621 := kr_t v2551 u2618
                    have f2622 := cb_12_4 i2610 k_a0
                    have f2623 := ti_b (q_I d2523 12 5 a0)
                    have f2624 : (q_I d2523 12 5 a0).toInt = (q_I r2504 12 5 a0).toInt := congrArg Int32.toInt (by rw [e2524]; exact rI_o (by decide))
                    have f2625 := ti_b (q_I r2552 12 5 a0)
                    have f2626 := ti_b (q_I r2552 12 7 a0)
                    have f2627 := cb_12_27 i2610 k_a0
                    have f2628 := cb_12_26 i2610 k_a0
                    first | (have q2633 := te_subc (c := 1) (n := 1) rfl (q_I r2552 12 27 a0) (by omega) (by omega); obtain ⟨f2634, f2635, f2636⟩ := q2633) | (obtain ⟨q2633, f2634, f2635, f2636⟩ := ti_subc (c := 1) (n := 1) rfl (q_I r2552 12 27 a0))
                    refine ok_bdv (fun d2629 e2630 => ?_)
                    have i2631 : RI ad h.1 δ0 d2629 := by rw [e2630]; exact cs_12_27 L i2610 k_a0 (show 0 ≤ ((q_I r2552 12 27 a0) - (1 : Int32)).toInt by omega) (show ((q_I r2552 12 27 a0) - (1 : Int32)).toInt ≤ 3 by omega)
                    have u2637 := kp_I u2619 e2630
                    have v2638 : q_V d2629 = q_V δ := ((show q_V d2629 = q_V r2552 by rw [e2630]; rfl)).trans v2620
                    have v2639 := kr_N v2621 (show q_R d2629 = q_R r2552 by rw [e2630]; rfl)
                    refine ok_bind (k_X12_sign L hN (a0 := a0) (x1 := (93 : Int32)) k_a0 (show (93 : Int) ≠ 0 by first | assumption | omega) i2631) (fun r2640 hr2641 => ?_)
                    obtain ⟨i2642, ⟨u2646, u2647, u2648, u2649⟩, p2643, p2644, p2645⟩ := hr2641
                    have u2650 := kp_t u2637 u2646
                    have v2651 : q_V r2640 = q_V δ := (u2647).trans v2638
                    have v2652 := kr_t v2639 u2649
                    have f2653 := cb_12_4 i2631 k_a0
                    have f2654 : (q_I d2629 12 4 a0).toInt = (q_I r2552 12 4 a0).toInt := congrArg Int32.toInt (by rw [e2630]; exact rI_o (by decide))
                    have f2655 := cb_12_4 i2642 k_a0
                    have f2656 := ti_b (q_I d2629 12 5 a0)
                    have f2657 : (q_I d2629 12 5 a0).toInt = (q_I r2552 12 5 a0).toInt := congrArg Int32.toInt (by rw [e2630]; exact rI_o (by decide))
                    have f2658 := ti_b (q_I r2640 12 5 a0)
                    obtain ⟨b2659, o2660, k2661, n2662, w2663⟩ := gO_12_31 L k_a0
                    obtain rfl := gS_12_31 L k_a0 o2660
                    refine ok_at o2660 ?_
                    refine ok_gd (fun hc2664 => ?_) ?_
                    · rcases hc2664 with hc2664 | hc2664
                      · have c2665 : vx2413.toInt < (0 : Int) := o_lt hc2664
                        omega
                      · omega
                    refine ok_bdv (fun d2666 e2667 => ?_)
                    have i2668 : RI ad h.1 δ0 d2666 := by rw [e2667]; exact RI.sR L i2642 w2663
                    have u2669 := kp_N u2650 (show q_I d2666 = q_I r2640 by rw [e2667]; rfl)
                    have v2670 : q_V d2666 = q_V δ := ((show q_V d2666 = q_V r2640 by rw [e2667]; rfl)).trans v2651
                    have v2671 := kr_s L (by decide) v2652 e2667
                    unfold J_X12_readSteps_236
                    have f2672 := cb_12_24 i2668 k_a0
                    have f2673 : (q_I d2666 12 24 a0).toInt = (q_I r2640 12 24 a0).toInt := congrArg Int32.toInt (by rw [e2667]; rfl)
                    have f2674 := cb_12_24 i2642 k_a0
                    have f2675 : (q_I r2640 12 24 a0).toInt = (q_I d2629 12 24 a0).toInt := congrArg Int32.toInt (u2646 12 24 a0 (by decide))
                    have f2676 := cb_12_24 i2631 k_a0
                    have f2677 : (q_I d2629 12 24 a0).toInt = (q_I r2552 12 24 a0).toInt := congrArg Int32.toInt (by rw [e2630]; exact rI_o (by decide))
                    have f2678 := cb_12_24 i2610 k_a0
                    have f2679 : (q_I r2552 12 24 a0).toInt = (q_I d2523 12 24 a0).toInt := congrArg Int32.toInt (u2616 12 24 a0 (by decide))
                    have f2680 := cb_12_26 i2668 k_a0
                    have f2681 : (q_I d2666 12 26 a0).toInt = (q_I r2640 12 26 a0).toInt := congrArg Int32.toInt (by rw [e2667]; rfl)
                    have f2682 := cb_12_26 i2642 k_a0
                    have f2683 : (q_I r2640 12 26 a0).toInt = (q_I d2629 12 26 a0).toInt := congrArg Int32.toInt (u2646 12 26 a0 (by decide))
                    have f2684 := cb_12_26 i2631 k_a0
                    have f2685 : (q_I d2629 12 26 a0).toInt = (q_I r2552 12 26 a0).toInt := congrArg Int32.toInt (by rw [e2630]; exact rI_o (by decide))
                    have f2686 := cb_12_4 i2668 k_a0
                    have f2687 : (q_I d2666 12 4 a0).toInt = (q_I r2640 12 4 a0).toInt := congrArg Int32.toInt (by rw [e2667]; rfl)
                    have f2688 := ti_b (q_I d2666 12 7 a0)
                    have f2689 : (q_I d2666 12 7 a0).toInt = (q_I r2640 12 7 a0).toInt := congrArg Int32.toInt (by rw [e2667]; rfl)
                    have f2690 := ti_b (q_I r2640 12 7 a0)
                    have f2691 : (q_I r2640 12 7 a0).toInt = (q_I d2629 12 7 a0).toInt := congrArg Int32.toInt (u2646 12 7 a0 (by decide))
                    have f2692 := ti_b (q_I d2629 12 7 a0)
                    have f2693 : (q_I d2629 12 7 a0).toInt = (q_I r2552 12 7 a0).toInt := congrArg Int32.toInt (by rw [e2630]; exact rI_o (by decide))
                    have f2694 := cb_12_27 i2668 k_a0
                    have f2695 : (q_I d2666 12 27 a0).toInt = (q_I r2640 12 27 a0).toInt := congrArg Int32.toInt (by rw [e2667]; rfl)
                    have f2696 := cb_12_27 i2642 k_a0
                    have f2697 : (q_I r2640 12 27 a0).toInt = (q_I d2629 12 27 a0).toInt := congrArg Int32.toInt (u2646 12 27 a0 (by decide))
                    have f2698 := cb_12_27 i2631 k_a0
                    have f2699 : (q_I d2629 12 27 a0).toInt = ((q_I r2552 12 27 a0) - (1 : Int32)).toInt := congrArg Int32.toInt (show q_I d2629 12 27 a0 = ((q_I r2552 12 27 a0) - (1 : Int32)) by rw [e2630]; exact rI_s)
                    refine ok_mono (ih d2666 i2668 (show (q_I d2666 12 24 a0).toInt ≤ 3 by first | assumption | omega) (show (q_I d2666 12 26 a0).toInt ≤ (q_I d2666 12 4 a0).toInt by first | assumption | omega) (show (q_I d2666 12 7 a0).toInt = 0 by first | assumption | omega) (show 4 - (q_I d2666 12 27 a0).toInt ≤ K by first | assumption | omega) (show 501 - (q_I d2666 12 4 a0).toInt < _ by omega)) (fun r2700 hr2701 => ?_)
                    obtain ⟨i2702, ⟨u2708, u2709, u2710⟩, p2703, p2704, p2705, p2706, p2707⟩ := hr2701
                    have u2711 := kp_t u2669 u2708
                    have v2712 : q_V r2700 = q_V δ := (u2709).trans v2670
                    have v2713 := kr_t v2671 u2710
                    have f2714 := cb_12_4 i2702 k_a0
                    have f2715 := ti_b (q_I d2666 12 5 a0)
                    have f2716 : (q_I d2666 12 5 a0).toInt = (q_I r2640 12 5 a0).toInt := congrArg Int32.toInt (by rw [e2667]; rfl)
                    have f2717 := ti_b (q_I r2700 12 5 a0)
                    have f2718 := ti_b (q_I r2700 12 7 a0)
                    have f2719 := cb_12_27 i2702 k_a0
                    have f2720 := cb_12_26 i2702 k_a0
                    exact ⟨by assumption, ⟨kp_w (by decide) u2711, v2712, kr_w (by decide) v2713⟩, by first | assumption | omega, by first | assumption | omega, by first | assumption | omega, by first | assumption | omega, by first | assumption | omega⟩
                  · have c2721 : r123.1.toInt ≠ (5 : Int) := o_ne h2459
                    obtain ⟨b2722, o2723, k2724, n2725, w2726⟩ := gO_12_30 L k_a0
                    obtain rfl := gS_12_30 L k_a0 o2723
                    refine ok_at o2723 ?_
                    refine ok_gd (fun hc2727 => ?_) ?_
                    · rcases hc2727 with hc2727 | hc2727
                      · have c2728 : vx2413.toInt < (0 : Int) := o_lt hc2727
                        omega
                      · omega
                    refine ok_bdv (fun d2729 e2730 => ?_)
                    have i2731 : RI ad h.1 δ0 d2729 := by rw [e2730]; exact RI.sR L i2455 w2726
                    have u2732 := kp_N u2456 (show q_I d2729 = q_I d2453 by rw [e2730]; rfl)
                    have v2733 : q_V d2729 = q_V δ := ((show q_V d2729 = q_V d2453 by rw [e2730]; rfl)).trans v2457
                    have v2734 := kr_s L (by decide) v2458 e2730
                    have f2737 := cb_12_24 i2731 k_a0
                    have f2738 : (q_I d2729 12 24 a0).toInt = (q_I d2453 12 24 a0).toInt := congrArg Int32.toInt (by rw [e2730]; rfl)
                    have f2739 := cb_12_24 i2455 k_a0
                    have f2740 : (q_I d2453 12 24 a0).toInt = (q_I d2434 12 24 a0).toInt := congrArg Int32.toInt (by rw [e2454]; rfl)
                    have f2741 := cb_12_24 i2436 k_a0
                    have f2742 : (q_I d2434 12 24 a0).toInt = (q_I r2398 12 24 a0).toInt := congrArg Int32.toInt (by rw [e2435]; exact rI_o (by decide))
                    have f2743 := cb_12_26 i2731 k_a0
                    have f2744 : (q_I d2729 12 26 a0).toInt = (q_I d2453 12 26 a0).toInt := congrArg Int32.toInt (by rw [e2730]; rfl)
                    have f2745 := cb_12_26 i2455 k_a0
                    have f2746 : (q_I d2453 12 26 a0).toInt = (q_I d2434 12 26 a0).toInt := congrArg Int32.toInt (by rw [e2454]; rfl)
                    have f2747 := cb_12_26 i2436 k_a0
                    have f2748 : (q_I d2434 12 26 a0).toInt = (q_I r2398 12 26 a0).toInt := congrArg Int32.toInt (by rw [e2435]; exact rI_o (by decide))
                    have f2749 := cb_12_26 i2400 k_a0
                    have f2750 : (q_I r2398 12 26 a0).toInt = (q_I r97.2 12 26 a0).toInt := congrArg Int32.toInt (u2403 12 26 a0 (by decide))
                    have f2751 := cb_12_26 i99 k_a0
                    have f2752 : (q_I r97.2 12 26 a0).toInt = (q_I r48.2 12 26 a0).toInt := congrArg Int32.toInt (u102 12 26 a0 (by decide))
                    have f2753 := cb_12_26 i50 k_a0
                    have f2754 : (q_I r48.2 12 26 a0).toInt = (q_I r19.2 12 26 a0).toInt := congrArg Int32.toInt (u54 12 26 a0 (by decide))
                    have f2755 := cb_12_26 i21 k_a0
                    have f2756 : (q_I r19.2 12 26 a0).toInt = (q_I δ 12 26 a0).toInt := congrArg Int32.toInt (u25 12 26 a0 (by decide))
                    have f2757 := cb_12_4 i2731 k_a0
                    have f2758 : (q_I d2729 12 4 a0).toInt = (q_I d2453 12 4 a0).toInt := congrArg Int32.toInt (by rw [e2730]; rfl)
                    have f2759 := cb_12_4 i2455 k_a0
                    have f2760 : (q_I d2453 12 4 a0).toInt = (q_I d2434 12 4 a0).toInt := congrArg Int32.toInt (by rw [e2454]; rfl)
                    have f2761 := cb_12_4 i2436 k_a0
                    have f2762 : (q_I d2434 12 4 a0).toInt = (q_I r2398 12 4 a0).toInt := congrArg Int32.toInt (by rw [e2435]; exact rI_o (by decide))
                    have f2763 := ti_b (q_I d2729 12 7 a0)
                    have f2764 : (q_I d2729 12 7 a0).toInt = (q_I d2453 12 7 a0).toInt := congrArg Int32.toInt (by rw [e2730]; rfl)
                    have f2765 := ti_b (q_I d2453 12 7 a0)
                    have f2766 : (q_I d2453 12 7 a0).toInt = (q_I d2434 12 7 a0).toInt := congrArg Int32.toInt (by rw [e2454]; rfl)
                    have f2767 := ti_b (q_I d2434 12 7 a0)
                    have f2768 : (q_I d2434 12 7 a0).toInt = (q_I r2398 12 7 a0).toInt := congrArg Int32.toInt (by rw [e2435]; exact rI_o (by decide))
                    have f2769 := ti_b (q_I r2398 12 7 a0)
                    have f2770 : (q_I r2398 12 7 a0).toInt = (q_I r97.2 12 7 a0).toInt := congrArg Int32.toInt (u2403 12 7 a0 (by decide))
                    have f2771 := ti_b (q_I r97.2 12 7 a0)
                    have f2772 : (q_I r97.2 12 7 a0).toInt = (q_I r48.2 12 7 a0).toInt := congrArg Int32.toInt (u102 12 7 a0 (by decide))
                    have f2773 := ti_b (q_I r48.2 12 7 a0)
                    have f2774 : (q_I r48.2 12 7 a0).toInt = (q_I r19.2 12 7 a0).toInt := congrArg Int32.toInt (u54 12 7 a0 (by decide))
                    have f2775 := ti_b (q_I r19.2 12 7 a0)
                    have f2776 : (q_I r19.2 12 7 a0).toInt = (q_I δ 12 7 a0).toInt := congrArg Int32.toInt (u25 12 7 a0 (by decide))
                    have f2777 := ti_b (q_I d2729 12 5 a0)
                    have f2778 : (q_I d2729 12 5 a0).toInt = (q_I d2453 12 5 a0).toInt := congrArg Int32.toInt (by rw [e2730]; rfl)
                    have f2779 := ti_b (q_I d2453 12 5 a0)
                    have f2780 : (q_I d2453 12 5 a0).toInt = (q_I d2434 12 5 a0).toInt := congrArg Int32.toInt (by rw [e2454]; rfl)
                    have f2781 := ti_b (q_I d2434 12 5 a0)
                    have f2782 : (q_I d2434 12 5 a0).toInt = (q_I r2398 12 5 a0).toInt := congrArg Int32.toInt (by rw [e2435]; exact rI_o (by decide))
                    have f2783 := ti_b (q_I r2398 12 5 a0)
                    have f2784 : (q_I r2398 12 5 a0).toInt = (q_I r97.2 12 5 a0).toInt := congrArg Int32.toInt (u2403 12 5 a0 (by decide))
                    refine ok_bind (k_X12_sum L hN (a0 := a0) k_a0 (show (q_I d2729 12 24 a0).toInt ≤ 3 by first | assumption | omega) (show (q_I d2729 12 26 a0).toInt ≤ (q_I d2729 12 4 a0).toInt by first | assumption | omega) (show 0 ≤ (q_I d2729 12 7 a0).toInt by first | assumption | omega) (show (q_I d2729 12 7 a0).toInt ≤ 7 by first | assumption | omega) (show (q_I d2729 12 7 a0).toInt = 7 → (q_I d2729 12 5 a0).toInt ≠ -1 by first | assumption | omega) (show 8 - (q_I d2729 12 7 a0).toInt < 20 by first | assumption | omega) i2731) (fun r2735 hr2736 => ?_)
                    obtain ⟨i2785, ⟨u2792, u2793, u2794⟩, p2786, p2787, p2788, p2789, p2790, p2791⟩ := hr2736
                    have u2795 := kp_t u2732 u2792
                    have v2796 : q_V r2735 = q_V δ := (u2793).trans v2733
                    have v2797 := kr_t v2734 u2794
                    have f2798 := cb_12_4 i2785 k_a0
                    have f2799 := ti_b (q_I r2735 12 5 a0)
                    have f2800 := ti_b (q_I r2735 12 7 a0)
                    have f2801 := cb_12_26 i2785 k_a0
                    obtain ⟨b2802, o2803, k2804, n2805, w2806⟩ := gO_12_31 L k_a0
                    obtain rfl := gS_12_31 L k_a0 o2803
                    refine ok_at o2803 ?_
                    refine ok_gd (fun hc2807 => ?_) ?_
                    · rcases hc2807 with hc2807 | hc2807
                      · have c2808 : vx2413.toInt < (0 : Int) := o_lt hc2807
                        omega
                      · omega
                    refine ok_bdv (fun d2809 e2810 => ?_)
                    have i2811 : RI ad h.1 δ0 d2809 := by rw [e2810]; exact RI.sR L i2785 w2806
                    have u2812 := kp_N u2795 (show q_I d2809 = q_I r2735 by rw [e2810]; rfl)
                    have v2813 : q_V d2809 = q_V δ := ((show q_V d2809 = q_V r2735 by rw [e2810]; rfl)).trans v2796
                    have v2814 := kr_s L (by decide) v2797 e2810
                    refine ok_bind (k_X12_sign L hN (a0 := a0) (x1 := (59 : Int32)) k_a0 (show (59 : Int) ≠ 0 by first | assumption | omega) i2811) (fun r2815 hr2816 => ?_)
                    obtain ⟨i2817, ⟨u2821, u2822, u2823, u2824⟩, p2818, p2819, p2820⟩ := hr2816
                    have u2825 := kp_t u2812 u2821
                    have v2826 : q_V r2815 = q_V δ := (u2822).trans v2813
                    have v2827 := kr_t v2814 u2824
                    have f2828 := cb_12_4 i2811 k_a0
                    have f2829 : (q_I d2809 12 4 a0).toInt = (q_I r2735 12 4 a0).toInt := congrArg Int32.toInt (by rw [e2810]; rfl)
                    have f2830 := cb_12_4 i2817 k_a0
                    have f2831 := ti_b (q_I d2809 12 5 a0)
                    have f2832 : (q_I d2809 12 5 a0).toInt = (q_I r2735 12 5 a0).toInt := congrArg Int32.toInt (by rw [e2810]; rfl)
                    have f2833 := ti_b (q_I r2815 12 5 a0)
                    unfold J_X12_readSteps_236
                    have f2834 := cb_12_24 i2817 k_a0
                    have f2835 : (q_I r2815 12 24 a0).toInt = (q_I d2809 12 24 a0).toInt := congrArg Int32.toInt (u2821 12 24 a0 (by decide))
                    have f2836 := cb_12_24 i2811 k_a0
                    have f2837 : (q_I d2809 12 24 a0).toInt = (q_I r2735 12 24 a0).toInt := congrArg Int32.toInt (by rw [e2810]; rfl)
                    have f2838 := cb_12_24 i2785 k_a0
                    have f2839 : (q_I r2735 12 24 a0).toInt = (q_I d2729 12 24 a0).toInt := congrArg Int32.toInt (u2792 12 24 a0 (by decide))
                    have f2840 := cb_12_26 i2817 k_a0
                    have f2841 : (q_I r2815 12 26 a0).toInt = (q_I d2809 12 26 a0).toInt := congrArg Int32.toInt (u2821 12 26 a0 (by decide))
                    have f2842 := cb_12_26 i2811 k_a0
                    have f2843 : (q_I d2809 12 26 a0).toInt = (q_I r2735 12 26 a0).toInt := congrArg Int32.toInt (by rw [e2810]; rfl)
                    have f2844 := ti_b (q_I r2815 12 7 a0)
                    have f2845 : (q_I r2815 12 7 a0).toInt = (q_I d2809 12 7 a0).toInt := congrArg Int32.toInt (u2821 12 7 a0 (by decide))
                    have f2846 := ti_b (q_I d2809 12 7 a0)
                    have f2847 : (q_I d2809 12 7 a0).toInt = (q_I r2735 12 7 a0).toInt := congrArg Int32.toInt (by rw [e2810]; rfl)
                    have f2848 := cb_12_27 i2817 k_a0
                    have f2849 : (q_I r2815 12 27 a0).toInt = (q_I d2809 12 27 a0).toInt := congrArg Int32.toInt (u2821 12 27 a0 (by decide))
                    have f2850 := cb_12_27 i2811 k_a0
                    have f2851 : (q_I d2809 12 27 a0).toInt = (q_I r2735 12 27 a0).toInt := congrArg Int32.toInt (by rw [e2810]; rfl)
                    have f2852 := cb_12_27 i2785 k_a0
                    have f2853 : (q_I r2735 12 27 a0).toInt = (q_I d2729 12 27 a0).toInt := congrArg Int32.toInt (u2792 12 27 a0 (by decide))
                    have f2854 := cb_12_27 i2731 k_a0
                    have f2855 : (q_I d2729 12 27 a0).toInt = (q_I d2453 12 27 a0).toInt := congrArg Int32.toInt (by rw [e2730]; rfl)
                    have f2856 := cb_12_27 i2455 k_a0
                    have f2857 : (q_I d2453 12 27 a0).toInt = (q_I d2434 12 27 a0).toInt := congrArg Int32.toInt (by rw [e2454]; rfl)
                    have f2858 := cb_12_27 i2436 k_a0
                    have f2859 : (q_I d2434 12 27 a0).toInt = (q_I r2398 12 27 a0).toInt := congrArg Int32.toInt (by rw [e2435]; exact rI_o (by decide))
                    have f2860 := cb_12_27 i2400 k_a0
                    have f2861 : (q_I r2398 12 27 a0).toInt = (q_I r97.2 12 27 a0).toInt := congrArg Int32.toInt (u2403 12 27 a0 (by decide))
                    have f2862 := cb_12_27 i99 k_a0
                    have f2863 : (q_I r97.2 12 27 a0).toInt = (q_I r48.2 12 27 a0).toInt := congrArg Int32.toInt (u102 12 27 a0 (by decide))
                    have f2864 := cb_12_27 i50 k_a0
                    have f2865 : (q_I r48.2 12 27 a0).toInt = (q_I r19.2 12 27 a0).toInt := congrArg Int32.toInt (u54 12 27 a0 (by decide))
                    have f2866 := cb_12_27 i21 k_a0
                    have f2867 : (q_I r19.2 12 27 a0).toInt = (q_I δ 12 27 a0).toInt := congrArg Int32.toInt (u25 12 27 a0 (by decide))
                    refine ok_mono (ih r2815 i2817 (show (q_I r2815 12 24 a0).toInt ≤ 3 by first | assumption | omega) (show (q_I r2815 12 26 a0).toInt ≤ (q_I r2815 12 4 a0).toInt by first | assumption | omega) (show (q_I r2815 12 7 a0).toInt = 0 by first | assumption | omega) (show 4 - (q_I r2815 12 27 a0).toInt ≤ K by first | assumption | omega) (show 501 - (q_I r2815 12 4 a0).toInt < _ by omega)) (fun r2868 hr2869 => ?_)
                    obtain ⟨i2870, ⟨u2876, u2877, u2878⟩, p2871, p2872, p2873, p2874, p2875⟩ := hr2869
                    have u2879 := kp_t u2825 u2876
                    have v2880 : q_V r2868 = q_V δ := (u2877).trans v2826
                    have v2881 := kr_t v2827 u2878
                    have f2882 := cb_12_4 i2870 k_a0
                    have f2883 := ti_b (q_I r2868 12 5 a0)
                    have f2884 := ti_b (q_I r2868 12 7 a0)
                    have f2885 := cb_12_27 i2870 k_a0
                    have f2886 := cb_12_26 i2870 k_a0
                    exact ⟨by assumption, ⟨kp_w (by decide) u2879, v2880, kr_w (by decide) v2881⟩, by first | assumption | omega, by first | assumption | omega, by first | assumption | omega, by first | assumption | omega, by first | assumption | omega⟩
set_option maxHeartbeats 4000000 in
theorem ke_X12_readSteps {ad : List Nat} {h : hp} (L : Lay TLx ad h) {δ0 : dp} {N : Nat} (hN : 10000000 ≤ N) : ∀ (k : Nat), ∀ (a0 : Nat) (δ : dp), q_K h.1 a0 = 12 → (q_I δ 12 24 a0).toInt ≤ 3 → (q_I δ 12 26 a0).toInt ≤ (q_I δ 12 4 a0).toInt → (q_I δ 12 7 a0).toInt = 0 → 4 - (q_I δ 12 27 a0).toInt < (k : Int) → RI ad h.1 δ0 δ → ok (E_X12_readSteps N h.1 k a0 δ) (fun r => RI ad h.1 δ0 r ∧ (kp [(12, 4), (12, 5), (12, 6), (12, 7), (12, 25), (12, 26), (12, 27)] δ r ∧ q_V r = q_V δ ∧ kr ad [113, 114, 115, 116, 117] δ r) ∧ (q_I δ 12 4 a0).toInt ≤ (q_I r 12 4 a0).toInt ∧ ((q_I δ 12 5 a0).toInt ≠ -1 → (q_I r 12 5 a0).toInt ≠ -1) ∧ (q_I r 12 7 a0).toInt = (q_I δ 12 7 a0).toInt ∧ (q_I r 12 27 a0).toInt = (q_I δ 12 27 a0).toInt ∧ (q_I r 12 26 a0).toInt ≤ (q_I r 12 4 a0).toInt) := by
  intro k
  induction k with
  | zero =>
    intro a0 δ k_a0 z0 z1 z2 hd I
    exfalso; omega
  | succ k ih =>
    intro a0 δ k_a0 z0 z1 z2 hd I
    unfold E_X12_readSteps B_X12_readSteps
    have f1 := cb_12_24 I k_a0
    have f2 := cb_12_26 I k_a0
    have f3 := cb_12_4 I k_a0
    have f4 := ti_b (q_I δ 12 7 a0)
    have f5 := cb_12_27 I k_a0
    refine ok_mono (kl_X12_readSteps_0 L hN   ih k_a0 _ δ I (show (q_I δ 12 24 a0).toInt ≤ 3 by first | assumption | omega) (show (q_I δ 12 26 a0).toInt ≤ (q_I δ 12 4 a0).toInt by first | assumption | omega) (show (q_I δ 12 7 a0).toInt = 0 by first | assumption | omega) (show 4 - (q_I δ 12 27 a0).toInt ≤ (k : Int) by first | assumption | omega) (show 501 - (q_I δ 12 4 a0).toInt < _ by omega)) (fun r6 hr7 => ?_)
    obtain ⟨i8, ⟨u14, u15, u16⟩, p9, p10, p11, p12, p13⟩ := hr7
    have u17 := kp_t kp_r u14
    have v18 : q_V r6 = q_V δ := (u15).trans rfl
    have v19 := kr_t kr_r u16
    have f20 := cb_12_4 i8 k_a0
    have f21 := ti_b (q_I δ 12 5 a0)
    have f22 := ti_b (q_I r6 12 5 a0)
    have f23 := ti_b (q_I r6 12 7 a0)
    have f24 := cb_12_27 i8 k_a0
    have f25 := cb_12_26 i8 k_a0
    exact ⟨by assumption, ⟨kp_w (by decide) u17, v18, kr_w (by decide) v19⟩, by first | assumption | omega, by first | assumption | omega, by first | assumption | omega, by first | assumption | omega, by first | assumption | omega⟩
set_option maxHeartbeats 4000000 in
theorem k_X12_readSteps {ad : List Nat} {h : hp} (L : Lay TLx ad h) {δ0 : dp} {N : Nat} (hN : 10000000 ≤ N) {a0 : Nat} (k_a0 : q_K h.1 a0 = 12) {δ : dp} (z0 : (q_I δ 12 24 a0).toInt ≤ 3) (z1 : (q_I δ 12 26 a0).toInt ≤ (q_I δ 12 4 a0).toInt) (z2 : (q_I δ 12 7 a0).toInt = 0) (hd : 4 - (q_I δ 12 27 a0).toInt < 20) (I : RI ad h.1 δ0 δ) : ok (D_X12_readSteps N h.1 a0 δ) (fun r => RI ad h.1 δ0 r ∧ (kp [(12, 4), (12, 5), (12, 6), (12, 7), (12, 25), (12, 26), (12, 27)] δ r ∧ q_V r = q_V δ ∧ kr ad [113, 114, 115, 116, 117] δ r) ∧ (q_I δ 12 4 a0).toInt ≤ (q_I r 12 4 a0).toInt ∧ ((q_I δ 12 5 a0).toInt ≠ -1 → (q_I r 12 5 a0).toInt ≠ -1) ∧ (q_I r 12 7 a0).toInt = (q_I δ 12 7 a0).toInt ∧ (q_I r 12 27 a0).toInt = (q_I δ 12 27 a0).toInt ∧ (q_I r 12 26 a0).toInt ≤ (q_I r 12 4 a0).toInt) := ke_X12_readSteps L hN 20 a0 δ k_a0 z0 z1 z2 hd I
set_option maxHeartbeats 4000000 in
theorem k_X12_thief {ad : List Nat} {h : hp} (L : Lay TLx ad h) {δ0 : dp} {N : Nat} (hN : 10000000 ≤ N) {a0 : Nat} {x1 : Int32} (k_a0 : q_K h.1 a0 = 12) {δ : dp} (I : RI ad h.1 δ0 δ) : ok (D_X12_thief N h.1 a0 x1 δ) (fun r => RI ad h.1 δ0 r.2 ∧ (kp [(12, 0), (12, 2), (12, 3), (12, 4), (12, 5), (12, 6), (12, 7), (12, 8), (12, 24), (12, 25), (12, 26), (12, 27)] δ r.2 ∧ q_V r.2 = q_V δ ∧ kr ad [100, 112, 113, 114, 115, 116, 117] δ r.2) ∧ (0 ≤ (x1).toInt ∧ (x1).toInt ≤ (q_I δ 12 2 a0).toInt → (q_I r.2 12 2 a0).toInt = 0) ∧ ((x1).toInt < 0 ∨ (q_I δ 12 2 a0).toInt < (x1).toInt → (q_I r.2 12 2 a0).toInt = (q_I δ 12 2 a0).toInt)) := by
  unfold D_X12_thief
  refine ok_bdv (fun d1 e2 => ?_)
  have i3 : RI ad h.1 δ0 d1 := by rw [e2]; exact cs_12_0 L I
  have u4 := kp_I kp_r e2
  have v5 : q_V d1 = q_V δ := ((show q_V d1 = q_V δ by rw [e2]; rfl)).trans rfl
  have v6 := kr_N kr_r (show q_R d1 = q_R δ by rw [e2]; rfl)
  have f7 := ti_b x1
  refine ok_ite (fun h8 => ?_) (fun h8 => ?_)
  · have c9 : x1.toInt < (0 : Int) := o_lt h8
    unfold J_X12_thief_22
    unfold J_X12_thief_23
    refine ok_bind (k_X12_may L hN (a0 := a0) (x1 := (0 : Int32)) (x2 := (1 : Int32)) (x3 := (2 : Int32)) k_a0 (show (1 : Int) ≠ 0 by first | assumption | omega) (show 0 ≤ (2 : Int) by first | assumption | omega) (show (2 : Int) ≤ 2 by first | assumption | omega) i3) (fun r10 hr11 => ?_)
    obtain ⟨i12, ⟨u16, u17, u18⟩, p13, p14, p15⟩ := hr11
    have u19 := kp_t u4 u16
    have v20 : q_V r10.2 = q_V δ := (u17).trans v5
    have v21 := kr_t v6 u18
    have f22 := bo_t p13
    have f23 := ti_b r10.1
    replace p14 : ((r10.1).toInt = 1 → (0 : Int) ≠ 0) := p14
    have f24 := ti_b (q_I d1 12 0 a0)
    have f25 : (q_I d1 12 0 a0).toInt = (0 : Int) := congrArg Int32.toInt (show q_I d1 12 0 a0 = (0 : Int32) by rw [e2]; exact rI_s)
    replace p15 : ((q_I d1 12 0 a0).toInt = 0 → (r10.1).toInt = 0 → (0 : Int) = 0) := p15
    have f26 := ti_b r10.1
    refine ok_ite (fun h27 => ?_) (fun h27 => ?_)
    · have c28 : r10.1.toInt = (0 : Int) := o_eq h27
      have f29 := cb_12_2 I k_a0
      have f30 := cb_12_2 i12 k_a0
      have f31 : (q_I r10.2 12 2 a0).toInt = (q_I d1 12 2 a0).toInt := congrArg Int32.toInt (u16 12 2 a0 (by decide))
      have f32 := cb_12_2 i3 k_a0
      have f33 : (q_I d1 12 2 a0).toInt = (q_I δ 12 2 a0).toInt := congrArg Int32.toInt (by rw [e2]; exact rI_o (by decide))
      exact ok_some (show RI ad h.1 δ0 r10.2 ∧ (kp [(12, 0), (12, 2), (12, 3), (12, 4), (12, 5), (12, 6), (12, 7), (12, 8), (12, 24), (12, 25), (12, 26), (12, 27)] δ r10.2 ∧ q_V r10.2 = q_V δ ∧ kr ad [100, 112, 113, 114, 115, 116, 117] δ r10.2) ∧ (0 ≤ (x1).toInt ∧ (x1).toInt ≤ (q_I δ 12 2 a0).toInt → (q_I r10.2 12 2 a0).toInt = 0) ∧ ((x1).toInt < 0 ∨ (q_I δ 12 2 a0).toInt < (x1).toInt → (q_I r10.2 12 2 a0).toInt = (q_I δ 12 2 a0).toInt) from ⟨i12, ⟨kp_w (by decide) u19, v20, kr_w (by decide) v21⟩, by first | assumption | omega, by first | assumption | omega⟩)
    · have c34 : r10.1.toInt ≠ (0 : Int) := o_ne h27
      refine ok_bind (k_X12_begins L hN (a0 := a0) (x1 := x1) k_a0 (show 0 ≤ (x1).toInt by first | assumption | omega) (show (x1).toInt ≤ 500 by first | assumption | omega) i12) (fun r35 hr36 => ?_)
      obtain ⟨i37, ⟨u43, u44, u45, u46⟩, p38, p39, p40, p41, p42⟩ := hr36
      have u47 := kp_t u19 u43
      have v48 : q_V r35 = q_V δ := (u44).trans v20
      have v49 := kr_t v21 u46
      have f50 := cb_12_2 i37 k_a0
      have f51 := cb_12_4 i37 k_a0
      have f52 := cb_12_3 i37 k_a0
      have f53 := ti_b (q_I r35 12 5 a0)
      have f54 := ti_b (q_I r35 12 7 a0)
      have f55 := cb_12_24 i37 k_a0
      have f56 : (q_I r35 12 24 a0).toInt = (q_I r10.2 12 24 a0).toInt := congrArg Int32.toInt (u43 12 24 a0 (by decide))
      have f57 := cb_12_24 i12 k_a0
      have f58 : (q_I r10.2 12 24 a0).toInt = (q_I d1 12 24 a0).toInt := congrArg Int32.toInt (u16 12 24 a0 (by decide))
      have f59 := cb_12_24 i3 k_a0
      have f60 : (q_I d1 12 24 a0).toInt = (q_I δ 12 24 a0).toInt := congrArg Int32.toInt (by rw [e2]; exact rI_o (by decide))
      have f61 := cb_12_24 I k_a0
      refine ok_ite (fun h62 => ?_) (fun h62 => ?_)
      · have c63 : (q_I r35 12 24 a0).toInt = (4 : Int) := o_eq h62
        have f64 := cb_12_2 I k_a0
        exact ok_some (show RI ad h.1 δ0 r35 ∧ (kp [(12, 0), (12, 2), (12, 3), (12, 4), (12, 5), (12, 6), (12, 7), (12, 8), (12, 24), (12, 25), (12, 26), (12, 27)] δ r35 ∧ q_V r35 = q_V δ ∧ kr ad [100, 112, 113, 114, 115, 116, 117] δ r35) ∧ (0 ≤ (x1).toInt ∧ (x1).toInt ≤ (q_I δ 12 2 a0).toInt → (q_I r35 12 2 a0).toInt = 0) ∧ ((x1).toInt < 0 ∨ (q_I δ 12 2 a0).toInt < (x1).toInt → (q_I r35 12 2 a0).toInt = (q_I δ 12 2 a0).toInt) from ⟨i37, ⟨kp_w (by decide) u47, v48, kr_w (by decide) v49⟩, by first | assumption | omega, by first | assumption | omega⟩)
      · have c65 : (q_I r35 12 24 a0).toInt ≠ (4 : Int) := o_ne h62
        refine ok_bdv (fun d66 e67 => ?_)
        have i68 : RI ad h.1 δ0 d66 := by rw [e67]; exact cs_12_25 L i37 k_a0 (show 0 ≤ (0 : Int) by omega) (show (0 : Int) ≤ 60 by omega)
        have u69 := kp_I u47 e67
        have v70 : q_V d66 = q_V δ := ((show q_V d66 = q_V r35 by rw [e67]; rfl)).trans v48
        have v71 := kr_N v49 (show q_R d66 = q_R r35 by rw [e67]; rfl)
        refine ok_bdv (fun d72 e73 => ?_)
        have i74 : RI ad h.1 δ0 d72 := by rw [e73]; exact cs_12_26 L i68 k_a0 (show 0 ≤ (0 : Int) by omega) (show (0 : Int) ≤ 500 by omega)
        have u75 := kp_I u69 e73
        have v76 : q_V d72 = q_V δ := ((show q_V d72 = q_V d66 by rw [e73]; rfl)).trans v70
        have v77 := kr_N v71 (show q_R d72 = q_R d66 by rw [e73]; rfl)
        refine ok_bdv (fun d78 e79 => ?_)
        have i80 : RI ad h.1 δ0 d78 := by rw [e79]; exact cs_12_27 L i74 k_a0 (show 0 ≤ (0 : Int) by omega) (show (0 : Int) ≤ 3 by omega)
        have u81 := kp_I u75 e79
        have v82 : q_V d78 = q_V δ := ((show q_V d78 = q_V d72 by rw [e79]; rfl)).trans v76
        have v83 := kr_N v77 (show q_R d78 = q_R d72 by rw [e79]; rfl)
        refine ok_bind (k_X12_isMore L hN (a0 := a0) k_a0 i80) (fun r84 hr85 => ?_)
        obtain ⟨i86, ⟨u90, u91, u92, u93⟩, p87, p88, p89⟩ := hr85
        have u94 := kp_t u81 u90
        have v95 : q_V r84.2 = q_V δ := (u91).trans v82
        have v96 := kr_t v83 u93
        have f97 := bo_t p87
        have f98 := cb_12_4 i80 k_a0
        have f99 : (q_I d78 12 4 a0).toInt = (q_I d72 12 4 a0).toInt := congrArg Int32.toInt (by rw [e79]; exact rI_o (by decide))
        have f100 := cb_12_4 i74 k_a0
        have f101 : (q_I d72 12 4 a0).toInt = (q_I d66 12 4 a0).toInt := congrArg Int32.toInt (by rw [e73]; exact rI_o (by decide))
        have f102 := cb_12_4 i68 k_a0
        have f103 : (q_I d66 12 4 a0).toInt = (q_I r35 12 4 a0).toInt := congrArg Int32.toInt (by rw [e67]; exact rI_o (by decide))
        have f104 := cb_12_4 i86 k_a0
        have f105 := ti_b r84.1
        have f106 := cb_12_3 i80 k_a0
        have f107 : (q_I d78 12 3 a0).toInt = (q_I d72 12 3 a0).toInt := congrArg Int32.toInt (by rw [e79]; exact rI_o (by decide))
        have f108 := cb_12_3 i74 k_a0
        have f109 : (q_I d72 12 3 a0).toInt = (q_I d66 12 3 a0).toInt := congrArg Int32.toInt (by rw [e73]; exact rI_o (by decide))
        have f110 := cb_12_3 i68 k_a0
        have f111 : (q_I d66 12 3 a0).toInt = (q_I r35 12 3 a0).toInt := congrArg Int32.toInt (by rw [e67]; exact rI_o (by decide))
        have f112 := ti_b r84.1
        refine ok_ite (fun h113 => ?_) (fun h113 => ?_)
        · have c114 : r84.1.toInt = (0 : Int) := o_eq h113
          have f117 := cb_12_3 i86 k_a0
          have f118 : (q_I r84.2 12 3 a0).toInt = (q_I d78 12 3 a0).toInt := congrArg Int32.toInt (u90 12 3 a0 (by decide))
          refine ok_bind (k_X12_wrong L hN (a0 := a0) (x1 := (1 : Int32)) (x2 := (q_I r84.2 12 3 a0)) k_a0 (show 0 ≤ ((q_I r84.2 12 3 a0)).toInt by first | assumption | omega) i86) (fun r115 hr116 => ?_)
          obtain ⟨i119, ⟨u121, u122, u123, u124⟩, p120⟩ := hr116
          have u125 := kp_t u94 u121
          have v126 : q_V r115 = q_V δ := (u122).trans v95
          have v127 := kr_t v96 u124
          have f128 := ti_b (q_I r115 12 5 a0)
          unfold J_X12_thief_79
          have f131 := cb_12_24 i119 k_a0
          have f132 : (q_I r115 12 24 a0).toInt = (q_I r84.2 12 24 a0).toInt := congrArg Int32.toInt (u121 12 24 a0 (by decide))
          have f133 := cb_12_24 i86 k_a0
          have f134 : (q_I r84.2 12 24 a0).toInt = (q_I d78 12 24 a0).toInt := congrArg Int32.toInt (u90 12 24 a0 (by decide))
          have f135 := cb_12_24 i80 k_a0
          have f136 : (q_I d78 12 24 a0).toInt = (q_I d72 12 24 a0).toInt := congrArg Int32.toInt (by rw [e79]; exact rI_o (by decide))
          have f137 := cb_12_24 i74 k_a0
          have f138 : (q_I d72 12 24 a0).toInt = (q_I d66 12 24 a0).toInt := congrArg Int32.toInt (by rw [e73]; exact rI_o (by decide))
          have f139 := cb_12_24 i68 k_a0
          have f140 : (q_I d66 12 24 a0).toInt = (q_I r35 12 24 a0).toInt := congrArg Int32.toInt (by rw [e67]; exact rI_o (by decide))
          have f141 := cb_12_26 i119 k_a0
          have f142 : (q_I r115 12 26 a0).toInt = (q_I r84.2 12 26 a0).toInt := congrArg Int32.toInt (u121 12 26 a0 (by decide))
          have f143 := cb_12_26 i86 k_a0
          have f144 : (q_I r84.2 12 26 a0).toInt = (q_I d78 12 26 a0).toInt := congrArg Int32.toInt (u90 12 26 a0 (by decide))
          have f145 := cb_12_26 i80 k_a0
          have f146 : (q_I d78 12 26 a0).toInt = (q_I d72 12 26 a0).toInt := congrArg Int32.toInt (by rw [e79]; exact rI_o (by decide))
          have f147 := cb_12_26 i74 k_a0
          have f148 : (q_I d72 12 26 a0).toInt = (0 : Int) := congrArg Int32.toInt (show q_I d72 12 26 a0 = (0 : Int32) by rw [e73]; exact rI_s)
          have f149 := cb_12_4 i119 k_a0
          have f150 : (q_I r115 12 4 a0).toInt = (q_I r84.2 12 4 a0).toInt := congrArg Int32.toInt (u121 12 4 a0 (by decide))
          have f151 := ti_b (q_I r115 12 7 a0)
          have f152 : (q_I r115 12 7 a0).toInt = (q_I r84.2 12 7 a0).toInt := congrArg Int32.toInt (u121 12 7 a0 (by decide))
          have f153 := ti_b (q_I r84.2 12 7 a0)
          have f154 : (q_I r84.2 12 7 a0).toInt = (q_I d78 12 7 a0).toInt := congrArg Int32.toInt (u90 12 7 a0 (by decide))
          have f155 := ti_b (q_I d78 12 7 a0)
          have f156 : (q_I d78 12 7 a0).toInt = (q_I d72 12 7 a0).toInt := congrArg Int32.toInt (by rw [e79]; exact rI_o (by decide))
          have f157 := ti_b (q_I d72 12 7 a0)
          have f158 : (q_I d72 12 7 a0).toInt = (q_I d66 12 7 a0).toInt := congrArg Int32.toInt (by rw [e73]; exact rI_o (by decide))
          have f159 := ti_b (q_I d66 12 7 a0)
          have f160 : (q_I d66 12 7 a0).toInt = (q_I r35 12 7 a0).toInt := congrArg Int32.toInt (by rw [e67]; exact rI_o (by decide))
          have f161 := cb_12_27 i119 k_a0
          have f162 : (q_I r115 12 27 a0).toInt = (q_I r84.2 12 27 a0).toInt := congrArg Int32.toInt (u121 12 27 a0 (by decide))
          have f163 := cb_12_27 i86 k_a0
          have f164 : (q_I r84.2 12 27 a0).toInt = (q_I d78 12 27 a0).toInt := congrArg Int32.toInt (u90 12 27 a0 (by decide))
          have f165 := cb_12_27 i80 k_a0
          have f166 : (q_I d78 12 27 a0).toInt = (0 : Int) := congrArg Int32.toInt (show q_I d78 12 27 a0 = (0 : Int32) by rw [e79]; exact rI_s)
          refine ok_bind (k_X12_readSteps L hN (a0 := a0) k_a0 (show (q_I r115 12 24 a0).toInt ≤ 3 by first | assumption | omega) (show (q_I r115 12 26 a0).toInt ≤ (q_I r115 12 4 a0).toInt by first | assumption | omega) (show (q_I r115 12 7 a0).toInt = 0 by first | assumption | omega) (show 4 - (q_I r115 12 27 a0).toInt < 20 by first | assumption | omega) i119) (fun r129 hr130 => ?_)
          obtain ⟨i167, ⟨u173, u174, u175⟩, p168, p169, p170, p171, p172⟩ := hr130
          have u176 := kp_t u125 u173
          have v177 : q_V r129 = q_V δ := (u174).trans v126
          have v178 := kr_t v127 u175
          have f179 := cb_12_4 i167 k_a0
          have f180 := ti_b (q_I r129 12 5 a0)
          have f181 := ti_b (q_I r129 12 7 a0)
          have f182 := cb_12_27 i167 k_a0
          have f183 := cb_12_26 i167 k_a0
          refine ok_bind (k_X12_fine L hN (a0 := a0) k_a0 i167) (fun r184 hr185 => ?_)
          obtain ⟨i186, p187, p188, p189⟩ := hr185
          try rw [i186]
          have f190 := bo_t p187
          have f191 := ti_b r184.1
          have f192 := ti_b r184.1
          refine ok_ite (fun h193 => ?_) (fun h193 => ?_)
          · have c194 : r184.1.toInt = (0 : Int) := o_eq h193
            unfold J_X12_thief_106
            refine ok_bind (k_X12_result L hN (a0 := a0) (x1 := (q_I r129 12 24 a0)) k_a0 i167) (fun r195 hr196 => ?_)
            obtain ⟨i197, ⟨u198, u199, u200, u201⟩⟩ := hr196
            have u202 := kp_t u176 u198
            have v203 : q_V r195.2 = q_V δ := (u199).trans v177
            have v204 := kr_t v178 u201
            have f205 := ti_b r195.1
            have f206 := cb_12_24 i197 k_a0
            have f207 : (q_I r195.2 12 24 a0).toInt = (q_I r129 12 24 a0).toInt := congrArg Int32.toInt (u198 12 24 a0 (by decide))
            have f208 := cb_12_24 i167 k_a0
            have f209 : (q_I r129 12 24 a0).toInt = (q_I r115 12 24 a0).toInt := congrArg Int32.toInt (u173 12 24 a0 (by decide))
            refine ok_ite (fun h210 => ?_) (fun h210 => ?_)
            · have c211 : r195.1.toInt = (q_I r195.2 12 24 a0).toInt := o_eq h210
              obtain ⟨b212, o213, k214, n215⟩ := gO_12_28 L k_a0
              obtain rfl := gS_12_28 L k_a0 o213
              refine ok_at o213 ?_
              have t216 := ti_tn (q_I r195.2 12 24 a0)
              refine ok_gd (fun hc217 => ?_) ?_
              · rcases hc217 with hc217 | hc217
                · have c218 : (q_I r195.2 12 24 a0).toInt < (0 : Int) := o_lt hc217
                  omega
                · omega
              have f222 := cb_12_25 i197 k_a0
              have f223 : (q_I r195.2 12 25 a0).toInt = (q_I r129 12 25 a0).toInt := congrArg Int32.toInt (u198 12 25 a0 (by decide))
              have f224 := cb_12_25 i167 k_a0
              refine ok_bdv (fun d219 e220 => ?_)
              have i221 : RI ad h.1 δ0 d219 := by rw [e220]; exact cr_112 L i197 (show 0 ≤ (q_I r195.2 12 25 a0).toInt by omega) (show (q_I r195.2 12 25 a0).toInt ≤ 60 by omega)
              have u225 := kp_N u202 (show q_I d219 = q_I r195.2 by rw [e220]; rfl)
              have v226 : q_V d219 = q_V δ := ((show q_V d219 = q_V r195.2 by rw [e220]; rfl)).trans v203
              have v227 := kr_s L (by decide) v204 e220
              have f231 := cb_12_24 i221 k_a0
              have f232 : (q_I d219 12 24 a0).toInt = (q_I r195.2 12 24 a0).toInt := congrArg Int32.toInt (by rw [e220]; rfl)
              first | (have q234 := te_addc (c := 1) (n := 1) rfl (q_I d219 12 24 a0) (by omega) (by omega); obtain ⟨f235, f236, f237⟩ := q234) | (obtain ⟨q234, f235, f236, f237⟩ := ti_addc (c := 1) (n := 1) rfl (q_I d219 12 24 a0))
              refine ok_bdv (fun d228 e229 => ?_)
              have i230 : RI ad h.1 δ0 d228 := by rw [e229]; exact cs_12_24 L i221 k_a0 (show 0 ≤ ((q_I d219 12 24 a0) + (1 : Int32)).toInt by omega) (show ((q_I d219 12 24 a0) + (1 : Int32)).toInt ≤ 4 by omega)
              have u238 := kp_I u225 e229
              have v239 : q_V d228 = q_V δ := ((show q_V d228 = q_V d219 by rw [e229]; rfl)).trans v226
              have v240 := kr_N v227 (show q_R d228 = q_R d219 by rw [e229]; rfl)
              unfold J_X12_thief_146
              have f241 := cb_12_2 I k_a0
              have f242 := cb_12_2 i230 k_a0
              have f243 : (q_I d228 12 2 a0).toInt = (q_I d219 12 2 a0).toInt := congrArg Int32.toInt (by rw [e229]; exact rI_o (by decide))
              have f244 := cb_12_2 i221 k_a0
              have f245 : (q_I d219 12 2 a0).toInt = (q_I r195.2 12 2 a0).toInt := congrArg Int32.toInt (by rw [e220]; rfl)
              have f246 := cb_12_2 i197 k_a0
              have f247 : (q_I r195.2 12 2 a0).toInt = (q_I r129 12 2 a0).toInt := congrArg Int32.toInt (u198 12 2 a0 (by decide))
              have f248 := cb_12_2 i167 k_a0
              have f249 : (q_I r129 12 2 a0).toInt = (q_I r115 12 2 a0).toInt := congrArg Int32.toInt (u173 12 2 a0 (by decide))
              have f250 := cb_12_2 i119 k_a0
              have f251 : (q_I r115 12 2 a0).toInt = (q_I r84.2 12 2 a0).toInt := congrArg Int32.toInt (u121 12 2 a0 (by decide))
              have f252 := cb_12_2 i86 k_a0
              have f253 : (q_I r84.2 12 2 a0).toInt = (q_I d78 12 2 a0).toInt := congrArg Int32.toInt (u90 12 2 a0 (by decide))
              have f254 := cb_12_2 i80 k_a0
              have f255 : (q_I d78 12 2 a0).toInt = (q_I d72 12 2 a0).toInt := congrArg Int32.toInt (by rw [e79]; exact rI_o (by decide))
              have f256 := cb_12_2 i74 k_a0
              have f257 : (q_I d72 12 2 a0).toInt = (q_I d66 12 2 a0).toInt := congrArg Int32.toInt (by rw [e73]; exact rI_o (by decide))
              have f258 := cb_12_2 i68 k_a0
              have f259 : (q_I d66 12 2 a0).toInt = (q_I r35 12 2 a0).toInt := congrArg Int32.toInt (by rw [e67]; exact rI_o (by decide))
              exact ok_some (show RI ad h.1 δ0 d228 ∧ (kp [(12, 0), (12, 2), (12, 3), (12, 4), (12, 5), (12, 6), (12, 7), (12, 8), (12, 24), (12, 25), (12, 26), (12, 27)] δ d228 ∧ q_V d228 = q_V δ ∧ kr ad [100, 112, 113, 114, 115, 116, 117] δ d228) ∧ (0 ≤ (x1).toInt ∧ (x1).toInt ≤ (q_I δ 12 2 a0).toInt → (q_I d228 12 2 a0).toInt = 0) ∧ ((x1).toInt < 0 ∨ (q_I δ 12 2 a0).toInt < (x1).toInt → (q_I d228 12 2 a0).toInt = (q_I δ 12 2 a0).toInt) from ⟨i230, ⟨kp_w (by decide) u238, v239, kr_w (by decide) v240⟩, by first | assumption | omega, by first | assumption | omega⟩)
            · have c260 : r195.1.toInt ≠ (q_I r195.2 12 24 a0).toInt := o_ne h210
              unfold J_X12_thief_146
              have f261 := cb_12_2 I k_a0
              have f262 := cb_12_2 i197 k_a0
              have f263 : (q_I r195.2 12 2 a0).toInt = (q_I r129 12 2 a0).toInt := congrArg Int32.toInt (u198 12 2 a0 (by decide))
              have f264 := cb_12_2 i167 k_a0
              have f265 : (q_I r129 12 2 a0).toInt = (q_I r115 12 2 a0).toInt := congrArg Int32.toInt (u173 12 2 a0 (by decide))
              have f266 := cb_12_2 i119 k_a0
              have f267 : (q_I r115 12 2 a0).toInt = (q_I r84.2 12 2 a0).toInt := congrArg Int32.toInt (u121 12 2 a0 (by decide))
              have f268 := cb_12_2 i86 k_a0
              have f269 : (q_I r84.2 12 2 a0).toInt = (q_I d78 12 2 a0).toInt := congrArg Int32.toInt (u90 12 2 a0 (by decide))
              have f270 := cb_12_2 i80 k_a0
              have f271 : (q_I d78 12 2 a0).toInt = (q_I d72 12 2 a0).toInt := congrArg Int32.toInt (by rw [e79]; exact rI_o (by decide))
              have f272 := cb_12_2 i74 k_a0
              have f273 : (q_I d72 12 2 a0).toInt = (q_I d66 12 2 a0).toInt := congrArg Int32.toInt (by rw [e73]; exact rI_o (by decide))
              have f274 := cb_12_2 i68 k_a0
              have f275 : (q_I d66 12 2 a0).toInt = (q_I r35 12 2 a0).toInt := congrArg Int32.toInt (by rw [e67]; exact rI_o (by decide))
              exact ok_some (show RI ad h.1 δ0 r195.2 ∧ (kp [(12, 0), (12, 2), (12, 3), (12, 4), (12, 5), (12, 6), (12, 7), (12, 8), (12, 24), (12, 25), (12, 26), (12, 27)] δ r195.2 ∧ q_V r195.2 = q_V δ ∧ kr ad [100, 112, 113, 114, 115, 116, 117] δ r195.2) ∧ (0 ≤ (x1).toInt ∧ (x1).toInt ≤ (q_I δ 12 2 a0).toInt → (q_I r195.2 12 2 a0).toInt = 0) ∧ ((x1).toInt < 0 ∨ (q_I δ 12 2 a0).toInt < (x1).toInt → (q_I r195.2 12 2 a0).toInt = (q_I δ 12 2 a0).toInt) from ⟨i197, ⟨kp_w (by decide) u202, v203, kr_w (by decide) v204⟩, by first | assumption | omega, by first | assumption | omega⟩)
          · have c276 : r184.1.toInt ≠ (0 : Int) := o_ne h193
            refine ok_bind (k_X12_isMore L hN (a0 := a0) k_a0 i167) (fun r277 hr278 => ?_)
            obtain ⟨i279, ⟨u283, u284, u285, u286⟩, p280, p281, p282⟩ := hr278
            have u287 := kp_t u176 u283
            have v288 : q_V r277.2 = q_V δ := (u284).trans v177
            have v289 := kr_t v178 u286
            have f290 := bo_t p280
            have f291 := cb_12_4 i279 k_a0
            have f292 := ti_b r277.1
            have f293 := cb_12_3 i167 k_a0
            have f294 : (q_I r129 12 3 a0).toInt = (q_I r115 12 3 a0).toInt := congrArg Int32.toInt (u173 12 3 a0 (by decide))
            have f295 := cb_12_3 i119 k_a0
            have f296 : (q_I r115 12 3 a0).toInt = (q_I r84.2 12 3 a0).toInt := congrArg Int32.toInt (u121 12 3 a0 (by decide))
            have f297 := ti_b r277.1
            refine ok_ite (fun h298 => ?_) (fun h298 => ?_)
            · have c299 : r277.1.toInt = (0 : Int) := o_eq h298
              unfold J_X12_thief_106
              refine ok_bind (k_X12_result L hN (a0 := a0) (x1 := (q_I r277.2 12 24 a0)) k_a0 i279) (fun r300 hr301 => ?_)
              obtain ⟨i302, ⟨u303, u304, u305, u306⟩⟩ := hr301
              have u307 := kp_t u287 u303
              have v308 : q_V r300.2 = q_V δ := (u304).trans v288
              have v309 := kr_t v289 u306
              have f310 := ti_b r300.1
              have f311 := cb_12_24 i302 k_a0
              have f312 : (q_I r300.2 12 24 a0).toInt = (q_I r277.2 12 24 a0).toInt := congrArg Int32.toInt (u303 12 24 a0 (by decide))
              have f313 := cb_12_24 i279 k_a0
              have f314 : (q_I r277.2 12 24 a0).toInt = (q_I r129 12 24 a0).toInt := congrArg Int32.toInt (u283 12 24 a0 (by decide))
              have f315 := cb_12_24 i167 k_a0
              have f316 : (q_I r129 12 24 a0).toInt = (q_I r115 12 24 a0).toInt := congrArg Int32.toInt (u173 12 24 a0 (by decide))
              refine ok_ite (fun h317 => ?_) (fun h317 => ?_)
              · have c318 : r300.1.toInt = (q_I r300.2 12 24 a0).toInt := o_eq h317
                obtain ⟨b319, o320, k321, n322⟩ := gO_12_28 L k_a0
                obtain rfl := gS_12_28 L k_a0 o320
                refine ok_at o320 ?_
                have t323 := ti_tn (q_I r300.2 12 24 a0)
                refine ok_gd (fun hc324 => ?_) ?_
                · rcases hc324 with hc324 | hc324
                  · have c325 : (q_I r300.2 12 24 a0).toInt < (0 : Int) := o_lt hc324
                    omega
                  · omega
                have f329 := cb_12_25 i302 k_a0
                have f330 : (q_I r300.2 12 25 a0).toInt = (q_I r277.2 12 25 a0).toInt := congrArg Int32.toInt (u303 12 25 a0 (by decide))
                have f331 := cb_12_25 i279 k_a0
                have f332 : (q_I r277.2 12 25 a0).toInt = (q_I r129 12 25 a0).toInt := congrArg Int32.toInt (u283 12 25 a0 (by decide))
                have f333 := cb_12_25 i167 k_a0
                refine ok_bdv (fun d326 e327 => ?_)
                have i328 : RI ad h.1 δ0 d326 := by rw [e327]; exact cr_112 L i302 (show 0 ≤ (q_I r300.2 12 25 a0).toInt by omega) (show (q_I r300.2 12 25 a0).toInt ≤ 60 by omega)
                have u334 := kp_N u307 (show q_I d326 = q_I r300.2 by rw [e327]; rfl)
                have v335 : q_V d326 = q_V δ := ((show q_V d326 = q_V r300.2 by rw [e327]; rfl)).trans v308
                have v336 := kr_s L (by decide) v309 e327
                have f340 := cb_12_24 i328 k_a0
                have f341 : (q_I d326 12 24 a0).toInt = (q_I r300.2 12 24 a0).toInt := congrArg Int32.toInt (by rw [e327]; rfl)
                first | (have q343 := te_addc (c := 1) (n := 1) rfl (q_I d326 12 24 a0) (by omega) (by omega); obtain ⟨f344, f345, f346⟩ := q343) | (obtain ⟨q343, f344, f345, f346⟩ := ti_addc (c := 1) (n := 1) rfl (q_I d326 12 24 a0))
                refine ok_bdv (fun d337 e338 => ?_)
                have i339 : RI ad h.1 δ0 d337 := by rw [e338]; exact cs_12_24 L i328 k_a0 (show 0 ≤ ((q_I d326 12 24 a0) + (1 : Int32)).toInt by omega) (show ((q_I d326 12 24 a0) + (1 : Int32)).toInt ≤ 4 by omega)
                have u347 := kp_I u334 e338
                have v348 : q_V d337 = q_V δ := ((show q_V d337 = q_V d326 by rw [e338]; rfl)).trans v335
                have v349 := kr_N v336 (show q_R d337 = q_R d326 by rw [e338]; rfl)
                unfold J_X12_thief_146
                have f350 := cb_12_2 I k_a0
                have f351 := cb_12_2 i339 k_a0
                have f352 : (q_I d337 12 2 a0).toInt = (q_I d326 12 2 a0).toInt := congrArg Int32.toInt (by rw [e338]; exact rI_o (by decide))
                have f353 := cb_12_2 i328 k_a0
                have f354 : (q_I d326 12 2 a0).toInt = (q_I r300.2 12 2 a0).toInt := congrArg Int32.toInt (by rw [e327]; rfl)
                have f355 := cb_12_2 i302 k_a0
                have f356 : (q_I r300.2 12 2 a0).toInt = (q_I r277.2 12 2 a0).toInt := congrArg Int32.toInt (u303 12 2 a0 (by decide))
                have f357 := cb_12_2 i279 k_a0
                have f358 : (q_I r277.2 12 2 a0).toInt = (q_I r129 12 2 a0).toInt := congrArg Int32.toInt (u283 12 2 a0 (by decide))
                have f359 := cb_12_2 i167 k_a0
                have f360 : (q_I r129 12 2 a0).toInt = (q_I r115 12 2 a0).toInt := congrArg Int32.toInt (u173 12 2 a0 (by decide))
                have f361 := cb_12_2 i119 k_a0
                have f362 : (q_I r115 12 2 a0).toInt = (q_I r84.2 12 2 a0).toInt := congrArg Int32.toInt (u121 12 2 a0 (by decide))
                have f363 := cb_12_2 i86 k_a0
                have f364 : (q_I r84.2 12 2 a0).toInt = (q_I d78 12 2 a0).toInt := congrArg Int32.toInt (u90 12 2 a0 (by decide))
                have f365 := cb_12_2 i80 k_a0
                have f366 : (q_I d78 12 2 a0).toInt = (q_I d72 12 2 a0).toInt := congrArg Int32.toInt (by rw [e79]; exact rI_o (by decide))
                have f367 := cb_12_2 i74 k_a0
                have f368 : (q_I d72 12 2 a0).toInt = (q_I d66 12 2 a0).toInt := congrArg Int32.toInt (by rw [e73]; exact rI_o (by decide))
                have f369 := cb_12_2 i68 k_a0
                have f370 : (q_I d66 12 2 a0).toInt = (q_I r35 12 2 a0).toInt := congrArg Int32.toInt (by rw [e67]; exact rI_o (by decide))
                exact ok_some (show RI ad h.1 δ0 d337 ∧ (kp [(12, 0), (12, 2), (12, 3), (12, 4), (12, 5), (12, 6), (12, 7), (12, 8), (12, 24), (12, 25), (12, 26), (12, 27)] δ d337 ∧ q_V d337 = q_V δ ∧ kr ad [100, 112, 113, 114, 115, 116, 117] δ d337) ∧ (0 ≤ (x1).toInt ∧ (x1).toInt ≤ (q_I δ 12 2 a0).toInt → (q_I d337 12 2 a0).toInt = 0) ∧ ((x1).toInt < 0 ∨ (q_I δ 12 2 a0).toInt < (x1).toInt → (q_I d337 12 2 a0).toInt = (q_I δ 12 2 a0).toInt) from ⟨i339, ⟨kp_w (by decide) u347, v348, kr_w (by decide) v349⟩, by first | assumption | omega, by first | assumption | omega⟩)
              · have c371 : r300.1.toInt ≠ (q_I r300.2 12 24 a0).toInt := o_ne h317
                unfold J_X12_thief_146
                have f372 := cb_12_2 I k_a0
                have f373 := cb_12_2 i302 k_a0
                have f374 : (q_I r300.2 12 2 a0).toInt = (q_I r277.2 12 2 a0).toInt := congrArg Int32.toInt (u303 12 2 a0 (by decide))
                have f375 := cb_12_2 i279 k_a0
                have f376 : (q_I r277.2 12 2 a0).toInt = (q_I r129 12 2 a0).toInt := congrArg Int32.toInt (u283 12 2 a0 (by decide))
                have f377 := cb_12_2 i167 k_a0
                have f378 : (q_I r129 12 2 a0).toInt = (q_I r115 12 2 a0).toInt := congrArg Int32.toInt (u173 12 2 a0 (by decide))
                have f379 := cb_12_2 i119 k_a0
                have f380 : (q_I r115 12 2 a0).toInt = (q_I r84.2 12 2 a0).toInt := congrArg Int32.toInt (u121 12 2 a0 (by decide))
                have f381 := cb_12_2 i86 k_a0
                have f382 : (q_I r84.2 12 2 a0).toInt = (q_I d78 12 2 a0).toInt := congrArg Int32.toInt (u90 12 2 a0 (by decide))
                have f383 := cb_12_2 i80 k_a0
                have f384 : (q_I d78 12 2 a0).toInt = (q_I d72 12 2 a0).toInt := congrArg Int32.toInt (by rw [e79]; exact rI_o (by decide))
                have f385 := cb_12_2 i74 k_a0
                have f386 : (q_I d72 12 2 a0).toInt = (q_I d66 12 2 a0).toInt := congrArg Int32.toInt (by rw [e73]; exact rI_o (by decide))
                have f387 := cb_12_2 i68 k_a0
                have f388 : (q_I d66 12 2 a0).toInt = (q_I r35 12 2 a0).toInt := congrArg Int32.toInt (by rw [e67]; exact rI_o (by decide))
                exact ok_some (show RI ad h.1 δ0 r300.2 ∧ (kp [(12, 0), (12, 2), (12, 3), (12, 4), (12, 5), (12, 6), (12, 7), (12, 8), (12, 24), (12, 25), (12, 26), (12, 27)] δ r300.2 ∧ q_V r300.2 = q_V δ ∧ kr ad [100, 112, 113, 114, 115, 116, 117] δ r300.2) ∧ (0 ≤ (x1).toInt ∧ (x1).toInt ≤ (q_I δ 12 2 a0).toInt → (q_I r300.2 12 2 a0).toInt = 0) ∧ ((x1).toInt < 0 ∨ (q_I δ 12 2 a0).toInt < (x1).toInt → (q_I r300.2 12 2 a0).toInt = (q_I δ 12 2 a0).toInt) from ⟨i302, ⟨kp_w (by decide) u307, v308, kr_w (by decide) v309⟩, by first | assumption | omega, by first | assumption | omega⟩)
            · have c389 : r277.1.toInt ≠ (0 : Int) := o_ne h298
              refine ok_bind (k_X12_wrong L hN (a0 := a0) (x1 := (1 : Int32)) (x2 := (q_I r277.2 12 4 a0)) k_a0 (show 0 ≤ ((q_I r277.2 12 4 a0)).toInt by first | assumption | omega) i279) (fun r390 hr391 => ?_)
              obtain ⟨i392, ⟨u394, u395, u396, u397⟩, p393⟩ := hr391
              have u398 := kp_t u287 u394
              have v399 : q_V r390 = q_V δ := (u395).trans v288
              have v400 := kr_t v289 u397
              have f401 := ti_b (q_I r390 12 5 a0)
              unfold J_X12_thief_106
              refine ok_bind (k_X12_result L hN (a0 := a0) (x1 := (q_I r390 12 24 a0)) k_a0 i392) (fun r402 hr403 => ?_)
              obtain ⟨i404, ⟨u405, u406, u407, u408⟩⟩ := hr403
              have u409 := kp_t u398 u405
              have v410 : q_V r402.2 = q_V δ := (u406).trans v399
              have v411 := kr_t v400 u408
              have f412 := ti_b r402.1
              have f413 := cb_12_24 i404 k_a0
              have f414 : (q_I r402.2 12 24 a0).toInt = (q_I r390 12 24 a0).toInt := congrArg Int32.toInt (u405 12 24 a0 (by decide))
              have f415 := cb_12_24 i392 k_a0
              have f416 : (q_I r390 12 24 a0).toInt = (q_I r277.2 12 24 a0).toInt := congrArg Int32.toInt (u394 12 24 a0 (by decide))
              have f417 := cb_12_24 i279 k_a0
              have f418 : (q_I r277.2 12 24 a0).toInt = (q_I r129 12 24 a0).toInt := congrArg Int32.toInt (u283 12 24 a0 (by decide))
              have f419 := cb_12_24 i167 k_a0
              have f420 : (q_I r129 12 24 a0).toInt = (q_I r115 12 24 a0).toInt := congrArg Int32.toInt (u173 12 24 a0 (by decide))
              refine ok_ite (fun h421 => ?_) (fun h421 => ?_)
              · have c422 : r402.1.toInt = (q_I r402.2 12 24 a0).toInt := o_eq h421
                obtain ⟨b423, o424, k425, n426⟩ := gO_12_28 L k_a0
                obtain rfl := gS_12_28 L k_a0 o424
                refine ok_at o424 ?_
                have t427 := ti_tn (q_I r402.2 12 24 a0)
                refine ok_gd (fun hc428 => ?_) ?_
                · rcases hc428 with hc428 | hc428
                  · have c429 : (q_I r402.2 12 24 a0).toInt < (0 : Int) := o_lt hc428
                    omega
                  · omega
                have f433 := cb_12_25 i404 k_a0
                have f434 : (q_I r402.2 12 25 a0).toInt = (q_I r390 12 25 a0).toInt := congrArg Int32.toInt (u405 12 25 a0 (by decide))
                have f435 := cb_12_25 i392 k_a0
                have f436 : (q_I r390 12 25 a0).toInt = (q_I r277.2 12 25 a0).toInt := congrArg Int32.toInt (u394 12 25 a0 (by decide))
                have f437 := cb_12_25 i279 k_a0
                have f438 : (q_I r277.2 12 25 a0).toInt = (q_I r129 12 25 a0).toInt := congrArg Int32.toInt (u283 12 25 a0 (by decide))
                have f439 := cb_12_25 i167 k_a0
                refine ok_bdv (fun d430 e431 => ?_)
                have i432 : RI ad h.1 δ0 d430 := by rw [e431]; exact cr_112 L i404 (show 0 ≤ (q_I r402.2 12 25 a0).toInt by omega) (show (q_I r402.2 12 25 a0).toInt ≤ 60 by omega)
                have u440 := kp_N u409 (show q_I d430 = q_I r402.2 by rw [e431]; rfl)
                have v441 : q_V d430 = q_V δ := ((show q_V d430 = q_V r402.2 by rw [e431]; rfl)).trans v410
                have v442 := kr_s L (by decide) v411 e431
                have f446 := cb_12_24 i432 k_a0
                have f447 : (q_I d430 12 24 a0).toInt = (q_I r402.2 12 24 a0).toInt := congrArg Int32.toInt (by rw [e431]; rfl)
                first | (have q449 := te_addc (c := 1) (n := 1) rfl (q_I d430 12 24 a0) (by omega) (by omega); obtain ⟨f450, f451, f452⟩ := q449) | (obtain ⟨q449, f450, f451, f452⟩ := ti_addc (c := 1) (n := 1) rfl (q_I d430 12 24 a0))
                refine ok_bdv (fun d443 e444 => ?_)
                have i445 : RI ad h.1 δ0 d443 := by rw [e444]; exact cs_12_24 L i432 k_a0 (show 0 ≤ ((q_I d430 12 24 a0) + (1 : Int32)).toInt by omega) (show ((q_I d430 12 24 a0) + (1 : Int32)).toInt ≤ 4 by omega)
                have u453 := kp_I u440 e444
                have v454 : q_V d443 = q_V δ := ((show q_V d443 = q_V d430 by rw [e444]; rfl)).trans v441
                have v455 := kr_N v442 (show q_R d443 = q_R d430 by rw [e444]; rfl)
                unfold J_X12_thief_146
                have f456 := cb_12_2 I k_a0
                have f457 := cb_12_2 i445 k_a0
                have f458 : (q_I d443 12 2 a0).toInt = (q_I d430 12 2 a0).toInt := congrArg Int32.toInt (by rw [e444]; exact rI_o (by decide))
                have f459 := cb_12_2 i432 k_a0
                have f460 : (q_I d430 12 2 a0).toInt = (q_I r402.2 12 2 a0).toInt := congrArg Int32.toInt (by rw [e431]; rfl)
                have f461 := cb_12_2 i404 k_a0
                have f462 : (q_I r402.2 12 2 a0).toInt = (q_I r390 12 2 a0).toInt := congrArg Int32.toInt (u405 12 2 a0 (by decide))
                have f463 := cb_12_2 i392 k_a0
                have f464 : (q_I r390 12 2 a0).toInt = (q_I r277.2 12 2 a0).toInt := congrArg Int32.toInt (u394 12 2 a0 (by decide))
                have f465 := cb_12_2 i279 k_a0
                have f466 : (q_I r277.2 12 2 a0).toInt = (q_I r129 12 2 a0).toInt := congrArg Int32.toInt (u283 12 2 a0 (by decide))
                have f467 := cb_12_2 i167 k_a0
                have f468 : (q_I r129 12 2 a0).toInt = (q_I r115 12 2 a0).toInt := congrArg Int32.toInt (u173 12 2 a0 (by decide))
                have f469 := cb_12_2 i119 k_a0
                have f470 : (q_I r115 12 2 a0).toInt = (q_I r84.2 12 2 a0).toInt := congrArg Int32.toInt (u121 12 2 a0 (by decide))
                have f471 := cb_12_2 i86 k_a0
                have f472 : (q_I r84.2 12 2 a0).toInt = (q_I d78 12 2 a0).toInt := congrArg Int32.toInt (u90 12 2 a0 (by decide))
                have f473 := cb_12_2 i80 k_a0
                have f474 : (q_I d78 12 2 a0).toInt = (q_I d72 12 2 a0).toInt := congrArg Int32.toInt (by rw [e79]; exact rI_o (by decide))
                have f475 := cb_12_2 i74 k_a0
                have f476 : (q_I d72 12 2 a0).toInt = (q_I d66 12 2 a0).toInt := congrArg Int32.toInt (by rw [e73]; exact rI_o (by decide))
                have f477 := cb_12_2 i68 k_a0
                have f478 : (q_I d66 12 2 a0).toInt = (q_I r35 12 2 a0).toInt := congrArg Int32.toInt (by rw [e67]; exact rI_o (by decide))
                exact ok_some (show RI ad h.1 δ0 d443 ∧ (kp [(12, 0), (12, 2), (12, 3), (12, 4), (12, 5), (12, 6), (12, 7), (12, 8), (12, 24), (12, 25), (12, 26), (12, 27)] δ d443 ∧ q_V d443 = q_V δ ∧ kr ad [100, 112, 113, 114, 115, 116, 117] δ d443) ∧ (0 ≤ (x1).toInt ∧ (x1).toInt ≤ (q_I δ 12 2 a0).toInt → (q_I d443 12 2 a0).toInt = 0) ∧ ((x1).toInt < 0 ∨ (q_I δ 12 2 a0).toInt < (x1).toInt → (q_I d443 12 2 a0).toInt = (q_I δ 12 2 a0).toInt) from ⟨i445, ⟨kp_w (by decide) u453, v454, kr_w (by decide) v455⟩, by first | assumption | omega, by first | assumption | omega⟩)
              · have c479 : r402.1.toInt ≠ (q_I r402.2 12 24 a0).toInt := o_ne h421
                unfold J_X12_thief_146
                have f480 := cb_12_2 I k_a0
                have f481 := cb_12_2 i404 k_a0
                have f482 : (q_I r402.2 12 2 a0).toInt = (q_I r390 12 2 a0).toInt := congrArg Int32.toInt (u405 12 2 a0 (by decide))
                have f483 := cb_12_2 i392 k_a0
                have f484 : (q_I r390 12 2 a0).toInt = (q_I r277.2 12 2 a0).toInt := congrArg Int32.toInt (u394 12 2 a0 (by decide))
                have f485 := cb_12_2 i279 k_a0
                have f486 : (q_I r277.2 12 2 a0).toInt = (q_I r129 12 2 a0).toInt := congrArg Int32.toInt (u283 12 2 a0 (by decide))
                have f487 := cb_12_2 i167 k_a0
                have f488 : (q_I r129 12 2 a0).toInt = (q_I r115 12 2 a0).toInt := congrArg Int32.toInt (u173 12 2 a0 (by decide))
                have f489 := cb_12_2 i119 k_a0
                have f490 : (q_I r115 12 2 a0).toInt = (q_I r84.2 12 2 a0).toInt := congrArg Int32.toInt (u121 12 2 a0 (by decide))
                have f491 := cb_12_2 i86 k_a0
                have f492 : (q_I r84.2 12 2 a0).toInt = (q_I d78 12 2 a0).toInt := congrArg Int32.toInt (u90 12 2 a0 (by decide))
                have f493 := cb_12_2 i80 k_a0
                have f494 : (q_I d78 12 2 a0).toInt = (q_I d72 12 2 a0).toInt := congrArg Int32.toInt (by rw [e79]; exact rI_o (by decide))
                have f495 := cb_12_2 i74 k_a0
                have f496 : (q_I d72 12 2 a0).toInt = (q_I d66 12 2 a0).toInt := congrArg Int32.toInt (by rw [e73]; exact rI_o (by decide))
                have f497 := cb_12_2 i68 k_a0
                have f498 : (q_I d66 12 2 a0).toInt = (q_I r35 12 2 a0).toInt := congrArg Int32.toInt (by rw [e67]; exact rI_o (by decide))
                exact ok_some (show RI ad h.1 δ0 r402.2 ∧ (kp [(12, 0), (12, 2), (12, 3), (12, 4), (12, 5), (12, 6), (12, 7), (12, 8), (12, 24), (12, 25), (12, 26), (12, 27)] δ r402.2 ∧ q_V r402.2 = q_V δ ∧ kr ad [100, 112, 113, 114, 115, 116, 117] δ r402.2) ∧ (0 ≤ (x1).toInt ∧ (x1).toInt ≤ (q_I δ 12 2 a0).toInt → (q_I r402.2 12 2 a0).toInt = 0) ∧ ((x1).toInt < 0 ∨ (q_I δ 12 2 a0).toInt < (x1).toInt → (q_I r402.2 12 2 a0).toInt = (q_I δ 12 2 a0).toInt) from ⟨i404, ⟨kp_w (by decide) u409, v410, kr_w (by decide) v411⟩, by first | assumption | omega, by first | assumption | omega⟩)
        · have c499 : r84.1.toInt ≠ (0 : Int) := o_ne h113
          unfold J_X12_thief_79
          have f502 := cb_12_24 i86 k_a0
          have f503 : (q_I r84.2 12 24 a0).toInt = (q_I d78 12 24 a0).toInt := congrArg Int32.toInt (u90 12 24 a0 (by decide))
          have f504 := cb_12_24 i80 k_a0
          have f505 : (q_I d78 12 24 a0).toInt = (q_I d72 12 24 a0).toInt := congrArg Int32.toInt (by rw [e79]; exact rI_o (by decide))
          have f506 := cb_12_24 i74 k_a0
          have f507 : (q_I d72 12 24 a0).toInt = (q_I d66 12 24 a0).toInt := congrArg Int32.toInt (by rw [e73]; exact rI_o (by decide))
          have f508 := cb_12_24 i68 k_a0
          have f509 : (q_I d66 12 24 a0).toInt = (q_I r35 12 24 a0).toInt := congrArg Int32.toInt (by rw [e67]; exact rI_o (by decide))
          have f510 := cb_12_26 i86 k_a0
          have f511 : (q_I r84.2 12 26 a0).toInt = (q_I d78 12 26 a0).toInt := congrArg Int32.toInt (u90 12 26 a0 (by decide))
          have f512 := cb_12_26 i80 k_a0
          have f513 : (q_I d78 12 26 a0).toInt = (q_I d72 12 26 a0).toInt := congrArg Int32.toInt (by rw [e79]; exact rI_o (by decide))
          have f514 := cb_12_26 i74 k_a0
          have f515 : (q_I d72 12 26 a0).toInt = (0 : Int) := congrArg Int32.toInt (show q_I d72 12 26 a0 = (0 : Int32) by rw [e73]; exact rI_s)
          have f516 := ti_b (q_I r84.2 12 7 a0)
          have f517 : (q_I r84.2 12 7 a0).toInt = (q_I d78 12 7 a0).toInt := congrArg Int32.toInt (u90 12 7 a0 (by decide))
          have f518 := ti_b (q_I d78 12 7 a0)
          have f519 : (q_I d78 12 7 a0).toInt = (q_I d72 12 7 a0).toInt := congrArg Int32.toInt (by rw [e79]; exact rI_o (by decide))
          have f520 := ti_b (q_I d72 12 7 a0)
          have f521 : (q_I d72 12 7 a0).toInt = (q_I d66 12 7 a0).toInt := congrArg Int32.toInt (by rw [e73]; exact rI_o (by decide))
          have f522 := ti_b (q_I d66 12 7 a0)
          have f523 : (q_I d66 12 7 a0).toInt = (q_I r35 12 7 a0).toInt := congrArg Int32.toInt (by rw [e67]; exact rI_o (by decide))
          have f524 := cb_12_27 i86 k_a0
          have f525 : (q_I r84.2 12 27 a0).toInt = (q_I d78 12 27 a0).toInt := congrArg Int32.toInt (u90 12 27 a0 (by decide))
          have f526 := cb_12_27 i80 k_a0
          have f527 : (q_I d78 12 27 a0).toInt = (0 : Int) := congrArg Int32.toInt (show q_I d78 12 27 a0 = (0 : Int32) by rw [e79]; exact rI_s)
          refine ok_bind (k_X12_readSteps L hN (a0 := a0) k_a0 (show (q_I r84.2 12 24 a0).toInt ≤ 3 by first | assumption | omega) (show (q_I r84.2 12 26 a0).toInt ≤ (q_I r84.2 12 4 a0).toInt by first | assumption | omega) (show (q_I r84.2 12 7 a0).toInt = 0 by first | assumption | omega) (show 4 - (q_I r84.2 12 27 a0).toInt < 20 by first | assumption | omega) i86) (fun r500 hr501 => ?_)
          obtain ⟨i528, ⟨u534, u535, u536⟩, p529, p530, p531, p532, p533⟩ := hr501
          have u537 := kp_t u94 u534
          have v538 : q_V r500 = q_V δ := (u535).trans v95
          have v539 := kr_t v96 u536
          have f540 := cb_12_4 i528 k_a0
          have f541 := ti_b (q_I r84.2 12 5 a0)
          have f542 : (q_I r84.2 12 5 a0).toInt = (q_I d78 12 5 a0).toInt := congrArg Int32.toInt (u90 12 5 a0 (by decide))
          have f543 := ti_b (q_I d78 12 5 a0)
          have f544 : (q_I d78 12 5 a0).toInt = (q_I d72 12 5 a0).toInt := congrArg Int32.toInt (by rw [e79]; exact rI_o (by decide))
          have f545 := ti_b (q_I d72 12 5 a0)
          have f546 : (q_I d72 12 5 a0).toInt = (q_I d66 12 5 a0).toInt := congrArg Int32.toInt (by rw [e73]; exact rI_o (by decide))
          have f547 := ti_b (q_I d66 12 5 a0)
          have f548 : (q_I d66 12 5 a0).toInt = (q_I r35 12 5 a0).toInt := congrArg Int32.toInt (by rw [e67]; exact rI_o (by decide))
          have f549 := ti_b (q_I r500 12 5 a0)
          have f550 := ti_b (q_I r500 12 7 a0)
          have f551 := cb_12_27 i528 k_a0
          have f552 := cb_12_26 i528 k_a0
          refine ok_bind (k_X12_fine L hN (a0 := a0) k_a0 i528) (fun r553 hr554 => ?_)
          obtain ⟨i555, p556, p557, p558⟩ := hr554
          try rw [i555]
          have f559 := bo_t p556
          have f560 := ti_b r553.1
          have f561 := ti_b r553.1
          refine ok_ite (fun h562 => ?_) (fun h562 => ?_)
          · have c563 : r553.1.toInt = (0 : Int) := o_eq h562
            unfold J_X12_thief_106
            refine ok_bind (k_X12_result L hN (a0 := a0) (x1 := (q_I r500 12 24 a0)) k_a0 i528) (fun r564 hr565 => ?_)
            obtain ⟨i566, ⟨u567, u568, u569, u570⟩⟩ := hr565
            have u571 := kp_t u537 u567
            have v572 : q_V r564.2 = q_V δ := (u568).trans v538
            have v573 := kr_t v539 u570
            have f574 := ti_b r564.1
            have f575 := cb_12_24 i566 k_a0
            have f576 : (q_I r564.2 12 24 a0).toInt = (q_I r500 12 24 a0).toInt := congrArg Int32.toInt (u567 12 24 a0 (by decide))
            have f577 := cb_12_24 i528 k_a0
            have f578 : (q_I r500 12 24 a0).toInt = (q_I r84.2 12 24 a0).toInt := congrArg Int32.toInt (u534 12 24 a0 (by decide))
            refine ok_ite (fun h579 => ?_) (fun h579 => ?_)
            · have c580 : r564.1.toInt = (q_I r564.2 12 24 a0).toInt := o_eq h579
              obtain ⟨b581, o582, k583, n584⟩ := gO_12_28 L k_a0
              obtain rfl := gS_12_28 L k_a0 o582
              refine ok_at o582 ?_
              have t585 := ti_tn (q_I r564.2 12 24 a0)
              refine ok_gd (fun hc586 => ?_) ?_
              · rcases hc586 with hc586 | hc586
                · have c587 : (q_I r564.2 12 24 a0).toInt < (0 : Int) := o_lt hc586
                  omega
                · omega
              have f591 := cb_12_25 i566 k_a0
              have f592 : (q_I r564.2 12 25 a0).toInt = (q_I r500 12 25 a0).toInt := congrArg Int32.toInt (u567 12 25 a0 (by decide))
              have f593 := cb_12_25 i528 k_a0
              refine ok_bdv (fun d588 e589 => ?_)
              have i590 : RI ad h.1 δ0 d588 := by rw [e589]; exact cr_112 L i566 (show 0 ≤ (q_I r564.2 12 25 a0).toInt by omega) (show (q_I r564.2 12 25 a0).toInt ≤ 60 by omega)
              have u594 := kp_N u571 (show q_I d588 = q_I r564.2 by rw [e589]; rfl)
              have v595 : q_V d588 = q_V δ := ((show q_V d588 = q_V r564.2 by rw [e589]; rfl)).trans v572
              have v596 := kr_s L (by decide) v573 e589
              have f600 := cb_12_24 i590 k_a0
              have f601 : (q_I d588 12 24 a0).toInt = (q_I r564.2 12 24 a0).toInt := congrArg Int32.toInt (by rw [e589]; rfl)
              first | (have q603 := te_addc (c := 1) (n := 1) rfl (q_I d588 12 24 a0) (by omega) (by omega); obtain ⟨f604, f605, f606⟩ := q603) | (obtain ⟨q603, f604, f605, f606⟩ := ti_addc (c := 1) (n := 1) rfl (q_I d588 12 24 a0))
              refine ok_bdv (fun d597 e598 => ?_)
              have i599 : RI ad h.1 δ0 d597 := by rw [e598]; exact cs_12_24 L i590 k_a0 (show 0 ≤ ((q_I d588 12 24 a0) + (1 : Int32)).toInt by omega) (show ((q_I d588 12 24 a0) + (1 : Int32)).toInt ≤ 4 by omega)
              have u607 := kp_I u594 e598
              have v608 : q_V d597 = q_V δ := ((show q_V d597 = q_V d588 by rw [e598]; rfl)).trans v595
              have v609 := kr_N v596 (show q_R d597 = q_R d588 by rw [e598]; rfl)
              unfold J_X12_thief_146
              have f610 := cb_12_2 I k_a0
              have f611 := cb_12_2 i599 k_a0
              have f612 : (q_I d597 12 2 a0).toInt = (q_I d588 12 2 a0).toInt := congrArg Int32.toInt (by rw [e598]; exact rI_o (by decide))
              have f613 := cb_12_2 i590 k_a0
              have f614 : (q_I d588 12 2 a0).toInt = (q_I r564.2 12 2 a0).toInt := congrArg Int32.toInt (by rw [e589]; rfl)
              have f615 := cb_12_2 i566 k_a0
              have f616 : (q_I r564.2 12 2 a0).toInt = (q_I r500 12 2 a0).toInt := congrArg Int32.toInt (u567 12 2 a0 (by decide))
              have f617 := cb_12_2 i528 k_a0
              have f618 : (q_I r500 12 2 a0).toInt = (q_I r84.2 12 2 a0).toInt := congrArg Int32.toInt (u534 12 2 a0 (by decide))
              have f619 := cb_12_2 i86 k_a0
              have f620 : (q_I r84.2 12 2 a0).toInt = (q_I d78 12 2 a0).toInt := congrArg Int32.toInt (u90 12 2 a0 (by decide))
              have f621 := cb_12_2 i80 k_a0
              have f622 : (q_I d78 12 2 a0).toInt = (q_I d72 12 2 a0).toInt := congrArg Int32.toInt (by rw [e79]; exact rI_o (by decide))
              have f623 := cb_12_2 i74 k_a0
              have f624 : (q_I d72 12 2 a0).toInt = (q_I d66 12 2 a0).toInt := congrArg Int32.toInt (by rw [e73]; exact rI_o (by decide))
              have f625 := cb_12_2 i68 k_a0
              have f626 : (q_I d66 12 2 a0).toInt = (q_I r35 12 2 a0).toInt := congrArg Int32.toInt (by rw [e67]; exact rI_o (by decide))
              exact ok_some (show RI ad h.1 δ0 d597 ∧ (kp [(12, 0), (12, 2), (12, 3), (12, 4), (12, 5), (12, 6), (12, 7), (12, 8), (12, 24), (12, 25), (12, 26), (12, 27)] δ d597 ∧ q_V d597 = q_V δ ∧ kr ad [100, 112, 113, 114, 115, 116, 117] δ d597) ∧ (0 ≤ (x1).toInt ∧ (x1).toInt ≤ (q_I δ 12 2 a0).toInt → (q_I d597 12 2 a0).toInt = 0) ∧ ((x1).toInt < 0 ∨ (q_I δ 12 2 a0).toInt < (x1).toInt → (q_I d597 12 2 a0).toInt = (q_I δ 12 2 a0).toInt) from ⟨i599, ⟨kp_w (by decide) u607, v608, kr_w (by decide) v609⟩, by first | assumption | omega, by first | assumption | omega⟩)
            · have c627 : r564.1.toInt ≠ (q_I r564.2 12 24 a0).toInt := o_ne h579
              unfold J_X12_thief_146
              have f628 := cb_12_2 I k_a0
              have f629 := cb_12_2 i566 k_a0
              have f630 : (q_I r564.2 12 2 a0).toInt = (q_I r500 12 2 a0).toInt := congrArg Int32.toInt (u567 12 2 a0 (by decide))
              have f631 := cb_12_2 i528 k_a0
              have f632 : (q_I r500 12 2 a0).toInt = (q_I r84.2 12 2 a0).toInt := congrArg Int32.toInt (u534 12 2 a0 (by decide))
              have f633 := cb_12_2 i86 k_a0
              have f634 : (q_I r84.2 12 2 a0).toInt = (q_I d78 12 2 a0).toInt := congrArg Int32.toInt (u90 12 2 a0 (by decide))
              have f635 := cb_12_2 i80 k_a0
              have f636 : (q_I d78 12 2 a0).toInt = (q_I d72 12 2 a0).toInt := congrArg Int32.toInt (by rw [e79]; exact rI_o (by decide))
              have f637 := cb_12_2 i74 k_a0
              have f638 : (q_I d72 12 2 a0).toInt = (q_I d66 12 2 a0).toInt := congrArg Int32.toInt (by rw [e73]; exact rI_o (by decide))
              have f639 := cb_12_2 i68 k_a0
              have f640 : (q_I d66 12 2 a0).toInt = (q_I r35 12 2 a0).toInt := congrArg Int32.toInt (by rw [e67]; exact rI_o (by decide))
              exact ok_some (show RI ad h.1 δ0 r564.2 ∧ (kp [(12, 0), (12, 2), (12, 3), (12, 4), (12, 5), (12, 6), (12, 7), (12, 8), (12, 24), (12, 25), (12, 26), (12, 27)] δ r564.2 ∧ q_V r564.2 = q_V δ ∧ kr ad [100, 112, 113, 114, 115, 116, 117] δ r564.2) ∧ (0 ≤ (x1).toInt ∧ (x1).toInt ≤ (q_I δ 12 2 a0).toInt → (q_I r564.2 12 2 a0).toInt = 0) ∧ ((x1).toInt < 0 ∨ (q_I δ 12 2 a0).toInt < (x1).toInt → (q_I r564.2 12 2 a0).toInt = (q_I δ 12 2 a0).toInt) from ⟨i566, ⟨kp_w (by decide) u571, v572, kr_w (by decide) v573⟩, by first | assumption | omega, by first | assumption | omega⟩)
          · have c641 : r553.1.toInt ≠ (0 : Int) := o_ne h562
            refine ok_bind (k_X12_isMore L hN (a0 := a0) k_a0 i528) (fun r642 hr643 => ?_)
            obtain ⟨i644, ⟨u648, u649, u650, u651⟩, p645, p646, p647⟩ := hr643
            have u652 := kp_t u537 u648
            have v653 : q_V r642.2 = q_V δ := (u649).trans v538
            have v654 := kr_t v539 u651
            have f655 := bo_t p645
            have f656 := cb_12_4 i644 k_a0
            have f657 := ti_b r642.1
            have f658 := cb_12_3 i528 k_a0
            have f659 : (q_I r500 12 3 a0).toInt = (q_I r84.2 12 3 a0).toInt := congrArg Int32.toInt (u534 12 3 a0 (by decide))
            have f660 := cb_12_3 i86 k_a0
            have f661 : (q_I r84.2 12 3 a0).toInt = (q_I d78 12 3 a0).toInt := congrArg Int32.toInt (u90 12 3 a0 (by decide))
            have f662 := ti_b r642.1
            refine ok_ite (fun h663 => ?_) (fun h663 => ?_)
            · have c664 : r642.1.toInt = (0 : Int) := o_eq h663
              unfold J_X12_thief_106
              refine ok_bind (k_X12_result L hN (a0 := a0) (x1 := (q_I r642.2 12 24 a0)) k_a0 i644) (fun r665 hr666 => ?_)
              obtain ⟨i667, ⟨u668, u669, u670, u671⟩⟩ := hr666
              have u672 := kp_t u652 u668
              have v673 : q_V r665.2 = q_V δ := (u669).trans v653
              have v674 := kr_t v654 u671
              have f675 := ti_b r665.1
              have f676 := cb_12_24 i667 k_a0
              have f677 : (q_I r665.2 12 24 a0).toInt = (q_I r642.2 12 24 a0).toInt := congrArg Int32.toInt (u668 12 24 a0 (by decide))
              have f678 := cb_12_24 i644 k_a0
              have f679 : (q_I r642.2 12 24 a0).toInt = (q_I r500 12 24 a0).toInt := congrArg Int32.toInt (u648 12 24 a0 (by decide))
              have f680 := cb_12_24 i528 k_a0
              have f681 : (q_I r500 12 24 a0).toInt = (q_I r84.2 12 24 a0).toInt := congrArg Int32.toInt (u534 12 24 a0 (by decide))
              refine ok_ite (fun h682 => ?_) (fun h682 => ?_)
              · have c683 : r665.1.toInt = (q_I r665.2 12 24 a0).toInt := o_eq h682
                obtain ⟨b684, o685, k686, n687⟩ := gO_12_28 L k_a0
                obtain rfl := gS_12_28 L k_a0 o685
                refine ok_at o685 ?_
                have t688 := ti_tn (q_I r665.2 12 24 a0)
                refine ok_gd (fun hc689 => ?_) ?_
                · rcases hc689 with hc689 | hc689
                  · have c690 : (q_I r665.2 12 24 a0).toInt < (0 : Int) := o_lt hc689
                    omega
                  · omega
                have f694 := cb_12_25 i667 k_a0
                have f695 : (q_I r665.2 12 25 a0).toInt = (q_I r642.2 12 25 a0).toInt := congrArg Int32.toInt (u668 12 25 a0 (by decide))
                have f696 := cb_12_25 i644 k_a0
                have f697 : (q_I r642.2 12 25 a0).toInt = (q_I r500 12 25 a0).toInt := congrArg Int32.toInt (u648 12 25 a0 (by decide))
                have f698 := cb_12_25 i528 k_a0
                refine ok_bdv (fun d691 e692 => ?_)
                have i693 : RI ad h.1 δ0 d691 := by rw [e692]; exact cr_112 L i667 (show 0 ≤ (q_I r665.2 12 25 a0).toInt by omega) (show (q_I r665.2 12 25 a0).toInt ≤ 60 by omega)
                have u699 := kp_N u672 (show q_I d691 = q_I r665.2 by rw [e692]; rfl)
                have v700 : q_V d691 = q_V δ := ((show q_V d691 = q_V r665.2 by rw [e692]; rfl)).trans v673
                have v701 := kr_s L (by decide) v674 e692
                have f705 := cb_12_24 i693 k_a0
                have f706 : (q_I d691 12 24 a0).toInt = (q_I r665.2 12 24 a0).toInt := congrArg Int32.toInt (by rw [e692]; rfl)
                first | (have q708 := te_addc (c := 1) (n := 1) rfl (q_I d691 12 24 a0) (by omega) (by omega); obtain ⟨f709, f710, f711⟩ := q708) | (obtain ⟨q708, f709, f710, f711⟩ := ti_addc (c := 1) (n := 1) rfl (q_I d691 12 24 a0))
                refine ok_bdv (fun d702 e703 => ?_)
                have i704 : RI ad h.1 δ0 d702 := by rw [e703]; exact cs_12_24 L i693 k_a0 (show 0 ≤ ((q_I d691 12 24 a0) + (1 : Int32)).toInt by omega) (show ((q_I d691 12 24 a0) + (1 : Int32)).toInt ≤ 4 by omega)
                have u712 := kp_I u699 e703
                have v713 : q_V d702 = q_V δ := ((show q_V d702 = q_V d691 by rw [e703]; rfl)).trans v700
                have v714 := kr_N v701 (show q_R d702 = q_R d691 by rw [e703]; rfl)
                unfold J_X12_thief_146
                have f715 := cb_12_2 I k_a0
                have f716 := cb_12_2 i704 k_a0
                have f717 : (q_I d702 12 2 a0).toInt = (q_I d691 12 2 a0).toInt := congrArg Int32.toInt (by rw [e703]; exact rI_o (by decide))
                have f718 := cb_12_2 i693 k_a0
                have f719 : (q_I d691 12 2 a0).toInt = (q_I r665.2 12 2 a0).toInt := congrArg Int32.toInt (by rw [e692]; rfl)
                have f720 := cb_12_2 i667 k_a0
                have f721 : (q_I r665.2 12 2 a0).toInt = (q_I r642.2 12 2 a0).toInt := congrArg Int32.toInt (u668 12 2 a0 (by decide))
                have f722 := cb_12_2 i644 k_a0
                have f723 : (q_I r642.2 12 2 a0).toInt = (q_I r500 12 2 a0).toInt := congrArg Int32.toInt (u648 12 2 a0 (by decide))
                have f724 := cb_12_2 i528 k_a0
                have f725 : (q_I r500 12 2 a0).toInt = (q_I r84.2 12 2 a0).toInt := congrArg Int32.toInt (u534 12 2 a0 (by decide))
                have f726 := cb_12_2 i86 k_a0
                have f727 : (q_I r84.2 12 2 a0).toInt = (q_I d78 12 2 a0).toInt := congrArg Int32.toInt (u90 12 2 a0 (by decide))
                have f728 := cb_12_2 i80 k_a0
                have f729 : (q_I d78 12 2 a0).toInt = (q_I d72 12 2 a0).toInt := congrArg Int32.toInt (by rw [e79]; exact rI_o (by decide))
                have f730 := cb_12_2 i74 k_a0
                have f731 : (q_I d72 12 2 a0).toInt = (q_I d66 12 2 a0).toInt := congrArg Int32.toInt (by rw [e73]; exact rI_o (by decide))
                have f732 := cb_12_2 i68 k_a0
                have f733 : (q_I d66 12 2 a0).toInt = (q_I r35 12 2 a0).toInt := congrArg Int32.toInt (by rw [e67]; exact rI_o (by decide))
                exact ok_some (show RI ad h.1 δ0 d702 ∧ (kp [(12, 0), (12, 2), (12, 3), (12, 4), (12, 5), (12, 6), (12, 7), (12, 8), (12, 24), (12, 25), (12, 26), (12, 27)] δ d702 ∧ q_V d702 = q_V δ ∧ kr ad [100, 112, 113, 114, 115, 116, 117] δ d702) ∧ (0 ≤ (x1).toInt ∧ (x1).toInt ≤ (q_I δ 12 2 a0).toInt → (q_I d702 12 2 a0).toInt = 0) ∧ ((x1).toInt < 0 ∨ (q_I δ 12 2 a0).toInt < (x1).toInt → (q_I d702 12 2 a0).toInt = (q_I δ 12 2 a0).toInt) from ⟨i704, ⟨kp_w (by decide) u712, v713, kr_w (by decide) v714⟩, by first | assumption | omega, by first | assumption | omega⟩)
              · have c734 : r665.1.toInt ≠ (q_I r665.2 12 24 a0).toInt := o_ne h682
                unfold J_X12_thief_146
                have f735 := cb_12_2 I k_a0
                have f736 := cb_12_2 i667 k_a0
                have f737 : (q_I r665.2 12 2 a0).toInt = (q_I r642.2 12 2 a0).toInt := congrArg Int32.toInt (u668 12 2 a0 (by decide))
                have f738 := cb_12_2 i644 k_a0
                have f739 : (q_I r642.2 12 2 a0).toInt = (q_I r500 12 2 a0).toInt := congrArg Int32.toInt (u648 12 2 a0 (by decide))
                have f740 := cb_12_2 i528 k_a0
                have f741 : (q_I r500 12 2 a0).toInt = (q_I r84.2 12 2 a0).toInt := congrArg Int32.toInt (u534 12 2 a0 (by decide))
                have f742 := cb_12_2 i86 k_a0
                have f743 : (q_I r84.2 12 2 a0).toInt = (q_I d78 12 2 a0).toInt := congrArg Int32.toInt (u90 12 2 a0 (by decide))
                have f744 := cb_12_2 i80 k_a0
                have f745 : (q_I d78 12 2 a0).toInt = (q_I d72 12 2 a0).toInt := congrArg Int32.toInt (by rw [e79]; exact rI_o (by decide))
                have f746 := cb_12_2 i74 k_a0
                have f747 : (q_I d72 12 2 a0).toInt = (q_I d66 12 2 a0).toInt := congrArg Int32.toInt (by rw [e73]; exact rI_o (by decide))
                have f748 := cb_12_2 i68 k_a0
                have f749 : (q_I d66 12 2 a0).toInt = (q_I r35 12 2 a0).toInt := congrArg Int32.toInt (by rw [e67]; exact rI_o (by decide))
                exact ok_some (show RI ad h.1 δ0 r665.2 ∧ (kp [(12, 0), (12, 2), (12, 3), (12, 4), (12, 5), (12, 6), (12, 7), (12, 8), (12, 24), (12, 25), (12, 26), (12, 27)] δ r665.2 ∧ q_V r665.2 = q_V δ ∧ kr ad [100, 112, 113, 114, 115, 116, 117] δ r665.2) ∧ (0 ≤ (x1).toInt ∧ (x1).toInt ≤ (q_I δ 12 2 a0).toInt → (q_I r665.2 12 2 a0).toInt = 0) ∧ ((x1).toInt < 0 ∨ (q_I δ 12 2 a0).toInt < (x1).toInt → (q_I r665.2 12 2 a0).toInt = (q_I δ 12 2 a0).toInt) from ⟨i667, ⟨kp_w (by decide) u672, v673, kr_w (by decide) v674⟩, by first | assumption | omega, by first | assumption | omega⟩)
            · have c750 : r642.1.toInt ≠ (0 : Int) := o_ne h663
              refine ok_bind (k_X12_wrong L hN (a0 := a0) (x1 := (1 : Int32)) (x2 := (q_I r642.2 12 4 a0)) k_a0 (show 0 ≤ ((q_I r642.2 12 4 a0)).toInt by first | assumption | omega) i644) (fun r751 hr752 => ?_)
              obtain ⟨i753, ⟨u755, u756, u757, u758⟩, p754⟩ := hr752
              have u759 := kp_t u652 u755
              have v760 : q_V r751 = q_V δ := (u756).trans v653
              have v761 := kr_t v654 u758
              have f762 := ti_b (q_I r751 12 5 a0)
              unfold J_X12_thief_106
              refine ok_bind (k_X12_result L hN (a0 := a0) (x1 := (q_I r751 12 24 a0)) k_a0 i753) (fun r763 hr764 => ?_)
              obtain ⟨i765, ⟨u766, u767, u768, u769⟩⟩ := hr764
              have u770 := kp_t u759 u766
              have v771 : q_V r763.2 = q_V δ := (u767).trans v760
              have v772 := kr_t v761 u769
              have f773 := ti_b r763.1
              have f774 := cb_12_24 i765 k_a0
              have f775 : (q_I r763.2 12 24 a0).toInt = (q_I r751 12 24 a0).toInt := congrArg Int32.toInt (u766 12 24 a0 (by decide))
              have f776 := cb_12_24 i753 k_a0
              have f777 : (q_I r751 12 24 a0).toInt = (q_I r642.2 12 24 a0).toInt := congrArg Int32.toInt (u755 12 24 a0 (by decide))
              have f778 := cb_12_24 i644 k_a0
              have f779 : (q_I r642.2 12 24 a0).toInt = (q_I r500 12 24 a0).toInt := congrArg Int32.toInt (u648 12 24 a0 (by decide))
              have f780 := cb_12_24 i528 k_a0
              have f781 : (q_I r500 12 24 a0).toInt = (q_I r84.2 12 24 a0).toInt := congrArg Int32.toInt (u534 12 24 a0 (by decide))
              refine ok_ite (fun h782 => ?_) (fun h782 => ?_)
              · have c783 : r763.1.toInt = (q_I r763.2 12 24 a0).toInt := o_eq h782
                obtain ⟨b784, o785, k786, n787⟩ := gO_12_28 L k_a0
                obtain rfl := gS_12_28 L k_a0 o785
                refine ok_at o785 ?_
                have t788 := ti_tn (q_I r763.2 12 24 a0)
                refine ok_gd (fun hc789 => ?_) ?_
                · rcases hc789 with hc789 | hc789
                  · have c790 : (q_I r763.2 12 24 a0).toInt < (0 : Int) := o_lt hc789
                    omega
                  · omega
                have f794 := cb_12_25 i765 k_a0
                have f795 : (q_I r763.2 12 25 a0).toInt = (q_I r751 12 25 a0).toInt := congrArg Int32.toInt (u766 12 25 a0 (by decide))
                have f796 := cb_12_25 i753 k_a0
                have f797 : (q_I r751 12 25 a0).toInt = (q_I r642.2 12 25 a0).toInt := congrArg Int32.toInt (u755 12 25 a0 (by decide))
                have f798 := cb_12_25 i644 k_a0
                have f799 : (q_I r642.2 12 25 a0).toInt = (q_I r500 12 25 a0).toInt := congrArg Int32.toInt (u648 12 25 a0 (by decide))
                have f800 := cb_12_25 i528 k_a0
                refine ok_bdv (fun d791 e792 => ?_)
                have i793 : RI ad h.1 δ0 d791 := by rw [e792]; exact cr_112 L i765 (show 0 ≤ (q_I r763.2 12 25 a0).toInt by omega) (show (q_I r763.2 12 25 a0).toInt ≤ 60 by omega)
                have u801 := kp_N u770 (show q_I d791 = q_I r763.2 by rw [e792]; rfl)
                have v802 : q_V d791 = q_V δ := ((show q_V d791 = q_V r763.2 by rw [e792]; rfl)).trans v771
                have v803 := kr_s L (by decide) v772 e792
                have f807 := cb_12_24 i793 k_a0
                have f808 : (q_I d791 12 24 a0).toInt = (q_I r763.2 12 24 a0).toInt := congrArg Int32.toInt (by rw [e792]; rfl)
                first | (have q810 := te_addc (c := 1) (n := 1) rfl (q_I d791 12 24 a0) (by omega) (by omega); obtain ⟨f811, f812, f813⟩ := q810) | (obtain ⟨q810, f811, f812, f813⟩ := ti_addc (c := 1) (n := 1) rfl (q_I d791 12 24 a0))
                refine ok_bdv (fun d804 e805 => ?_)
                have i806 : RI ad h.1 δ0 d804 := by rw [e805]; exact cs_12_24 L i793 k_a0 (show 0 ≤ ((q_I d791 12 24 a0) + (1 : Int32)).toInt by omega) (show ((q_I d791 12 24 a0) + (1 : Int32)).toInt ≤ 4 by omega)
                have u814 := kp_I u801 e805
                have v815 : q_V d804 = q_V δ := ((show q_V d804 = q_V d791 by rw [e805]; rfl)).trans v802
                have v816 := kr_N v803 (show q_R d804 = q_R d791 by rw [e805]; rfl)
                unfold J_X12_thief_146
                have f817 := cb_12_2 I k_a0
                have f818 := cb_12_2 i806 k_a0
                have f819 : (q_I d804 12 2 a0).toInt = (q_I d791 12 2 a0).toInt := congrArg Int32.toInt (by rw [e805]; exact rI_o (by decide))
                have f820 := cb_12_2 i793 k_a0
                have f821 : (q_I d791 12 2 a0).toInt = (q_I r763.2 12 2 a0).toInt := congrArg Int32.toInt (by rw [e792]; rfl)
                have f822 := cb_12_2 i765 k_a0
                have f823 : (q_I r763.2 12 2 a0).toInt = (q_I r751 12 2 a0).toInt := congrArg Int32.toInt (u766 12 2 a0 (by decide))
                have f824 := cb_12_2 i753 k_a0
                have f825 : (q_I r751 12 2 a0).toInt = (q_I r642.2 12 2 a0).toInt := congrArg Int32.toInt (u755 12 2 a0 (by decide))
                have f826 := cb_12_2 i644 k_a0
                have f827 : (q_I r642.2 12 2 a0).toInt = (q_I r500 12 2 a0).toInt := congrArg Int32.toInt (u648 12 2 a0 (by decide))
                have f828 := cb_12_2 i528 k_a0
                have f829 : (q_I r500 12 2 a0).toInt = (q_I r84.2 12 2 a0).toInt := congrArg Int32.toInt (u534 12 2 a0 (by decide))
                have f830 := cb_12_2 i86 k_a0
                have f831 : (q_I r84.2 12 2 a0).toInt = (q_I d78 12 2 a0).toInt := congrArg Int32.toInt (u90 12 2 a0 (by decide))
                have f832 := cb_12_2 i80 k_a0
                have f833 : (q_I d78 12 2 a0).toInt = (q_I d72 12 2 a0).toInt := congrArg Int32.toInt (by rw [e79]; exact rI_o (by decide))
                have f834 := cb_12_2 i74 k_a0
                have f835 : (q_I d72 12 2 a0).toInt = (q_I d66 12 2 a0).toInt := congrArg Int32.toInt (by rw [e73]; exact rI_o (by decide))
                have f836 := cb_12_2 i68 k_a0
                have f837 : (q_I d66 12 2 a0).toInt = (q_I r35 12 2 a0).toInt := congrArg Int32.toInt (by rw [e67]; exact rI_o (by decide))
                exact ok_some (show RI ad h.1 δ0 d804 ∧ (kp [(12, 0), (12, 2), (12, 3), (12, 4), (12, 5), (12, 6), (12, 7), (12, 8), (12, 24), (12, 25), (12, 26), (12, 27)] δ d804 ∧ q_V d804 = q_V δ ∧ kr ad [100, 112, 113, 114, 115, 116, 117] δ d804) ∧ (0 ≤ (x1).toInt ∧ (x1).toInt ≤ (q_I δ 12 2 a0).toInt → (q_I d804 12 2 a0).toInt = 0) ∧ ((x1).toInt < 0 ∨ (q_I δ 12 2 a0).toInt < (x1).toInt → (q_I d804 12 2 a0).toInt = (q_I δ 12 2 a0).toInt) from ⟨i806, ⟨kp_w (by decide) u814, v815, kr_w (by decide) v816⟩, by first | assumption | omega, by first | assumption | omega⟩)
              · have c838 : r763.1.toInt ≠ (q_I r763.2 12 24 a0).toInt := o_ne h782
                unfold J_X12_thief_146
                have f839 := cb_12_2 I k_a0
                have f840 := cb_12_2 i765 k_a0
                have f841 : (q_I r763.2 12 2 a0).toInt = (q_I r751 12 2 a0).toInt := congrArg Int32.toInt (u766 12 2 a0 (by decide))
                have f842 := cb_12_2 i753 k_a0
                have f843 : (q_I r751 12 2 a0).toInt = (q_I r642.2 12 2 a0).toInt := congrArg Int32.toInt (u755 12 2 a0 (by decide))
                have f844 := cb_12_2 i644 k_a0
                have f845 : (q_I r642.2 12 2 a0).toInt = (q_I r500 12 2 a0).toInt := congrArg Int32.toInt (u648 12 2 a0 (by decide))
                have f846 := cb_12_2 i528 k_a0
                have f847 : (q_I r500 12 2 a0).toInt = (q_I r84.2 12 2 a0).toInt := congrArg Int32.toInt (u534 12 2 a0 (by decide))
                have f848 := cb_12_2 i86 k_a0
                have f849 : (q_I r84.2 12 2 a0).toInt = (q_I d78 12 2 a0).toInt := congrArg Int32.toInt (u90 12 2 a0 (by decide))
                have f850 := cb_12_2 i80 k_a0
                have f851 : (q_I d78 12 2 a0).toInt = (q_I d72 12 2 a0).toInt := congrArg Int32.toInt (by rw [e79]; exact rI_o (by decide))
                have f852 := cb_12_2 i74 k_a0
                have f853 : (q_I d72 12 2 a0).toInt = (q_I d66 12 2 a0).toInt := congrArg Int32.toInt (by rw [e73]; exact rI_o (by decide))
                have f854 := cb_12_2 i68 k_a0
                have f855 : (q_I d66 12 2 a0).toInt = (q_I r35 12 2 a0).toInt := congrArg Int32.toInt (by rw [e67]; exact rI_o (by decide))
                exact ok_some (show RI ad h.1 δ0 r763.2 ∧ (kp [(12, 0), (12, 2), (12, 3), (12, 4), (12, 5), (12, 6), (12, 7), (12, 8), (12, 24), (12, 25), (12, 26), (12, 27)] δ r763.2 ∧ q_V r763.2 = q_V δ ∧ kr ad [100, 112, 113, 114, 115, 116, 117] δ r763.2) ∧ (0 ≤ (x1).toInt ∧ (x1).toInt ≤ (q_I δ 12 2 a0).toInt → (q_I r763.2 12 2 a0).toInt = 0) ∧ ((x1).toInt < 0 ∨ (q_I δ 12 2 a0).toInt < (x1).toInt → (q_I r763.2 12 2 a0).toInt = (q_I δ 12 2 a0).toInt) from ⟨i765, ⟨kp_w (by decide) u770, v771, kr_w (by decide) v772⟩, by first | assumption | omega, by first | assumption | omega⟩)
  · have c856 : (0 : Int) ≤ x1.toInt := o_nlt h8
    have f857 := cb_12_2 i3 k_a0
    have f858 : (q_I d1 12 2 a0).toInt = (q_I δ 12 2 a0).toInt := congrArg Int32.toInt (by rw [e2]; exact rI_o (by decide))
    have f859 := cb_12_2 I k_a0
    refine ok_ite (fun h860 => ?_) (fun h860 => ?_)
    · have c861 : (q_I d1 12 2 a0).toInt < x1.toInt := o_lt h860
      unfold J_X12_thief_22
      unfold J_X12_thief_23
      refine ok_bind (k_X12_may L hN (a0 := a0) (x1 := (0 : Int32)) (x2 := (1 : Int32)) (x3 := (2 : Int32)) k_a0 (show (1 : Int) ≠ 0 by first | assumption | omega) (show 0 ≤ (2 : Int) by first | assumption | omega) (show (2 : Int) ≤ 2 by first | assumption | omega) i3) (fun r862 hr863 => ?_)
      obtain ⟨i864, ⟨u868, u869, u870⟩, p865, p866, p867⟩ := hr863
      have u871 := kp_t u4 u868
      have v872 : q_V r862.2 = q_V δ := (u869).trans v5
      have v873 := kr_t v6 u870
      have f874 := bo_t p865
      have f875 := ti_b r862.1
      replace p866 : ((r862.1).toInt = 1 → (0 : Int) ≠ 0) := p866
      have f876 := ti_b (q_I d1 12 0 a0)
      have f877 : (q_I d1 12 0 a0).toInt = (0 : Int) := congrArg Int32.toInt (show q_I d1 12 0 a0 = (0 : Int32) by rw [e2]; exact rI_s)
      replace p867 : ((q_I d1 12 0 a0).toInt = 0 → (r862.1).toInt = 0 → (0 : Int) = 0) := p867
      have f878 := ti_b r862.1
      refine ok_ite (fun h879 => ?_) (fun h879 => ?_)
      · have c880 : r862.1.toInt = (0 : Int) := o_eq h879
        have f881 := cb_12_2 i864 k_a0
        have f882 : (q_I r862.2 12 2 a0).toInt = (q_I d1 12 2 a0).toInt := congrArg Int32.toInt (u868 12 2 a0 (by decide))
        exact ok_some (show RI ad h.1 δ0 r862.2 ∧ (kp [(12, 0), (12, 2), (12, 3), (12, 4), (12, 5), (12, 6), (12, 7), (12, 8), (12, 24), (12, 25), (12, 26), (12, 27)] δ r862.2 ∧ q_V r862.2 = q_V δ ∧ kr ad [100, 112, 113, 114, 115, 116, 117] δ r862.2) ∧ (0 ≤ (x1).toInt ∧ (x1).toInt ≤ (q_I δ 12 2 a0).toInt → (q_I r862.2 12 2 a0).toInt = 0) ∧ ((x1).toInt < 0 ∨ (q_I δ 12 2 a0).toInt < (x1).toInt → (q_I r862.2 12 2 a0).toInt = (q_I δ 12 2 a0).toInt) from ⟨i864, ⟨kp_w (by decide) u871, v872, kr_w (by decide) v873⟩, by first | assumption | omega, by first | assumption | omega⟩)
      · have c883 : r862.1.toInt ≠ (0 : Int) := o_ne h879
        refine ok_bind (k_X12_begins L hN (a0 := a0) (x1 := x1) k_a0 (show 0 ≤ (x1).toInt by first | assumption | omega) (show (x1).toInt ≤ 500 by first | assumption | omega) i864) (fun r884 hr885 => ?_)
        obtain ⟨i886, ⟨u892, u893, u894, u895⟩, p887, p888, p889, p890, p891⟩ := hr885
        have u896 := kp_t u871 u892
        have v897 : q_V r884 = q_V δ := (u893).trans v872
        have v898 := kr_t v873 u895
        have f899 := cb_12_2 i886 k_a0
        have f900 := cb_12_4 i886 k_a0
        have f901 := cb_12_3 i886 k_a0
        have f902 := ti_b (q_I r884 12 5 a0)
        have f903 := ti_b (q_I r884 12 7 a0)
        have f904 := cb_12_24 i886 k_a0
        have f905 : (q_I r884 12 24 a0).toInt = (q_I r862.2 12 24 a0).toInt := congrArg Int32.toInt (u892 12 24 a0 (by decide))
        have f906 := cb_12_24 i864 k_a0
        have f907 : (q_I r862.2 12 24 a0).toInt = (q_I d1 12 24 a0).toInt := congrArg Int32.toInt (u868 12 24 a0 (by decide))
        have f908 := cb_12_24 i3 k_a0
        have f909 : (q_I d1 12 24 a0).toInt = (q_I δ 12 24 a0).toInt := congrArg Int32.toInt (by rw [e2]; exact rI_o (by decide))
        have f910 := cb_12_24 I k_a0
        refine ok_ite (fun h911 => ?_) (fun h911 => ?_)
        · have c912 : (q_I r884 12 24 a0).toInt = (4 : Int) := o_eq h911
          exact ok_some (show RI ad h.1 δ0 r884 ∧ (kp [(12, 0), (12, 2), (12, 3), (12, 4), (12, 5), (12, 6), (12, 7), (12, 8), (12, 24), (12, 25), (12, 26), (12, 27)] δ r884 ∧ q_V r884 = q_V δ ∧ kr ad [100, 112, 113, 114, 115, 116, 117] δ r884) ∧ (0 ≤ (x1).toInt ∧ (x1).toInt ≤ (q_I δ 12 2 a0).toInt → (q_I r884 12 2 a0).toInt = 0) ∧ ((x1).toInt < 0 ∨ (q_I δ 12 2 a0).toInt < (x1).toInt → (q_I r884 12 2 a0).toInt = (q_I δ 12 2 a0).toInt) from ⟨i886, ⟨kp_w (by decide) u896, v897, kr_w (by decide) v898⟩, by first | assumption | omega, by first | assumption | omega⟩)
        · have c913 : (q_I r884 12 24 a0).toInt ≠ (4 : Int) := o_ne h911
          refine ok_bdv (fun d914 e915 => ?_)
          have i916 : RI ad h.1 δ0 d914 := by rw [e915]; exact cs_12_25 L i886 k_a0 (show 0 ≤ (0 : Int) by omega) (show (0 : Int) ≤ 60 by omega)
          have u917 := kp_I u896 e915
          have v918 : q_V d914 = q_V δ := ((show q_V d914 = q_V r884 by rw [e915]; rfl)).trans v897
          have v919 := kr_N v898 (show q_R d914 = q_R r884 by rw [e915]; rfl)
          refine ok_bdv (fun d920 e921 => ?_)
          have i922 : RI ad h.1 δ0 d920 := by rw [e921]; exact cs_12_26 L i916 k_a0 (show 0 ≤ (0 : Int) by omega) (show (0 : Int) ≤ 500 by omega)
          have u923 := kp_I u917 e921
          have v924 : q_V d920 = q_V δ := ((show q_V d920 = q_V d914 by rw [e921]; rfl)).trans v918
          have v925 := kr_N v919 (show q_R d920 = q_R d914 by rw [e921]; rfl)
          refine ok_bdv (fun d926 e927 => ?_)
          have i928 : RI ad h.1 δ0 d926 := by rw [e927]; exact cs_12_27 L i922 k_a0 (show 0 ≤ (0 : Int) by omega) (show (0 : Int) ≤ 3 by omega)
          have u929 := kp_I u923 e927
          have v930 : q_V d926 = q_V δ := ((show q_V d926 = q_V d920 by rw [e927]; rfl)).trans v924
          have v931 := kr_N v925 (show q_R d926 = q_R d920 by rw [e927]; rfl)
          refine ok_bind (k_X12_isMore L hN (a0 := a0) k_a0 i928) (fun r932 hr933 => ?_)
          obtain ⟨i934, ⟨u938, u939, u940, u941⟩, p935, p936, p937⟩ := hr933
          have u942 := kp_t u929 u938
          have v943 : q_V r932.2 = q_V δ := (u939).trans v930
          have v944 := kr_t v931 u941
          have f945 := bo_t p935
          have f946 := cb_12_4 i928 k_a0
          have f947 : (q_I d926 12 4 a0).toInt = (q_I d920 12 4 a0).toInt := congrArg Int32.toInt (by rw [e927]; exact rI_o (by decide))
          have f948 := cb_12_4 i922 k_a0
          have f949 : (q_I d920 12 4 a0).toInt = (q_I d914 12 4 a0).toInt := congrArg Int32.toInt (by rw [e921]; exact rI_o (by decide))
          have f950 := cb_12_4 i916 k_a0
          have f951 : (q_I d914 12 4 a0).toInt = (q_I r884 12 4 a0).toInt := congrArg Int32.toInt (by rw [e915]; exact rI_o (by decide))
          have f952 := cb_12_4 i934 k_a0
          have f953 := ti_b r932.1
          have f954 := cb_12_3 i928 k_a0
          have f955 : (q_I d926 12 3 a0).toInt = (q_I d920 12 3 a0).toInt := congrArg Int32.toInt (by rw [e927]; exact rI_o (by decide))
          have f956 := cb_12_3 i922 k_a0
          have f957 : (q_I d920 12 3 a0).toInt = (q_I d914 12 3 a0).toInt := congrArg Int32.toInt (by rw [e921]; exact rI_o (by decide))
          have f958 := cb_12_3 i916 k_a0
          have f959 : (q_I d914 12 3 a0).toInt = (q_I r884 12 3 a0).toInt := congrArg Int32.toInt (by rw [e915]; exact rI_o (by decide))
          have f960 := ti_b r932.1
          refine ok_ite (fun h961 => ?_) (fun h961 => ?_)
          · have c962 : r932.1.toInt = (0 : Int) := o_eq h961
            have f965 := cb_12_3 i934 k_a0
            have f966 : (q_I r932.2 12 3 a0).toInt = (q_I d926 12 3 a0).toInt := congrArg Int32.toInt (u938 12 3 a0 (by decide))
            refine ok_bind (k_X12_wrong L hN (a0 := a0) (x1 := (1 : Int32)) (x2 := (q_I r932.2 12 3 a0)) k_a0 (show 0 ≤ ((q_I r932.2 12 3 a0)).toInt by first | assumption | omega) i934) (fun r963 hr964 => ?_)
            obtain ⟨i967, ⟨u969, u970, u971, u972⟩, p968⟩ := hr964
            have u973 := kp_t u942 u969
            have v974 : q_V r963 = q_V δ := (u970).trans v943
            have v975 := kr_t v944 u972
            have f976 := ti_b (q_I r963 12 5 a0)
            unfold J_X12_thief_79
            have f979 := cb_12_24 i967 k_a0
            have f980 : (q_I r963 12 24 a0).toInt = (q_I r932.2 12 24 a0).toInt := congrArg Int32.toInt (u969 12 24 a0 (by decide))
            have f981 := cb_12_24 i934 k_a0
            have f982 : (q_I r932.2 12 24 a0).toInt = (q_I d926 12 24 a0).toInt := congrArg Int32.toInt (u938 12 24 a0 (by decide))
            have f983 := cb_12_24 i928 k_a0
            have f984 : (q_I d926 12 24 a0).toInt = (q_I d920 12 24 a0).toInt := congrArg Int32.toInt (by rw [e927]; exact rI_o (by decide))
            have f985 := cb_12_24 i922 k_a0
            have f986 : (q_I d920 12 24 a0).toInt = (q_I d914 12 24 a0).toInt := congrArg Int32.toInt (by rw [e921]; exact rI_o (by decide))
            have f987 := cb_12_24 i916 k_a0
            have f988 : (q_I d914 12 24 a0).toInt = (q_I r884 12 24 a0).toInt := congrArg Int32.toInt (by rw [e915]; exact rI_o (by decide))
            have f989 := cb_12_26 i967 k_a0
            have f990 : (q_I r963 12 26 a0).toInt = (q_I r932.2 12 26 a0).toInt := congrArg Int32.toInt (u969 12 26 a0 (by decide))
            have f991 := cb_12_26 i934 k_a0
            have f992 : (q_I r932.2 12 26 a0).toInt = (q_I d926 12 26 a0).toInt := congrArg Int32.toInt (u938 12 26 a0 (by decide))
            have f993 := cb_12_26 i928 k_a0
            have f994 : (q_I d926 12 26 a0).toInt = (q_I d920 12 26 a0).toInt := congrArg Int32.toInt (by rw [e927]; exact rI_o (by decide))
            have f995 := cb_12_26 i922 k_a0
            have f996 : (q_I d920 12 26 a0).toInt = (0 : Int) := congrArg Int32.toInt (show q_I d920 12 26 a0 = (0 : Int32) by rw [e921]; exact rI_s)
            have f997 := cb_12_4 i967 k_a0
            have f998 : (q_I r963 12 4 a0).toInt = (q_I r932.2 12 4 a0).toInt := congrArg Int32.toInt (u969 12 4 a0 (by decide))
            have f999 := ti_b (q_I r963 12 7 a0)
            have f1000 : (q_I r963 12 7 a0).toInt = (q_I r932.2 12 7 a0).toInt := congrArg Int32.toInt (u969 12 7 a0 (by decide))
            have f1001 := ti_b (q_I r932.2 12 7 a0)
            have f1002 : (q_I r932.2 12 7 a0).toInt = (q_I d926 12 7 a0).toInt := congrArg Int32.toInt (u938 12 7 a0 (by decide))
            have f1003 := ti_b (q_I d926 12 7 a0)
            have f1004 : (q_I d926 12 7 a0).toInt = (q_I d920 12 7 a0).toInt := congrArg Int32.toInt (by rw [e927]; exact rI_o (by decide))
            have f1005 := ti_b (q_I d920 12 7 a0)
            have f1006 : (q_I d920 12 7 a0).toInt = (q_I d914 12 7 a0).toInt := congrArg Int32.toInt (by rw [e921]; exact rI_o (by decide))
            have f1007 := ti_b (q_I d914 12 7 a0)
            have f1008 : (q_I d914 12 7 a0).toInt = (q_I r884 12 7 a0).toInt := congrArg Int32.toInt (by rw [e915]; exact rI_o (by decide))
            have f1009 := cb_12_27 i967 k_a0
            have f1010 : (q_I r963 12 27 a0).toInt = (q_I r932.2 12 27 a0).toInt := congrArg Int32.toInt (u969 12 27 a0 (by decide))
            have f1011 := cb_12_27 i934 k_a0
            have f1012 : (q_I r932.2 12 27 a0).toInt = (q_I d926 12 27 a0).toInt := congrArg Int32.toInt (u938 12 27 a0 (by decide))
            have f1013 := cb_12_27 i928 k_a0
            have f1014 : (q_I d926 12 27 a0).toInt = (0 : Int) := congrArg Int32.toInt (show q_I d926 12 27 a0 = (0 : Int32) by rw [e927]; exact rI_s)
            refine ok_bind (k_X12_readSteps L hN (a0 := a0) k_a0 (show (q_I r963 12 24 a0).toInt ≤ 3 by first | assumption | omega) (show (q_I r963 12 26 a0).toInt ≤ (q_I r963 12 4 a0).toInt by first | assumption | omega) (show (q_I r963 12 7 a0).toInt = 0 by first | assumption | omega) (show 4 - (q_I r963 12 27 a0).toInt < 20 by first | assumption | omega) i967) (fun r977 hr978 => ?_)
            obtain ⟨i1015, ⟨u1021, u1022, u1023⟩, p1016, p1017, p1018, p1019, p1020⟩ := hr978
            have u1024 := kp_t u973 u1021
            have v1025 : q_V r977 = q_V δ := (u1022).trans v974
            have v1026 := kr_t v975 u1023
            have f1027 := cb_12_4 i1015 k_a0
            have f1028 := ti_b (q_I r977 12 5 a0)
            have f1029 := ti_b (q_I r977 12 7 a0)
            have f1030 := cb_12_27 i1015 k_a0
            have f1031 := cb_12_26 i1015 k_a0
            refine ok_bind (k_X12_fine L hN (a0 := a0) k_a0 i1015) (fun r1032 hr1033 => ?_)
            obtain ⟨i1034, p1035, p1036, p1037⟩ := hr1033
            try rw [i1034]
            have f1038 := bo_t p1035
            have f1039 := ti_b r1032.1
            have f1040 := ti_b r1032.1
            refine ok_ite (fun h1041 => ?_) (fun h1041 => ?_)
            · have c1042 : r1032.1.toInt = (0 : Int) := o_eq h1041
              unfold J_X12_thief_106
              refine ok_bind (k_X12_result L hN (a0 := a0) (x1 := (q_I r977 12 24 a0)) k_a0 i1015) (fun r1043 hr1044 => ?_)
              obtain ⟨i1045, ⟨u1046, u1047, u1048, u1049⟩⟩ := hr1044
              have u1050 := kp_t u1024 u1046
              have v1051 : q_V r1043.2 = q_V δ := (u1047).trans v1025
              have v1052 := kr_t v1026 u1049
              have f1053 := ti_b r1043.1
              have f1054 := cb_12_24 i1045 k_a0
              have f1055 : (q_I r1043.2 12 24 a0).toInt = (q_I r977 12 24 a0).toInt := congrArg Int32.toInt (u1046 12 24 a0 (by decide))
              have f1056 := cb_12_24 i1015 k_a0
              have f1057 : (q_I r977 12 24 a0).toInt = (q_I r963 12 24 a0).toInt := congrArg Int32.toInt (u1021 12 24 a0 (by decide))
              refine ok_ite (fun h1058 => ?_) (fun h1058 => ?_)
              · have c1059 : r1043.1.toInt = (q_I r1043.2 12 24 a0).toInt := o_eq h1058
                obtain ⟨b1060, o1061, k1062, n1063⟩ := gO_12_28 L k_a0
                obtain rfl := gS_12_28 L k_a0 o1061
                refine ok_at o1061 ?_
                have t1064 := ti_tn (q_I r1043.2 12 24 a0)
                refine ok_gd (fun hc1065 => ?_) ?_
                · rcases hc1065 with hc1065 | hc1065
                  · have c1066 : (q_I r1043.2 12 24 a0).toInt < (0 : Int) := o_lt hc1065
                    omega
                  · omega
                have f1070 := cb_12_25 i1045 k_a0
                have f1071 : (q_I r1043.2 12 25 a0).toInt = (q_I r977 12 25 a0).toInt := congrArg Int32.toInt (u1046 12 25 a0 (by decide))
                have f1072 := cb_12_25 i1015 k_a0
                refine ok_bdv (fun d1067 e1068 => ?_)
                have i1069 : RI ad h.1 δ0 d1067 := by rw [e1068]; exact cr_112 L i1045 (show 0 ≤ (q_I r1043.2 12 25 a0).toInt by omega) (show (q_I r1043.2 12 25 a0).toInt ≤ 60 by omega)
                have u1073 := kp_N u1050 (show q_I d1067 = q_I r1043.2 by rw [e1068]; rfl)
                have v1074 : q_V d1067 = q_V δ := ((show q_V d1067 = q_V r1043.2 by rw [e1068]; rfl)).trans v1051
                have v1075 := kr_s L (by decide) v1052 e1068
                have f1079 := cb_12_24 i1069 k_a0
                have f1080 : (q_I d1067 12 24 a0).toInt = (q_I r1043.2 12 24 a0).toInt := congrArg Int32.toInt (by rw [e1068]; rfl)
                first | (have q1082 := te_addc (c := 1) (n := 1) rfl (q_I d1067 12 24 a0) (by omega) (by omega); obtain ⟨f1083, f1084, f1085⟩ := q1082) | (obtain ⟨q1082, f1083, f1084, f1085⟩ := ti_addc (c := 1) (n := 1) rfl (q_I d1067 12 24 a0))
                refine ok_bdv (fun d1076 e1077 => ?_)
                have i1078 : RI ad h.1 δ0 d1076 := by rw [e1077]; exact cs_12_24 L i1069 k_a0 (show 0 ≤ ((q_I d1067 12 24 a0) + (1 : Int32)).toInt by omega) (show ((q_I d1067 12 24 a0) + (1 : Int32)).toInt ≤ 4 by omega)
                have u1086 := kp_I u1073 e1077
                have v1087 : q_V d1076 = q_V δ := ((show q_V d1076 = q_V d1067 by rw [e1077]; rfl)).trans v1074
                have v1088 := kr_N v1075 (show q_R d1076 = q_R d1067 by rw [e1077]; rfl)
                unfold J_X12_thief_146
                have f1089 := cb_12_2 i1078 k_a0
                have f1090 : (q_I d1076 12 2 a0).toInt = (q_I d1067 12 2 a0).toInt := congrArg Int32.toInt (by rw [e1077]; exact rI_o (by decide))
                have f1091 := cb_12_2 i1069 k_a0
                have f1092 : (q_I d1067 12 2 a0).toInt = (q_I r1043.2 12 2 a0).toInt := congrArg Int32.toInt (by rw [e1068]; rfl)
                have f1093 := cb_12_2 i1045 k_a0
                have f1094 : (q_I r1043.2 12 2 a0).toInt = (q_I r977 12 2 a0).toInt := congrArg Int32.toInt (u1046 12 2 a0 (by decide))
                have f1095 := cb_12_2 i1015 k_a0
                have f1096 : (q_I r977 12 2 a0).toInt = (q_I r963 12 2 a0).toInt := congrArg Int32.toInt (u1021 12 2 a0 (by decide))
                have f1097 := cb_12_2 i967 k_a0
                have f1098 : (q_I r963 12 2 a0).toInt = (q_I r932.2 12 2 a0).toInt := congrArg Int32.toInt (u969 12 2 a0 (by decide))
                have f1099 := cb_12_2 i934 k_a0
                have f1100 : (q_I r932.2 12 2 a0).toInt = (q_I d926 12 2 a0).toInt := congrArg Int32.toInt (u938 12 2 a0 (by decide))
                have f1101 := cb_12_2 i928 k_a0
                have f1102 : (q_I d926 12 2 a0).toInt = (q_I d920 12 2 a0).toInt := congrArg Int32.toInt (by rw [e927]; exact rI_o (by decide))
                have f1103 := cb_12_2 i922 k_a0
                have f1104 : (q_I d920 12 2 a0).toInt = (q_I d914 12 2 a0).toInt := congrArg Int32.toInt (by rw [e921]; exact rI_o (by decide))
                have f1105 := cb_12_2 i916 k_a0
                have f1106 : (q_I d914 12 2 a0).toInt = (q_I r884 12 2 a0).toInt := congrArg Int32.toInt (by rw [e915]; exact rI_o (by decide))
                exact ok_some (show RI ad h.1 δ0 d1076 ∧ (kp [(12, 0), (12, 2), (12, 3), (12, 4), (12, 5), (12, 6), (12, 7), (12, 8), (12, 24), (12, 25), (12, 26), (12, 27)] δ d1076 ∧ q_V d1076 = q_V δ ∧ kr ad [100, 112, 113, 114, 115, 116, 117] δ d1076) ∧ (0 ≤ (x1).toInt ∧ (x1).toInt ≤ (q_I δ 12 2 a0).toInt → (q_I d1076 12 2 a0).toInt = 0) ∧ ((x1).toInt < 0 ∨ (q_I δ 12 2 a0).toInt < (x1).toInt → (q_I d1076 12 2 a0).toInt = (q_I δ 12 2 a0).toInt) from ⟨i1078, ⟨kp_w (by decide) u1086, v1087, kr_w (by decide) v1088⟩, by first | assumption | omega, by first | assumption | omega⟩)
              · have c1107 : r1043.1.toInt ≠ (q_I r1043.2 12 24 a0).toInt := o_ne h1058
                unfold J_X12_thief_146
                have f1108 := cb_12_2 i1045 k_a0
                have f1109 : (q_I r1043.2 12 2 a0).toInt = (q_I r977 12 2 a0).toInt := congrArg Int32.toInt (u1046 12 2 a0 (by decide))
                have f1110 := cb_12_2 i1015 k_a0
                have f1111 : (q_I r977 12 2 a0).toInt = (q_I r963 12 2 a0).toInt := congrArg Int32.toInt (u1021 12 2 a0 (by decide))
                have f1112 := cb_12_2 i967 k_a0
                have f1113 : (q_I r963 12 2 a0).toInt = (q_I r932.2 12 2 a0).toInt := congrArg Int32.toInt (u969 12 2 a0 (by decide))
                have f1114 := cb_12_2 i934 k_a0
                have f1115 : (q_I r932.2 12 2 a0).toInt = (q_I d926 12 2 a0).toInt := congrArg Int32.toInt (u938 12 2 a0 (by decide))
                have f1116 := cb_12_2 i928 k_a0
                have f1117 : (q_I d926 12 2 a0).toInt = (q_I d920 12 2 a0).toInt := congrArg Int32.toInt (by rw [e927]; exact rI_o (by decide))
                have f1118 := cb_12_2 i922 k_a0
                have f1119 : (q_I d920 12 2 a0).toInt = (q_I d914 12 2 a0).toInt := congrArg Int32.toInt (by rw [e921]; exact rI_o (by decide))
                have f1120 := cb_12_2 i916 k_a0
                have f1121 : (q_I d914 12 2 a0).toInt = (q_I r884 12 2 a0).toInt := congrArg Int32.toInt (by rw [e915]; exact rI_o (by decide))
                exact ok_some (show RI ad h.1 δ0 r1043.2 ∧ (kp [(12, 0), (12, 2), (12, 3), (12, 4), (12, 5), (12, 6), (12, 7), (12, 8), (12, 24), (12, 25), (12, 26), (12, 27)] δ r1043.2 ∧ q_V r1043.2 = q_V δ ∧ kr ad [100, 112, 113, 114, 115, 116, 117] δ r1043.2) ∧ (0 ≤ (x1).toInt ∧ (x1).toInt ≤ (q_I δ 12 2 a0).toInt → (q_I r1043.2 12 2 a0).toInt = 0) ∧ ((x1).toInt < 0 ∨ (q_I δ 12 2 a0).toInt < (x1).toInt → (q_I r1043.2 12 2 a0).toInt = (q_I δ 12 2 a0).toInt) from ⟨i1045, ⟨kp_w (by decide) u1050, v1051, kr_w (by decide) v1052⟩, by first | assumption | omega, by first | assumption | omega⟩)
            · have c1122 : r1032.1.toInt ≠ (0 : Int) := o_ne h1041
              refine ok_bind (k_X12_isMore L hN (a0 := a0) k_a0 i1015) (fun r1123 hr1124 => ?_)
              obtain ⟨i1125, ⟨u1129, u1130, u1131, u1132⟩, p1126, p1127, p1128⟩ := hr1124
              have u1133 := kp_t u1024 u1129
              have v1134 : q_V r1123.2 = q_V δ := (u1130).trans v1025
              have v1135 := kr_t v1026 u1132
              have f1136 := bo_t p1126
              have f1137 := cb_12_4 i1125 k_a0
              have f1138 := ti_b r1123.1
              have f1139 := cb_12_3 i1015 k_a0
              have f1140 : (q_I r977 12 3 a0).toInt = (q_I r963 12 3 a0).toInt := congrArg Int32.toInt (u1021 12 3 a0 (by decide))
              have f1141 := cb_12_3 i967 k_a0
              have f1142 : (q_I r963 12 3 a0).toInt = (q_I r932.2 12 3 a0).toInt := congrArg Int32.toInt (u969 12 3 a0 (by decide))
              have f1143 := ti_b r1123.1
              refine ok_ite (fun h1144 => ?_) (fun h1144 => ?_)
              · have c1145 : r1123.1.toInt = (0 : Int) := o_eq h1144
                unfold J_X12_thief_106
                refine ok_bind (k_X12_result L hN (a0 := a0) (x1 := (q_I r1123.2 12 24 a0)) k_a0 i1125) (fun r1146 hr1147 => ?_)
                obtain ⟨i1148, ⟨u1149, u1150, u1151, u1152⟩⟩ := hr1147
                have u1153 := kp_t u1133 u1149
                have v1154 : q_V r1146.2 = q_V δ := (u1150).trans v1134
                have v1155 := kr_t v1135 u1152
                have f1156 := ti_b r1146.1
                have f1157 := cb_12_24 i1148 k_a0
                have f1158 : (q_I r1146.2 12 24 a0).toInt = (q_I r1123.2 12 24 a0).toInt := congrArg Int32.toInt (u1149 12 24 a0 (by decide))
                have f1159 := cb_12_24 i1125 k_a0
                have f1160 : (q_I r1123.2 12 24 a0).toInt = (q_I r977 12 24 a0).toInt := congrArg Int32.toInt (u1129 12 24 a0 (by decide))
                have f1161 := cb_12_24 i1015 k_a0
                have f1162 : (q_I r977 12 24 a0).toInt = (q_I r963 12 24 a0).toInt := congrArg Int32.toInt (u1021 12 24 a0 (by decide))
                refine ok_ite (fun h1163 => ?_) (fun h1163 => ?_)
                · have c1164 : r1146.1.toInt = (q_I r1146.2 12 24 a0).toInt := o_eq h1163
                  obtain ⟨b1165, o1166, k1167, n1168⟩ := gO_12_28 L k_a0
                  obtain rfl := gS_12_28 L k_a0 o1166
                  refine ok_at o1166 ?_
                  have t1169 := ti_tn (q_I r1146.2 12 24 a0)
                  refine ok_gd (fun hc1170 => ?_) ?_
                  · rcases hc1170 with hc1170 | hc1170
                    · have c1171 : (q_I r1146.2 12 24 a0).toInt < (0 : Int) := o_lt hc1170
                      omega
                    · omega
                  have f1175 := cb_12_25 i1148 k_a0
                  have f1176 : (q_I r1146.2 12 25 a0).toInt = (q_I r1123.2 12 25 a0).toInt := congrArg Int32.toInt (u1149 12 25 a0 (by decide))
                  have f1177 := cb_12_25 i1125 k_a0
                  have f1178 : (q_I r1123.2 12 25 a0).toInt = (q_I r977 12 25 a0).toInt := congrArg Int32.toInt (u1129 12 25 a0 (by decide))
                  have f1179 := cb_12_25 i1015 k_a0
                  refine ok_bdv (fun d1172 e1173 => ?_)
                  have i1174 : RI ad h.1 δ0 d1172 := by rw [e1173]; exact cr_112 L i1148 (show 0 ≤ (q_I r1146.2 12 25 a0).toInt by omega) (show (q_I r1146.2 12 25 a0).toInt ≤ 60 by omega)
                  have u1180 := kp_N u1153 (show q_I d1172 = q_I r1146.2 by rw [e1173]; rfl)
                  have v1181 : q_V d1172 = q_V δ := ((show q_V d1172 = q_V r1146.2 by rw [e1173]; rfl)).trans v1154
                  have v1182 := kr_s L (by decide) v1155 e1173
                  have f1186 := cb_12_24 i1174 k_a0
                  have f1187 : (q_I d1172 12 24 a0).toInt = (q_I r1146.2 12 24 a0).toInt := congrArg Int32.toInt (by rw [e1173]; rfl)
                  first | (have q1189 := te_addc (c := 1) (n := 1) rfl (q_I d1172 12 24 a0) (by omega) (by omega); obtain ⟨f1190, f1191, f1192⟩ := q1189) | (obtain ⟨q1189, f1190, f1191, f1192⟩ := ti_addc (c := 1) (n := 1) rfl (q_I d1172 12 24 a0))
                  refine ok_bdv (fun d1183 e1184 => ?_)
                  have i1185 : RI ad h.1 δ0 d1183 := by rw [e1184]; exact cs_12_24 L i1174 k_a0 (show 0 ≤ ((q_I d1172 12 24 a0) + (1 : Int32)).toInt by omega) (show ((q_I d1172 12 24 a0) + (1 : Int32)).toInt ≤ 4 by omega)
                  have u1193 := kp_I u1180 e1184
                  have v1194 : q_V d1183 = q_V δ := ((show q_V d1183 = q_V d1172 by rw [e1184]; rfl)).trans v1181
                  have v1195 := kr_N v1182 (show q_R d1183 = q_R d1172 by rw [e1184]; rfl)
                  unfold J_X12_thief_146
                  have f1196 := cb_12_2 i1185 k_a0
                  have f1197 : (q_I d1183 12 2 a0).toInt = (q_I d1172 12 2 a0).toInt := congrArg Int32.toInt (by rw [e1184]; exact rI_o (by decide))
                  have f1198 := cb_12_2 i1174 k_a0
                  have f1199 : (q_I d1172 12 2 a0).toInt = (q_I r1146.2 12 2 a0).toInt := congrArg Int32.toInt (by rw [e1173]; rfl)
                  have f1200 := cb_12_2 i1148 k_a0
                  have f1201 : (q_I r1146.2 12 2 a0).toInt = (q_I r1123.2 12 2 a0).toInt := congrArg Int32.toInt (u1149 12 2 a0 (by decide))
                  have f1202 := cb_12_2 i1125 k_a0
                  have f1203 : (q_I r1123.2 12 2 a0).toInt = (q_I r977 12 2 a0).toInt := congrArg Int32.toInt (u1129 12 2 a0 (by decide))
                  have f1204 := cb_12_2 i1015 k_a0
                  have f1205 : (q_I r977 12 2 a0).toInt = (q_I r963 12 2 a0).toInt := congrArg Int32.toInt (u1021 12 2 a0 (by decide))
                  have f1206 := cb_12_2 i967 k_a0
                  have f1207 : (q_I r963 12 2 a0).toInt = (q_I r932.2 12 2 a0).toInt := congrArg Int32.toInt (u969 12 2 a0 (by decide))
                  have f1208 := cb_12_2 i934 k_a0
                  have f1209 : (q_I r932.2 12 2 a0).toInt = (q_I d926 12 2 a0).toInt := congrArg Int32.toInt (u938 12 2 a0 (by decide))
                  have f1210 := cb_12_2 i928 k_a0
                  have f1211 : (q_I d926 12 2 a0).toInt = (q_I d920 12 2 a0).toInt := congrArg Int32.toInt (by rw [e927]; exact rI_o (by decide))
                  have f1212 := cb_12_2 i922 k_a0
                  have f1213 : (q_I d920 12 2 a0).toInt = (q_I d914 12 2 a0).toInt := congrArg Int32.toInt (by rw [e921]; exact rI_o (by decide))
                  have f1214 := cb_12_2 i916 k_a0
                  have f1215 : (q_I d914 12 2 a0).toInt = (q_I r884 12 2 a0).toInt := congrArg Int32.toInt (by rw [e915]; exact rI_o (by decide))
                  exact ok_some (show RI ad h.1 δ0 d1183 ∧ (kp [(12, 0), (12, 2), (12, 3), (12, 4), (12, 5), (12, 6), (12, 7), (12, 8), (12, 24), (12, 25), (12, 26), (12, 27)] δ d1183 ∧ q_V d1183 = q_V δ ∧ kr ad [100, 112, 113, 114, 115, 116, 117] δ d1183) ∧ (0 ≤ (x1).toInt ∧ (x1).toInt ≤ (q_I δ 12 2 a0).toInt → (q_I d1183 12 2 a0).toInt = 0) ∧ ((x1).toInt < 0 ∨ (q_I δ 12 2 a0).toInt < (x1).toInt → (q_I d1183 12 2 a0).toInt = (q_I δ 12 2 a0).toInt) from ⟨i1185, ⟨kp_w (by decide) u1193, v1194, kr_w (by decide) v1195⟩, by first | assumption | omega, by first | assumption | omega⟩)
                · have c1216 : r1146.1.toInt ≠ (q_I r1146.2 12 24 a0).toInt := o_ne h1163
                  unfold J_X12_thief_146
                  have f1217 := cb_12_2 i1148 k_a0
                  have f1218 : (q_I r1146.2 12 2 a0).toInt = (q_I r1123.2 12 2 a0).toInt := congrArg Int32.toInt (u1149 12 2 a0 (by decide))
                  have f1219 := cb_12_2 i1125 k_a0
                  have f1220 : (q_I r1123.2 12 2 a0).toInt = (q_I r977 12 2 a0).toInt := congrArg Int32.toInt (u1129 12 2 a0 (by decide))
                  have f1221 := cb_12_2 i1015 k_a0
                  have f1222 : (q_I r977 12 2 a0).toInt = (q_I r963 12 2 a0).toInt := congrArg Int32.toInt (u1021 12 2 a0 (by decide))
                  have f1223 := cb_12_2 i967 k_a0
                  have f1224 : (q_I r963 12 2 a0).toInt = (q_I r932.2 12 2 a0).toInt := congrArg Int32.toInt (u969 12 2 a0 (by decide))
                  have f1225 := cb_12_2 i934 k_a0
                  have f1226 : (q_I r932.2 12 2 a0).toInt = (q_I d926 12 2 a0).toInt := congrArg Int32.toInt (u938 12 2 a0 (by decide))
                  have f1227 := cb_12_2 i928 k_a0
                  have f1228 : (q_I d926 12 2 a0).toInt = (q_I d920 12 2 a0).toInt := congrArg Int32.toInt (by rw [e927]; exact rI_o (by decide))
                  have f1229 := cb_12_2 i922 k_a0
                  have f1230 : (q_I d920 12 2 a0).toInt = (q_I d914 12 2 a0).toInt := congrArg Int32.toInt (by rw [e921]; exact rI_o (by decide))
                  have f1231 := cb_12_2 i916 k_a0
                  have f1232 : (q_I d914 12 2 a0).toInt = (q_I r884 12 2 a0).toInt := congrArg Int32.toInt (by rw [e915]; exact rI_o (by decide))
                  exact ok_some (show RI ad h.1 δ0 r1146.2 ∧ (kp [(12, 0), (12, 2), (12, 3), (12, 4), (12, 5), (12, 6), (12, 7), (12, 8), (12, 24), (12, 25), (12, 26), (12, 27)] δ r1146.2 ∧ q_V r1146.2 = q_V δ ∧ kr ad [100, 112, 113, 114, 115, 116, 117] δ r1146.2) ∧ (0 ≤ (x1).toInt ∧ (x1).toInt ≤ (q_I δ 12 2 a0).toInt → (q_I r1146.2 12 2 a0).toInt = 0) ∧ ((x1).toInt < 0 ∨ (q_I δ 12 2 a0).toInt < (x1).toInt → (q_I r1146.2 12 2 a0).toInt = (q_I δ 12 2 a0).toInt) from ⟨i1148, ⟨kp_w (by decide) u1153, v1154, kr_w (by decide) v1155⟩, by first | assumption | omega, by first | assumption | omega⟩)
              · have c1233 : r1123.1.toInt ≠ (0 : Int) := o_ne h1144
                refine ok_bind (k_X12_wrong L hN (a0 := a0) (x1 := (1 : Int32)) (x2 := (q_I r1123.2 12 4 a0)) k_a0 (show 0 ≤ ((q_I r1123.2 12 4 a0)).toInt by first | assumption | omega) i1125) (fun r1234 hr1235 => ?_)
                obtain ⟨i1236, ⟨u1238, u1239, u1240, u1241⟩, p1237⟩ := hr1235
                have u1242 := kp_t u1133 u1238
                have v1243 : q_V r1234 = q_V δ := (u1239).trans v1134
                have v1244 := kr_t v1135 u1241
                have f1245 := ti_b (q_I r1234 12 5 a0)
                unfold J_X12_thief_106
                refine ok_bind (k_X12_result L hN (a0 := a0) (x1 := (q_I r1234 12 24 a0)) k_a0 i1236) (fun r1246 hr1247 => ?_)
                obtain ⟨i1248, ⟨u1249, u1250, u1251, u1252⟩⟩ := hr1247
                have u1253 := kp_t u1242 u1249
                have v1254 : q_V r1246.2 = q_V δ := (u1250).trans v1243
                have v1255 := kr_t v1244 u1252
                have f1256 := ti_b r1246.1
                have f1257 := cb_12_24 i1248 k_a0
                have f1258 : (q_I r1246.2 12 24 a0).toInt = (q_I r1234 12 24 a0).toInt := congrArg Int32.toInt (u1249 12 24 a0 (by decide))
                have f1259 := cb_12_24 i1236 k_a0
                have f1260 : (q_I r1234 12 24 a0).toInt = (q_I r1123.2 12 24 a0).toInt := congrArg Int32.toInt (u1238 12 24 a0 (by decide))
                have f1261 := cb_12_24 i1125 k_a0
                have f1262 : (q_I r1123.2 12 24 a0).toInt = (q_I r977 12 24 a0).toInt := congrArg Int32.toInt (u1129 12 24 a0 (by decide))
                have f1263 := cb_12_24 i1015 k_a0
                have f1264 : (q_I r977 12 24 a0).toInt = (q_I r963 12 24 a0).toInt := congrArg Int32.toInt (u1021 12 24 a0 (by decide))
                refine ok_ite (fun h1265 => ?_) (fun h1265 => ?_)
                · have c1266 : r1246.1.toInt = (q_I r1246.2 12 24 a0).toInt := o_eq h1265
                  obtain ⟨b1267, o1268, k1269, n1270⟩ := gO_12_28 L k_a0
                  obtain rfl := gS_12_28 L k_a0 o1268
                  refine ok_at o1268 ?_
                  have t1271 := ti_tn (q_I r1246.2 12 24 a0)
                  refine ok_gd (fun hc1272 => ?_) ?_
                  · rcases hc1272 with hc1272 | hc1272
                    · have c1273 : (q_I r1246.2 12 24 a0).toInt < (0 : Int) := o_lt hc1272
                      omega
                    · omega
                  have f1277 := cb_12_25 i1248 k_a0
                  have f1278 : (q_I r1246.2 12 25 a0).toInt = (q_I r1234 12 25 a0).toInt := congrArg Int32.toInt (u1249 12 25 a0 (by decide))
                  have f1279 := cb_12_25 i1236 k_a0
                  have f1280 : (q_I r1234 12 25 a0).toInt = (q_I r1123.2 12 25 a0).toInt := congrArg Int32.toInt (u1238 12 25 a0 (by decide))
                  have f1281 := cb_12_25 i1125 k_a0
                  have f1282 : (q_I r1123.2 12 25 a0).toInt = (q_I r977 12 25 a0).toInt := congrArg Int32.toInt (u1129 12 25 a0 (by decide))
                  have f1283 := cb_12_25 i1015 k_a0
                  refine ok_bdv (fun d1274 e1275 => ?_)
                  have i1276 : RI ad h.1 δ0 d1274 := by rw [e1275]; exact cr_112 L i1248 (show 0 ≤ (q_I r1246.2 12 25 a0).toInt by omega) (show (q_I r1246.2 12 25 a0).toInt ≤ 60 by omega)
                  have u1284 := kp_N u1253 (show q_I d1274 = q_I r1246.2 by rw [e1275]; rfl)
                  have v1285 : q_V d1274 = q_V δ := ((show q_V d1274 = q_V r1246.2 by rw [e1275]; rfl)).trans v1254
                  have v1286 := kr_s L (by decide) v1255 e1275
                  have f1290 := cb_12_24 i1276 k_a0
                  have f1291 : (q_I d1274 12 24 a0).toInt = (q_I r1246.2 12 24 a0).toInt := congrArg Int32.toInt (by rw [e1275]; rfl)
                  first | (have q1293 := te_addc (c := 1) (n := 1) rfl (q_I d1274 12 24 a0) (by omega) (by omega); obtain ⟨f1294, f1295, f1296⟩ := q1293) | (obtain ⟨q1293, f1294, f1295, f1296⟩ := ti_addc (c := 1) (n := 1) rfl (q_I d1274 12 24 a0))
                  refine ok_bdv (fun d1287 e1288 => ?_)
                  have i1289 : RI ad h.1 δ0 d1287 := by rw [e1288]; exact cs_12_24 L i1276 k_a0 (show 0 ≤ ((q_I d1274 12 24 a0) + (1 : Int32)).toInt by omega) (show ((q_I d1274 12 24 a0) + (1 : Int32)).toInt ≤ 4 by omega)
                  have u1297 := kp_I u1284 e1288
                  have v1298 : q_V d1287 = q_V δ := ((show q_V d1287 = q_V d1274 by rw [e1288]; rfl)).trans v1285
                  have v1299 := kr_N v1286 (show q_R d1287 = q_R d1274 by rw [e1288]; rfl)
                  unfold J_X12_thief_146
                  have f1300 := cb_12_2 i1289 k_a0
                  have f1301 : (q_I d1287 12 2 a0).toInt = (q_I d1274 12 2 a0).toInt := congrArg Int32.toInt (by rw [e1288]; exact rI_o (by decide))
                  have f1302 := cb_12_2 i1276 k_a0
                  have f1303 : (q_I d1274 12 2 a0).toInt = (q_I r1246.2 12 2 a0).toInt := congrArg Int32.toInt (by rw [e1275]; rfl)
                  have f1304 := cb_12_2 i1248 k_a0
                  have f1305 : (q_I r1246.2 12 2 a0).toInt = (q_I r1234 12 2 a0).toInt := congrArg Int32.toInt (u1249 12 2 a0 (by decide))
                  have f1306 := cb_12_2 i1236 k_a0
                  have f1307 : (q_I r1234 12 2 a0).toInt = (q_I r1123.2 12 2 a0).toInt := congrArg Int32.toInt (u1238 12 2 a0 (by decide))
                  have f1308 := cb_12_2 i1125 k_a0
                  have f1309 : (q_I r1123.2 12 2 a0).toInt = (q_I r977 12 2 a0).toInt := congrArg Int32.toInt (u1129 12 2 a0 (by decide))
                  have f1310 := cb_12_2 i1015 k_a0
                  have f1311 : (q_I r977 12 2 a0).toInt = (q_I r963 12 2 a0).toInt := congrArg Int32.toInt (u1021 12 2 a0 (by decide))
                  have f1312 := cb_12_2 i967 k_a0
                  have f1313 : (q_I r963 12 2 a0).toInt = (q_I r932.2 12 2 a0).toInt := congrArg Int32.toInt (u969 12 2 a0 (by decide))
                  have f1314 := cb_12_2 i934 k_a0
                  have f1315 : (q_I r932.2 12 2 a0).toInt = (q_I d926 12 2 a0).toInt := congrArg Int32.toInt (u938 12 2 a0 (by decide))
                  have f1316 := cb_12_2 i928 k_a0
                  have f1317 : (q_I d926 12 2 a0).toInt = (q_I d920 12 2 a0).toInt := congrArg Int32.toInt (by rw [e927]; exact rI_o (by decide))
                  have f1318 := cb_12_2 i922 k_a0
                  have f1319 : (q_I d920 12 2 a0).toInt = (q_I d914 12 2 a0).toInt := congrArg Int32.toInt (by rw [e921]; exact rI_o (by decide))
                  have f1320 := cb_12_2 i916 k_a0
                  have f1321 : (q_I d914 12 2 a0).toInt = (q_I r884 12 2 a0).toInt := congrArg Int32.toInt (by rw [e915]; exact rI_o (by decide))
                  exact ok_some (show RI ad h.1 δ0 d1287 ∧ (kp [(12, 0), (12, 2), (12, 3), (12, 4), (12, 5), (12, 6), (12, 7), (12, 8), (12, 24), (12, 25), (12, 26), (12, 27)] δ d1287 ∧ q_V d1287 = q_V δ ∧ kr ad [100, 112, 113, 114, 115, 116, 117] δ d1287) ∧ (0 ≤ (x1).toInt ∧ (x1).toInt ≤ (q_I δ 12 2 a0).toInt → (q_I d1287 12 2 a0).toInt = 0) ∧ ((x1).toInt < 0 ∨ (q_I δ 12 2 a0).toInt < (x1).toInt → (q_I d1287 12 2 a0).toInt = (q_I δ 12 2 a0).toInt) from ⟨i1289, ⟨kp_w (by decide) u1297, v1298, kr_w (by decide) v1299⟩, by first | assumption | omega, by first | assumption | omega⟩)
                · have c1322 : r1246.1.toInt ≠ (q_I r1246.2 12 24 a0).toInt := o_ne h1265
                  unfold J_X12_thief_146
                  have f1323 := cb_12_2 i1248 k_a0
                  have f1324 : (q_I r1246.2 12 2 a0).toInt = (q_I r1234 12 2 a0).toInt := congrArg Int32.toInt (u1249 12 2 a0 (by decide))
                  have f1325 := cb_12_2 i1236 k_a0
                  have f1326 : (q_I r1234 12 2 a0).toInt = (q_I r1123.2 12 2 a0).toInt := congrArg Int32.toInt (u1238 12 2 a0 (by decide))
                  have f1327 := cb_12_2 i1125 k_a0
                  have f1328 : (q_I r1123.2 12 2 a0).toInt = (q_I r977 12 2 a0).toInt := congrArg Int32.toInt (u1129 12 2 a0 (by decide))
                  have f1329 := cb_12_2 i1015 k_a0
                  have f1330 : (q_I r977 12 2 a0).toInt = (q_I r963 12 2 a0).toInt := congrArg Int32.toInt (u1021 12 2 a0 (by decide))
                  have f1331 := cb_12_2 i967 k_a0
                  have f1332 : (q_I r963 12 2 a0).toInt = (q_I r932.2 12 2 a0).toInt := congrArg Int32.toInt (u969 12 2 a0 (by decide))
                  have f1333 := cb_12_2 i934 k_a0
                  have f1334 : (q_I r932.2 12 2 a0).toInt = (q_I d926 12 2 a0).toInt := congrArg Int32.toInt (u938 12 2 a0 (by decide))
                  have f1335 := cb_12_2 i928 k_a0
                  have f1336 : (q_I d926 12 2 a0).toInt = (q_I d920 12 2 a0).toInt := congrArg Int32.toInt (by rw [e927]; exact rI_o (by decide))
                  have f1337 := cb_12_2 i922 k_a0
                  have f1338 : (q_I d920 12 2 a0).toInt = (q_I d914 12 2 a0).toInt := congrArg Int32.toInt (by rw [e921]; exact rI_o (by decide))
                  have f1339 := cb_12_2 i916 k_a0
                  have f1340 : (q_I d914 12 2 a0).toInt = (q_I r884 12 2 a0).toInt := congrArg Int32.toInt (by rw [e915]; exact rI_o (by decide))
                  exact ok_some (show RI ad h.1 δ0 r1246.2 ∧ (kp [(12, 0), (12, 2), (12, 3), (12, 4), (12, 5), (12, 6), (12, 7), (12, 8), (12, 24), (12, 25), (12, 26), (12, 27)] δ r1246.2 ∧ q_V r1246.2 = q_V δ ∧ kr ad [100, 112, 113, 114, 115, 116, 117] δ r1246.2) ∧ (0 ≤ (x1).toInt ∧ (x1).toInt ≤ (q_I δ 12 2 a0).toInt → (q_I r1246.2 12 2 a0).toInt = 0) ∧ ((x1).toInt < 0 ∨ (q_I δ 12 2 a0).toInt < (x1).toInt → (q_I r1246.2 12 2 a0).toInt = (q_I δ 12 2 a0).toInt) from ⟨i1248, ⟨kp_w (by decide) u1253, v1254, kr_w (by decide) v1255⟩, by first | assumption | omega, by first | assumption | omega⟩)
          · have c1341 : r932.1.toInt ≠ (0 : Int) := o_ne h961
            unfold J_X12_thief_79
            have f1344 := cb_12_24 i934 k_a0
            have f1345 : (q_I r932.2 12 24 a0).toInt = (q_I d926 12 24 a0).toInt := congrArg Int32.toInt (u938 12 24 a0 (by decide))
            have f1346 := cb_12_24 i928 k_a0
            have f1347 : (q_I d926 12 24 a0).toInt = (q_I d920 12 24 a0).toInt := congrArg Int32.toInt (by rw [e927]; exact rI_o (by decide))
            have f1348 := cb_12_24 i922 k_a0
            have f1349 : (q_I d920 12 24 a0).toInt = (q_I d914 12 24 a0).toInt := congrArg Int32.toInt (by rw [e921]; exact rI_o (by decide))
            have f1350 := cb_12_24 i916 k_a0
            have f1351 : (q_I d914 12 24 a0).toInt = (q_I r884 12 24 a0).toInt := congrArg Int32.toInt (by rw [e915]; exact rI_o (by decide))
            have f1352 := cb_12_26 i934 k_a0
            have f1353 : (q_I r932.2 12 26 a0).toInt = (q_I d926 12 26 a0).toInt := congrArg Int32.toInt (u938 12 26 a0 (by decide))
            have f1354 := cb_12_26 i928 k_a0
            have f1355 : (q_I d926 12 26 a0).toInt = (q_I d920 12 26 a0).toInt := congrArg Int32.toInt (by rw [e927]; exact rI_o (by decide))
            have f1356 := cb_12_26 i922 k_a0
            have f1357 : (q_I d920 12 26 a0).toInt = (0 : Int) := congrArg Int32.toInt (show q_I d920 12 26 a0 = (0 : Int32) by rw [e921]; exact rI_s)
            have f1358 := ti_b (q_I r932.2 12 7 a0)
            have f1359 : (q_I r932.2 12 7 a0).toInt = (q_I d926 12 7 a0).toInt := congrArg Int32.toInt (u938 12 7 a0 (by decide))
            have f1360 := ti_b (q_I d926 12 7 a0)
            have f1361 : (q_I d926 12 7 a0).toInt = (q_I d920 12 7 a0).toInt := congrArg Int32.toInt (by rw [e927]; exact rI_o (by decide))
            have f1362 := ti_b (q_I d920 12 7 a0)
            have f1363 : (q_I d920 12 7 a0).toInt = (q_I d914 12 7 a0).toInt := congrArg Int32.toInt (by rw [e921]; exact rI_o (by decide))
            have f1364 := ti_b (q_I d914 12 7 a0)
            have f1365 : (q_I d914 12 7 a0).toInt = (q_I r884 12 7 a0).toInt := congrArg Int32.toInt (by rw [e915]; exact rI_o (by decide))
            have f1366 := cb_12_27 i934 k_a0
            have f1367 : (q_I r932.2 12 27 a0).toInt = (q_I d926 12 27 a0).toInt := congrArg Int32.toInt (u938 12 27 a0 (by decide))
            have f1368 := cb_12_27 i928 k_a0
            have f1369 : (q_I d926 12 27 a0).toInt = (0 : Int) := congrArg Int32.toInt (show q_I d926 12 27 a0 = (0 : Int32) by rw [e927]; exact rI_s)
            refine ok_bind (k_X12_readSteps L hN (a0 := a0) k_a0 (show (q_I r932.2 12 24 a0).toInt ≤ 3 by first | assumption | omega) (show (q_I r932.2 12 26 a0).toInt ≤ (q_I r932.2 12 4 a0).toInt by first | assumption | omega) (show (q_I r932.2 12 7 a0).toInt = 0 by first | assumption | omega) (show 4 - (q_I r932.2 12 27 a0).toInt < 20 by first | assumption | omega) i934) (fun r1342 hr1343 => ?_)
            obtain ⟨i1370, ⟨u1376, u1377, u1378⟩, p1371, p1372, p1373, p1374, p1375⟩ := hr1343
            have u1379 := kp_t u942 u1376
            have v1380 : q_V r1342 = q_V δ := (u1377).trans v943
            have v1381 := kr_t v944 u1378
            have f1382 := cb_12_4 i1370 k_a0
            have f1383 := ti_b (q_I r932.2 12 5 a0)
            have f1384 : (q_I r932.2 12 5 a0).toInt = (q_I d926 12 5 a0).toInt := congrArg Int32.toInt (u938 12 5 a0 (by decide))
            have f1385 := ti_b (q_I d926 12 5 a0)
            have f1386 : (q_I d926 12 5 a0).toInt = (q_I d920 12 5 a0).toInt := congrArg Int32.toInt (by rw [e927]; exact rI_o (by decide))
            have f1387 := ti_b (q_I d920 12 5 a0)
            have f1388 : (q_I d920 12 5 a0).toInt = (q_I d914 12 5 a0).toInt := congrArg Int32.toInt (by rw [e921]; exact rI_o (by decide))
            have f1389 := ti_b (q_I d914 12 5 a0)
            have f1390 : (q_I d914 12 5 a0).toInt = (q_I r884 12 5 a0).toInt := congrArg Int32.toInt (by rw [e915]; exact rI_o (by decide))
            have f1391 := ti_b (q_I r1342 12 5 a0)
            have f1392 := ti_b (q_I r1342 12 7 a0)
            have f1393 := cb_12_27 i1370 k_a0
            have f1394 := cb_12_26 i1370 k_a0
            refine ok_bind (k_X12_fine L hN (a0 := a0) k_a0 i1370) (fun r1395 hr1396 => ?_)
            obtain ⟨i1397, p1398, p1399, p1400⟩ := hr1396
            try rw [i1397]
            have f1401 := bo_t p1398
            have f1402 := ti_b r1395.1
            have f1403 := ti_b r1395.1
            refine ok_ite (fun h1404 => ?_) (fun h1404 => ?_)
            · have c1405 : r1395.1.toInt = (0 : Int) := o_eq h1404
              unfold J_X12_thief_106
              refine ok_bind (k_X12_result L hN (a0 := a0) (x1 := (q_I r1342 12 24 a0)) k_a0 i1370) (fun r1406 hr1407 => ?_)
              obtain ⟨i1408, ⟨u1409, u1410, u1411, u1412⟩⟩ := hr1407
              have u1413 := kp_t u1379 u1409
              have v1414 : q_V r1406.2 = q_V δ := (u1410).trans v1380
              have v1415 := kr_t v1381 u1412
              have f1416 := ti_b r1406.1
              have f1417 := cb_12_24 i1408 k_a0
              have f1418 : (q_I r1406.2 12 24 a0).toInt = (q_I r1342 12 24 a0).toInt := congrArg Int32.toInt (u1409 12 24 a0 (by decide))
              have f1419 := cb_12_24 i1370 k_a0
              have f1420 : (q_I r1342 12 24 a0).toInt = (q_I r932.2 12 24 a0).toInt := congrArg Int32.toInt (u1376 12 24 a0 (by decide))
              refine ok_ite (fun h1421 => ?_) (fun h1421 => ?_)
              · have c1422 : r1406.1.toInt = (q_I r1406.2 12 24 a0).toInt := o_eq h1421
                obtain ⟨b1423, o1424, k1425, n1426⟩ := gO_12_28 L k_a0
                obtain rfl := gS_12_28 L k_a0 o1424
                refine ok_at o1424 ?_
                have t1427 := ti_tn (q_I r1406.2 12 24 a0)
                refine ok_gd (fun hc1428 => ?_) ?_
                · rcases hc1428 with hc1428 | hc1428
                  · have c1429 : (q_I r1406.2 12 24 a0).toInt < (0 : Int) := o_lt hc1428
                    omega
                  · omega
                have f1433 := cb_12_25 i1408 k_a0
                have f1434 : (q_I r1406.2 12 25 a0).toInt = (q_I r1342 12 25 a0).toInt := congrArg Int32.toInt (u1409 12 25 a0 (by decide))
                have f1435 := cb_12_25 i1370 k_a0
                refine ok_bdv (fun d1430 e1431 => ?_)
                have i1432 : RI ad h.1 δ0 d1430 := by rw [e1431]; exact cr_112 L i1408 (show 0 ≤ (q_I r1406.2 12 25 a0).toInt by omega) (show (q_I r1406.2 12 25 a0).toInt ≤ 60 by omega)
                have u1436 := kp_N u1413 (show q_I d1430 = q_I r1406.2 by rw [e1431]; rfl)
                have v1437 : q_V d1430 = q_V δ := ((show q_V d1430 = q_V r1406.2 by rw [e1431]; rfl)).trans v1414
                have v1438 := kr_s L (by decide) v1415 e1431
                have f1442 := cb_12_24 i1432 k_a0
                have f1443 : (q_I d1430 12 24 a0).toInt = (q_I r1406.2 12 24 a0).toInt := congrArg Int32.toInt (by rw [e1431]; rfl)
                first | (have q1445 := te_addc (c := 1) (n := 1) rfl (q_I d1430 12 24 a0) (by omega) (by omega); obtain ⟨f1446, f1447, f1448⟩ := q1445) | (obtain ⟨q1445, f1446, f1447, f1448⟩ := ti_addc (c := 1) (n := 1) rfl (q_I d1430 12 24 a0))
                refine ok_bdv (fun d1439 e1440 => ?_)
                have i1441 : RI ad h.1 δ0 d1439 := by rw [e1440]; exact cs_12_24 L i1432 k_a0 (show 0 ≤ ((q_I d1430 12 24 a0) + (1 : Int32)).toInt by omega) (show ((q_I d1430 12 24 a0) + (1 : Int32)).toInt ≤ 4 by omega)
                have u1449 := kp_I u1436 e1440
                have v1450 : q_V d1439 = q_V δ := ((show q_V d1439 = q_V d1430 by rw [e1440]; rfl)).trans v1437
                have v1451 := kr_N v1438 (show q_R d1439 = q_R d1430 by rw [e1440]; rfl)
                unfold J_X12_thief_146
                have f1452 := cb_12_2 i1441 k_a0
                have f1453 : (q_I d1439 12 2 a0).toInt = (q_I d1430 12 2 a0).toInt := congrArg Int32.toInt (by rw [e1440]; exact rI_o (by decide))
                have f1454 := cb_12_2 i1432 k_a0
                have f1455 : (q_I d1430 12 2 a0).toInt = (q_I r1406.2 12 2 a0).toInt := congrArg Int32.toInt (by rw [e1431]; rfl)
                have f1456 := cb_12_2 i1408 k_a0
                have f1457 : (q_I r1406.2 12 2 a0).toInt = (q_I r1342 12 2 a0).toInt := congrArg Int32.toInt (u1409 12 2 a0 (by decide))
                have f1458 := cb_12_2 i1370 k_a0
                have f1459 : (q_I r1342 12 2 a0).toInt = (q_I r932.2 12 2 a0).toInt := congrArg Int32.toInt (u1376 12 2 a0 (by decide))
                have f1460 := cb_12_2 i934 k_a0
                have f1461 : (q_I r932.2 12 2 a0).toInt = (q_I d926 12 2 a0).toInt := congrArg Int32.toInt (u938 12 2 a0 (by decide))
                have f1462 := cb_12_2 i928 k_a0
                have f1463 : (q_I d926 12 2 a0).toInt = (q_I d920 12 2 a0).toInt := congrArg Int32.toInt (by rw [e927]; exact rI_o (by decide))
                have f1464 := cb_12_2 i922 k_a0
                have f1465 : (q_I d920 12 2 a0).toInt = (q_I d914 12 2 a0).toInt := congrArg Int32.toInt (by rw [e921]; exact rI_o (by decide))
                have f1466 := cb_12_2 i916 k_a0
                have f1467 : (q_I d914 12 2 a0).toInt = (q_I r884 12 2 a0).toInt := congrArg Int32.toInt (by rw [e915]; exact rI_o (by decide))
                exact ok_some (show RI ad h.1 δ0 d1439 ∧ (kp [(12, 0), (12, 2), (12, 3), (12, 4), (12, 5), (12, 6), (12, 7), (12, 8), (12, 24), (12, 25), (12, 26), (12, 27)] δ d1439 ∧ q_V d1439 = q_V δ ∧ kr ad [100, 112, 113, 114, 115, 116, 117] δ d1439) ∧ (0 ≤ (x1).toInt ∧ (x1).toInt ≤ (q_I δ 12 2 a0).toInt → (q_I d1439 12 2 a0).toInt = 0) ∧ ((x1).toInt < 0 ∨ (q_I δ 12 2 a0).toInt < (x1).toInt → (q_I d1439 12 2 a0).toInt = (q_I δ 12 2 a0).toInt) from ⟨i1441, ⟨kp_w (by decide) u1449, v1450, kr_w (by decide) v1451⟩, by first | assumption | omega, by first | assumption | omega⟩)
              · have c1468 : r1406.1.toInt ≠ (q_I r1406.2 12 24 a0).toInt := o_ne h1421
                unfold J_X12_thief_146
                have f1469 := cb_12_2 i1408 k_a0
                have f1470 : (q_I r1406.2 12 2 a0).toInt = (q_I r1342 12 2 a0).toInt := congrArg Int32.toInt (u1409 12 2 a0 (by decide))
                have f1471 := cb_12_2 i1370 k_a0
                have f1472 : (q_I r1342 12 2 a0).toInt = (q_I r932.2 12 2 a0).toInt := congrArg Int32.toInt (u1376 12 2 a0 (by decide))
                have f1473 := cb_12_2 i934 k_a0
                have f1474 : (q_I r932.2 12 2 a0).toInt = (q_I d926 12 2 a0).toInt := congrArg Int32.toInt (u938 12 2 a0 (by decide))
                have f1475 := cb_12_2 i928 k_a0
                have f1476 : (q_I d926 12 2 a0).toInt = (q_I d920 12 2 a0).toInt := congrArg Int32.toInt (by rw [e927]; exact rI_o (by decide))
                have f1477 := cb_12_2 i922 k_a0
                have f1478 : (q_I d920 12 2 a0).toInt = (q_I d914 12 2 a0).toInt := congrArg Int32.toInt (by rw [e921]; exact rI_o (by decide))
                have f1479 := cb_12_2 i916 k_a0
                have f1480 : (q_I d914 12 2 a0).toInt = (q_I r884 12 2 a0).toInt := congrArg Int32.toInt (by rw [e915]; exact rI_o (by decide))
                exact ok_some (show RI ad h.1 δ0 r1406.2 ∧ (kp [(12, 0), (12, 2), (12, 3), (12, 4), (12, 5), (12, 6), (12, 7), (12, 8), (12, 24), (12, 25), (12, 26), (12, 27)] δ r1406.2 ∧ q_V r1406.2 = q_V δ ∧ kr ad [100, 112, 113, 114, 115, 116, 117] δ r1406.2) ∧ (0 ≤ (x1).toInt ∧ (x1).toInt ≤ (q_I δ 12 2 a0).toInt → (q_I r1406.2 12 2 a0).toInt = 0) ∧ ((x1).toInt < 0 ∨ (q_I δ 12 2 a0).toInt < (x1).toInt → (q_I r1406.2 12 2 a0).toInt = (q_I δ 12 2 a0).toInt) from ⟨i1408, ⟨kp_w (by decide) u1413, v1414, kr_w (by decide) v1415⟩, by first | assumption | omega, by first | assumption | omega⟩)
            · have c1481 : r1395.1.toInt ≠ (0 : Int) := o_ne h1404
              refine ok_bind (k_X12_isMore L hN (a0 := a0) k_a0 i1370) (fun r1482 hr1483 => ?_)
              obtain ⟨i1484, ⟨u1488, u1489, u1490, u1491⟩, p1485, p1486, p1487⟩ := hr1483
              have u1492 := kp_t u1379 u1488
              have v1493 : q_V r1482.2 = q_V δ := (u1489).trans v1380
              have v1494 := kr_t v1381 u1491
              have f1495 := bo_t p1485
              have f1496 := cb_12_4 i1484 k_a0
              have f1497 := ti_b r1482.1
              have f1498 := cb_12_3 i1370 k_a0
              have f1499 : (q_I r1342 12 3 a0).toInt = (q_I r932.2 12 3 a0).toInt := congrArg Int32.toInt (u1376 12 3 a0 (by decide))
              have f1500 := cb_12_3 i934 k_a0
              have f1501 : (q_I r932.2 12 3 a0).toInt = (q_I d926 12 3 a0).toInt := congrArg Int32.toInt (u938 12 3 a0 (by decide))
              have f1502 := ti_b r1482.1
              refine ok_ite (fun h1503 => ?_) (fun h1503 => ?_)
              · have c1504 : r1482.1.toInt = (0 : Int) := o_eq h1503
                unfold J_X12_thief_106
                refine ok_bind (k_X12_result L hN (a0 := a0) (x1 := (q_I r1482.2 12 24 a0)) k_a0 i1484) (fun r1505 hr1506 => ?_)
                obtain ⟨i1507, ⟨u1508, u1509, u1510, u1511⟩⟩ := hr1506
                have u1512 := kp_t u1492 u1508
                have v1513 : q_V r1505.2 = q_V δ := (u1509).trans v1493
                have v1514 := kr_t v1494 u1511
                have f1515 := ti_b r1505.1
                have f1516 := cb_12_24 i1507 k_a0
                have f1517 : (q_I r1505.2 12 24 a0).toInt = (q_I r1482.2 12 24 a0).toInt := congrArg Int32.toInt (u1508 12 24 a0 (by decide))
                have f1518 := cb_12_24 i1484 k_a0
                have f1519 : (q_I r1482.2 12 24 a0).toInt = (q_I r1342 12 24 a0).toInt := congrArg Int32.toInt (u1488 12 24 a0 (by decide))
                have f1520 := cb_12_24 i1370 k_a0
                have f1521 : (q_I r1342 12 24 a0).toInt = (q_I r932.2 12 24 a0).toInt := congrArg Int32.toInt (u1376 12 24 a0 (by decide))
                refine ok_ite (fun h1522 => ?_) (fun h1522 => ?_)
                · have c1523 : r1505.1.toInt = (q_I r1505.2 12 24 a0).toInt := o_eq h1522
                  obtain ⟨b1524, o1525, k1526, n1527⟩ := gO_12_28 L k_a0
                  obtain rfl := gS_12_28 L k_a0 o1525
                  refine ok_at o1525 ?_
                  have t1528 := ti_tn (q_I r1505.2 12 24 a0)
                  refine ok_gd (fun hc1529 => ?_) ?_
                  · rcases hc1529 with hc1529 | hc1529
                    · have c1530 : (q_I r1505.2 12 24 a0).toInt < (0 : Int) := o_lt hc1529
                      omega
                    · omega
                  have f1534 := cb_12_25 i1507 k_a0
                  have f1535 : (q_I r1505.2 12 25 a0).toInt = (q_I r1482.2 12 25 a0).toInt := congrArg Int32.toInt (u1508 12 25 a0 (by decide))
                  have f1536 := cb_12_25 i1484 k_a0
                  have f1537 : (q_I r1482.2 12 25 a0).toInt = (q_I r1342 12 25 a0).toInt := congrArg Int32.toInt (u1488 12 25 a0 (by decide))
                  have f1538 := cb_12_25 i1370 k_a0
                  refine ok_bdv (fun d1531 e1532 => ?_)
                  have i1533 : RI ad h.1 δ0 d1531 := by rw [e1532]; exact cr_112 L i1507 (show 0 ≤ (q_I r1505.2 12 25 a0).toInt by omega) (show (q_I r1505.2 12 25 a0).toInt ≤ 60 by omega)
                  have u1539 := kp_N u1512 (show q_I d1531 = q_I r1505.2 by rw [e1532]; rfl)
                  have v1540 : q_V d1531 = q_V δ := ((show q_V d1531 = q_V r1505.2 by rw [e1532]; rfl)).trans v1513
                  have v1541 := kr_s L (by decide) v1514 e1532
                  have f1545 := cb_12_24 i1533 k_a0
                  have f1546 : (q_I d1531 12 24 a0).toInt = (q_I r1505.2 12 24 a0).toInt := congrArg Int32.toInt (by rw [e1532]; rfl)
                  first | (have q1548 := te_addc (c := 1) (n := 1) rfl (q_I d1531 12 24 a0) (by omega) (by omega); obtain ⟨f1549, f1550, f1551⟩ := q1548) | (obtain ⟨q1548, f1549, f1550, f1551⟩ := ti_addc (c := 1) (n := 1) rfl (q_I d1531 12 24 a0))
                  refine ok_bdv (fun d1542 e1543 => ?_)
                  have i1544 : RI ad h.1 δ0 d1542 := by rw [e1543]; exact cs_12_24 L i1533 k_a0 (show 0 ≤ ((q_I d1531 12 24 a0) + (1 : Int32)).toInt by omega) (show ((q_I d1531 12 24 a0) + (1 : Int32)).toInt ≤ 4 by omega)
                  have u1552 := kp_I u1539 e1543
                  have v1553 : q_V d1542 = q_V δ := ((show q_V d1542 = q_V d1531 by rw [e1543]; rfl)).trans v1540
                  have v1554 := kr_N v1541 (show q_R d1542 = q_R d1531 by rw [e1543]; rfl)
                  unfold J_X12_thief_146
                  have f1555 := cb_12_2 i1544 k_a0
                  have f1556 : (q_I d1542 12 2 a0).toInt = (q_I d1531 12 2 a0).toInt := congrArg Int32.toInt (by rw [e1543]; exact rI_o (by decide))
                  have f1557 := cb_12_2 i1533 k_a0
                  have f1558 : (q_I d1531 12 2 a0).toInt = (q_I r1505.2 12 2 a0).toInt := congrArg Int32.toInt (by rw [e1532]; rfl)
                  have f1559 := cb_12_2 i1507 k_a0
                  have f1560 : (q_I r1505.2 12 2 a0).toInt = (q_I r1482.2 12 2 a0).toInt := congrArg Int32.toInt (u1508 12 2 a0 (by decide))
                  have f1561 := cb_12_2 i1484 k_a0
                  have f1562 : (q_I r1482.2 12 2 a0).toInt = (q_I r1342 12 2 a0).toInt := congrArg Int32.toInt (u1488 12 2 a0 (by decide))
                  have f1563 := cb_12_2 i1370 k_a0
                  have f1564 : (q_I r1342 12 2 a0).toInt = (q_I r932.2 12 2 a0).toInt := congrArg Int32.toInt (u1376 12 2 a0 (by decide))
                  have f1565 := cb_12_2 i934 k_a0
                  have f1566 : (q_I r932.2 12 2 a0).toInt = (q_I d926 12 2 a0).toInt := congrArg Int32.toInt (u938 12 2 a0 (by decide))
                  have f1567 := cb_12_2 i928 k_a0
                  have f1568 : (q_I d926 12 2 a0).toInt = (q_I d920 12 2 a0).toInt := congrArg Int32.toInt (by rw [e927]; exact rI_o (by decide))
                  have f1569 := cb_12_2 i922 k_a0
                  have f1570 : (q_I d920 12 2 a0).toInt = (q_I d914 12 2 a0).toInt := congrArg Int32.toInt (by rw [e921]; exact rI_o (by decide))
                  have f1571 := cb_12_2 i916 k_a0
                  have f1572 : (q_I d914 12 2 a0).toInt = (q_I r884 12 2 a0).toInt := congrArg Int32.toInt (by rw [e915]; exact rI_o (by decide))
                  exact ok_some (show RI ad h.1 δ0 d1542 ∧ (kp [(12, 0), (12, 2), (12, 3), (12, 4), (12, 5), (12, 6), (12, 7), (12, 8), (12, 24), (12, 25), (12, 26), (12, 27)] δ d1542 ∧ q_V d1542 = q_V δ ∧ kr ad [100, 112, 113, 114, 115, 116, 117] δ d1542) ∧ (0 ≤ (x1).toInt ∧ (x1).toInt ≤ (q_I δ 12 2 a0).toInt → (q_I d1542 12 2 a0).toInt = 0) ∧ ((x1).toInt < 0 ∨ (q_I δ 12 2 a0).toInt < (x1).toInt → (q_I d1542 12 2 a0).toInt = (q_I δ 12 2 a0).toInt) from ⟨i1544, ⟨kp_w (by decide) u1552, v1553, kr_w (by decide) v1554⟩, by first | assumption | omega, by first | assumption | omega⟩)
                · have c1573 : r1505.1.toInt ≠ (q_I r1505.2 12 24 a0).toInt := o_ne h1522
                  unfold J_X12_thief_146
                  have f1574 := cb_12_2 i1507 k_a0
                  have f1575 : (q_I r1505.2 12 2 a0).toInt = (q_I r1482.2 12 2 a0).toInt := congrArg Int32.toInt (u1508 12 2 a0 (by decide))
                  have f1576 := cb_12_2 i1484 k_a0
                  have f1577 : (q_I r1482.2 12 2 a0).toInt = (q_I r1342 12 2 a0).toInt := congrArg Int32.toInt (u1488 12 2 a0 (by decide))
                  have f1578 := cb_12_2 i1370 k_a0
                  have f1579 : (q_I r1342 12 2 a0).toInt = (q_I r932.2 12 2 a0).toInt := congrArg Int32.toInt (u1376 12 2 a0 (by decide))
                  have f1580 := cb_12_2 i934 k_a0
                  have f1581 : (q_I r932.2 12 2 a0).toInt = (q_I d926 12 2 a0).toInt := congrArg Int32.toInt (u938 12 2 a0 (by decide))
                  have f1582 := cb_12_2 i928 k_a0
                  have f1583 : (q_I d926 12 2 a0).toInt = (q_I d920 12 2 a0).toInt := congrArg Int32.toInt (by rw [e927]; exact rI_o (by decide))
                  have f1584 := cb_12_2 i922 k_a0
                  have f1585 : (q_I d920 12 2 a0).toInt = (q_I d914 12 2 a0).toInt := congrArg Int32.toInt (by rw [e921]; exact rI_o (by decide))
                  have f1586 := cb_12_2 i916 k_a0
                  have f1587 : (q_I d914 12 2 a0).toInt = (q_I r884 12 2 a0).toInt := congrArg Int32.toInt (by rw [e915]; exact rI_o (by decide))
                  exact ok_some (show RI ad h.1 δ0 r1505.2 ∧ (kp [(12, 0), (12, 2), (12, 3), (12, 4), (12, 5), (12, 6), (12, 7), (12, 8), (12, 24), (12, 25), (12, 26), (12, 27)] δ r1505.2 ∧ q_V r1505.2 = q_V δ ∧ kr ad [100, 112, 113, 114, 115, 116, 117] δ r1505.2) ∧ (0 ≤ (x1).toInt ∧ (x1).toInt ≤ (q_I δ 12 2 a0).toInt → (q_I r1505.2 12 2 a0).toInt = 0) ∧ ((x1).toInt < 0 ∨ (q_I δ 12 2 a0).toInt < (x1).toInt → (q_I r1505.2 12 2 a0).toInt = (q_I δ 12 2 a0).toInt) from ⟨i1507, ⟨kp_w (by decide) u1512, v1513, kr_w (by decide) v1514⟩, by first | assumption | omega, by first | assumption | omega⟩)
              · have c1588 : r1482.1.toInt ≠ (0 : Int) := o_ne h1503
                refine ok_bind (k_X12_wrong L hN (a0 := a0) (x1 := (1 : Int32)) (x2 := (q_I r1482.2 12 4 a0)) k_a0 (show 0 ≤ ((q_I r1482.2 12 4 a0)).toInt by first | assumption | omega) i1484) (fun r1589 hr1590 => ?_)
                obtain ⟨i1591, ⟨u1593, u1594, u1595, u1596⟩, p1592⟩ := hr1590
                have u1597 := kp_t u1492 u1593
                have v1598 : q_V r1589 = q_V δ := (u1594).trans v1493
                have v1599 := kr_t v1494 u1596
                have f1600 := ti_b (q_I r1589 12 5 a0)
                unfold J_X12_thief_106
                refine ok_bind (k_X12_result L hN (a0 := a0) (x1 := (q_I r1589 12 24 a0)) k_a0 i1591) (fun r1601 hr1602 => ?_)
                obtain ⟨i1603, ⟨u1604, u1605, u1606, u1607⟩⟩ := hr1602
                have u1608 := kp_t u1597 u1604
                have v1609 : q_V r1601.2 = q_V δ := (u1605).trans v1598
                have v1610 := kr_t v1599 u1607
                have f1611 := ti_b r1601.1
                have f1612 := cb_12_24 i1603 k_a0
                have f1613 : (q_I r1601.2 12 24 a0).toInt = (q_I r1589 12 24 a0).toInt := congrArg Int32.toInt (u1604 12 24 a0 (by decide))
                have f1614 := cb_12_24 i1591 k_a0
                have f1615 : (q_I r1589 12 24 a0).toInt = (q_I r1482.2 12 24 a0).toInt := congrArg Int32.toInt (u1593 12 24 a0 (by decide))
                have f1616 := cb_12_24 i1484 k_a0
                have f1617 : (q_I r1482.2 12 24 a0).toInt = (q_I r1342 12 24 a0).toInt := congrArg Int32.toInt (u1488 12 24 a0 (by decide))
                have f1618 := cb_12_24 i1370 k_a0
                have f1619 : (q_I r1342 12 24 a0).toInt = (q_I r932.2 12 24 a0).toInt := congrArg Int32.toInt (u1376 12 24 a0 (by decide))
                refine ok_ite (fun h1620 => ?_) (fun h1620 => ?_)
                · have c1621 : r1601.1.toInt = (q_I r1601.2 12 24 a0).toInt := o_eq h1620
                  obtain ⟨b1622, o1623, k1624, n1625⟩ := gO_12_28 L k_a0
                  obtain rfl := gS_12_28 L k_a0 o1623
                  refine ok_at o1623 ?_
                  have t1626 := ti_tn (q_I r1601.2 12 24 a0)
                  refine ok_gd (fun hc1627 => ?_) ?_
                  · rcases hc1627 with hc1627 | hc1627
                    · have c1628 : (q_I r1601.2 12 24 a0).toInt < (0 : Int) := o_lt hc1627
                      omega
                    · omega
                  have f1632 := cb_12_25 i1603 k_a0
                  have f1633 : (q_I r1601.2 12 25 a0).toInt = (q_I r1589 12 25 a0).toInt := congrArg Int32.toInt (u1604 12 25 a0 (by decide))
                  have f1634 := cb_12_25 i1591 k_a0
                  have f1635 : (q_I r1589 12 25 a0).toInt = (q_I r1482.2 12 25 a0).toInt := congrArg Int32.toInt (u1593 12 25 a0 (by decide))
                  have f1636 := cb_12_25 i1484 k_a0
                  have f1637 : (q_I r1482.2 12 25 a0).toInt = (q_I r1342 12 25 a0).toInt := congrArg Int32.toInt (u1488 12 25 a0 (by decide))
                  have f1638 := cb_12_25 i1370 k_a0
                  refine ok_bdv (fun d1629 e1630 => ?_)
                  have i1631 : RI ad h.1 δ0 d1629 := by rw [e1630]; exact cr_112 L i1603 (show 0 ≤ (q_I r1601.2 12 25 a0).toInt by omega) (show (q_I r1601.2 12 25 a0).toInt ≤ 60 by omega)
                  have u1639 := kp_N u1608 (show q_I d1629 = q_I r1601.2 by rw [e1630]; rfl)
                  have v1640 : q_V d1629 = q_V δ := ((show q_V d1629 = q_V r1601.2 by rw [e1630]; rfl)).trans v1609
                  have v1641 := kr_s L (by decide) v1610 e1630
                  have f1645 := cb_12_24 i1631 k_a0
                  have f1646 : (q_I d1629 12 24 a0).toInt = (q_I r1601.2 12 24 a0).toInt := congrArg Int32.toInt (by rw [e1630]; rfl)
                  first | (have q1648 := te_addc (c := 1) (n := 1) rfl (q_I d1629 12 24 a0) (by omega) (by omega); obtain ⟨f1649, f1650, f1651⟩ := q1648) | (obtain ⟨q1648, f1649, f1650, f1651⟩ := ti_addc (c := 1) (n := 1) rfl (q_I d1629 12 24 a0))
                  refine ok_bdv (fun d1642 e1643 => ?_)
                  have i1644 : RI ad h.1 δ0 d1642 := by rw [e1643]; exact cs_12_24 L i1631 k_a0 (show 0 ≤ ((q_I d1629 12 24 a0) + (1 : Int32)).toInt by omega) (show ((q_I d1629 12 24 a0) + (1 : Int32)).toInt ≤ 4 by omega)
                  have u1652 := kp_I u1639 e1643
                  have v1653 : q_V d1642 = q_V δ := ((show q_V d1642 = q_V d1629 by rw [e1643]; rfl)).trans v1640
                  have v1654 := kr_N v1641 (show q_R d1642 = q_R d1629 by rw [e1643]; rfl)
                  unfold J_X12_thief_146
                  have f1655 := cb_12_2 i1644 k_a0
                  have f1656 : (q_I d1642 12 2 a0).toInt = (q_I d1629 12 2 a0).toInt := congrArg Int32.toInt (by rw [e1643]; exact rI_o (by decide))
                  have f1657 := cb_12_2 i1631 k_a0
                  have f1658 : (q_I d1629 12 2 a0).toInt = (q_I r1601.2 12 2 a0).toInt := congrArg Int32.toInt (by rw [e1630]; rfl)
                  have f1659 := cb_12_2 i1603 k_a0
                  have f1660 : (q_I r1601.2 12 2 a0).toInt = (q_I r1589 12 2 a0).toInt := congrArg Int32.toInt (u1604 12 2 a0 (by decide))
                  have f1661 := cb_12_2 i1591 k_a0
                  have f1662 : (q_I r1589 12 2 a0).toInt = (q_I r1482.2 12 2 a0).toInt := congrArg Int32.toInt (u1593 12 2 a0 (by decide))
                  have f1663 := cb_12_2 i1484 k_a0
                  have f1664 : (q_I r1482.2 12 2 a0).toInt = (q_I r1342 12 2 a0).toInt := congrArg Int32.toInt (u1488 12 2 a0 (by decide))
                  have f1665 := cb_12_2 i1370 k_a0
                  have f1666 : (q_I r1342 12 2 a0).toInt = (q_I r932.2 12 2 a0).toInt := congrArg Int32.toInt (u1376 12 2 a0 (by decide))
                  have f1667 := cb_12_2 i934 k_a0
                  have f1668 : (q_I r932.2 12 2 a0).toInt = (q_I d926 12 2 a0).toInt := congrArg Int32.toInt (u938 12 2 a0 (by decide))
                  have f1669 := cb_12_2 i928 k_a0
                  have f1670 : (q_I d926 12 2 a0).toInt = (q_I d920 12 2 a0).toInt := congrArg Int32.toInt (by rw [e927]; exact rI_o (by decide))
                  have f1671 := cb_12_2 i922 k_a0
                  have f1672 : (q_I d920 12 2 a0).toInt = (q_I d914 12 2 a0).toInt := congrArg Int32.toInt (by rw [e921]; exact rI_o (by decide))
                  have f1673 := cb_12_2 i916 k_a0
                  have f1674 : (q_I d914 12 2 a0).toInt = (q_I r884 12 2 a0).toInt := congrArg Int32.toInt (by rw [e915]; exact rI_o (by decide))
                  exact ok_some (show RI ad h.1 δ0 d1642 ∧ (kp [(12, 0), (12, 2), (12, 3), (12, 4), (12, 5), (12, 6), (12, 7), (12, 8), (12, 24), (12, 25), (12, 26), (12, 27)] δ d1642 ∧ q_V d1642 = q_V δ ∧ kr ad [100, 112, 113, 114, 115, 116, 117] δ d1642) ∧ (0 ≤ (x1).toInt ∧ (x1).toInt ≤ (q_I δ 12 2 a0).toInt → (q_I d1642 12 2 a0).toInt = 0) ∧ ((x1).toInt < 0 ∨ (q_I δ 12 2 a0).toInt < (x1).toInt → (q_I d1642 12 2 a0).toInt = (q_I δ 12 2 a0).toInt) from ⟨i1644, ⟨kp_w (by decide) u1652, v1653, kr_w (by decide) v1654⟩, by first | assumption | omega, by first | assumption | omega⟩)
                · have c1675 : r1601.1.toInt ≠ (q_I r1601.2 12 24 a0).toInt := o_ne h1620
                  unfold J_X12_thief_146
                  have f1676 := cb_12_2 i1603 k_a0
                  have f1677 : (q_I r1601.2 12 2 a0).toInt = (q_I r1589 12 2 a0).toInt := congrArg Int32.toInt (u1604 12 2 a0 (by decide))
                  have f1678 := cb_12_2 i1591 k_a0
                  have f1679 : (q_I r1589 12 2 a0).toInt = (q_I r1482.2 12 2 a0).toInt := congrArg Int32.toInt (u1593 12 2 a0 (by decide))
                  have f1680 := cb_12_2 i1484 k_a0
                  have f1681 : (q_I r1482.2 12 2 a0).toInt = (q_I r1342 12 2 a0).toInt := congrArg Int32.toInt (u1488 12 2 a0 (by decide))
                  have f1682 := cb_12_2 i1370 k_a0
                  have f1683 : (q_I r1342 12 2 a0).toInt = (q_I r932.2 12 2 a0).toInt := congrArg Int32.toInt (u1376 12 2 a0 (by decide))
                  have f1684 := cb_12_2 i934 k_a0
                  have f1685 : (q_I r932.2 12 2 a0).toInt = (q_I d926 12 2 a0).toInt := congrArg Int32.toInt (u938 12 2 a0 (by decide))
                  have f1686 := cb_12_2 i928 k_a0
                  have f1687 : (q_I d926 12 2 a0).toInt = (q_I d920 12 2 a0).toInt := congrArg Int32.toInt (by rw [e927]; exact rI_o (by decide))
                  have f1688 := cb_12_2 i922 k_a0
                  have f1689 : (q_I d920 12 2 a0).toInt = (q_I d914 12 2 a0).toInt := congrArg Int32.toInt (by rw [e921]; exact rI_o (by decide))
                  have f1690 := cb_12_2 i916 k_a0
                  have f1691 : (q_I d914 12 2 a0).toInt = (q_I r884 12 2 a0).toInt := congrArg Int32.toInt (by rw [e915]; exact rI_o (by decide))
                  exact ok_some (show RI ad h.1 δ0 r1601.2 ∧ (kp [(12, 0), (12, 2), (12, 3), (12, 4), (12, 5), (12, 6), (12, 7), (12, 8), (12, 24), (12, 25), (12, 26), (12, 27)] δ r1601.2 ∧ q_V r1601.2 = q_V δ ∧ kr ad [100, 112, 113, 114, 115, 116, 117] δ r1601.2) ∧ (0 ≤ (x1).toInt ∧ (x1).toInt ≤ (q_I δ 12 2 a0).toInt → (q_I r1601.2 12 2 a0).toInt = 0) ∧ ((x1).toInt < 0 ∨ (q_I δ 12 2 a0).toInt < (x1).toInt → (q_I r1601.2 12 2 a0).toInt = (q_I δ 12 2 a0).toInt) from ⟨i1603, ⟨kp_w (by decide) u1608, v1609, kr_w (by decide) v1610⟩, by first | assumption | omega, by first | assumption | omega⟩)
    · have c1692 : x1.toInt ≤ (q_I d1 12 2 a0).toInt := o_nlt h860
      unfold J_X12_thief_23
      refine ok_bind (k_X12_may L hN (a0 := a0) (x1 := (1 : Int32)) (x2 := (1 : Int32)) (x3 := (2 : Int32)) k_a0 (show (1 : Int) ≠ 0 by first | assumption | omega) (show 0 ≤ (2 : Int) by first | assumption | omega) (show (2 : Int) ≤ 2 by first | assumption | omega) i3) (fun r1693 hr1694 => ?_)
      obtain ⟨i1695, ⟨u1699, u1700, u1701⟩, p1696, p1697, p1698⟩ := hr1694
      have u1702 := kp_t u4 u1699
      have v1703 : q_V r1693.2 = q_V δ := (u1700).trans v5
      have v1704 := kr_t v6 u1701
      have f1705 := bo_t p1696
      have f1706 := ti_b r1693.1
      replace p1697 : ((r1693.1).toInt = 1 → (1 : Int) ≠ 0) := p1697
      have f1707 := ti_b (q_I d1 12 0 a0)
      have f1708 : (q_I d1 12 0 a0).toInt = (0 : Int) := congrArg Int32.toInt (show q_I d1 12 0 a0 = (0 : Int32) by rw [e2]; exact rI_s)
      replace p1698 : ((q_I d1 12 0 a0).toInt = 0 → (r1693.1).toInt = 0 → (1 : Int) = 0) := p1698
      have f1709 := ti_b r1693.1
      refine ok_ite (fun h1710 => ?_) (fun h1710 => ?_)
      · have c1711 : r1693.1.toInt = (0 : Int) := o_eq h1710
        have f1712 := cb_12_2 i1695 k_a0
        have f1713 : (q_I r1693.2 12 2 a0).toInt = (q_I d1 12 2 a0).toInt := congrArg Int32.toInt (u1699 12 2 a0 (by decide))
        exact ok_some (show RI ad h.1 δ0 r1693.2 ∧ (kp [(12, 0), (12, 2), (12, 3), (12, 4), (12, 5), (12, 6), (12, 7), (12, 8), (12, 24), (12, 25), (12, 26), (12, 27)] δ r1693.2 ∧ q_V r1693.2 = q_V δ ∧ kr ad [100, 112, 113, 114, 115, 116, 117] δ r1693.2) ∧ (0 ≤ (x1).toInt ∧ (x1).toInt ≤ (q_I δ 12 2 a0).toInt → (q_I r1693.2 12 2 a0).toInt = 0) ∧ ((x1).toInt < 0 ∨ (q_I δ 12 2 a0).toInt < (x1).toInt → (q_I r1693.2 12 2 a0).toInt = (q_I δ 12 2 a0).toInt) from ⟨i1695, ⟨kp_w (by decide) u1702, v1703, kr_w (by decide) v1704⟩, by first | assumption | omega, by first | assumption | omega⟩)
      · have c1714 : r1693.1.toInt ≠ (0 : Int) := o_ne h1710
        refine ok_bind (k_X12_begins L hN (a0 := a0) (x1 := x1) k_a0 (show 0 ≤ (x1).toInt by first | assumption | omega) (show (x1).toInt ≤ 500 by first | assumption | omega) i1695) (fun r1715 hr1716 => ?_)
        obtain ⟨i1717, ⟨u1723, u1724, u1725, u1726⟩, p1718, p1719, p1720, p1721, p1722⟩ := hr1716
        have u1727 := kp_t u1702 u1723
        have v1728 : q_V r1715 = q_V δ := (u1724).trans v1703
        have v1729 := kr_t v1704 u1726
        have f1730 := cb_12_2 i1717 k_a0
        have f1731 := cb_12_4 i1717 k_a0
        have f1732 := cb_12_3 i1717 k_a0
        have f1733 := ti_b (q_I r1715 12 5 a0)
        have f1734 := ti_b (q_I r1715 12 7 a0)
        have f1735 := cb_12_24 i1717 k_a0
        have f1736 : (q_I r1715 12 24 a0).toInt = (q_I r1693.2 12 24 a0).toInt := congrArg Int32.toInt (u1723 12 24 a0 (by decide))
        have f1737 := cb_12_24 i1695 k_a0
        have f1738 : (q_I r1693.2 12 24 a0).toInt = (q_I d1 12 24 a0).toInt := congrArg Int32.toInt (u1699 12 24 a0 (by decide))
        have f1739 := cb_12_24 i3 k_a0
        have f1740 : (q_I d1 12 24 a0).toInt = (q_I δ 12 24 a0).toInt := congrArg Int32.toInt (by rw [e2]; exact rI_o (by decide))
        have f1741 := cb_12_24 I k_a0
        refine ok_ite (fun h1742 => ?_) (fun h1742 => ?_)
        · have c1743 : (q_I r1715 12 24 a0).toInt = (4 : Int) := o_eq h1742
          exact ok_some (show RI ad h.1 δ0 r1715 ∧ (kp [(12, 0), (12, 2), (12, 3), (12, 4), (12, 5), (12, 6), (12, 7), (12, 8), (12, 24), (12, 25), (12, 26), (12, 27)] δ r1715 ∧ q_V r1715 = q_V δ ∧ kr ad [100, 112, 113, 114, 115, 116, 117] δ r1715) ∧ (0 ≤ (x1).toInt ∧ (x1).toInt ≤ (q_I δ 12 2 a0).toInt → (q_I r1715 12 2 a0).toInt = 0) ∧ ((x1).toInt < 0 ∨ (q_I δ 12 2 a0).toInt < (x1).toInt → (q_I r1715 12 2 a0).toInt = (q_I δ 12 2 a0).toInt) from ⟨i1717, ⟨kp_w (by decide) u1727, v1728, kr_w (by decide) v1729⟩, by first | assumption | omega, by first | assumption | omega⟩)
        · have c1744 : (q_I r1715 12 24 a0).toInt ≠ (4 : Int) := o_ne h1742
          refine ok_bdv (fun d1745 e1746 => ?_)
          have i1747 : RI ad h.1 δ0 d1745 := by rw [e1746]; exact cs_12_25 L i1717 k_a0 (show 0 ≤ (0 : Int) by omega) (show (0 : Int) ≤ 60 by omega)
          have u1748 := kp_I u1727 e1746
          have v1749 : q_V d1745 = q_V δ := ((show q_V d1745 = q_V r1715 by rw [e1746]; rfl)).trans v1728
          have v1750 := kr_N v1729 (show q_R d1745 = q_R r1715 by rw [e1746]; rfl)
          refine ok_bdv (fun d1751 e1752 => ?_)
          have i1753 : RI ad h.1 δ0 d1751 := by rw [e1752]; exact cs_12_26 L i1747 k_a0 (show 0 ≤ (0 : Int) by omega) (show (0 : Int) ≤ 500 by omega)
          have u1754 := kp_I u1748 e1752
          have v1755 : q_V d1751 = q_V δ := ((show q_V d1751 = q_V d1745 by rw [e1752]; rfl)).trans v1749
          have v1756 := kr_N v1750 (show q_R d1751 = q_R d1745 by rw [e1752]; rfl)
          refine ok_bdv (fun d1757 e1758 => ?_)
          have i1759 : RI ad h.1 δ0 d1757 := by rw [e1758]; exact cs_12_27 L i1753 k_a0 (show 0 ≤ (0 : Int) by omega) (show (0 : Int) ≤ 3 by omega)
          have u1760 := kp_I u1754 e1758
          have v1761 : q_V d1757 = q_V δ := ((show q_V d1757 = q_V d1751 by rw [e1758]; rfl)).trans v1755
          have v1762 := kr_N v1756 (show q_R d1757 = q_R d1751 by rw [e1758]; rfl)
          refine ok_bind (k_X12_isMore L hN (a0 := a0) k_a0 i1759) (fun r1763 hr1764 => ?_)
          obtain ⟨i1765, ⟨u1769, u1770, u1771, u1772⟩, p1766, p1767, p1768⟩ := hr1764
          have u1773 := kp_t u1760 u1769
          have v1774 : q_V r1763.2 = q_V δ := (u1770).trans v1761
          have v1775 := kr_t v1762 u1772
          have f1776 := bo_t p1766
          have f1777 := cb_12_4 i1759 k_a0
          have f1778 : (q_I d1757 12 4 a0).toInt = (q_I d1751 12 4 a0).toInt := congrArg Int32.toInt (by rw [e1758]; exact rI_o (by decide))
          have f1779 := cb_12_4 i1753 k_a0
          have f1780 : (q_I d1751 12 4 a0).toInt = (q_I d1745 12 4 a0).toInt := congrArg Int32.toInt (by rw [e1752]; exact rI_o (by decide))
          have f1781 := cb_12_4 i1747 k_a0
          have f1782 : (q_I d1745 12 4 a0).toInt = (q_I r1715 12 4 a0).toInt := congrArg Int32.toInt (by rw [e1746]; exact rI_o (by decide))
          have f1783 := cb_12_4 i1765 k_a0
          have f1784 := ti_b r1763.1
          have f1785 := cb_12_3 i1759 k_a0
          have f1786 : (q_I d1757 12 3 a0).toInt = (q_I d1751 12 3 a0).toInt := congrArg Int32.toInt (by rw [e1758]; exact rI_o (by decide))
          have f1787 := cb_12_3 i1753 k_a0
          have f1788 : (q_I d1751 12 3 a0).toInt = (q_I d1745 12 3 a0).toInt := congrArg Int32.toInt (by rw [e1752]; exact rI_o (by decide))
          have f1789 := cb_12_3 i1747 k_a0
          have f1790 : (q_I d1745 12 3 a0).toInt = (q_I r1715 12 3 a0).toInt := congrArg Int32.toInt (by rw [e1746]; exact rI_o (by decide))
          have f1791 := ti_b r1763.1
          refine ok_ite (fun h1792 => ?_) (fun h1792 => ?_)
          · have c1793 : r1763.1.toInt = (0 : Int) := o_eq h1792
            have f1796 := cb_12_3 i1765 k_a0
            have f1797 : (q_I r1763.2 12 3 a0).toInt = (q_I d1757 12 3 a0).toInt := congrArg Int32.toInt (u1769 12 3 a0 (by decide))
            refine ok_bind (k_X12_wrong L hN (a0 := a0) (x1 := (1 : Int32)) (x2 := (q_I r1763.2 12 3 a0)) k_a0 (show 0 ≤ ((q_I r1763.2 12 3 a0)).toInt by first | assumption | omega) i1765) (fun r1794 hr1795 => ?_)
            obtain ⟨i1798, ⟨u1800, u1801, u1802, u1803⟩, p1799⟩ := hr1795
            have u1804 := kp_t u1773 u1800
            have v1805 : q_V r1794 = q_V δ := (u1801).trans v1774
            have v1806 := kr_t v1775 u1803
            have f1807 := ti_b (q_I r1794 12 5 a0)
            unfold J_X12_thief_79
            have f1810 := cb_12_24 i1798 k_a0
            have f1811 : (q_I r1794 12 24 a0).toInt = (q_I r1763.2 12 24 a0).toInt := congrArg Int32.toInt (u1800 12 24 a0 (by decide))
            have f1812 := cb_12_24 i1765 k_a0
            have f1813 : (q_I r1763.2 12 24 a0).toInt = (q_I d1757 12 24 a0).toInt := congrArg Int32.toInt (u1769 12 24 a0 (by decide))
            have f1814 := cb_12_24 i1759 k_a0
            have f1815 : (q_I d1757 12 24 a0).toInt = (q_I d1751 12 24 a0).toInt := congrArg Int32.toInt (by rw [e1758]; exact rI_o (by decide))
            have f1816 := cb_12_24 i1753 k_a0
            have f1817 : (q_I d1751 12 24 a0).toInt = (q_I d1745 12 24 a0).toInt := congrArg Int32.toInt (by rw [e1752]; exact rI_o (by decide))
            have f1818 := cb_12_24 i1747 k_a0
            have f1819 : (q_I d1745 12 24 a0).toInt = (q_I r1715 12 24 a0).toInt := congrArg Int32.toInt (by rw [e1746]; exact rI_o (by decide))
            have f1820 := cb_12_26 i1798 k_a0
            have f1821 : (q_I r1794 12 26 a0).toInt = (q_I r1763.2 12 26 a0).toInt := congrArg Int32.toInt (u1800 12 26 a0 (by decide))
            have f1822 := cb_12_26 i1765 k_a0
            have f1823 : (q_I r1763.2 12 26 a0).toInt = (q_I d1757 12 26 a0).toInt := congrArg Int32.toInt (u1769 12 26 a0 (by decide))
            have f1824 := cb_12_26 i1759 k_a0
            have f1825 : (q_I d1757 12 26 a0).toInt = (q_I d1751 12 26 a0).toInt := congrArg Int32.toInt (by rw [e1758]; exact rI_o (by decide))
            have f1826 := cb_12_26 i1753 k_a0
            have f1827 : (q_I d1751 12 26 a0).toInt = (0 : Int) := congrArg Int32.toInt (show q_I d1751 12 26 a0 = (0 : Int32) by rw [e1752]; exact rI_s)
            have f1828 := cb_12_4 i1798 k_a0
            have f1829 : (q_I r1794 12 4 a0).toInt = (q_I r1763.2 12 4 a0).toInt := congrArg Int32.toInt (u1800 12 4 a0 (by decide))
            have f1830 := ti_b (q_I r1794 12 7 a0)
            have f1831 : (q_I r1794 12 7 a0).toInt = (q_I r1763.2 12 7 a0).toInt := congrArg Int32.toInt (u1800 12 7 a0 (by decide))
            have f1832 := ti_b (q_I r1763.2 12 7 a0)
            have f1833 : (q_I r1763.2 12 7 a0).toInt = (q_I d1757 12 7 a0).toInt := congrArg Int32.toInt (u1769 12 7 a0 (by decide))
            have f1834 := ti_b (q_I d1757 12 7 a0)
            have f1835 : (q_I d1757 12 7 a0).toInt = (q_I d1751 12 7 a0).toInt := congrArg Int32.toInt (by rw [e1758]; exact rI_o (by decide))
            have f1836 := ti_b (q_I d1751 12 7 a0)
            have f1837 : (q_I d1751 12 7 a0).toInt = (q_I d1745 12 7 a0).toInt := congrArg Int32.toInt (by rw [e1752]; exact rI_o (by decide))
            have f1838 := ti_b (q_I d1745 12 7 a0)
            have f1839 : (q_I d1745 12 7 a0).toInt = (q_I r1715 12 7 a0).toInt := congrArg Int32.toInt (by rw [e1746]; exact rI_o (by decide))
            have f1840 := cb_12_27 i1798 k_a0
            have f1841 : (q_I r1794 12 27 a0).toInt = (q_I r1763.2 12 27 a0).toInt := congrArg Int32.toInt (u1800 12 27 a0 (by decide))
            have f1842 := cb_12_27 i1765 k_a0
            have f1843 : (q_I r1763.2 12 27 a0).toInt = (q_I d1757 12 27 a0).toInt := congrArg Int32.toInt (u1769 12 27 a0 (by decide))
            have f1844 := cb_12_27 i1759 k_a0
            have f1845 : (q_I d1757 12 27 a0).toInt = (0 : Int) := congrArg Int32.toInt (show q_I d1757 12 27 a0 = (0 : Int32) by rw [e1758]; exact rI_s)
            refine ok_bind (k_X12_readSteps L hN (a0 := a0) k_a0 (show (q_I r1794 12 24 a0).toInt ≤ 3 by first | assumption | omega) (show (q_I r1794 12 26 a0).toInt ≤ (q_I r1794 12 4 a0).toInt by first | assumption | omega) (show (q_I r1794 12 7 a0).toInt = 0 by first | assumption | omega) (show 4 - (q_I r1794 12 27 a0).toInt < 20 by first | assumption | omega) i1798) (fun r1808 hr1809 => ?_)
            obtain ⟨i1846, ⟨u1852, u1853, u1854⟩, p1847, p1848, p1849, p1850, p1851⟩ := hr1809
            have u1855 := kp_t u1804 u1852
            have v1856 : q_V r1808 = q_V δ := (u1853).trans v1805
            have v1857 := kr_t v1806 u1854
            have f1858 := cb_12_4 i1846 k_a0
            have f1859 := ti_b (q_I r1808 12 5 a0)
            have f1860 := ti_b (q_I r1808 12 7 a0)
            have f1861 := cb_12_27 i1846 k_a0
            have f1862 := cb_12_26 i1846 k_a0
            refine ok_bind (k_X12_fine L hN (a0 := a0) k_a0 i1846) (fun r1863 hr1864 => ?_)
            obtain ⟨i1865, p1866, p1867, p1868⟩ := hr1864
            try rw [i1865]
            have f1869 := bo_t p1866
            have f1870 := ti_b r1863.1
            have f1871 := ti_b r1863.1
            refine ok_ite (fun h1872 => ?_) (fun h1872 => ?_)
            · have c1873 : r1863.1.toInt = (0 : Int) := o_eq h1872
              unfold J_X12_thief_106
              refine ok_bind (k_X12_result L hN (a0 := a0) (x1 := (q_I r1808 12 24 a0)) k_a0 i1846) (fun r1874 hr1875 => ?_)
              obtain ⟨i1876, ⟨u1877, u1878, u1879, u1880⟩⟩ := hr1875
              have u1881 := kp_t u1855 u1877
              have v1882 : q_V r1874.2 = q_V δ := (u1878).trans v1856
              have v1883 := kr_t v1857 u1880
              have f1884 := ti_b r1874.1
              have f1885 := cb_12_24 i1876 k_a0
              have f1886 : (q_I r1874.2 12 24 a0).toInt = (q_I r1808 12 24 a0).toInt := congrArg Int32.toInt (u1877 12 24 a0 (by decide))
              have f1887 := cb_12_24 i1846 k_a0
              have f1888 : (q_I r1808 12 24 a0).toInt = (q_I r1794 12 24 a0).toInt := congrArg Int32.toInt (u1852 12 24 a0 (by decide))
              refine ok_ite (fun h1889 => ?_) (fun h1889 => ?_)
              · have c1890 : r1874.1.toInt = (q_I r1874.2 12 24 a0).toInt := o_eq h1889
                obtain ⟨b1891, o1892, k1893, n1894⟩ := gO_12_28 L k_a0
                obtain rfl := gS_12_28 L k_a0 o1892
                refine ok_at o1892 ?_
                have t1895 := ti_tn (q_I r1874.2 12 24 a0)
                refine ok_gd (fun hc1896 => ?_) ?_
                · rcases hc1896 with hc1896 | hc1896
                  · have c1897 : (q_I r1874.2 12 24 a0).toInt < (0 : Int) := o_lt hc1896
                    omega
                  · omega
                have f1901 := cb_12_25 i1876 k_a0
                have f1902 : (q_I r1874.2 12 25 a0).toInt = (q_I r1808 12 25 a0).toInt := congrArg Int32.toInt (u1877 12 25 a0 (by decide))
                have f1903 := cb_12_25 i1846 k_a0
                refine ok_bdv (fun d1898 e1899 => ?_)
                have i1900 : RI ad h.1 δ0 d1898 := by rw [e1899]; exact cr_112 L i1876 (show 0 ≤ (q_I r1874.2 12 25 a0).toInt by omega) (show (q_I r1874.2 12 25 a0).toInt ≤ 60 by omega)
                have u1904 := kp_N u1881 (show q_I d1898 = q_I r1874.2 by rw [e1899]; rfl)
                have v1905 : q_V d1898 = q_V δ := ((show q_V d1898 = q_V r1874.2 by rw [e1899]; rfl)).trans v1882
                have v1906 := kr_s L (by decide) v1883 e1899
                have f1910 := cb_12_24 i1900 k_a0
                have f1911 : (q_I d1898 12 24 a0).toInt = (q_I r1874.2 12 24 a0).toInt := congrArg Int32.toInt (by rw [e1899]; rfl)
                first | (have q1913 := te_addc (c := 1) (n := 1) rfl (q_I d1898 12 24 a0) (by omega) (by omega); obtain ⟨f1914, f1915, f1916⟩ := q1913) | (obtain ⟨q1913, f1914, f1915, f1916⟩ := ti_addc (c := 1) (n := 1) rfl (q_I d1898 12 24 a0))
                refine ok_bdv (fun d1907 e1908 => ?_)
                have i1909 : RI ad h.1 δ0 d1907 := by rw [e1908]; exact cs_12_24 L i1900 k_a0 (show 0 ≤ ((q_I d1898 12 24 a0) + (1 : Int32)).toInt by omega) (show ((q_I d1898 12 24 a0) + (1 : Int32)).toInt ≤ 4 by omega)
                have u1917 := kp_I u1904 e1908
                have v1918 : q_V d1907 = q_V δ := ((show q_V d1907 = q_V d1898 by rw [e1908]; rfl)).trans v1905
                have v1919 := kr_N v1906 (show q_R d1907 = q_R d1898 by rw [e1908]; rfl)
                unfold J_X12_thief_146
                have f1920 := cb_12_2 i1909 k_a0
                have f1921 : (q_I d1907 12 2 a0).toInt = (q_I d1898 12 2 a0).toInt := congrArg Int32.toInt (by rw [e1908]; exact rI_o (by decide))
                have f1922 := cb_12_2 i1900 k_a0
                have f1923 : (q_I d1898 12 2 a0).toInt = (q_I r1874.2 12 2 a0).toInt := congrArg Int32.toInt (by rw [e1899]; rfl)
                have f1924 := cb_12_2 i1876 k_a0
                have f1925 : (q_I r1874.2 12 2 a0).toInt = (q_I r1808 12 2 a0).toInt := congrArg Int32.toInt (u1877 12 2 a0 (by decide))
                have f1926 := cb_12_2 i1846 k_a0
                have f1927 : (q_I r1808 12 2 a0).toInt = (q_I r1794 12 2 a0).toInt := congrArg Int32.toInt (u1852 12 2 a0 (by decide))
                have f1928 := cb_12_2 i1798 k_a0
                have f1929 : (q_I r1794 12 2 a0).toInt = (q_I r1763.2 12 2 a0).toInt := congrArg Int32.toInt (u1800 12 2 a0 (by decide))
                have f1930 := cb_12_2 i1765 k_a0
                have f1931 : (q_I r1763.2 12 2 a0).toInt = (q_I d1757 12 2 a0).toInt := congrArg Int32.toInt (u1769 12 2 a0 (by decide))
                have f1932 := cb_12_2 i1759 k_a0
                have f1933 : (q_I d1757 12 2 a0).toInt = (q_I d1751 12 2 a0).toInt := congrArg Int32.toInt (by rw [e1758]; exact rI_o (by decide))
                have f1934 := cb_12_2 i1753 k_a0
                have f1935 : (q_I d1751 12 2 a0).toInt = (q_I d1745 12 2 a0).toInt := congrArg Int32.toInt (by rw [e1752]; exact rI_o (by decide))
                have f1936 := cb_12_2 i1747 k_a0
                have f1937 : (q_I d1745 12 2 a0).toInt = (q_I r1715 12 2 a0).toInt := congrArg Int32.toInt (by rw [e1746]; exact rI_o (by decide))
                exact ok_some (show RI ad h.1 δ0 d1907 ∧ (kp [(12, 0), (12, 2), (12, 3), (12, 4), (12, 5), (12, 6), (12, 7), (12, 8), (12, 24), (12, 25), (12, 26), (12, 27)] δ d1907 ∧ q_V d1907 = q_V δ ∧ kr ad [100, 112, 113, 114, 115, 116, 117] δ d1907) ∧ (0 ≤ (x1).toInt ∧ (x1).toInt ≤ (q_I δ 12 2 a0).toInt → (q_I d1907 12 2 a0).toInt = 0) ∧ ((x1).toInt < 0 ∨ (q_I δ 12 2 a0).toInt < (x1).toInt → (q_I d1907 12 2 a0).toInt = (q_I δ 12 2 a0).toInt) from ⟨i1909, ⟨kp_w (by decide) u1917, v1918, kr_w (by decide) v1919⟩, by first | assumption | omega, by first | assumption | omega⟩)
              · have c1938 : r1874.1.toInt ≠ (q_I r1874.2 12 24 a0).toInt := o_ne h1889
                unfold J_X12_thief_146
                have f1939 := cb_12_2 i1876 k_a0
                have f1940 : (q_I r1874.2 12 2 a0).toInt = (q_I r1808 12 2 a0).toInt := congrArg Int32.toInt (u1877 12 2 a0 (by decide))
                have f1941 := cb_12_2 i1846 k_a0
                have f1942 : (q_I r1808 12 2 a0).toInt = (q_I r1794 12 2 a0).toInt := congrArg Int32.toInt (u1852 12 2 a0 (by decide))
                have f1943 := cb_12_2 i1798 k_a0
                have f1944 : (q_I r1794 12 2 a0).toInt = (q_I r1763.2 12 2 a0).toInt := congrArg Int32.toInt (u1800 12 2 a0 (by decide))
                have f1945 := cb_12_2 i1765 k_a0
                have f1946 : (q_I r1763.2 12 2 a0).toInt = (q_I d1757 12 2 a0).toInt := congrArg Int32.toInt (u1769 12 2 a0 (by decide))
                have f1947 := cb_12_2 i1759 k_a0
                have f1948 : (q_I d1757 12 2 a0).toInt = (q_I d1751 12 2 a0).toInt := congrArg Int32.toInt (by rw [e1758]; exact rI_o (by decide))
                have f1949 := cb_12_2 i1753 k_a0
                have f1950 : (q_I d1751 12 2 a0).toInt = (q_I d1745 12 2 a0).toInt := congrArg Int32.toInt (by rw [e1752]; exact rI_o (by decide))
                have f1951 := cb_12_2 i1747 k_a0
                have f1952 : (q_I d1745 12 2 a0).toInt = (q_I r1715 12 2 a0).toInt := congrArg Int32.toInt (by rw [e1746]; exact rI_o (by decide))
                exact ok_some (show RI ad h.1 δ0 r1874.2 ∧ (kp [(12, 0), (12, 2), (12, 3), (12, 4), (12, 5), (12, 6), (12, 7), (12, 8), (12, 24), (12, 25), (12, 26), (12, 27)] δ r1874.2 ∧ q_V r1874.2 = q_V δ ∧ kr ad [100, 112, 113, 114, 115, 116, 117] δ r1874.2) ∧ (0 ≤ (x1).toInt ∧ (x1).toInt ≤ (q_I δ 12 2 a0).toInt → (q_I r1874.2 12 2 a0).toInt = 0) ∧ ((x1).toInt < 0 ∨ (q_I δ 12 2 a0).toInt < (x1).toInt → (q_I r1874.2 12 2 a0).toInt = (q_I δ 12 2 a0).toInt) from ⟨i1876, ⟨kp_w (by decide) u1881, v1882, kr_w (by decide) v1883⟩, by first | assumption | omega, by first | assumption | omega⟩)
            · have c1953 : r1863.1.toInt ≠ (0 : Int) := o_ne h1872
              refine ok_bind (k_X12_isMore L hN (a0 := a0) k_a0 i1846) (fun r1954 hr1955 => ?_)
              obtain ⟨i1956, ⟨u1960, u1961, u1962, u1963⟩, p1957, p1958, p1959⟩ := hr1955
              have u1964 := kp_t u1855 u1960
              have v1965 : q_V r1954.2 = q_V δ := (u1961).trans v1856
              have v1966 := kr_t v1857 u1963
              have f1967 := bo_t p1957
              have f1968 := cb_12_4 i1956 k_a0
              have f1969 := ti_b r1954.1
              have f1970 := cb_12_3 i1846 k_a0
              have f1971 : (q_I r1808 12 3 a0).toInt = (q_I r1794 12 3 a0).toInt := congrArg Int32.toInt (u1852 12 3 a0 (by decide))
              have f1972 := cb_12_3 i1798 k_a0
              have f1973 : (q_I r1794 12 3 a0).toInt = (q_I r1763.2 12 3 a0).toInt := congrArg Int32.toInt (u1800 12 3 a0 (by decide))
              have f1974 := ti_b r1954.1
              refine ok_ite (fun h1975 => ?_) (fun h1975 => ?_)
              · have c1976 : r1954.1.toInt = (0 : Int) := o_eq h1975
                unfold J_X12_thief_106
                refine ok_bind (k_X12_result L hN (a0 := a0) (x1 := (q_I r1954.2 12 24 a0)) k_a0 i1956) (fun r1977 hr1978 => ?_)
                obtain ⟨i1979, ⟨u1980, u1981, u1982, u1983⟩⟩ := hr1978
                have u1984 := kp_t u1964 u1980
                have v1985 : q_V r1977.2 = q_V δ := (u1981).trans v1965
                have v1986 := kr_t v1966 u1983
                have f1987 := ti_b r1977.1
                have f1988 := cb_12_24 i1979 k_a0
                have f1989 : (q_I r1977.2 12 24 a0).toInt = (q_I r1954.2 12 24 a0).toInt := congrArg Int32.toInt (u1980 12 24 a0 (by decide))
                have f1990 := cb_12_24 i1956 k_a0
                have f1991 : (q_I r1954.2 12 24 a0).toInt = (q_I r1808 12 24 a0).toInt := congrArg Int32.toInt (u1960 12 24 a0 (by decide))
                have f1992 := cb_12_24 i1846 k_a0
                have f1993 : (q_I r1808 12 24 a0).toInt = (q_I r1794 12 24 a0).toInt := congrArg Int32.toInt (u1852 12 24 a0 (by decide))
                refine ok_ite (fun h1994 => ?_) (fun h1994 => ?_)
                · have c1995 : r1977.1.toInt = (q_I r1977.2 12 24 a0).toInt := o_eq h1994
                  obtain ⟨b1996, o1997, k1998, n1999⟩ := gO_12_28 L k_a0
                  obtain rfl := gS_12_28 L k_a0 o1997
                  refine ok_at o1997 ?_
                  have t2000 := ti_tn (q_I r1977.2 12 24 a0)
                  refine ok_gd (fun hc2001 => ?_) ?_
                  · rcases hc2001 with hc2001 | hc2001
                    · have c2002 : (q_I r1977.2 12 24 a0).toInt < (0 : Int) := o_lt hc2001
                      omega
                    · omega
                  have f2006 := cb_12_25 i1979 k_a0
                  have f2007 : (q_I r1977.2 12 25 a0).toInt = (q_I r1954.2 12 25 a0).toInt := congrArg Int32.toInt (u1980 12 25 a0 (by decide))
                  have f2008 := cb_12_25 i1956 k_a0
                  have f2009 : (q_I r1954.2 12 25 a0).toInt = (q_I r1808 12 25 a0).toInt := congrArg Int32.toInt (u1960 12 25 a0 (by decide))
                  have f2010 := cb_12_25 i1846 k_a0
                  refine ok_bdv (fun d2003 e2004 => ?_)
                  have i2005 : RI ad h.1 δ0 d2003 := by rw [e2004]; exact cr_112 L i1979 (show 0 ≤ (q_I r1977.2 12 25 a0).toInt by omega) (show (q_I r1977.2 12 25 a0).toInt ≤ 60 by omega)
                  have u2011 := kp_N u1984 (show q_I d2003 = q_I r1977.2 by rw [e2004]; rfl)
                  have v2012 : q_V d2003 = q_V δ := ((show q_V d2003 = q_V r1977.2 by rw [e2004]; rfl)).trans v1985
                  have v2013 := kr_s L (by decide) v1986 e2004
                  have f2017 := cb_12_24 i2005 k_a0
                  have f2018 : (q_I d2003 12 24 a0).toInt = (q_I r1977.2 12 24 a0).toInt := congrArg Int32.toInt (by rw [e2004]; rfl)
                  first | (have q2020 := te_addc (c := 1) (n := 1) rfl (q_I d2003 12 24 a0) (by omega) (by omega); obtain ⟨f2021, f2022, f2023⟩ := q2020) | (obtain ⟨q2020, f2021, f2022, f2023⟩ := ti_addc (c := 1) (n := 1) rfl (q_I d2003 12 24 a0))
                  refine ok_bdv (fun d2014 e2015 => ?_)
                  have i2016 : RI ad h.1 δ0 d2014 := by rw [e2015]; exact cs_12_24 L i2005 k_a0 (show 0 ≤ ((q_I d2003 12 24 a0) + (1 : Int32)).toInt by omega) (show ((q_I d2003 12 24 a0) + (1 : Int32)).toInt ≤ 4 by omega)
                  have u2024 := kp_I u2011 e2015
                  have v2025 : q_V d2014 = q_V δ := ((show q_V d2014 = q_V d2003 by rw [e2015]; rfl)).trans v2012
                  have v2026 := kr_N v2013 (show q_R d2014 = q_R d2003 by rw [e2015]; rfl)
                  unfold J_X12_thief_146
                  have f2027 := cb_12_2 i2016 k_a0
                  have f2028 : (q_I d2014 12 2 a0).toInt = (q_I d2003 12 2 a0).toInt := congrArg Int32.toInt (by rw [e2015]; exact rI_o (by decide))
                  have f2029 := cb_12_2 i2005 k_a0
                  have f2030 : (q_I d2003 12 2 a0).toInt = (q_I r1977.2 12 2 a0).toInt := congrArg Int32.toInt (by rw [e2004]; rfl)
                  have f2031 := cb_12_2 i1979 k_a0
                  have f2032 : (q_I r1977.2 12 2 a0).toInt = (q_I r1954.2 12 2 a0).toInt := congrArg Int32.toInt (u1980 12 2 a0 (by decide))
                  have f2033 := cb_12_2 i1956 k_a0
                  have f2034 : (q_I r1954.2 12 2 a0).toInt = (q_I r1808 12 2 a0).toInt := congrArg Int32.toInt (u1960 12 2 a0 (by decide))
                  have f2035 := cb_12_2 i1846 k_a0
                  have f2036 : (q_I r1808 12 2 a0).toInt = (q_I r1794 12 2 a0).toInt := congrArg Int32.toInt (u1852 12 2 a0 (by decide))
                  have f2037 := cb_12_2 i1798 k_a0
                  have f2038 : (q_I r1794 12 2 a0).toInt = (q_I r1763.2 12 2 a0).toInt := congrArg Int32.toInt (u1800 12 2 a0 (by decide))
                  have f2039 := cb_12_2 i1765 k_a0
                  have f2040 : (q_I r1763.2 12 2 a0).toInt = (q_I d1757 12 2 a0).toInt := congrArg Int32.toInt (u1769 12 2 a0 (by decide))
                  have f2041 := cb_12_2 i1759 k_a0
                  have f2042 : (q_I d1757 12 2 a0).toInt = (q_I d1751 12 2 a0).toInt := congrArg Int32.toInt (by rw [e1758]; exact rI_o (by decide))
                  have f2043 := cb_12_2 i1753 k_a0
                  have f2044 : (q_I d1751 12 2 a0).toInt = (q_I d1745 12 2 a0).toInt := congrArg Int32.toInt (by rw [e1752]; exact rI_o (by decide))
                  have f2045 := cb_12_2 i1747 k_a0
                  have f2046 : (q_I d1745 12 2 a0).toInt = (q_I r1715 12 2 a0).toInt := congrArg Int32.toInt (by rw [e1746]; exact rI_o (by decide))
                  exact ok_some (show RI ad h.1 δ0 d2014 ∧ (kp [(12, 0), (12, 2), (12, 3), (12, 4), (12, 5), (12, 6), (12, 7), (12, 8), (12, 24), (12, 25), (12, 26), (12, 27)] δ d2014 ∧ q_V d2014 = q_V δ ∧ kr ad [100, 112, 113, 114, 115, 116, 117] δ d2014) ∧ (0 ≤ (x1).toInt ∧ (x1).toInt ≤ (q_I δ 12 2 a0).toInt → (q_I d2014 12 2 a0).toInt = 0) ∧ ((x1).toInt < 0 ∨ (q_I δ 12 2 a0).toInt < (x1).toInt → (q_I d2014 12 2 a0).toInt = (q_I δ 12 2 a0).toInt) from ⟨i2016, ⟨kp_w (by decide) u2024, v2025, kr_w (by decide) v2026⟩, by first | assumption | omega, by first | assumption | omega⟩)
                · have c2047 : r1977.1.toInt ≠ (q_I r1977.2 12 24 a0).toInt := o_ne h1994
                  unfold J_X12_thief_146
                  have f2048 := cb_12_2 i1979 k_a0
                  have f2049 : (q_I r1977.2 12 2 a0).toInt = (q_I r1954.2 12 2 a0).toInt := congrArg Int32.toInt (u1980 12 2 a0 (by decide))
                  have f2050 := cb_12_2 i1956 k_a0
                  have f2051 : (q_I r1954.2 12 2 a0).toInt = (q_I r1808 12 2 a0).toInt := congrArg Int32.toInt (u1960 12 2 a0 (by decide))
                  have f2052 := cb_12_2 i1846 k_a0
                  have f2053 : (q_I r1808 12 2 a0).toInt = (q_I r1794 12 2 a0).toInt := congrArg Int32.toInt (u1852 12 2 a0 (by decide))
                  have f2054 := cb_12_2 i1798 k_a0
                  have f2055 : (q_I r1794 12 2 a0).toInt = (q_I r1763.2 12 2 a0).toInt := congrArg Int32.toInt (u1800 12 2 a0 (by decide))
                  have f2056 := cb_12_2 i1765 k_a0
                  have f2057 : (q_I r1763.2 12 2 a0).toInt = (q_I d1757 12 2 a0).toInt := congrArg Int32.toInt (u1769 12 2 a0 (by decide))
                  have f2058 := cb_12_2 i1759 k_a0
                  have f2059 : (q_I d1757 12 2 a0).toInt = (q_I d1751 12 2 a0).toInt := congrArg Int32.toInt (by rw [e1758]; exact rI_o (by decide))
                  have f2060 := cb_12_2 i1753 k_a0
                  have f2061 : (q_I d1751 12 2 a0).toInt = (q_I d1745 12 2 a0).toInt := congrArg Int32.toInt (by rw [e1752]; exact rI_o (by decide))
                  have f2062 := cb_12_2 i1747 k_a0
                  have f2063 : (q_I d1745 12 2 a0).toInt = (q_I r1715 12 2 a0).toInt := congrArg Int32.toInt (by rw [e1746]; exact rI_o (by decide))
                  exact ok_some (show RI ad h.1 δ0 r1977.2 ∧ (kp [(12, 0), (12, 2), (12, 3), (12, 4), (12, 5), (12, 6), (12, 7), (12, 8), (12, 24), (12, 25), (12, 26), (12, 27)] δ r1977.2 ∧ q_V r1977.2 = q_V δ ∧ kr ad [100, 112, 113, 114, 115, 116, 117] δ r1977.2) ∧ (0 ≤ (x1).toInt ∧ (x1).toInt ≤ (q_I δ 12 2 a0).toInt → (q_I r1977.2 12 2 a0).toInt = 0) ∧ ((x1).toInt < 0 ∨ (q_I δ 12 2 a0).toInt < (x1).toInt → (q_I r1977.2 12 2 a0).toInt = (q_I δ 12 2 a0).toInt) from ⟨i1979, ⟨kp_w (by decide) u1984, v1985, kr_w (by decide) v1986⟩, by first | assumption | omega, by first | assumption | omega⟩)
              · have c2064 : r1954.1.toInt ≠ (0 : Int) := o_ne h1975
                refine ok_bind (k_X12_wrong L hN (a0 := a0) (x1 := (1 : Int32)) (x2 := (q_I r1954.2 12 4 a0)) k_a0 (show 0 ≤ ((q_I r1954.2 12 4 a0)).toInt by first | assumption | omega) i1956) (fun r2065 hr2066 => ?_)
                obtain ⟨i2067, ⟨u2069, u2070, u2071, u2072⟩, p2068⟩ := hr2066
                have u2073 := kp_t u1964 u2069
                have v2074 : q_V r2065 = q_V δ := (u2070).trans v1965
                have v2075 := kr_t v1966 u2072
                have f2076 := ti_b (q_I r2065 12 5 a0)
                unfold J_X12_thief_106
                refine ok_bind (k_X12_result L hN (a0 := a0) (x1 := (q_I r2065 12 24 a0)) k_a0 i2067) (fun r2077 hr2078 => ?_)
                obtain ⟨i2079, ⟨u2080, u2081, u2082, u2083⟩⟩ := hr2078
                have u2084 := kp_t u2073 u2080
                have v2085 : q_V r2077.2 = q_V δ := (u2081).trans v2074
                have v2086 := kr_t v2075 u2083
                have f2087 := ti_b r2077.1
                have f2088 := cb_12_24 i2079 k_a0
                have f2089 : (q_I r2077.2 12 24 a0).toInt = (q_I r2065 12 24 a0).toInt := congrArg Int32.toInt (u2080 12 24 a0 (by decide))
                have f2090 := cb_12_24 i2067 k_a0
                have f2091 : (q_I r2065 12 24 a0).toInt = (q_I r1954.2 12 24 a0).toInt := congrArg Int32.toInt (u2069 12 24 a0 (by decide))
                have f2092 := cb_12_24 i1956 k_a0
                have f2093 : (q_I r1954.2 12 24 a0).toInt = (q_I r1808 12 24 a0).toInt := congrArg Int32.toInt (u1960 12 24 a0 (by decide))
                have f2094 := cb_12_24 i1846 k_a0
                have f2095 : (q_I r1808 12 24 a0).toInt = (q_I r1794 12 24 a0).toInt := congrArg Int32.toInt (u1852 12 24 a0 (by decide))
                refine ok_ite (fun h2096 => ?_) (fun h2096 => ?_)
                · have c2097 : r2077.1.toInt = (q_I r2077.2 12 24 a0).toInt := o_eq h2096
                  obtain ⟨b2098, o2099, k2100, n2101⟩ := gO_12_28 L k_a0
                  obtain rfl := gS_12_28 L k_a0 o2099
                  refine ok_at o2099 ?_
                  have t2102 := ti_tn (q_I r2077.2 12 24 a0)
                  refine ok_gd (fun hc2103 => ?_) ?_
                  · rcases hc2103 with hc2103 | hc2103
                    · have c2104 : (q_I r2077.2 12 24 a0).toInt < (0 : Int) := o_lt hc2103
                      omega
                    · omega
                  have f2108 := cb_12_25 i2079 k_a0
                  have f2109 : (q_I r2077.2 12 25 a0).toInt = (q_I r2065 12 25 a0).toInt := congrArg Int32.toInt (u2080 12 25 a0 (by decide))
                  have f2110 := cb_12_25 i2067 k_a0
                  have f2111 : (q_I r2065 12 25 a0).toInt = (q_I r1954.2 12 25 a0).toInt := congrArg Int32.toInt (u2069 12 25 a0 (by decide))
                  have f2112 := cb_12_25 i1956 k_a0
                  have f2113 : (q_I r1954.2 12 25 a0).toInt = (q_I r1808 12 25 a0).toInt := congrArg Int32.toInt (u1960 12 25 a0 (by decide))
                  have f2114 := cb_12_25 i1846 k_a0
                  refine ok_bdv (fun d2105 e2106 => ?_)
                  have i2107 : RI ad h.1 δ0 d2105 := by rw [e2106]; exact cr_112 L i2079 (show 0 ≤ (q_I r2077.2 12 25 a0).toInt by omega) (show (q_I r2077.2 12 25 a0).toInt ≤ 60 by omega)
                  have u2115 := kp_N u2084 (show q_I d2105 = q_I r2077.2 by rw [e2106]; rfl)
                  have v2116 : q_V d2105 = q_V δ := ((show q_V d2105 = q_V r2077.2 by rw [e2106]; rfl)).trans v2085
                  have v2117 := kr_s L (by decide) v2086 e2106
                  have f2121 := cb_12_24 i2107 k_a0
                  have f2122 : (q_I d2105 12 24 a0).toInt = (q_I r2077.2 12 24 a0).toInt := congrArg Int32.toInt (by rw [e2106]; rfl)
                  first | (have q2124 := te_addc (c := 1) (n := 1) rfl (q_I d2105 12 24 a0) (by omega) (by omega); obtain ⟨f2125, f2126, f2127⟩ := q2124) | (obtain ⟨q2124, f2125, f2126, f2127⟩ := ti_addc (c := 1) (n := 1) rfl (q_I d2105 12 24 a0))
                  refine ok_bdv (fun d2118 e2119 => ?_)
                  have i2120 : RI ad h.1 δ0 d2118 := by rw [e2119]; exact cs_12_24 L i2107 k_a0 (show 0 ≤ ((q_I d2105 12 24 a0) + (1 : Int32)).toInt by omega) (show ((q_I d2105 12 24 a0) + (1 : Int32)).toInt ≤ 4 by omega)
                  have u2128 := kp_I u2115 e2119
                  have v2129 : q_V d2118 = q_V δ := ((show q_V d2118 = q_V d2105 by rw [e2119]; rfl)).trans v2116
                  have v2130 := kr_N v2117 (show q_R d2118 = q_R d2105 by rw [e2119]; rfl)
                  unfold J_X12_thief_146
                  have f2131 := cb_12_2 i2120 k_a0
                  have f2132 : (q_I d2118 12 2 a0).toInt = (q_I d2105 12 2 a0).toInt := congrArg Int32.toInt (by rw [e2119]; exact rI_o (by decide))
                  have f2133 := cb_12_2 i2107 k_a0
                  have f2134 : (q_I d2105 12 2 a0).toInt = (q_I r2077.2 12 2 a0).toInt := congrArg Int32.toInt (by rw [e2106]; rfl)
                  have f2135 := cb_12_2 i2079 k_a0
                  have f2136 : (q_I r2077.2 12 2 a0).toInt = (q_I r2065 12 2 a0).toInt := congrArg Int32.toInt (u2080 12 2 a0 (by decide))
                  have f2137 := cb_12_2 i2067 k_a0
                  have f2138 : (q_I r2065 12 2 a0).toInt = (q_I r1954.2 12 2 a0).toInt := congrArg Int32.toInt (u2069 12 2 a0 (by decide))
                  have f2139 := cb_12_2 i1956 k_a0
                  have f2140 : (q_I r1954.2 12 2 a0).toInt = (q_I r1808 12 2 a0).toInt := congrArg Int32.toInt (u1960 12 2 a0 (by decide))
                  have f2141 := cb_12_2 i1846 k_a0
                  have f2142 : (q_I r1808 12 2 a0).toInt = (q_I r1794 12 2 a0).toInt := congrArg Int32.toInt (u1852 12 2 a0 (by decide))
                  have f2143 := cb_12_2 i1798 k_a0
                  have f2144 : (q_I r1794 12 2 a0).toInt = (q_I r1763.2 12 2 a0).toInt := congrArg Int32.toInt (u1800 12 2 a0 (by decide))
                  have f2145 := cb_12_2 i1765 k_a0
                  have f2146 : (q_I r1763.2 12 2 a0).toInt = (q_I d1757 12 2 a0).toInt := congrArg Int32.toInt (u1769 12 2 a0 (by decide))
                  have f2147 := cb_12_2 i1759 k_a0
                  have f2148 : (q_I d1757 12 2 a0).toInt = (q_I d1751 12 2 a0).toInt := congrArg Int32.toInt (by rw [e1758]; exact rI_o (by decide))
                  have f2149 := cb_12_2 i1753 k_a0
                  have f2150 : (q_I d1751 12 2 a0).toInt = (q_I d1745 12 2 a0).toInt := congrArg Int32.toInt (by rw [e1752]; exact rI_o (by decide))
                  have f2151 := cb_12_2 i1747 k_a0
                  have f2152 : (q_I d1745 12 2 a0).toInt = (q_I r1715 12 2 a0).toInt := congrArg Int32.toInt (by rw [e1746]; exact rI_o (by decide))
                  exact ok_some (show RI ad h.1 δ0 d2118 ∧ (kp [(12, 0), (12, 2), (12, 3), (12, 4), (12, 5), (12, 6), (12, 7), (12, 8), (12, 24), (12, 25), (12, 26), (12, 27)] δ d2118 ∧ q_V d2118 = q_V δ ∧ kr ad [100, 112, 113, 114, 115, 116, 117] δ d2118) ∧ (0 ≤ (x1).toInt ∧ (x1).toInt ≤ (q_I δ 12 2 a0).toInt → (q_I d2118 12 2 a0).toInt = 0) ∧ ((x1).toInt < 0 ∨ (q_I δ 12 2 a0).toInt < (x1).toInt → (q_I d2118 12 2 a0).toInt = (q_I δ 12 2 a0).toInt) from ⟨i2120, ⟨kp_w (by decide) u2128, v2129, kr_w (by decide) v2130⟩, by first | assumption | omega, by first | assumption | omega⟩)
                · have c2153 : r2077.1.toInt ≠ (q_I r2077.2 12 24 a0).toInt := o_ne h2096
                  unfold J_X12_thief_146
                  have f2154 := cb_12_2 i2079 k_a0
                  have f2155 : (q_I r2077.2 12 2 a0).toInt = (q_I r2065 12 2 a0).toInt := congrArg Int32.toInt (u2080 12 2 a0 (by decide))
                  have f2156 := cb_12_2 i2067 k_a0
                  have f2157 : (q_I r2065 12 2 a0).toInt = (q_I r1954.2 12 2 a0).toInt := congrArg Int32.toInt (u2069 12 2 a0 (by decide))
                  have f2158 := cb_12_2 i1956 k_a0
                  have f2159 : (q_I r1954.2 12 2 a0).toInt = (q_I r1808 12 2 a0).toInt := congrArg Int32.toInt (u1960 12 2 a0 (by decide))
                  have f2160 := cb_12_2 i1846 k_a0
                  have f2161 : (q_I r1808 12 2 a0).toInt = (q_I r1794 12 2 a0).toInt := congrArg Int32.toInt (u1852 12 2 a0 (by decide))
                  have f2162 := cb_12_2 i1798 k_a0
                  have f2163 : (q_I r1794 12 2 a0).toInt = (q_I r1763.2 12 2 a0).toInt := congrArg Int32.toInt (u1800 12 2 a0 (by decide))
                  have f2164 := cb_12_2 i1765 k_a0
                  have f2165 : (q_I r1763.2 12 2 a0).toInt = (q_I d1757 12 2 a0).toInt := congrArg Int32.toInt (u1769 12 2 a0 (by decide))
                  have f2166 := cb_12_2 i1759 k_a0
                  have f2167 : (q_I d1757 12 2 a0).toInt = (q_I d1751 12 2 a0).toInt := congrArg Int32.toInt (by rw [e1758]; exact rI_o (by decide))
                  have f2168 := cb_12_2 i1753 k_a0
                  have f2169 : (q_I d1751 12 2 a0).toInt = (q_I d1745 12 2 a0).toInt := congrArg Int32.toInt (by rw [e1752]; exact rI_o (by decide))
                  have f2170 := cb_12_2 i1747 k_a0
                  have f2171 : (q_I d1745 12 2 a0).toInt = (q_I r1715 12 2 a0).toInt := congrArg Int32.toInt (by rw [e1746]; exact rI_o (by decide))
                  exact ok_some (show RI ad h.1 δ0 r2077.2 ∧ (kp [(12, 0), (12, 2), (12, 3), (12, 4), (12, 5), (12, 6), (12, 7), (12, 8), (12, 24), (12, 25), (12, 26), (12, 27)] δ r2077.2 ∧ q_V r2077.2 = q_V δ ∧ kr ad [100, 112, 113, 114, 115, 116, 117] δ r2077.2) ∧ (0 ≤ (x1).toInt ∧ (x1).toInt ≤ (q_I δ 12 2 a0).toInt → (q_I r2077.2 12 2 a0).toInt = 0) ∧ ((x1).toInt < 0 ∨ (q_I δ 12 2 a0).toInt < (x1).toInt → (q_I r2077.2 12 2 a0).toInt = (q_I δ 12 2 a0).toInt) from ⟨i2079, ⟨kp_w (by decide) u2084, v2085, kr_w (by decide) v2086⟩, by first | assumption | omega, by first | assumption | omega⟩)
          · have c2172 : r1763.1.toInt ≠ (0 : Int) := o_ne h1792
            unfold J_X12_thief_79
            have f2175 := cb_12_24 i1765 k_a0
            have f2176 : (q_I r1763.2 12 24 a0).toInt = (q_I d1757 12 24 a0).toInt := congrArg Int32.toInt (u1769 12 24 a0 (by decide))
            have f2177 := cb_12_24 i1759 k_a0
            have f2178 : (q_I d1757 12 24 a0).toInt = (q_I d1751 12 24 a0).toInt := congrArg Int32.toInt (by rw [e1758]; exact rI_o (by decide))
            have f2179 := cb_12_24 i1753 k_a0
            have f2180 : (q_I d1751 12 24 a0).toInt = (q_I d1745 12 24 a0).toInt := congrArg Int32.toInt (by rw [e1752]; exact rI_o (by decide))
            have f2181 := cb_12_24 i1747 k_a0
            have f2182 : (q_I d1745 12 24 a0).toInt = (q_I r1715 12 24 a0).toInt := congrArg Int32.toInt (by rw [e1746]; exact rI_o (by decide))
            have f2183 := cb_12_26 i1765 k_a0
            have f2184 : (q_I r1763.2 12 26 a0).toInt = (q_I d1757 12 26 a0).toInt := congrArg Int32.toInt (u1769 12 26 a0 (by decide))
            have f2185 := cb_12_26 i1759 k_a0
            have f2186 : (q_I d1757 12 26 a0).toInt = (q_I d1751 12 26 a0).toInt := congrArg Int32.toInt (by rw [e1758]; exact rI_o (by decide))
            have f2187 := cb_12_26 i1753 k_a0
            have f2188 : (q_I d1751 12 26 a0).toInt = (0 : Int) := congrArg Int32.toInt (show q_I d1751 12 26 a0 = (0 : Int32) by rw [e1752]; exact rI_s)
            have f2189 := ti_b (q_I r1763.2 12 7 a0)
            have f2190 : (q_I r1763.2 12 7 a0).toInt = (q_I d1757 12 7 a0).toInt := congrArg Int32.toInt (u1769 12 7 a0 (by decide))
            have f2191 := ti_b (q_I d1757 12 7 a0)
            have f2192 : (q_I d1757 12 7 a0).toInt = (q_I d1751 12 7 a0).toInt := congrArg Int32.toInt (by rw [e1758]; exact rI_o (by decide))
            have f2193 := ti_b (q_I d1751 12 7 a0)
            have f2194 : (q_I d1751 12 7 a0).toInt = (q_I d1745 12 7 a0).toInt := congrArg Int32.toInt (by rw [e1752]; exact rI_o (by decide))
            have f2195 := ti_b (q_I d1745 12 7 a0)
            have f2196 : (q_I d1745 12 7 a0).toInt = (q_I r1715 12 7 a0).toInt := congrArg Int32.toInt (by rw [e1746]; exact rI_o (by decide))
            have f2197 := cb_12_27 i1765 k_a0
            have f2198 : (q_I r1763.2 12 27 a0).toInt = (q_I d1757 12 27 a0).toInt := congrArg Int32.toInt (u1769 12 27 a0 (by decide))
            have f2199 := cb_12_27 i1759 k_a0
            have f2200 : (q_I d1757 12 27 a0).toInt = (0 : Int) := congrArg Int32.toInt (show q_I d1757 12 27 a0 = (0 : Int32) by rw [e1758]; exact rI_s)
            refine ok_bind (k_X12_readSteps L hN (a0 := a0) k_a0 (show (q_I r1763.2 12 24 a0).toInt ≤ 3 by first | assumption | omega) (show (q_I r1763.2 12 26 a0).toInt ≤ (q_I r1763.2 12 4 a0).toInt by first | assumption | omega) (show (q_I r1763.2 12 7 a0).toInt = 0 by first | assumption | omega) (show 4 - (q_I r1763.2 12 27 a0).toInt < 20 by first | assumption | omega) i1765) (fun r2173 hr2174 => ?_)
            obtain ⟨i2201, ⟨u2207, u2208, u2209⟩, p2202, p2203, p2204, p2205, p2206⟩ := hr2174
            have u2210 := kp_t u1773 u2207
            have v2211 : q_V r2173 = q_V δ := (u2208).trans v1774
            have v2212 := kr_t v1775 u2209
            have f2213 := cb_12_4 i2201 k_a0
            have f2214 := ti_b (q_I r1763.2 12 5 a0)
            have f2215 : (q_I r1763.2 12 5 a0).toInt = (q_I d1757 12 5 a0).toInt := congrArg Int32.toInt (u1769 12 5 a0 (by decide))
            have f2216 := ti_b (q_I d1757 12 5 a0)
            have f2217 : (q_I d1757 12 5 a0).toInt = (q_I d1751 12 5 a0).toInt := congrArg Int32.toInt (by rw [e1758]; exact rI_o (by decide))
            have f2218 := ti_b (q_I d1751 12 5 a0)
            have f2219 : (q_I d1751 12 5 a0).toInt = (q_I d1745 12 5 a0).toInt := congrArg Int32.toInt (by rw [e1752]; exact rI_o (by decide))
            have f2220 := ti_b (q_I d1745 12 5 a0)
            have f2221 : (q_I d1745 12 5 a0).toInt = (q_I r1715 12 5 a0).toInt := congrArg Int32.toInt (by rw [e1746]; exact rI_o (by decide))
            have f2222 := ti_b (q_I r2173 12 5 a0)
            have f2223 := ti_b (q_I r2173 12 7 a0)
            have f2224 := cb_12_27 i2201 k_a0
            have f2225 := cb_12_26 i2201 k_a0
            refine ok_bind (k_X12_fine L hN (a0 := a0) k_a0 i2201) (fun r2226 hr2227 => ?_)
            obtain ⟨i2228, p2229, p2230, p2231⟩ := hr2227
            try rw [i2228]
            have f2232 := bo_t p2229
            have f2233 := ti_b r2226.1
            have f2234 := ti_b r2226.1
            refine ok_ite (fun h2235 => ?_) (fun h2235 => ?_)
            · have c2236 : r2226.1.toInt = (0 : Int) := o_eq h2235
              unfold J_X12_thief_106
              refine ok_bind (k_X12_result L hN (a0 := a0) (x1 := (q_I r2173 12 24 a0)) k_a0 i2201) (fun r2237 hr2238 => ?_)
              obtain ⟨i2239, ⟨u2240, u2241, u2242, u2243⟩⟩ := hr2238
              have u2244 := kp_t u2210 u2240
              have v2245 : q_V r2237.2 = q_V δ := (u2241).trans v2211
              have v2246 := kr_t v2212 u2243
              have f2247 := ti_b r2237.1
              have f2248 := cb_12_24 i2239 k_a0
              have f2249 : (q_I r2237.2 12 24 a0).toInt = (q_I r2173 12 24 a0).toInt := congrArg Int32.toInt (u2240 12 24 a0 (by decide))
              have f2250 := cb_12_24 i2201 k_a0
              have f2251 : (q_I r2173 12 24 a0).toInt = (q_I r1763.2 12 24 a0).toInt := congrArg Int32.toInt (u2207 12 24 a0 (by decide))
              refine ok_ite (fun h2252 => ?_) (fun h2252 => ?_)
              · have c2253 : r2237.1.toInt = (q_I r2237.2 12 24 a0).toInt := o_eq h2252
                obtain ⟨b2254, o2255, k2256, n2257⟩ := gO_12_28 L k_a0
                obtain rfl := gS_12_28 L k_a0 o2255
                refine ok_at o2255 ?_
                have t2258 := ti_tn (q_I r2237.2 12 24 a0)
                refine ok_gd (fun hc2259 => ?_) ?_
                · rcases hc2259 with hc2259 | hc2259
                  · have c2260 : (q_I r2237.2 12 24 a0).toInt < (0 : Int) := o_lt hc2259
                    omega
                  · omega
                have f2264 := cb_12_25 i2239 k_a0
                have f2265 : (q_I r2237.2 12 25 a0).toInt = (q_I r2173 12 25 a0).toInt := congrArg Int32.toInt (u2240 12 25 a0 (by decide))
                have f2266 := cb_12_25 i2201 k_a0
                refine ok_bdv (fun d2261 e2262 => ?_)
                have i2263 : RI ad h.1 δ0 d2261 := by rw [e2262]; exact cr_112 L i2239 (show 0 ≤ (q_I r2237.2 12 25 a0).toInt by omega) (show (q_I r2237.2 12 25 a0).toInt ≤ 60 by omega)
                have u2267 := kp_N u2244 (show q_I d2261 = q_I r2237.2 by rw [e2262]; rfl)
                have v2268 : q_V d2261 = q_V δ := ((show q_V d2261 = q_V r2237.2 by rw [e2262]; rfl)).trans v2245
                have v2269 := kr_s L (by decide) v2246 e2262
                have f2273 := cb_12_24 i2263 k_a0
                have f2274 : (q_I d2261 12 24 a0).toInt = (q_I r2237.2 12 24 a0).toInt := congrArg Int32.toInt (by rw [e2262]; rfl)
                first | (have q2276 := te_addc (c := 1) (n := 1) rfl (q_I d2261 12 24 a0) (by omega) (by omega); obtain ⟨f2277, f2278, f2279⟩ := q2276) | (obtain ⟨q2276, f2277, f2278, f2279⟩ := ti_addc (c := 1) (n := 1) rfl (q_I d2261 12 24 a0))
                refine ok_bdv (fun d2270 e2271 => ?_)
                have i2272 : RI ad h.1 δ0 d2270 := by rw [e2271]; exact cs_12_24 L i2263 k_a0 (show 0 ≤ ((q_I d2261 12 24 a0) + (1 : Int32)).toInt by omega) (show ((q_I d2261 12 24 a0) + (1 : Int32)).toInt ≤ 4 by omega)
                have u2280 := kp_I u2267 e2271
                have v2281 : q_V d2270 = q_V δ := ((show q_V d2270 = q_V d2261 by rw [e2271]; rfl)).trans v2268
                have v2282 := kr_N v2269 (show q_R d2270 = q_R d2261 by rw [e2271]; rfl)
                unfold J_X12_thief_146
                have f2283 := cb_12_2 i2272 k_a0
                have f2284 : (q_I d2270 12 2 a0).toInt = (q_I d2261 12 2 a0).toInt := congrArg Int32.toInt (by rw [e2271]; exact rI_o (by decide))
                have f2285 := cb_12_2 i2263 k_a0
                have f2286 : (q_I d2261 12 2 a0).toInt = (q_I r2237.2 12 2 a0).toInt := congrArg Int32.toInt (by rw [e2262]; rfl)
                have f2287 := cb_12_2 i2239 k_a0
                have f2288 : (q_I r2237.2 12 2 a0).toInt = (q_I r2173 12 2 a0).toInt := congrArg Int32.toInt (u2240 12 2 a0 (by decide))
                have f2289 := cb_12_2 i2201 k_a0
                have f2290 : (q_I r2173 12 2 a0).toInt = (q_I r1763.2 12 2 a0).toInt := congrArg Int32.toInt (u2207 12 2 a0 (by decide))
                have f2291 := cb_12_2 i1765 k_a0
                have f2292 : (q_I r1763.2 12 2 a0).toInt = (q_I d1757 12 2 a0).toInt := congrArg Int32.toInt (u1769 12 2 a0 (by decide))
                have f2293 := cb_12_2 i1759 k_a0
                have f2294 : (q_I d1757 12 2 a0).toInt = (q_I d1751 12 2 a0).toInt := congrArg Int32.toInt (by rw [e1758]; exact rI_o (by decide))
                have f2295 := cb_12_2 i1753 k_a0
                have f2296 : (q_I d1751 12 2 a0).toInt = (q_I d1745 12 2 a0).toInt := congrArg Int32.toInt (by rw [e1752]; exact rI_o (by decide))
                have f2297 := cb_12_2 i1747 k_a0
                have f2298 : (q_I d1745 12 2 a0).toInt = (q_I r1715 12 2 a0).toInt := congrArg Int32.toInt (by rw [e1746]; exact rI_o (by decide))
                exact ok_some (show RI ad h.1 δ0 d2270 ∧ (kp [(12, 0), (12, 2), (12, 3), (12, 4), (12, 5), (12, 6), (12, 7), (12, 8), (12, 24), (12, 25), (12, 26), (12, 27)] δ d2270 ∧ q_V d2270 = q_V δ ∧ kr ad [100, 112, 113, 114, 115, 116, 117] δ d2270) ∧ (0 ≤ (x1).toInt ∧ (x1).toInt ≤ (q_I δ 12 2 a0).toInt → (q_I d2270 12 2 a0).toInt = 0) ∧ ((x1).toInt < 0 ∨ (q_I δ 12 2 a0).toInt < (x1).toInt → (q_I d2270 12 2 a0).toInt = (q_I δ 12 2 a0).toInt) from ⟨i2272, ⟨kp_w (by decide) u2280, v2281, kr_w (by decide) v2282⟩, by first | assumption | omega, by first | assumption | omega⟩)
              · have c2299 : r2237.1.toInt ≠ (q_I r2237.2 12 24 a0).toInt := o_ne h2252
                unfold J_X12_thief_146
                have f2300 := cb_12_2 i2239 k_a0
                have f2301 : (q_I r2237.2 12 2 a0).toInt = (q_I r2173 12 2 a0).toInt := congrArg Int32.toInt (u2240 12 2 a0 (by decide))
                have f2302 := cb_12_2 i2201 k_a0
                have f2303 : (q_I r2173 12 2 a0).toInt = (q_I r1763.2 12 2 a0).toInt := congrArg Int32.toInt (u2207 12 2 a0 (by decide))
                have f2304 := cb_12_2 i1765 k_a0
                have f2305 : (q_I r1763.2 12 2 a0).toInt = (q_I d1757 12 2 a0).toInt := congrArg Int32.toInt (u1769 12 2 a0 (by decide))
                have f2306 := cb_12_2 i1759 k_a0
                have f2307 : (q_I d1757 12 2 a0).toInt = (q_I d1751 12 2 a0).toInt := congrArg Int32.toInt (by rw [e1758]; exact rI_o (by decide))
                have f2308 := cb_12_2 i1753 k_a0
                have f2309 : (q_I d1751 12 2 a0).toInt = (q_I d1745 12 2 a0).toInt := congrArg Int32.toInt (by rw [e1752]; exact rI_o (by decide))
                have f2310 := cb_12_2 i1747 k_a0
                have f2311 : (q_I d1745 12 2 a0).toInt = (q_I r1715 12 2 a0).toInt := congrArg Int32.toInt (by rw [e1746]; exact rI_o (by decide))
                exact ok_some (show RI ad h.1 δ0 r2237.2 ∧ (kp [(12, 0), (12, 2), (12, 3), (12, 4), (12, 5), (12, 6), (12, 7), (12, 8), (12, 24), (12, 25), (12, 26), (12, 27)] δ r2237.2 ∧ q_V r2237.2 = q_V δ ∧ kr ad [100, 112, 113, 114, 115, 116, 117] δ r2237.2) ∧ (0 ≤ (x1).toInt ∧ (x1).toInt ≤ (q_I δ 12 2 a0).toInt → (q_I r2237.2 12 2 a0).toInt = 0) ∧ ((x1).toInt < 0 ∨ (q_I δ 12 2 a0).toInt < (x1).toInt → (q_I r2237.2 12 2 a0).toInt = (q_I δ 12 2 a0).toInt) from ⟨i2239, ⟨kp_w (by decide) u2244, v2245, kr_w (by decide) v2246⟩, by first | assumption | omega, by first | assumption | omega⟩)
            · have c2312 : r2226.1.toInt ≠ (0 : Int) := o_ne h2235
              refine ok_bind (k_X12_isMore L hN (a0 := a0) k_a0 i2201) (fun r2313 hr2314 => ?_)
              obtain ⟨i2315, ⟨u2319, u2320, u2321, u2322⟩, p2316, p2317, p2318⟩ := hr2314
              have u2323 := kp_t u2210 u2319
              have v2324 : q_V r2313.2 = q_V δ := (u2320).trans v2211
              have v2325 := kr_t v2212 u2322
              have f2326 := bo_t p2316
              have f2327 := cb_12_4 i2315 k_a0
              have f2328 := ti_b r2313.1
              have f2329 := cb_12_3 i2201 k_a0
              have f2330 : (q_I r2173 12 3 a0).toInt = (q_I r1763.2 12 3 a0).toInt := congrArg Int32.toInt (u2207 12 3 a0 (by decide))
              have f2331 := cb_12_3 i1765 k_a0
              have f2332 : (q_I r1763.2 12 3 a0).toInt = (q_I d1757 12 3 a0).toInt := congrArg Int32.toInt (u1769 12 3 a0 (by decide))
              have f2333 := ti_b r2313.1
              refine ok_ite (fun h2334 => ?_) (fun h2334 => ?_)
              · have c2335 : r2313.1.toInt = (0 : Int) := o_eq h2334
                unfold J_X12_thief_106
                refine ok_bind (k_X12_result L hN (a0 := a0) (x1 := (q_I r2313.2 12 24 a0)) k_a0 i2315) (fun r2336 hr2337 => ?_)
                obtain ⟨i2338, ⟨u2339, u2340, u2341, u2342⟩⟩ := hr2337
                have u2343 := kp_t u2323 u2339
                have v2344 : q_V r2336.2 = q_V δ := (u2340).trans v2324
                have v2345 := kr_t v2325 u2342
                have f2346 := ti_b r2336.1
                have f2347 := cb_12_24 i2338 k_a0
                have f2348 : (q_I r2336.2 12 24 a0).toInt = (q_I r2313.2 12 24 a0).toInt := congrArg Int32.toInt (u2339 12 24 a0 (by decide))
                have f2349 := cb_12_24 i2315 k_a0
                have f2350 : (q_I r2313.2 12 24 a0).toInt = (q_I r2173 12 24 a0).toInt := congrArg Int32.toInt (u2319 12 24 a0 (by decide))
                have f2351 := cb_12_24 i2201 k_a0
                have f2352 : (q_I r2173 12 24 a0).toInt = (q_I r1763.2 12 24 a0).toInt := congrArg Int32.toInt (u2207 12 24 a0 (by decide))
                refine ok_ite (fun h2353 => ?_) (fun h2353 => ?_)
                · have c2354 : r2336.1.toInt = (q_I r2336.2 12 24 a0).toInt := o_eq h2353
                  obtain ⟨b2355, o2356, k2357, n2358⟩ := gO_12_28 L k_a0
                  obtain rfl := gS_12_28 L k_a0 o2356
                  refine ok_at o2356 ?_
                  have t2359 := ti_tn (q_I r2336.2 12 24 a0)
                  refine ok_gd (fun hc2360 => ?_) ?_
                  · rcases hc2360 with hc2360 | hc2360
                    · have c2361 : (q_I r2336.2 12 24 a0).toInt < (0 : Int) := o_lt hc2360
                      omega
                    · omega
                  have f2365 := cb_12_25 i2338 k_a0
                  have f2366 : (q_I r2336.2 12 25 a0).toInt = (q_I r2313.2 12 25 a0).toInt := congrArg Int32.toInt (u2339 12 25 a0 (by decide))
                  have f2367 := cb_12_25 i2315 k_a0
                  have f2368 : (q_I r2313.2 12 25 a0).toInt = (q_I r2173 12 25 a0).toInt := congrArg Int32.toInt (u2319 12 25 a0 (by decide))
                  have f2369 := cb_12_25 i2201 k_a0
                  refine ok_bdv (fun d2362 e2363 => ?_)
                  have i2364 : RI ad h.1 δ0 d2362 := by rw [e2363]; exact cr_112 L i2338 (show 0 ≤ (q_I r2336.2 12 25 a0).toInt by omega) (show (q_I r2336.2 12 25 a0).toInt ≤ 60 by omega)
                  have u2370 := kp_N u2343 (show q_I d2362 = q_I r2336.2 by rw [e2363]; rfl)
                  have v2371 : q_V d2362 = q_V δ := ((show q_V d2362 = q_V r2336.2 by rw [e2363]; rfl)).trans v2344
                  have v2372 := kr_s L (by decide) v2345 e2363
                  have f2376 := cb_12_24 i2364 k_a0
                  have f2377 : (q_I d2362 12 24 a0).toInt = (q_I r2336.2 12 24 a0).toInt := congrArg Int32.toInt (by rw [e2363]; rfl)
                  first | (have q2379 := te_addc (c := 1) (n := 1) rfl (q_I d2362 12 24 a0) (by omega) (by omega); obtain ⟨f2380, f2381, f2382⟩ := q2379) | (obtain ⟨q2379, f2380, f2381, f2382⟩ := ti_addc (c := 1) (n := 1) rfl (q_I d2362 12 24 a0))
                  refine ok_bdv (fun d2373 e2374 => ?_)
                  have i2375 : RI ad h.1 δ0 d2373 := by rw [e2374]; exact cs_12_24 L i2364 k_a0 (show 0 ≤ ((q_I d2362 12 24 a0) + (1 : Int32)).toInt by omega) (show ((q_I d2362 12 24 a0) + (1 : Int32)).toInt ≤ 4 by omega)
                  have u2383 := kp_I u2370 e2374
                  have v2384 : q_V d2373 = q_V δ := ((show q_V d2373 = q_V d2362 by rw [e2374]; rfl)).trans v2371
                  have v2385 := kr_N v2372 (show q_R d2373 = q_R d2362 by rw [e2374]; rfl)
                  unfold J_X12_thief_146
                  have f2386 := cb_12_2 i2375 k_a0
                  have f2387 : (q_I d2373 12 2 a0).toInt = (q_I d2362 12 2 a0).toInt := congrArg Int32.toInt (by rw [e2374]; exact rI_o (by decide))
                  have f2388 := cb_12_2 i2364 k_a0
                  have f2389 : (q_I d2362 12 2 a0).toInt = (q_I r2336.2 12 2 a0).toInt := congrArg Int32.toInt (by rw [e2363]; rfl)
                  have f2390 := cb_12_2 i2338 k_a0
                  have f2391 : (q_I r2336.2 12 2 a0).toInt = (q_I r2313.2 12 2 a0).toInt := congrArg Int32.toInt (u2339 12 2 a0 (by decide))
                  have f2392 := cb_12_2 i2315 k_a0
                  have f2393 : (q_I r2313.2 12 2 a0).toInt = (q_I r2173 12 2 a0).toInt := congrArg Int32.toInt (u2319 12 2 a0 (by decide))
                  have f2394 := cb_12_2 i2201 k_a0
                  have f2395 : (q_I r2173 12 2 a0).toInt = (q_I r1763.2 12 2 a0).toInt := congrArg Int32.toInt (u2207 12 2 a0 (by decide))
                  have f2396 := cb_12_2 i1765 k_a0
                  have f2397 : (q_I r1763.2 12 2 a0).toInt = (q_I d1757 12 2 a0).toInt := congrArg Int32.toInt (u1769 12 2 a0 (by decide))
                  have f2398 := cb_12_2 i1759 k_a0
                  have f2399 : (q_I d1757 12 2 a0).toInt = (q_I d1751 12 2 a0).toInt := congrArg Int32.toInt (by rw [e1758]; exact rI_o (by decide))
                  have f2400 := cb_12_2 i1753 k_a0
                  have f2401 : (q_I d1751 12 2 a0).toInt = (q_I d1745 12 2 a0).toInt := congrArg Int32.toInt (by rw [e1752]; exact rI_o (by decide))
                  have f2402 := cb_12_2 i1747 k_a0
                  have f2403 : (q_I d1745 12 2 a0).toInt = (q_I r1715 12 2 a0).toInt := congrArg Int32.toInt (by rw [e1746]; exact rI_o (by decide))
                  exact ok_some (show RI ad h.1 δ0 d2373 ∧ (kp [(12, 0), (12, 2), (12, 3), (12, 4), (12, 5), (12, 6), (12, 7), (12, 8), (12, 24), (12, 25), (12, 26), (12, 27)] δ d2373 ∧ q_V d2373 = q_V δ ∧ kr ad [100, 112, 113, 114, 115, 116, 117] δ d2373) ∧ (0 ≤ (x1).toInt ∧ (x1).toInt ≤ (q_I δ 12 2 a0).toInt → (q_I d2373 12 2 a0).toInt = 0) ∧ ((x1).toInt < 0 ∨ (q_I δ 12 2 a0).toInt < (x1).toInt → (q_I d2373 12 2 a0).toInt = (q_I δ 12 2 a0).toInt) from ⟨i2375, ⟨kp_w (by decide) u2383, v2384, kr_w (by decide) v2385⟩, by first | assumption | omega, by first | assumption | omega⟩)
                · have c2404 : r2336.1.toInt ≠ (q_I r2336.2 12 24 a0).toInt := o_ne h2353
                  unfold J_X12_thief_146
                  have f2405 := cb_12_2 i2338 k_a0
                  have f2406 : (q_I r2336.2 12 2 a0).toInt = (q_I r2313.2 12 2 a0).toInt := congrArg Int32.toInt (u2339 12 2 a0 (by decide))
                  have f2407 := cb_12_2 i2315 k_a0
                  have f2408 : (q_I r2313.2 12 2 a0).toInt = (q_I r2173 12 2 a0).toInt := congrArg Int32.toInt (u2319 12 2 a0 (by decide))
                  have f2409 := cb_12_2 i2201 k_a0
                  have f2410 : (q_I r2173 12 2 a0).toInt = (q_I r1763.2 12 2 a0).toInt := congrArg Int32.toInt (u2207 12 2 a0 (by decide))
                  have f2411 := cb_12_2 i1765 k_a0
                  have f2412 : (q_I r1763.2 12 2 a0).toInt = (q_I d1757 12 2 a0).toInt := congrArg Int32.toInt (u1769 12 2 a0 (by decide))
                  have f2413 := cb_12_2 i1759 k_a0
                  have f2414 : (q_I d1757 12 2 a0).toInt = (q_I d1751 12 2 a0).toInt := congrArg Int32.toInt (by rw [e1758]; exact rI_o (by decide))
                  have f2415 := cb_12_2 i1753 k_a0
                  have f2416 : (q_I d1751 12 2 a0).toInt = (q_I d1745 12 2 a0).toInt := congrArg Int32.toInt (by rw [e1752]; exact rI_o (by decide))
                  have f2417 := cb_12_2 i1747 k_a0
                  have f2418 : (q_I d1745 12 2 a0).toInt = (q_I r1715 12 2 a0).toInt := congrArg Int32.toInt (by rw [e1746]; exact rI_o (by decide))
                  exact ok_some (show RI ad h.1 δ0 r2336.2 ∧ (kp [(12, 0), (12, 2), (12, 3), (12, 4), (12, 5), (12, 6), (12, 7), (12, 8), (12, 24), (12, 25), (12, 26), (12, 27)] δ r2336.2 ∧ q_V r2336.2 = q_V δ ∧ kr ad [100, 112, 113, 114, 115, 116, 117] δ r2336.2) ∧ (0 ≤ (x1).toInt ∧ (x1).toInt ≤ (q_I δ 12 2 a0).toInt → (q_I r2336.2 12 2 a0).toInt = 0) ∧ ((x1).toInt < 0 ∨ (q_I δ 12 2 a0).toInt < (x1).toInt → (q_I r2336.2 12 2 a0).toInt = (q_I δ 12 2 a0).toInt) from ⟨i2338, ⟨kp_w (by decide) u2343, v2344, kr_w (by decide) v2345⟩, by first | assumption | omega, by first | assumption | omega⟩)
              · have c2419 : r2313.1.toInt ≠ (0 : Int) := o_ne h2334
                refine ok_bind (k_X12_wrong L hN (a0 := a0) (x1 := (1 : Int32)) (x2 := (q_I r2313.2 12 4 a0)) k_a0 (show 0 ≤ ((q_I r2313.2 12 4 a0)).toInt by first | assumption | omega) i2315) (fun r2420 hr2421 => ?_)
                obtain ⟨i2422, ⟨u2424, u2425, u2426, u2427⟩, p2423⟩ := hr2421
                have u2428 := kp_t u2323 u2424
                have v2429 : q_V r2420 = q_V δ := (u2425).trans v2324
                have v2430 := kr_t v2325 u2427
                have f2431 := ti_b (q_I r2420 12 5 a0)
                unfold J_X12_thief_106
                refine ok_bind (k_X12_result L hN (a0 := a0) (x1 := (q_I r2420 12 24 a0)) k_a0 i2422) (fun r2432 hr2433 => ?_)
                obtain ⟨i2434, ⟨u2435, u2436, u2437, u2438⟩⟩ := hr2433
                have u2439 := kp_t u2428 u2435
                have v2440 : q_V r2432.2 = q_V δ := (u2436).trans v2429
                have v2441 := kr_t v2430 u2438
                have f2442 := ti_b r2432.1
                have f2443 := cb_12_24 i2434 k_a0
                have f2444 : (q_I r2432.2 12 24 a0).toInt = (q_I r2420 12 24 a0).toInt := congrArg Int32.toInt (u2435 12 24 a0 (by decide))
                have f2445 := cb_12_24 i2422 k_a0
                have f2446 : (q_I r2420 12 24 a0).toInt = (q_I r2313.2 12 24 a0).toInt := congrArg Int32.toInt (u2424 12 24 a0 (by decide))
                have f2447 := cb_12_24 i2315 k_a0
                have f2448 : (q_I r2313.2 12 24 a0).toInt = (q_I r2173 12 24 a0).toInt := congrArg Int32.toInt (u2319 12 24 a0 (by decide))
                have f2449 := cb_12_24 i2201 k_a0
                have f2450 : (q_I r2173 12 24 a0).toInt = (q_I r1763.2 12 24 a0).toInt := congrArg Int32.toInt (u2207 12 24 a0 (by decide))
                refine ok_ite (fun h2451 => ?_) (fun h2451 => ?_)
                · have c2452 : r2432.1.toInt = (q_I r2432.2 12 24 a0).toInt := o_eq h2451
                  obtain ⟨b2453, o2454, k2455, n2456⟩ := gO_12_28 L k_a0
                  obtain rfl := gS_12_28 L k_a0 o2454
                  refine ok_at o2454 ?_
                  have t2457 := ti_tn (q_I r2432.2 12 24 a0)
                  refine ok_gd (fun hc2458 => ?_) ?_
                  · rcases hc2458 with hc2458 | hc2458
                    · have c2459 : (q_I r2432.2 12 24 a0).toInt < (0 : Int) := o_lt hc2458
                      omega
                    · omega
                  have f2463 := cb_12_25 i2434 k_a0
                  have f2464 : (q_I r2432.2 12 25 a0).toInt = (q_I r2420 12 25 a0).toInt := congrArg Int32.toInt (u2435 12 25 a0 (by decide))
                  have f2465 := cb_12_25 i2422 k_a0
                  have f2466 : (q_I r2420 12 25 a0).toInt = (q_I r2313.2 12 25 a0).toInt := congrArg Int32.toInt (u2424 12 25 a0 (by decide))
                  have f2467 := cb_12_25 i2315 k_a0
                  have f2468 : (q_I r2313.2 12 25 a0).toInt = (q_I r2173 12 25 a0).toInt := congrArg Int32.toInt (u2319 12 25 a0 (by decide))
                  have f2469 := cb_12_25 i2201 k_a0
                  refine ok_bdv (fun d2460 e2461 => ?_)
                  have i2462 : RI ad h.1 δ0 d2460 := by rw [e2461]; exact cr_112 L i2434 (show 0 ≤ (q_I r2432.2 12 25 a0).toInt by omega) (show (q_I r2432.2 12 25 a0).toInt ≤ 60 by omega)
                  have u2470 := kp_N u2439 (show q_I d2460 = q_I r2432.2 by rw [e2461]; rfl)
                  have v2471 : q_V d2460 = q_V δ := ((show q_V d2460 = q_V r2432.2 by rw [e2461]; rfl)).trans v2440
                  have v2472 := kr_s L (by decide) v2441 e2461
                  have f2476 := cb_12_24 i2462 k_a0
                  have f2477 : (q_I d2460 12 24 a0).toInt = (q_I r2432.2 12 24 a0).toInt := congrArg Int32.toInt (by rw [e2461]; rfl)
                  first | (have q2479 := te_addc (c := 1) (n := 1) rfl (q_I d2460 12 24 a0) (by omega) (by omega); obtain ⟨f2480, f2481, f2482⟩ := q2479) | (obtain ⟨q2479, f2480, f2481, f2482⟩ := ti_addc (c := 1) (n := 1) rfl (q_I d2460 12 24 a0))
                  refine ok_bdv (fun d2473 e2474 => ?_)
                  have i2475 : RI ad h.1 δ0 d2473 := by rw [e2474]; exact cs_12_24 L i2462 k_a0 (show 0 ≤ ((q_I d2460 12 24 a0) + (1 : Int32)).toInt by omega) (show ((q_I d2460 12 24 a0) + (1 : Int32)).toInt ≤ 4 by omega)
                  have u2483 := kp_I u2470 e2474
                  have v2484 : q_V d2473 = q_V δ := ((show q_V d2473 = q_V d2460 by rw [e2474]; rfl)).trans v2471
                  have v2485 := kr_N v2472 (show q_R d2473 = q_R d2460 by rw [e2474]; rfl)
                  unfold J_X12_thief_146
                  have f2486 := cb_12_2 i2475 k_a0
                  have f2487 : (q_I d2473 12 2 a0).toInt = (q_I d2460 12 2 a0).toInt := congrArg Int32.toInt (by rw [e2474]; exact rI_o (by decide))
                  have f2488 := cb_12_2 i2462 k_a0
                  have f2489 : (q_I d2460 12 2 a0).toInt = (q_I r2432.2 12 2 a0).toInt := congrArg Int32.toInt (by rw [e2461]; rfl)
                  have f2490 := cb_12_2 i2434 k_a0
                  have f2491 : (q_I r2432.2 12 2 a0).toInt = (q_I r2420 12 2 a0).toInt := congrArg Int32.toInt (u2435 12 2 a0 (by decide))
                  have f2492 := cb_12_2 i2422 k_a0
                  have f2493 : (q_I r2420 12 2 a0).toInt = (q_I r2313.2 12 2 a0).toInt := congrArg Int32.toInt (u2424 12 2 a0 (by decide))
                  have f2494 := cb_12_2 i2315 k_a0
                  have f2495 : (q_I r2313.2 12 2 a0).toInt = (q_I r2173 12 2 a0).toInt := congrArg Int32.toInt (u2319 12 2 a0 (by decide))
                  have f2496 := cb_12_2 i2201 k_a0
                  have f2497 : (q_I r2173 12 2 a0).toInt = (q_I r1763.2 12 2 a0).toInt := congrArg Int32.toInt (u2207 12 2 a0 (by decide))
                  have f2498 := cb_12_2 i1765 k_a0
                  have f2499 : (q_I r1763.2 12 2 a0).toInt = (q_I d1757 12 2 a0).toInt := congrArg Int32.toInt (u1769 12 2 a0 (by decide))
                  have f2500 := cb_12_2 i1759 k_a0
                  have f2501 : (q_I d1757 12 2 a0).toInt = (q_I d1751 12 2 a0).toInt := congrArg Int32.toInt (by rw [e1758]; exact rI_o (by decide))
                  have f2502 := cb_12_2 i1753 k_a0
                  have f2503 : (q_I d1751 12 2 a0).toInt = (q_I d1745 12 2 a0).toInt := congrArg Int32.toInt (by rw [e1752]; exact rI_o (by decide))
                  have f2504 := cb_12_2 i1747 k_a0
                  have f2505 : (q_I d1745 12 2 a0).toInt = (q_I r1715 12 2 a0).toInt := congrArg Int32.toInt (by rw [e1746]; exact rI_o (by decide))
                  exact ok_some (show RI ad h.1 δ0 d2473 ∧ (kp [(12, 0), (12, 2), (12, 3), (12, 4), (12, 5), (12, 6), (12, 7), (12, 8), (12, 24), (12, 25), (12, 26), (12, 27)] δ d2473 ∧ q_V d2473 = q_V δ ∧ kr ad [100, 112, 113, 114, 115, 116, 117] δ d2473) ∧ (0 ≤ (x1).toInt ∧ (x1).toInt ≤ (q_I δ 12 2 a0).toInt → (q_I d2473 12 2 a0).toInt = 0) ∧ ((x1).toInt < 0 ∨ (q_I δ 12 2 a0).toInt < (x1).toInt → (q_I d2473 12 2 a0).toInt = (q_I δ 12 2 a0).toInt) from ⟨i2475, ⟨kp_w (by decide) u2483, v2484, kr_w (by decide) v2485⟩, by first | assumption | omega, by first | assumption | omega⟩)
                · have c2506 : r2432.1.toInt ≠ (q_I r2432.2 12 24 a0).toInt := o_ne h2451
                  unfold J_X12_thief_146
                  have f2507 := cb_12_2 i2434 k_a0
                  have f2508 : (q_I r2432.2 12 2 a0).toInt = (q_I r2420 12 2 a0).toInt := congrArg Int32.toInt (u2435 12 2 a0 (by decide))
                  have f2509 := cb_12_2 i2422 k_a0
                  have f2510 : (q_I r2420 12 2 a0).toInt = (q_I r2313.2 12 2 a0).toInt := congrArg Int32.toInt (u2424 12 2 a0 (by decide))
                  have f2511 := cb_12_2 i2315 k_a0
                  have f2512 : (q_I r2313.2 12 2 a0).toInt = (q_I r2173 12 2 a0).toInt := congrArg Int32.toInt (u2319 12 2 a0 (by decide))
                  have f2513 := cb_12_2 i2201 k_a0
                  have f2514 : (q_I r2173 12 2 a0).toInt = (q_I r1763.2 12 2 a0).toInt := congrArg Int32.toInt (u2207 12 2 a0 (by decide))
                  have f2515 := cb_12_2 i1765 k_a0
                  have f2516 : (q_I r1763.2 12 2 a0).toInt = (q_I d1757 12 2 a0).toInt := congrArg Int32.toInt (u1769 12 2 a0 (by decide))
                  have f2517 := cb_12_2 i1759 k_a0
                  have f2518 : (q_I d1757 12 2 a0).toInt = (q_I d1751 12 2 a0).toInt := congrArg Int32.toInt (by rw [e1758]; exact rI_o (by decide))
                  have f2519 := cb_12_2 i1753 k_a0
                  have f2520 : (q_I d1751 12 2 a0).toInt = (q_I d1745 12 2 a0).toInt := congrArg Int32.toInt (by rw [e1752]; exact rI_o (by decide))
                  have f2521 := cb_12_2 i1747 k_a0
                  have f2522 : (q_I d1745 12 2 a0).toInt = (q_I r1715 12 2 a0).toInt := congrArg Int32.toInt (by rw [e1746]; exact rI_o (by decide))
                  exact ok_some (show RI ad h.1 δ0 r2432.2 ∧ (kp [(12, 0), (12, 2), (12, 3), (12, 4), (12, 5), (12, 6), (12, 7), (12, 8), (12, 24), (12, 25), (12, 26), (12, 27)] δ r2432.2 ∧ q_V r2432.2 = q_V δ ∧ kr ad [100, 112, 113, 114, 115, 116, 117] δ r2432.2) ∧ (0 ≤ (x1).toInt ∧ (x1).toInt ≤ (q_I δ 12 2 a0).toInt → (q_I r2432.2 12 2 a0).toInt = 0) ∧ ((x1).toInt < 0 ∨ (q_I δ 12 2 a0).toInt < (x1).toInt → (q_I r2432.2 12 2 a0).toInt = (q_I δ 12 2 a0).toInt) from ⟨i2434, ⟨kp_w (by decide) u2439, v2440, kr_w (by decide) v2441⟩, by first | assumption | omega, by first | assumption | omega⟩)
