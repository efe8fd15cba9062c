/-! 79.ya.unit (by gen_safe.py) -/
set_option maxHeartbeats 4000000 in
theorem k_bX12_unit {ad : List Nat} {h : hp} (L : Lay TLx ad h) {δ0 : dp} {N : Nat} (hN : 10000000 ≤ N) {T : Nat → dp → Option (dp)} {K : Int} (hT : ∀ (a0 : Nat) (δ : dp), q_K h.1 a0 = 12 → (q_I δ 12 24 a0).toInt ≤ 3 → (q_I δ 12 26 a0).toInt ≤ (q_I δ 12 4 a0).toInt → 0 ≤ (q_I δ 12 7 a0).toInt → (q_I δ 12 7 a0).toInt ≤ 7 → ((q_I δ 12 7 a0).toInt = 7 → 0 ≤ (q_I δ 12 5 a0).toInt) → 8 - (q_I δ 12 7 a0).toInt < K → RI ad h.1 δ0 δ → ok (T a0 δ) (fun r => RI ad h.1 δ0 r ∧ (kp [(12, 4), (12, 5), (12, 6), (12, 7), (12, 26)] δ r ∧ q_V r = q_V δ ∧ kr ad [116, 117] δ r) ∧ (q_I δ 12 4 a0).toInt ≤ (q_I r 12 4 a0).toInt ∧ (q_I δ 12 5 a0).toInt ≤ (q_I r 12 5 a0).toInt ∧ (q_I r 12 7 a0).toInt = (q_I δ 12 7 a0).toInt ∧ (q_I δ 12 26 a0).toInt ≤ (q_I r 12 26 a0).toInt ∧ (q_I r 12 26 a0).toInt - (q_I δ 12 26 a0).toInt ≤ (q_I r 12 4 a0).toInt - (q_I δ 12 4 a0).toInt ∧ US ad a0 δ r)) {a0 : Nat} (k_a0 : q_K h.1 a0 = 12) {δ : dp} (z0 : (q_I δ 12 24 a0).toInt ≤ 3) (z1 : (q_I δ 12 26 a0).toInt ≤ (q_I δ 12 4 a0).toInt) (z2 : 0 ≤ (q_I δ 12 7 a0).toInt) (z3 : (q_I δ 12 7 a0).toInt ≤ 7) (z4 : (q_I δ 12 7 a0).toInt = 7 → 0 ≤ (q_I δ 12 5 a0).toInt) (z5 : 8 - (q_I δ 12 7 a0).toInt ≤ K) (I : RI ad h.1 δ0 δ) : ok (B_X12_unit N h.1 T a0 δ) (fun r => RI ad h.1 δ0 r ∧ (kp [(12, 4), (12, 5), (12, 6), (12, 7), (12, 26)] δ r ∧ q_V r = q_V δ ∧ kr ad [116, 117] δ r) ∧ (q_I δ 12 4 a0).toInt ≤ (q_I r 12 4 a0).toInt ∧ (q_I δ 12 5 a0).toInt ≤ (q_I r 12 5 a0).toInt ∧ (q_I r 12 7 a0).toInt = (q_I δ 12 7 a0).toInt ∧ (q_I δ 12 26 a0).toInt ≤ (q_I r 12 26 a0).toInt ∧ (q_I r 12 26 a0).toInt - (q_I δ 12 26 a0).toInt ≤ (q_I r 12 4 a0).toInt - (q_I δ 12 4 a0).toInt ∧ US ad a0 δ r) := by
  unfold B_X12_unit
  have f1 := cb_12_24 I k_a0
  have f2 := cb_12_26 I k_a0
  have f3 := cb_12_4 I k_a0
  have f4 := ti_b (q_I δ 12 7 a0)
  have f5 := cb_12_5 I k_a0
  refine ok_bind (k_X12_fine L hN (a0 := a0) k_a0 I) (fun r6 hr7 => ?_)
  obtain ⟨i8, p9, p10, p11⟩ := hr7
  try rw [i8]
  have f12 := bo_l p9
  have f13 := ti_b r6.1
  refine ok_ite (fun h14 => ?_) (fun h14 => ?_)
  · have c15 : r6.1.toInt = (0 : Int) := o_eq h14
    exact ok_some (show RI ad h.1 δ0 δ ∧ (kp [(12, 4), (12, 5), (12, 6), (12, 7), (12, 26)] δ δ ∧ q_V δ = q_V δ ∧ kr ad [116, 117] δ δ) ∧ (q_I δ 12 4 a0).toInt ≤ (q_I δ 12 4 a0).toInt ∧ (q_I δ 12 5 a0).toInt ≤ (q_I δ 12 5 a0).toInt ∧ (q_I δ 12 7 a0).toInt = (q_I δ 12 7 a0).toInt ∧ (q_I δ 12 26 a0).toInt ≤ (q_I δ 12 26 a0).toInt ∧ (q_I δ 12 26 a0).toInt - (q_I δ 12 26 a0).toInt ≤ (q_I δ 12 4 a0).toInt - (q_I δ 12 4 a0).toInt ∧ US ad a0 δ δ from ⟨I, ⟨kp_w (by decide) kp_r, rfl, kr_w (by decide) (kr_r (ad := ad))⟩, by first | with_reducible assumption | omega, by first | with_reducible assumption | omega, by first | with_reducible assumption | omega, by first | with_reducible assumption | omega, by first | with_reducible assumption | omega, US.bad NU.r (by omega)⟩)
  · have c16 : r6.1.toInt ≠ (0 : Int) := o_ne h14
    refine ok_bind (k_X12_here L hN (a0 := a0) k_a0 I) (fun r17 hr18 => ?_)
    obtain ⟨i19, ⟨u23, u24, u25, u26⟩, p20, p21, p22⟩ := hr18
    have u27 := kp_t kp_r u23
    have v28 : q_V r17.2 = q_V δ := (u24).trans rfl
    have v29 := kr_t (kr_r (ad := ad)) u26
    have f30 := cb_12_4 i19 k_a0
    have f31 : hc ad r17.2 a0 = (q_R r17.2 (Ad ad 101) (q_I r17.2 12 4 a0).toNatClampNeg).toInt := rfl
    have t32 := ti_tn (q_I r17.2 12 4 a0)
    have f33 : (q_R r17.2 (Ad ad 101) (q_I r17.2 12 4 a0).toNatClampNeg).toInt = (q_R δ (Ad ad 101) (q_I r17.2 12 4 a0).toNatClampNeg).toInt := congrArg Int32.toInt (congrFun (u26 101 (by decide) (by decide) (by decide)) _)
    have f34 := ti_b (q_R δ (Ad ad 101) (q_I r17.2 12 4 a0).toNatClampNeg)
    have f35 := ti_b (q_R r17.2 (Ad ad 101) (q_I r17.2 12 4 a0).toNatClampNeg)
    have f36 := ti_b r17.1
    have f37 := cb_12_3 I k_a0
    have f38 : hc ad δ a0 = (q_R δ (Ad ad 101) (q_I δ 12 4 a0).toNatClampNeg).toInt := rfl
    have t39 := ti_tn (q_I δ 12 4 a0)
    have f40 := ti_b (q_R δ (Ad ad 101) (q_I δ 12 4 a0).toNatClampNeg)
    have f41 : (q_I r17.2 12 5 a0).toInt = (q_I δ 12 5 a0).toInt := congrArg Int32.toInt (u23 12 5 a0 (by decide))
    have us42 : NU ad a0 δ r17.2 := NU.t NU.r (show NU ad a0 δ r17.2 from ⟨u26 116 (by decide) (by decide) (by decide), u23 12 26 _ (by decide), u23 12 24 _ (by decide), fun z => by omega⟩)
    refine ok_bind (k_X12_isDigit L hN (x0 := r17.1)  i19) (fun r43 hr44 => ?_)
    obtain ⟨i45, p46, p47, p48⟩ := hr44
    try rw [i45]
    have f49 := bo_l p46
    have f50 := ti_b r43.1
    refine ok_ite (fun h51 => ?_) (fun h51 => ?_)
    · have c52 : r43.1.toInt = (0 : Int) := o_eq h51
      refine ok_ite (fun h53 => ?_) (fun h53 => ?_)
      · have c54 : r17.1.toInt = (40 : Int) := o_eq h53
        have f55 : (q_I r17.2 12 7 a0).toInt = (q_I δ 12 7 a0).toInt := congrArg Int32.toInt (u23 12 7 a0 (by decide))
        refine ok_ite (fun h56 => ?_) (fun h56 => ?_)
        · have c57 : (q_I r17.2 12 7 a0).toInt = (6 : Int) := o_eq h56
          refine ok_bind (k_X12_wrong L hN (a0 := a0) (x1 := (3 : Int32)) (x2 := (q_I r17.2 12 4 a0)) k_a0 (show 0 ≤ ((q_I r17.2 12 4 a0)).toInt by first | with_reducible assumption | omega) (show ((q_I r17.2 12 4 a0)).toInt ≤ 500 by first | with_reducible assumption | omega) (show 0 ≤ (3 : Int) by first | with_reducible assumption | omega) (show (3 : Int) ≤ 4 by first | with_reducible assumption | omega) i19) (fun r58 hr59 => ?_)
          obtain ⟨i60, ⟨u63, u64, u65, u66⟩, p61, p62⟩ := hr59
          have u67 := kp_t u27 u63
          have v68 : q_V r58 = q_V δ := (u64).trans v28
          have v69 := kr_t v29 u66
          have f70 := cb_12_5 i60 k_a0
          have us71 : NU ad a0 δ r58 := NU.t us42 (show NU ad a0 r17.2 r58 from ⟨u66 116 (by decide) (by decide) (by decide), u63 12 26 _ (by decide), u63 12 24 _ (by decide), fun z => by omega⟩)
          unfold J_X12_unit_57
          refine ok_bind (k_X12_fine L hN (a0 := a0) k_a0 i60) (fun r72 hr73 => ?_)
          obtain ⟨i74, p75, p76, p77⟩ := hr73
          try rw [i74]
          have f78 := bo_l p75
          have f79 := ti_b r72.1
          refine ok_ite (fun h80 => ?_) (fun h80 => ?_)
          · have c81 : r72.1.toInt = (0 : Int) := o_eq h80
            unfold J_X12_unit_74
            have f85 : (q_I r58 12 7 a0).toInt = (q_I r17.2 12 7 a0).toInt := congrArg Int32.toInt (u63 12 7 a0 (by decide))
            first | (have q87 := te_addc (c := 1) (n := 1) rfl (q_I r58 12 7 a0) (by omega) (by omega); obtain ⟨f88, f89, f90⟩ := q87) | (obtain ⟨q87, f88, f89, f90⟩ := ti_addc (c := 1) (n := 1) rfl (q_I r58 12 7 a0))
            refine ok_bdv (fun d82 e83 => ?_)
            have i84 : RI ad h.1 δ0 d82 := by rw [e83]; exact cs_12_7 L i60
            have u91 := kp_I u67 e83
            have v92 : q_V d82 = q_V δ := ((show q_V d82 = q_V r58 by rw [e83]; rfl)).trans v68
            have v93 := kr_N v69 (show q_R d82 = q_R r58 by rw [e83]; rfl)
            have us94 : NU ad a0 δ d82 := NU.t us71 (show NU ad a0 r58 d82 from NU.w e83 (by decide))
            have f97 : (q_I d82 12 24 a0).toInt = (q_I δ 12 24 a0).toInt := ((show (q_I d82 12 24 a0).toInt = (q_I r58 12 24 a0).toInt from congrArg Int32.toInt (by rw [e83]; exact rI_o (by decide))).trans ((show (q_I r58 12 24 a0).toInt = (q_I r17.2 12 24 a0).toInt from congrArg Int32.toInt (u63 12 24 a0 (by decide))).trans (show (q_I r17.2 12 24 a0).toInt = (q_I δ 12 24 a0).toInt from congrArg Int32.toInt (u23 12 24 a0 (by decide)))))
            have f98 : (q_I d82 12 26 a0).toInt = (q_I δ 12 26 a0).toInt := ((show (q_I d82 12 26 a0).toInt = (q_I r58 12 26 a0).toInt from congrArg Int32.toInt (by rw [e83]; exact rI_o (by decide))).trans ((show (q_I r58 12 26 a0).toInt = (q_I r17.2 12 26 a0).toInt from congrArg Int32.toInt (u63 12 26 a0 (by decide))).trans (show (q_I r17.2 12 26 a0).toInt = (q_I δ 12 26 a0).toInt from congrArg Int32.toInt (u23 12 26 a0 (by decide)))))
            have f99 : (q_I d82 12 4 a0).toInt = (q_I r17.2 12 4 a0).toInt := ((show (q_I d82 12 4 a0).toInt = (q_I r58 12 4 a0).toInt from congrArg Int32.toInt (by rw [e83]; exact rI_o (by decide))).trans (show (q_I r58 12 4 a0).toInt = (q_I r17.2 12 4 a0).toInt from congrArg Int32.toInt (u63 12 4 a0 (by decide))))
            have f100 := ti_b (q_I d82 12 7 a0)
            have f101 : (q_I d82 12 7 a0).toInt = ((q_I r58 12 7 a0) + (1 : Int32)).toInt := congrArg Int32.toInt (show q_I d82 12 7 a0 = ((q_I r58 12 7 a0) + (1 : Int32)) by rw [e83]; exact rI_s)
            have f102 : (q_I d82 12 5 a0).toInt = (q_I r58 12 5 a0).toInt := congrArg Int32.toInt (by rw [e83]; exact rI_o (by decide))
            refine ok_bind (hT a0 d82 k_a0 (show (q_I d82 12 24 a0).toInt ≤ 3 by first | with_reducible assumption | omega) (show (q_I d82 12 26 a0).toInt ≤ (q_I d82 12 4 a0).toInt by first | with_reducible assumption | omega) (show 0 ≤ (q_I d82 12 7 a0).toInt by first | with_reducible assumption | omega) (show (q_I d82 12 7 a0).toInt ≤ 7 by first | with_reducible assumption | omega) (show (q_I d82 12 7 a0).toInt = 7 → 0 ≤ (q_I d82 12 5 a0).toInt by first | with_reducible assumption | omega) (show 8 - (q_I d82 12 7 a0).toInt < _ by first | with_reducible assumption | omega) i84) (fun r95 hr96 => ?_)
            obtain ⟨i103, ⟨u110, u111, u112⟩, p104, p105, p106, p107, p108, p109⟩ := hr96
            have u113 := kp_t u91 u110
            have v114 : q_V r95 = q_V δ := (u111).trans v92
            have v115 := kr_t v93 u112
            have f116 := cb_12_4 i103 k_a0
            have f117 := cb_12_5 i103 k_a0
            have f118 := ti_b (q_I r95 12 7 a0)
            have f119 := cb_12_26 i103 k_a0
            have us120 : US ad a0 δ r95 := US.pre us94 p109
            refine ok_bind (k_X12_sign L hN (a0 := a0) (x1 := (41 : Int32)) k_a0 (show (41 : Int) ≠ 0 by first | with_reducible assumption | omega) i103) (fun r121 hr122 => ?_)
            obtain ⟨i123, ⟨u127, u128, u129, u130⟩, p124, p125, p126⟩ := hr122
            have u131 := kp_t u113 u127
            have v132 : q_V r121 = q_V δ := (u128).trans v114
            have v133 := kr_t v115 u130
            have f134 := cb_12_4 i123 k_a0
            have f135 := cb_12_5 i123 k_a0
            have us136 : US ad a0 δ r121 := US.post us120 (show NU ad a0 r95 r121 from ⟨u130 116 (by decide) (by decide) (by decide), u127 12 26 _ (by decide), u127 12 24 _ (by decide), fun z => by omega⟩)
            have f140 : (q_I r121 12 7 a0).toInt = (q_I r95 12 7 a0).toInt := congrArg Int32.toInt (u127 12 7 a0 (by decide))
            first | (have q142 := te_subc (c := 1) (n := 1) rfl (q_I r121 12 7 a0) (by omega) (by omega); obtain ⟨f143, f144, f145⟩ := q142) | (obtain ⟨q142, f143, f144, f145⟩ := ti_subc (c := 1) (n := 1) rfl (q_I r121 12 7 a0))
            refine ok_bdv (fun d137 e138 => ?_)
            have i139 : RI ad h.1 δ0 d137 := by rw [e138]; exact cs_12_7 L i123
            have u146 := kp_I u131 e138
            have v147 : q_V d137 = q_V δ := ((show q_V d137 = q_V r121 by rw [e138]; rfl)).trans v132
            have v148 := kr_N v133 (show q_R d137 = q_R r121 by rw [e138]; rfl)
            have us149 : US ad a0 δ d137 := US.post us136 (show NU ad a0 r121 d137 from NU.w e138 (by decide))
            have f150 : (q_I d137 12 4 a0).toInt = (q_I r121 12 4 a0).toInt := congrArg Int32.toInt (by rw [e138]; exact rI_o (by decide))
            have f151 : (q_I d137 12 5 a0).toInt = (q_I r121 12 5 a0).toInt := congrArg Int32.toInt (by rw [e138]; exact rI_o (by decide))
            have f152 := ti_b (q_I d137 12 7 a0)
            have f153 : (q_I d137 12 7 a0).toInt = ((q_I r121 12 7 a0) - (1 : Int32)).toInt := congrArg Int32.toInt (show q_I d137 12 7 a0 = ((q_I r121 12 7 a0) - (1 : Int32)) by rw [e138]; exact rI_s)
            have f154 : (q_I d137 12 26 a0).toInt = (q_I r95 12 26 a0).toInt := ((show (q_I d137 12 26 a0).toInt = (q_I r121 12 26 a0).toInt from congrArg Int32.toInt (by rw [e138]; exact rI_o (by decide))).trans (show (q_I r121 12 26 a0).toInt = (q_I r95 12 26 a0).toInt from congrArg Int32.toInt (u127 12 26 a0 (by decide))))
            exact ok_some (show RI ad h.1 δ0 d137 ∧ (kp [(12, 4), (12, 5), (12, 6), (12, 7), (12, 26)] δ d137 ∧ q_V d137 = q_V δ ∧ kr ad [116, 117] δ d137) ∧ (q_I δ 12 4 a0).toInt ≤ (q_I d137 12 4 a0).toInt ∧ (q_I δ 12 5 a0).toInt ≤ (q_I d137 12 5 a0).toInt ∧ (q_I d137 12 7 a0).toInt = (q_I δ 12 7 a0).toInt ∧ (q_I δ 12 26 a0).toInt ≤ (q_I d137 12 26 a0).toInt ∧ (q_I d137 12 26 a0).toInt - (q_I δ 12 26 a0).toInt ≤ (q_I d137 12 4 a0).toInt - (q_I δ 12 4 a0).toInt ∧ US ad a0 δ d137 from ⟨i139, ⟨kp_w (by decide) u146, v147, kr_w (by decide) v148⟩, by first | with_reducible assumption | omega, by first | with_reducible assumption | omega, by first | with_reducible assumption | omega, by first | with_reducible assumption | omega, by first | with_reducible assumption | omega, us149⟩)
          · have c155 : r72.1.toInt ≠ (0 : Int) := o_ne h80
            have f159 : (q_I r58 12 4 a0).toInt = (q_I r17.2 12 4 a0).toInt := congrArg Int32.toInt (u63 12 4 a0 (by decide))
            first | (have q161 := te_addc (c := 1) (n := 1) rfl (q_I r58 12 4 a0) (by omega) (by omega); obtain ⟨f162, f163, f164⟩ := q161) | (obtain ⟨q161, f162, f163, f164⟩ := ti_addc (c := 1) (n := 1) rfl (q_I r58 12 4 a0))
            refine ok_bdv (fun d156 e157 => ?_)
            have i158 : RI ad h.1 δ0 d156 := by rw [e157]; exact cs_12_4 L i60 k_a0 (show 0 ≤ ((q_I r58 12 4 a0) + (1 : Int32)).toInt by omega) (show ((q_I r58 12 4 a0) + (1 : Int32)).toInt ≤ 500 by omega)
            have u165 := kp_I u67 e157
            have v166 : q_V d156 = q_V δ := ((show q_V d156 = q_V r58 by rw [e157]; rfl)).trans v68
            have v167 := kr_N v69 (show q_R d156 = q_R r58 by rw [e157]; rfl)
            have us168 : NU ad a0 δ d156 := NU.t us71 (show NU ad a0 r58 d156 from NU.w e157 (by decide))
            unfold J_X12_unit_74
            have f172 : (q_I d156 12 7 a0).toInt = (q_I r17.2 12 7 a0).toInt := ((show (q_I d156 12 7 a0).toInt = (q_I r58 12 7 a0).toInt from congrArg Int32.toInt (by rw [e157]; exact rI_o (by decide))).trans (show (q_I r58 12 7 a0).toInt = (q_I r17.2 12 7 a0).toInt from congrArg Int32.toInt (u63 12 7 a0 (by decide))))
            first | (have q174 := te_addc (c := 1) (n := 1) rfl (q_I d156 12 7 a0) (by omega) (by omega); obtain ⟨f175, f176, f177⟩ := q174) | (obtain ⟨q174, f175, f176, f177⟩ := ti_addc (c := 1) (n := 1) rfl (q_I d156 12 7 a0))
            refine ok_bdv (fun d169 e170 => ?_)
            have i171 : RI ad h.1 δ0 d169 := by rw [e170]; exact cs_12_7 L i158
            have u178 := kp_I u165 e170
            have v179 : q_V d169 = q_V δ := ((show q_V d169 = q_V d156 by rw [e170]; rfl)).trans v166
            have v180 := kr_N v167 (show q_R d169 = q_R d156 by rw [e170]; rfl)
            have us181 : NU ad a0 δ d169 := NU.t us168 (show NU ad a0 d156 d169 from NU.w e170 (by decide))
            have f184 : (q_I d169 12 24 a0).toInt = (q_I δ 12 24 a0).toInt := ((show (q_I d169 12 24 a0).toInt = (q_I d156 12 24 a0).toInt from congrArg Int32.toInt (by rw [e170]; exact rI_o (by decide))).trans ((show (q_I d156 12 24 a0).toInt = (q_I r58 12 24 a0).toInt from congrArg Int32.toInt (by rw [e157]; exact rI_o (by decide))).trans ((show (q_I r58 12 24 a0).toInt = (q_I r17.2 12 24 a0).toInt from congrArg Int32.toInt (u63 12 24 a0 (by decide))).trans (show (q_I r17.2 12 24 a0).toInt = (q_I δ 12 24 a0).toInt from congrArg Int32.toInt (u23 12 24 a0 (by decide))))))
            have f185 : (q_I d169 12 26 a0).toInt = (q_I δ 12 26 a0).toInt := ((show (q_I d169 12 26 a0).toInt = (q_I d156 12 26 a0).toInt from congrArg Int32.toInt (by rw [e170]; exact rI_o (by decide))).trans ((show (q_I d156 12 26 a0).toInt = (q_I r58 12 26 a0).toInt from congrArg Int32.toInt (by rw [e157]; exact rI_o (by decide))).trans ((show (q_I r58 12 26 a0).toInt = (q_I r17.2 12 26 a0).toInt from congrArg Int32.toInt (u63 12 26 a0 (by decide))).trans (show (q_I r17.2 12 26 a0).toInt = (q_I δ 12 26 a0).toInt from congrArg Int32.toInt (u23 12 26 a0 (by decide))))))
            have f186 : (q_I d169 12 4 a0).toInt = (q_I d156 12 4 a0).toInt := congrArg Int32.toInt (by rw [e170]; exact rI_o (by decide))
            have f187 := cb_12_4 i158 k_a0
            have f188 : (q_I d156 12 4 a0).toInt = ((q_I r58 12 4 a0) + (1 : Int32)).toInt := congrArg Int32.toInt (show q_I d156 12 4 a0 = ((q_I r58 12 4 a0) + (1 : Int32)) by rw [e157]; exact rI_s)
            have f189 := ti_b (q_I d169 12 7 a0)
            have f190 : (q_I d169 12 7 a0).toInt = ((q_I d156 12 7 a0) + (1 : Int32)).toInt := congrArg Int32.toInt (show q_I d169 12 7 a0 = ((q_I d156 12 7 a0) + (1 : Int32)) by rw [e170]; exact rI_s)
            have f191 : (q_I d169 12 5 a0).toInt = (q_I r58 12 5 a0).toInt := ((show (q_I d169 12 5 a0).toInt = (q_I d156 12 5 a0).toInt from congrArg Int32.toInt (by rw [e170]; exact rI_o (by decide))).trans (show (q_I d156 12 5 a0).toInt = (q_I r58 12 5 a0).toInt from congrArg Int32.toInt (by rw [e157]; exact rI_o (by decide))))
            refine ok_bind (hT a0 d169 k_a0 (show (q_I d169 12 24 a0).toInt ≤ 3 by first | with_reducible assumption | omega) (show (q_I d169 12 26 a0).toInt ≤ (q_I d169 12 4 a0).toInt by first | with_reducible assumption | omega) (show 0 ≤ (q_I d169 12 7 a0).toInt by first | with_reducible assumption | omega) (show (q_I d169 12 7 a0).toInt ≤ 7 by first | with_reducible assumption | omega) (show (q_I d169 12 7 a0).toInt = 7 → 0 ≤ (q_I d169 12 5 a0).toInt by first | with_reducible assumption | omega) (show 8 - (q_I d169 12 7 a0).toInt < _ by first | with_reducible assumption | omega) i171) (fun r182 hr183 => ?_)
            obtain ⟨i192, ⟨u199, u200, u201⟩, p193, p194, p195, p196, p197, p198⟩ := hr183
            have u202 := kp_t u178 u199
            have v203 : q_V r182 = q_V δ := (u200).trans v179
            have v204 := kr_t v180 u201
            have f205 := cb_12_4 i192 k_a0
            have f206 := cb_12_5 i192 k_a0
            have f207 := ti_b (q_I r182 12 7 a0)
            have f208 := cb_12_26 i192 k_a0
            have us209 : US ad a0 δ r182 := US.pre us181 p198
            refine ok_bind (k_X12_sign L hN (a0 := a0) (x1 := (41 : Int32)) k_a0 (show (41 : Int) ≠ 0 by first | with_reducible assumption | omega) i192) (fun r210 hr211 => ?_)
            obtain ⟨i212, ⟨u216, u217, u218, u219⟩, p213, p214, p215⟩ := hr211
            have u220 := kp_t u202 u216
            have v221 : q_V r210 = q_V δ := (u217).trans v203
            have v222 := kr_t v204 u219
            have f223 := cb_12_4 i212 k_a0
            have f224 := cb_12_5 i212 k_a0
            have us225 : US ad a0 δ r210 := US.post us209 (show NU ad a0 r182 r210 from ⟨u219 116 (by decide) (by decide) (by decide), u216 12 26 _ (by decide), u216 12 24 _ (by decide), fun z => by omega⟩)
            have f229 : (q_I r210 12 7 a0).toInt = (q_I r182 12 7 a0).toInt := congrArg Int32.toInt (u216 12 7 a0 (by decide))
            first | (have q231 := te_subc (c := 1) (n := 1) rfl (q_I r210 12 7 a0) (by omega) (by omega); obtain ⟨f232, f233, f234⟩ := q231) | (obtain ⟨q231, f232, f233, f234⟩ := ti_subc (c := 1) (n := 1) rfl (q_I r210 12 7 a0))
            refine ok_bdv (fun d226 e227 => ?_)
            have i228 : RI ad h.1 δ0 d226 := by rw [e227]; exact cs_12_7 L i212
            have u235 := kp_I u220 e227
            have v236 : q_V d226 = q_V δ := ((show q_V d226 = q_V r210 by rw [e227]; rfl)).trans v221
            have v237 := kr_N v222 (show q_R d226 = q_R r210 by rw [e227]; rfl)
            have us238 : US ad a0 δ d226 := US.post us225 (show NU ad a0 r210 d226 from NU.w e227 (by decide))
            have f239 : (q_I d226 12 4 a0).toInt = (q_I r210 12 4 a0).toInt := congrArg Int32.toInt (by rw [e227]; exact rI_o (by decide))
            have f240 : (q_I d226 12 5 a0).toInt = (q_I r210 12 5 a0).toInt := congrArg Int32.toInt (by rw [e227]; exact rI_o (by decide))
            have f241 := ti_b (q_I d226 12 7 a0)
            have f242 : (q_I d226 12 7 a0).toInt = ((q_I r210 12 7 a0) - (1 : Int32)).toInt := congrArg Int32.toInt (show q_I d226 12 7 a0 = ((q_I r210 12 7 a0) - (1 : Int32)) by rw [e227]; exact rI_s)
            have f243 : (q_I d226 12 26 a0).toInt = (q_I r182 12 26 a0).toInt := ((show (q_I d226 12 26 a0).toInt = (q_I r210 12 26 a0).toInt from congrArg Int32.toInt (by rw [e227]; exact rI_o (by decide))).trans (show (q_I r210 12 26 a0).toInt = (q_I r182 12 26 a0).toInt from congrArg Int32.toInt (u216 12 26 a0 (by decide))))
            exact ok_some (show RI ad h.1 δ0 d226 ∧ (kp [(12, 4), (12, 5), (12, 6), (12, 7), (12, 26)] δ d226 ∧ q_V d226 = q_V δ ∧ kr ad [116, 117] δ d226) ∧ (q_I δ 12 4 a0).toInt ≤ (q_I d226 12 4 a0).toInt ∧ (q_I δ 12 5 a0).toInt ≤ (q_I d226 12 5 a0).toInt ∧ (q_I d226 12 7 a0).toInt = (q_I δ 12 7 a0).toInt ∧ (q_I δ 12 26 a0).toInt ≤ (q_I d226 12 26 a0).toInt ∧ (q_I d226 12 26 a0).toInt - (q_I δ 12 26 a0).toInt ≤ (q_I d226 12 4 a0).toInt - (q_I δ 12 4 a0).toInt ∧ US ad a0 δ d226 from ⟨i228, ⟨kp_w (by decide) u235, v236, kr_w (by decide) v237⟩, by first | with_reducible assumption | omega, by first | with_reducible assumption | omega, by first | with_reducible assumption | omega, by first | with_reducible assumption | omega, by first | with_reducible assumption | omega, us238⟩)
        · have c244 : (q_I r17.2 12 7 a0).toInt ≠ (6 : Int) := o_ne h56
          unfold J_X12_unit_57
          refine ok_bind (k_X12_fine L hN (a0 := a0) k_a0 i19) (fun r245 hr246 => ?_)
          obtain ⟨i247, p248, p249, p250⟩ := hr246
          try rw [i247]
          have f251 := bo_l p248
          have f252 := ti_b r245.1
          refine ok_ite (fun h253 => ?_) (fun h253 => ?_)
          · have c254 : r245.1.toInt = (0 : Int) := o_eq h253
            unfold J_X12_unit_74
            first | (have q259 := te_addc (c := 1) (n := 1) rfl (q_I r17.2 12 7 a0) (by omega) (by omega); obtain ⟨f260, f261, f262⟩ := q259) | (obtain ⟨q259, f260, f261, f262⟩ := ti_addc (c := 1) (n := 1) rfl (q_I r17.2 12 7 a0))
            refine ok_bdv (fun d255 e256 => ?_)
            have i257 : RI ad h.1 δ0 d255 := by rw [e256]; exact cs_12_7 L i19
            have u263 := kp_I u27 e256
            have v264 : q_V d255 = q_V δ := ((show q_V d255 = q_V r17.2 by rw [e256]; rfl)).trans v28
            have v265 := kr_N v29 (show q_R d255 = q_R r17.2 by rw [e256]; rfl)
            have us266 : NU ad a0 δ d255 := NU.t us42 (show NU ad a0 r17.2 d255 from NU.w e256 (by decide))
            have f269 : (q_I d255 12 24 a0).toInt = (q_I δ 12 24 a0).toInt := ((show (q_I d255 12 24 a0).toInt = (q_I r17.2 12 24 a0).toInt from congrArg Int32.toInt (by rw [e256]; exact rI_o (by decide))).trans (show (q_I r17.2 12 24 a0).toInt = (q_I δ 12 24 a0).toInt from congrArg Int32.toInt (u23 12 24 a0 (by decide))))
            have f270 : (q_I d255 12 26 a0).toInt = (q_I δ 12 26 a0).toInt := ((show (q_I d255 12 26 a0).toInt = (q_I r17.2 12 26 a0).toInt from congrArg Int32.toInt (by rw [e256]; exact rI_o (by decide))).trans (show (q_I r17.2 12 26 a0).toInt = (q_I δ 12 26 a0).toInt from congrArg Int32.toInt (u23 12 26 a0 (by decide))))
            have f271 : (q_I d255 12 4 a0).toInt = (q_I r17.2 12 4 a0).toInt := congrArg Int32.toInt (by rw [e256]; exact rI_o (by decide))
            have f272 := ti_b (q_I d255 12 7 a0)
            have f273 : (q_I d255 12 7 a0).toInt = ((q_I r17.2 12 7 a0) + (1 : Int32)).toInt := congrArg Int32.toInt (show q_I d255 12 7 a0 = ((q_I r17.2 12 7 a0) + (1 : Int32)) by rw [e256]; exact rI_s)
            have f274 : (q_I d255 12 5 a0).toInt = (q_I r17.2 12 5 a0).toInt := congrArg Int32.toInt (by rw [e256]; exact rI_o (by decide))
            refine ok_bind (hT a0 d255 k_a0 (show (q_I d255 12 24 a0).toInt ≤ 3 by first | with_reducible assumption | omega) (show (q_I d255 12 26 a0).toInt ≤ (q_I d255 12 4 a0).toInt by first | with_reducible assumption | omega) (show 0 ≤ (q_I d255 12 7 a0).toInt by first | with_reducible assumption | omega) (show (q_I d255 12 7 a0).toInt ≤ 7 by first | with_reducible assumption | omega) (show (q_I d255 12 7 a0).toInt = 7 → 0 ≤ (q_I d255 12 5 a0).toInt by first | with_reducible assumption | omega) (show 8 - (q_I d255 12 7 a0).toInt < _ by first | with_reducible assumption | omega) i257) (fun r267 hr268 => ?_)
            obtain ⟨i275, ⟨u282, u283, u284⟩, p276, p277, p278, p279, p280, p281⟩ := hr268
            have u285 := kp_t u263 u282
            have v286 : q_V r267 = q_V δ := (u283).trans v264
            have v287 := kr_t v265 u284
            have f288 := cb_12_4 i275 k_a0
            have f289 := cb_12_5 i275 k_a0
            have f290 := ti_b (q_I r267 12 7 a0)
            have f291 := cb_12_26 i275 k_a0
            have us292 : US ad a0 δ r267 := US.pre us266 p281
            refine ok_bind (k_X12_sign L hN (a0 := a0) (x1 := (41 : Int32)) k_a0 (show (41 : Int) ≠ 0 by first | with_reducible assumption | omega) i275) (fun r293 hr294 => ?_)
            obtain ⟨i295, ⟨u299, u300, u301, u302⟩, p296, p297, p298⟩ := hr294
            have u303 := kp_t u285 u299
            have v304 : q_V r293 = q_V δ := (u300).trans v286
            have v305 := kr_t v287 u302
            have f306 := cb_12_4 i295 k_a0
            have f307 := cb_12_5 i295 k_a0
            have us308 : US ad a0 δ r293 := US.post us292 (show NU ad a0 r267 r293 from ⟨u302 116 (by decide) (by decide) (by decide), u299 12 26 _ (by decide), u299 12 24 _ (by decide), fun z => by omega⟩)
            have f312 : (q_I r293 12 7 a0).toInt = (q_I r267 12 7 a0).toInt := congrArg Int32.toInt (u299 12 7 a0 (by decide))
            first | (have q314 := te_subc (c := 1) (n := 1) rfl (q_I r293 12 7 a0) (by omega) (by omega); obtain ⟨f315, f316, f317⟩ := q314) | (obtain ⟨q314, f315, f316, f317⟩ := ti_subc (c := 1) (n := 1) rfl (q_I r293 12 7 a0))
            refine ok_bdv (fun d309 e310 => ?_)
            have i311 : RI ad h.1 δ0 d309 := by rw [e310]; exact cs_12_7 L i295
            have u318 := kp_I u303 e310
            have v319 : q_V d309 = q_V δ := ((show q_V d309 = q_V r293 by rw [e310]; rfl)).trans v304
            have v320 := kr_N v305 (show q_R d309 = q_R r293 by rw [e310]; rfl)
            have us321 : US ad a0 δ d309 := US.post us308 (show NU ad a0 r293 d309 from NU.w e310 (by decide))
            have f322 : (q_I d309 12 4 a0).toInt = (q_I r293 12 4 a0).toInt := congrArg Int32.toInt (by rw [e310]; exact rI_o (by decide))
            have f323 : (q_I d309 12 5 a0).toInt = (q_I r293 12 5 a0).toInt := congrArg Int32.toInt (by rw [e310]; exact rI_o (by decide))
            have f324 := ti_b (q_I d309 12 7 a0)
            have f325 : (q_I d309 12 7 a0).toInt = ((q_I r293 12 7 a0) - (1 : Int32)).toInt := congrArg Int32.toInt (show q_I d309 12 7 a0 = ((q_I r293 12 7 a0) - (1 : Int32)) by rw [e310]; exact rI_s)
            have f326 : (q_I d309 12 26 a0).toInt = (q_I r267 12 26 a0).toInt := ((show (q_I d309 12 26 a0).toInt = (q_I r293 12 26 a0).toInt from congrArg Int32.toInt (by rw [e310]; exact rI_o (by decide))).trans (show (q_I r293 12 26 a0).toInt = (q_I r267 12 26 a0).toInt from congrArg Int32.toInt (u299 12 26 a0 (by decide))))
            exact ok_some (show RI ad h.1 δ0 d309 ∧ (kp [(12, 4), (12, 5), (12, 6), (12, 7), (12, 26)] δ d309 ∧ q_V d309 = q_V δ ∧ kr ad [116, 117] δ d309) ∧ (q_I δ 12 4 a0).toInt ≤ (q_I d309 12 4 a0).toInt ∧ (q_I δ 12 5 a0).toInt ≤ (q_I d309 12 5 a0).toInt ∧ (q_I d309 12 7 a0).toInt = (q_I δ 12 7 a0).toInt ∧ (q_I δ 12 26 a0).toInt ≤ (q_I d309 12 26 a0).toInt ∧ (q_I d309 12 26 a0).toInt - (q_I δ 12 26 a0).toInt ≤ (q_I d309 12 4 a0).toInt - (q_I δ 12 4 a0).toInt ∧ US ad a0 δ d309 from ⟨i311, ⟨kp_w (by decide) u318, v319, kr_w (by decide) v320⟩, by first | with_reducible assumption | omega, by first | with_reducible assumption | omega, by first | with_reducible assumption | omega, by first | with_reducible assumption | omega, by first | with_reducible assumption | omega, us321⟩)
          · have c327 : r245.1.toInt ≠ (0 : Int) := o_ne h253
            first | (have q332 := te_addc (c := 1) (n := 1) rfl (q_I r17.2 12 4 a0) (by omega) (by omega); obtain ⟨f333, f334, f335⟩ := q332) | (obtain ⟨q332, f333, f334, f335⟩ := ti_addc (c := 1) (n := 1) rfl (q_I r17.2 12 4 a0))
            refine ok_bdv (fun d328 e329 => ?_)
            have i330 : RI ad h.1 δ0 d328 := by rw [e329]; exact cs_12_4 L i19 k_a0 (show 0 ≤ ((q_I r17.2 12 4 a0) + (1 : Int32)).toInt by omega) (show ((q_I r17.2 12 4 a0) + (1 : Int32)).toInt ≤ 500 by omega)
            have u336 := kp_I u27 e329
            have v337 : q_V d328 = q_V δ := ((show q_V d328 = q_V r17.2 by rw [e329]; rfl)).trans v28
            have v338 := kr_N v29 (show q_R d328 = q_R r17.2 by rw [e329]; rfl)
            have us339 : NU ad a0 δ d328 := NU.t us42 (show NU ad a0 r17.2 d328 from NU.w e329 (by decide))
            unfold J_X12_unit_74
            have f343 : (q_I d328 12 7 a0).toInt = (q_I r17.2 12 7 a0).toInt := congrArg Int32.toInt (by rw [e329]; exact rI_o (by decide))
            first | (have q345 := te_addc (c := 1) (n := 1) rfl (q_I d328 12 7 a0) (by omega) (by omega); obtain ⟨f346, f347, f348⟩ := q345) | (obtain ⟨q345, f346, f347, f348⟩ := ti_addc (c := 1) (n := 1) rfl (q_I d328 12 7 a0))
            refine ok_bdv (fun d340 e341 => ?_)
            have i342 : RI ad h.1 δ0 d340 := by rw [e341]; exact cs_12_7 L i330
            have u349 := kp_I u336 e341
            have v350 : q_V d340 = q_V δ := ((show q_V d340 = q_V d328 by rw [e341]; rfl)).trans v337
            have v351 := kr_N v338 (show q_R d340 = q_R d328 by rw [e341]; rfl)
            have us352 : NU ad a0 δ d340 := NU.t us339 (show NU ad a0 d328 d340 from NU.w e341 (by decide))
            have f355 : (q_I d340 12 24 a0).toInt = (q_I δ 12 24 a0).toInt := ((show (q_I d340 12 24 a0).toInt = (q_I d328 12 24 a0).toInt from congrArg Int32.toInt (by rw [e341]; exact rI_o (by decide))).trans ((show (q_I d328 12 24 a0).toInt = (q_I r17.2 12 24 a0).toInt from congrArg Int32.toInt (by rw [e329]; exact rI_o (by decide))).trans (show (q_I r17.2 12 24 a0).toInt = (q_I δ 12 24 a0).toInt from congrArg Int32.toInt (u23 12 24 a0 (by decide)))))
            have f356 : (q_I d340 12 26 a0).toInt = (q_I δ 12 26 a0).toInt := ((show (q_I d340 12 26 a0).toInt = (q_I d328 12 26 a0).toInt from congrArg Int32.toInt (by rw [e341]; exact rI_o (by decide))).trans ((show (q_I d328 12 26 a0).toInt = (q_I r17.2 12 26 a0).toInt from congrArg Int32.toInt (by rw [e329]; exact rI_o (by decide))).trans (show (q_I r17.2 12 26 a0).toInt = (q_I δ 12 26 a0).toInt from congrArg Int32.toInt (u23 12 26 a0 (by decide)))))
            have f357 : (q_I d340 12 4 a0).toInt = (q_I d328 12 4 a0).toInt := congrArg Int32.toInt (by rw [e341]; exact rI_o (by decide))
            have f358 := cb_12_4 i330 k_a0
            have f359 : (q_I d328 12 4 a0).toInt = ((q_I r17.2 12 4 a0) + (1 : Int32)).toInt := congrArg Int32.toInt (show q_I d328 12 4 a0 = ((q_I r17.2 12 4 a0) + (1 : Int32)) by rw [e329]; exact rI_s)
            have f360 := ti_b (q_I d340 12 7 a0)
            have f361 : (q_I d340 12 7 a0).toInt = ((q_I d328 12 7 a0) + (1 : Int32)).toInt := congrArg Int32.toInt (show q_I d340 12 7 a0 = ((q_I d328 12 7 a0) + (1 : Int32)) by rw [e341]; exact rI_s)
            have f362 : (q_I d340 12 5 a0).toInt = (q_I r17.2 12 5 a0).toInt := ((show (q_I d340 12 5 a0).toInt = (q_I d328 12 5 a0).toInt from congrArg Int32.toInt (by rw [e341]; exact rI_o (by decide))).trans (show (q_I d328 12 5 a0).toInt = (q_I r17.2 12 5 a0).toInt from congrArg Int32.toInt (by rw [e329]; exact rI_o (by decide))))
            refine ok_bind (hT a0 d340 k_a0 (show (q_I d340 12 24 a0).toInt ≤ 3 by first | with_reducible assumption | omega) (show (q_I d340 12 26 a0).toInt ≤ (q_I d340 12 4 a0).toInt by first | with_reducible assumption | omega) (show 0 ≤ (q_I d340 12 7 a0).toInt by first | with_reducible assumption | omega) (show (q_I d340 12 7 a0).toInt ≤ 7 by first | with_reducible assumption | omega) (show (q_I d340 12 7 a0).toInt = 7 → 0 ≤ (q_I d340 12 5 a0).toInt by first | with_reducible assumption | omega) (show 8 - (q_I d340 12 7 a0).toInt < _ by first | with_reducible assumption | omega) i342) (fun r353 hr354 => ?_)
            obtain ⟨i363, ⟨u370, u371, u372⟩, p364, p365, p366, p367, p368, p369⟩ := hr354
            have u373 := kp_t u349 u370
            have v374 : q_V r353 = q_V δ := (u371).trans v350
            have v375 := kr_t v351 u372
            have f376 := cb_12_4 i363 k_a0
            have f377 := cb_12_5 i363 k_a0
            have f378 := ti_b (q_I r353 12 7 a0)
            have f379 := cb_12_26 i363 k_a0
            have us380 : US ad a0 δ r353 := US.pre us352 p369
            refine ok_bind (k_X12_sign L hN (a0 := a0) (x1 := (41 : Int32)) k_a0 (show (41 : Int) ≠ 0 by first | with_reducible assumption | omega) i363) (fun r381 hr382 => ?_)
            obtain ⟨i383, ⟨u387, u388, u389, u390⟩, p384, p385, p386⟩ := hr382
            have u391 := kp_t u373 u387
            have v392 : q_V r381 = q_V δ := (u388).trans v374
            have v393 := kr_t v375 u390
            have f394 := cb_12_4 i383 k_a0
            have f395 := cb_12_5 i383 k_a0
            have us396 : US ad a0 δ r381 := US.post us380 (show NU ad a0 r353 r381 from ⟨u390 116 (by decide) (by decide) (by decide), u387 12 26 _ (by decide), u387 12 24 _ (by decide), fun z => by omega⟩)
            have f400 : (q_I r381 12 7 a0).toInt = (q_I r353 12 7 a0).toInt := congrArg Int32.toInt (u387 12 7 a0 (by decide))
            first | (have q402 := te_subc (c := 1) (n := 1) rfl (q_I r381 12 7 a0) (by omega) (by omega); obtain ⟨f403, f404, f405⟩ := q402) | (obtain ⟨q402, f403, f404, f405⟩ := ti_subc (c := 1) (n := 1) rfl (q_I r381 12 7 a0))
            refine ok_bdv (fun d397 e398 => ?_)
            have i399 : RI ad h.1 δ0 d397 := by rw [e398]; exact cs_12_7 L i383
            have u406 := kp_I u391 e398
            have v407 : q_V d397 = q_V δ := ((show q_V d397 = q_V r381 by rw [e398]; rfl)).trans v392
            have v408 := kr_N v393 (show q_R d397 = q_R r381 by rw [e398]; rfl)
            have us409 : US ad a0 δ d397 := US.post us396 (show NU ad a0 r381 d397 from NU.w e398 (by decide))
            have f410 : (q_I d397 12 4 a0).toInt = (q_I r381 12 4 a0).toInt := congrArg Int32.toInt (by rw [e398]; exact rI_o (by decide))
            have f411 : (q_I d397 12 5 a0).toInt = (q_I r381 12 5 a0).toInt := congrArg Int32.toInt (by rw [e398]; exact rI_o (by decide))
            have f412 := ti_b (q_I d397 12 7 a0)
            have f413 : (q_I d397 12 7 a0).toInt = ((q_I r381 12 7 a0) - (1 : Int32)).toInt := congrArg Int32.toInt (show q_I d397 12 7 a0 = ((q_I r381 12 7 a0) - (1 : Int32)) by rw [e398]; exact rI_s)
            have f414 : (q_I d397 12 26 a0).toInt = (q_I r353 12 26 a0).toInt := ((show (q_I d397 12 26 a0).toInt = (q_I r381 12 26 a0).toInt from congrArg Int32.toInt (by rw [e398]; exact rI_o (by decide))).trans (show (q_I r381 12 26 a0).toInt = (q_I r353 12 26 a0).toInt from congrArg Int32.toInt (u387 12 26 a0 (by decide))))
            exact ok_some (show RI ad h.1 δ0 d397 ∧ (kp [(12, 4), (12, 5), (12, 6), (12, 7), (12, 26)] δ d397 ∧ q_V d397 = q_V δ ∧ kr ad [116, 117] δ d397) ∧ (q_I δ 12 4 a0).toInt ≤ (q_I d397 12 4 a0).toInt ∧ (q_I δ 12 5 a0).toInt ≤ (q_I d397 12 5 a0).toInt ∧ (q_I d397 12 7 a0).toInt = (q_I δ 12 7 a0).toInt ∧ (q_I δ 12 26 a0).toInt ≤ (q_I d397 12 26 a0).toInt ∧ (q_I d397 12 26 a0).toInt - (q_I δ 12 26 a0).toInt ≤ (q_I d397 12 4 a0).toInt - (q_I δ 12 4 a0).toInt ∧ US ad a0 δ d397 from ⟨i399, ⟨kp_w (by decide) u406, v407, kr_w (by decide) v408⟩, by first | with_reducible assumption | omega, by first | with_reducible assumption | omega, by first | with_reducible assumption | omega, by first | with_reducible assumption | omega, by first | with_reducible assumption | omega, us409⟩)
      · have c415 : r17.1.toInt ≠ (40 : Int) := o_ne h53
        refine ok_bind (k_X12_word L hN (a0 := a0) k_a0 i19) (fun r416 hr417 => ?_)
        obtain ⟨i418, ⟨u421, u422, u423, u424⟩, p419, p420⟩ := hr417
        have u425 := kp_t u27 u421
        have v426 : q_V r416.2 = q_V δ := (u422).trans v28
        have v427 := kr_t v29 u424
        have f428 := cb_12_4 i418 k_a0
        have f429 : hc ad r416.2 a0 = (q_R r416.2 (Ad ad 101) (q_I r416.2 12 4 a0).toNatClampNeg).toInt := rfl
        have t430 := ti_tn (q_I r416.2 12 4 a0)
        have f431 : (q_R r416.2 (Ad ad 101) (q_I r416.2 12 4 a0).toNatClampNeg).toInt = (q_R r17.2 (Ad ad 101) (q_I r416.2 12 4 a0).toNatClampNeg).toInt := congrArg Int32.toInt (congrFun (u424 101 (by decide) (by decide) (by decide)) _)
        have f432 : (q_R r17.2 (Ad ad 101) (q_I r416.2 12 4 a0).toNatClampNeg).toInt = (q_R δ (Ad ad 101) (q_I r416.2 12 4 a0).toNatClampNeg).toInt := congrArg Int32.toInt (congrFun (u26 101 (by decide) (by decide) (by decide)) _)
        have f433 := ti_b (q_R δ (Ad ad 101) (q_I r416.2 12 4 a0).toNatClampNeg)
        have f434 := ti_b (q_R r17.2 (Ad ad 101) (q_I r416.2 12 4 a0).toNatClampNeg)
        have f435 := ti_b (q_R r416.2 (Ad ad 101) (q_I r416.2 12 4 a0).toNatClampNeg)
        have f436 := ti_b r416.1
        have f437 : (q_I r17.2 12 3 a0).toInt = (q_I δ 12 3 a0).toInt := congrArg Int32.toInt (u23 12 3 a0 (by decide))
        have f438 : (q_I r416.2 12 5 a0).toInt = (q_I r17.2 12 5 a0).toInt := congrArg Int32.toInt (u421 12 5 a0 (by decide))
        have us439 : NU ad a0 δ r416.2 := NU.t us42 (show NU ad a0 r17.2 r416.2 from ⟨u424 116 (by decide) (by decide) (by decide), u421 12 26 _ (by decide), u421 12 24 _ (by decide), fun z => by omega⟩)
        refine ok_bind (k_X12_of L hN (a0 := 11) (show 11 < 16 by first | with_reducible assumption | omega) i418) (fun r440 hr441 => ?_)
        obtain ⟨i442, p443⟩ := hr441
        try rw [i442]
        have f444 := ti_b r440.1
        refine ok_ite (fun h445 => ?_) (fun h445 => ?_)
        · have c446 : r416.1.toInt = r440.1.toInt := o_eq h445
          unfold J_X12_unit_176
          refine ok_ite (fun h447 => absurd h447 (by decide)) (fun h447 => ?_)
          refine ok_bind (k_X12_pass L hN (a0 := a0) k_a0 i418) (fun r448 hr449 => ?_)
          obtain ⟨i450, ⟨u453, u454, u455, u456⟩, p451, p452⟩ := hr449
          have u457 := kp_t u425 u453
          have v458 : q_V r448 = q_V δ := (u454).trans v426
          have v459 := kr_t v427 u456
          have f460 := cb_12_4 i450 k_a0
          have f461 : (q_I r416.2 12 3 a0).toInt = (q_I r17.2 12 3 a0).toInt := congrArg Int32.toInt (u421 12 3 a0 (by decide))
          have f462 : (q_I r448 12 5 a0).toInt = (q_I r416.2 12 5 a0).toInt := congrArg Int32.toInt (u453 12 5 a0 (by decide))
          have us463 : NU ad a0 δ r448 := NU.t us439 (show NU ad a0 r416.2 r448 from ⟨u456 116 (by decide) (by decide) (by decide), u453 12 26 _ (by decide), u453 12 24 _ (by decide), fun z => by omega⟩)
          have f466 : (q_I r448 12 24 a0).toInt = (q_I δ 12 24 a0).toInt := ((show (q_I r448 12 24 a0).toInt = (q_I r416.2 12 24 a0).toInt from congrArg Int32.toInt (u453 12 24 a0 (by decide))).trans ((show (q_I r416.2 12 24 a0).toInt = (q_I r17.2 12 24 a0).toInt from congrArg Int32.toInt (u421 12 24 a0 (by decide))).trans (show (q_I r17.2 12 24 a0).toInt = (q_I δ 12 24 a0).toInt from congrArg Int32.toInt (u23 12 24 a0 (by decide)))))
          have f467 : (q_I r448 12 26 a0).toInt = (q_I δ 12 26 a0).toInt := ((show (q_I r448 12 26 a0).toInt = (q_I r416.2 12 26 a0).toInt from congrArg Int32.toInt (u453 12 26 a0 (by decide))).trans ((show (q_I r416.2 12 26 a0).toInt = (q_I r17.2 12 26 a0).toInt from congrArg Int32.toInt (u421 12 26 a0 (by decide))).trans (show (q_I r17.2 12 26 a0).toInt = (q_I δ 12 26 a0).toInt from congrArg Int32.toInt (u23 12 26 a0 (by decide)))))
          refine ok_bind (k_X12_emit L hN (a0 := a0) (x1 := (1 : Int32)) (x2 := (0 : Int32)) k_a0 (show (q_I r448 12 24 a0).toInt ≤ 3 by first | with_reducible assumption | omega) (show (q_I r448 12 5 a0).toInt < 0 → (q_I r448 12 26 a0).toInt < 500 by first | with_reducible assumption | omega) i450) (fun r464 hr465 => ?_)
          obtain ⟨i468, ⟨u473, u474, u475⟩, p469, p470, p471, p472⟩ := hr465
          have u476 := kp_t u457 u473
          have v477 : q_V r464 = q_V δ := (u474).trans v458
          have v478 := kr_t v459 u475
          have f479 := cb_12_26 i468 k_a0
          have us480 : US ad a0 δ r464 := US.em us463 p472 (by decide) (by decide)
          have f481 : (q_I r464 12 4 a0).toInt = (q_I r448 12 4 a0).toInt := congrArg Int32.toInt (u473 12 4 a0 (by decide))
          have f482 : (q_I r464 12 5 a0).toInt = (q_I r448 12 5 a0).toInt := congrArg Int32.toInt (u473 12 5 a0 (by decide))
          have f483 : (q_I r464 12 7 a0).toInt = (q_I δ 12 7 a0).toInt := ((show (q_I r464 12 7 a0).toInt = (q_I r448 12 7 a0).toInt from congrArg Int32.toInt (u473 12 7 a0 (by decide))).trans ((show (q_I r448 12 7 a0).toInt = (q_I r416.2 12 7 a0).toInt from congrArg Int32.toInt (u453 12 7 a0 (by decide))).trans ((show (q_I r416.2 12 7 a0).toInt = (q_I r17.2 12 7 a0).toInt from congrArg Int32.toInt (u421 12 7 a0 (by decide))).trans (show (q_I r17.2 12 7 a0).toInt = (q_I δ 12 7 a0).toInt from congrArg Int32.toInt (u23 12 7 a0 (by decide))))))
          exact ok_some (show RI ad h.1 δ0 r464 ∧ (kp [(12, 4), (12, 5), (12, 6), (12, 7), (12, 26)] δ r464 ∧ q_V r464 = q_V δ ∧ kr ad [116, 117] δ r464) ∧ (q_I δ 12 4 a0).toInt ≤ (q_I r464 12 4 a0).toInt ∧ (q_I δ 12 5 a0).toInt ≤ (q_I r464 12 5 a0).toInt ∧ (q_I r464 12 7 a0).toInt = (q_I δ 12 7 a0).toInt ∧ (q_I δ 12 26 a0).toInt ≤ (q_I r464 12 26 a0).toInt ∧ (q_I r464 12 26 a0).toInt - (q_I δ 12 26 a0).toInt ≤ (q_I r464 12 4 a0).toInt - (q_I δ 12 4 a0).toInt ∧ US ad a0 δ r464 from ⟨i468, ⟨kp_w (by decide) u476, v477, kr_w (by decide) v478⟩, by first | with_reducible assumption | omega, by first | with_reducible assumption | omega, by first | with_reducible assumption | omega, by first | with_reducible assumption | omega, by first | with_reducible assumption | omega, us480⟩)
        · have c484 : r416.1.toInt ≠ r440.1.toInt := o_ne h445
          refine ok_bind (k_X12_of L hN (a0 := 12) (show 12 < 16 by first | with_reducible assumption | omega) i418) (fun r485 hr486 => ?_)
          obtain ⟨i487, p488⟩ := hr486
          try rw [i487]
          have f489 := ti_b r485.1
          refine ok_ite (fun h490 => ?_) (fun h490 => ?_)
          · have c491 : r416.1.toInt = r485.1.toInt := o_eq h490
            unfold J_X12_unit_176
            refine ok_ite (fun h492 => absurd h492 (by decide)) (fun h492 => ?_)
            refine ok_bind (k_X12_pass L hN (a0 := a0) k_a0 i418) (fun r493 hr494 => ?_)
            obtain ⟨i495, ⟨u498, u499, u500, u501⟩, p496, p497⟩ := hr494
            have u502 := kp_t u425 u498
            have v503 : q_V r493 = q_V δ := (u499).trans v426
            have v504 := kr_t v427 u501
            have f505 := cb_12_4 i495 k_a0
            have f506 : (q_I r416.2 12 3 a0).toInt = (q_I r17.2 12 3 a0).toInt := congrArg Int32.toInt (u421 12 3 a0 (by decide))
            have f507 : (q_I r493 12 5 a0).toInt = (q_I r416.2 12 5 a0).toInt := congrArg Int32.toInt (u498 12 5 a0 (by decide))
            have us508 : NU ad a0 δ r493 := NU.t us439 (show NU ad a0 r416.2 r493 from ⟨u501 116 (by decide) (by decide) (by decide), u498 12 26 _ (by decide), u498 12 24 _ (by decide), fun z => by omega⟩)
            have f511 : (q_I r493 12 24 a0).toInt = (q_I δ 12 24 a0).toInt := ((show (q_I r493 12 24 a0).toInt = (q_I r416.2 12 24 a0).toInt from congrArg Int32.toInt (u498 12 24 a0 (by decide))).trans ((show (q_I r416.2 12 24 a0).toInt = (q_I r17.2 12 24 a0).toInt from congrArg Int32.toInt (u421 12 24 a0 (by decide))).trans (show (q_I r17.2 12 24 a0).toInt = (q_I δ 12 24 a0).toInt from congrArg Int32.toInt (u23 12 24 a0 (by decide)))))
            have f512 : (q_I r493 12 26 a0).toInt = (q_I δ 12 26 a0).toInt := ((show (q_I r493 12 26 a0).toInt = (q_I r416.2 12 26 a0).toInt from congrArg Int32.toInt (u498 12 26 a0 (by decide))).trans ((show (q_I r416.2 12 26 a0).toInt = (q_I r17.2 12 26 a0).toInt from congrArg Int32.toInt (u421 12 26 a0 (by decide))).trans (show (q_I r17.2 12 26 a0).toInt = (q_I δ 12 26 a0).toInt from congrArg Int32.toInt (u23 12 26 a0 (by decide)))))
            refine ok_bind (k_X12_emit L hN (a0 := a0) (x1 := (2 : Int32)) (x2 := (0 : Int32)) k_a0 (show (q_I r493 12 24 a0).toInt ≤ 3 by first | with_reducible assumption | omega) (show (q_I r493 12 5 a0).toInt < 0 → (q_I r493 12 26 a0).toInt < 500 by first | with_reducible assumption | omega) i495) (fun r509 hr510 => ?_)
            obtain ⟨i513, ⟨u518, u519, u520⟩, p514, p515, p516, p517⟩ := hr510
            have u521 := kp_t u502 u518
            have v522 : q_V r509 = q_V δ := (u519).trans v503
            have v523 := kr_t v504 u520
            have f524 := cb_12_26 i513 k_a0
            have us525 : US ad a0 δ r509 := US.em us508 p517 (by decide) (by decide)
            have f526 : (q_I r509 12 4 a0).toInt = (q_I r493 12 4 a0).toInt := congrArg Int32.toInt (u518 12 4 a0 (by decide))
            have f527 : (q_I r509 12 5 a0).toInt = (q_I r493 12 5 a0).toInt := congrArg Int32.toInt (u518 12 5 a0 (by decide))
            have f528 : (q_I r509 12 7 a0).toInt = (q_I δ 12 7 a0).toInt := ((show (q_I r509 12 7 a0).toInt = (q_I r493 12 7 a0).toInt from congrArg Int32.toInt (u518 12 7 a0 (by decide))).trans ((show (q_I r493 12 7 a0).toInt = (q_I r416.2 12 7 a0).toInt from congrArg Int32.toInt (u498 12 7 a0 (by decide))).trans ((show (q_I r416.2 12 7 a0).toInt = (q_I r17.2 12 7 a0).toInt from congrArg Int32.toInt (u421 12 7 a0 (by decide))).trans (show (q_I r17.2 12 7 a0).toInt = (q_I δ 12 7 a0).toInt from congrArg Int32.toInt (u23 12 7 a0 (by decide))))))
            exact ok_some (show RI ad h.1 δ0 r509 ∧ (kp [(12, 4), (12, 5), (12, 6), (12, 7), (12, 26)] δ r509 ∧ q_V r509 = q_V δ ∧ kr ad [116, 117] δ r509) ∧ (q_I δ 12 4 a0).toInt ≤ (q_I r509 12 4 a0).toInt ∧ (q_I δ 12 5 a0).toInt ≤ (q_I r509 12 5 a0).toInt ∧ (q_I r509 12 7 a0).toInt = (q_I δ 12 7 a0).toInt ∧ (q_I δ 12 26 a0).toInt ≤ (q_I r509 12 26 a0).toInt ∧ (q_I r509 12 26 a0).toInt - (q_I δ 12 26 a0).toInt ≤ (q_I r509 12 4 a0).toInt - (q_I δ 12 4 a0).toInt ∧ US ad a0 δ r509 from ⟨i513, ⟨kp_w (by decide) u521, v522, kr_w (by decide) v523⟩, by first | with_reducible assumption | omega, by first | with_reducible assumption | omega, by first | with_reducible assumption | omega, by first | with_reducible assumption | omega, by first | with_reducible assumption | omega, us525⟩)
          · have c529 : r416.1.toInt ≠ r485.1.toInt := o_ne h490
            refine ok_bind (k_X12_of L hN (a0 := 13) (show 13 < 16 by first | with_reducible assumption | omega) i418) (fun r530 hr531 => ?_)
            obtain ⟨i532, p533⟩ := hr531
            try rw [i532]
            have f534 := ti_b r530.1
            refine ok_ite (fun h535 => ?_) (fun h535 => ?_)
            · have c536 : r416.1.toInt = r530.1.toInt := o_eq h535
              unfold J_X12_unit_176
              refine ok_ite (fun h537 => absurd h537 (by decide)) (fun h537 => ?_)
              refine ok_bind (k_X12_pass L hN (a0 := a0) k_a0 i418) (fun r538 hr539 => ?_)
              obtain ⟨i540, ⟨u543, u544, u545, u546⟩, p541, p542⟩ := hr539
              have u547 := kp_t u425 u543
              have v548 : q_V r538 = q_V δ := (u544).trans v426
              have v549 := kr_t v427 u546
              have f550 := cb_12_4 i540 k_a0
              have f551 : (q_I r416.2 12 3 a0).toInt = (q_I r17.2 12 3 a0).toInt := congrArg Int32.toInt (u421 12 3 a0 (by decide))
              have f552 : (q_I r538 12 5 a0).toInt = (q_I r416.2 12 5 a0).toInt := congrArg Int32.toInt (u543 12 5 a0 (by decide))
              have us553 : NU ad a0 δ r538 := NU.t us439 (show NU ad a0 r416.2 r538 from ⟨u546 116 (by decide) (by decide) (by decide), u543 12 26 _ (by decide), u543 12 24 _ (by decide), fun z => by omega⟩)
              have f556 : (q_I r538 12 24 a0).toInt = (q_I δ 12 24 a0).toInt := ((show (q_I r538 12 24 a0).toInt = (q_I r416.2 12 24 a0).toInt from congrArg Int32.toInt (u543 12 24 a0 (by decide))).trans ((show (q_I r416.2 12 24 a0).toInt = (q_I r17.2 12 24 a0).toInt from congrArg Int32.toInt (u421 12 24 a0 (by decide))).trans (show (q_I r17.2 12 24 a0).toInt = (q_I δ 12 24 a0).toInt from congrArg Int32.toInt (u23 12 24 a0 (by decide)))))
              have f557 : (q_I r538 12 26 a0).toInt = (q_I δ 12 26 a0).toInt := ((show (q_I r538 12 26 a0).toInt = (q_I r416.2 12 26 a0).toInt from congrArg Int32.toInt (u543 12 26 a0 (by decide))).trans ((show (q_I r416.2 12 26 a0).toInt = (q_I r17.2 12 26 a0).toInt from congrArg Int32.toInt (u421 12 26 a0 (by decide))).trans (show (q_I r17.2 12 26 a0).toInt = (q_I δ 12 26 a0).toInt from congrArg Int32.toInt (u23 12 26 a0 (by decide)))))
              refine ok_bind (k_X12_emit L hN (a0 := a0) (x1 := (3 : Int32)) (x2 := (0 : Int32)) k_a0 (show (q_I r538 12 24 a0).toInt ≤ 3 by first | with_reducible assumption | omega) (show (q_I r538 12 5 a0).toInt < 0 → (q_I r538 12 26 a0).toInt < 500 by first | with_reducible assumption | omega) i540) (fun r554 hr555 => ?_)
              obtain ⟨i558, ⟨u563, u564, u565⟩, p559, p560, p561, p562⟩ := hr555
              have u566 := kp_t u547 u563
              have v567 : q_V r554 = q_V δ := (u564).trans v548
              have v568 := kr_t v549 u565
              have f569 := cb_12_26 i558 k_a0
              have us570 : US ad a0 δ r554 := US.em us553 p562 (by decide) (by decide)
              have f571 : (q_I r554 12 4 a0).toInt = (q_I r538 12 4 a0).toInt := congrArg Int32.toInt (u563 12 4 a0 (by decide))
              have f572 : (q_I r554 12 5 a0).toInt = (q_I r538 12 5 a0).toInt := congrArg Int32.toInt (u563 12 5 a0 (by decide))
              have f573 : (q_I r554 12 7 a0).toInt = (q_I δ 12 7 a0).toInt := ((show (q_I r554 12 7 a0).toInt = (q_I r538 12 7 a0).toInt from congrArg Int32.toInt (u563 12 7 a0 (by decide))).trans ((show (q_I r538 12 7 a0).toInt = (q_I r416.2 12 7 a0).toInt from congrArg Int32.toInt (u543 12 7 a0 (by decide))).trans ((show (q_I r416.2 12 7 a0).toInt = (q_I r17.2 12 7 a0).toInt from congrArg Int32.toInt (u421 12 7 a0 (by decide))).trans (show (q_I r17.2 12 7 a0).toInt = (q_I δ 12 7 a0).toInt from congrArg Int32.toInt (u23 12 7 a0 (by decide))))))
              exact ok_some (show RI ad h.1 δ0 r554 ∧ (kp [(12, 4), (12, 5), (12, 6), (12, 7), (12, 26)] δ r554 ∧ q_V r554 = q_V δ ∧ kr ad [116, 117] δ r554) ∧ (q_I δ 12 4 a0).toInt ≤ (q_I r554 12 4 a0).toInt ∧ (q_I δ 12 5 a0).toInt ≤ (q_I r554 12 5 a0).toInt ∧ (q_I r554 12 7 a0).toInt = (q_I δ 12 7 a0).toInt ∧ (q_I δ 12 26 a0).toInt ≤ (q_I r554 12 26 a0).toInt ∧ (q_I r554 12 26 a0).toInt - (q_I δ 12 26 a0).toInt ≤ (q_I r554 12 4 a0).toInt - (q_I δ 12 4 a0).toInt ∧ US ad a0 δ r554 from ⟨i558, ⟨kp_w (by decide) u566, v567, kr_w (by decide) v568⟩, by first | with_reducible assumption | omega, by first | with_reducible assumption | omega, by first | with_reducible assumption | omega, by first | with_reducible assumption | omega, by first | with_reducible assumption | omega, us570⟩)
            · have c574 : r416.1.toInt ≠ r530.1.toInt := o_ne h535
              refine ok_bind (k_X12_of L hN (a0 := 14) (show 14 < 16 by first | with_reducible assumption | omega) i418) (fun r575 hr576 => ?_)
              obtain ⟨i577, p578⟩ := hr576
              try rw [i577]
              have f579 := ti_b r575.1
              refine ok_ite (fun h580 => ?_) (fun h580 => ?_)
              · have c581 : r416.1.toInt = r575.1.toInt := o_eq h580
                unfold J_X12_unit_176
                refine ok_ite (fun h582 => absurd h582 (by decide)) (fun h582 => ?_)
                refine ok_bind (k_X12_pass L hN (a0 := a0) k_a0 i418) (fun r583 hr584 => ?_)
                obtain ⟨i585, ⟨u588, u589, u590, u591⟩, p586, p587⟩ := hr584
                have u592 := kp_t u425 u588
                have v593 : q_V r583 = q_V δ := (u589).trans v426
                have v594 := kr_t v427 u591
                have f595 := cb_12_4 i585 k_a0
                have f596 : (q_I r416.2 12 3 a0).toInt = (q_I r17.2 12 3 a0).toInt := congrArg Int32.toInt (u421 12 3 a0 (by decide))
                have f597 : (q_I r583 12 5 a0).toInt = (q_I r416.2 12 5 a0).toInt := congrArg Int32.toInt (u588 12 5 a0 (by decide))
                have us598 : NU ad a0 δ r583 := NU.t us439 (show NU ad a0 r416.2 r583 from ⟨u591 116 (by decide) (by decide) (by decide), u588 12 26 _ (by decide), u588 12 24 _ (by decide), fun z => by omega⟩)
                have f601 : (q_I r583 12 24 a0).toInt = (q_I δ 12 24 a0).toInt := ((show (q_I r583 12 24 a0).toInt = (q_I r416.2 12 24 a0).toInt from congrArg Int32.toInt (u588 12 24 a0 (by decide))).trans ((show (q_I r416.2 12 24 a0).toInt = (q_I r17.2 12 24 a0).toInt from congrArg Int32.toInt (u421 12 24 a0 (by decide))).trans (show (q_I r17.2 12 24 a0).toInt = (q_I δ 12 24 a0).toInt from congrArg Int32.toInt (u23 12 24 a0 (by decide)))))
                have f602 : (q_I r583 12 26 a0).toInt = (q_I δ 12 26 a0).toInt := ((show (q_I r583 12 26 a0).toInt = (q_I r416.2 12 26 a0).toInt from congrArg Int32.toInt (u588 12 26 a0 (by decide))).trans ((show (q_I r416.2 12 26 a0).toInt = (q_I r17.2 12 26 a0).toInt from congrArg Int32.toInt (u421 12 26 a0 (by decide))).trans (show (q_I r17.2 12 26 a0).toInt = (q_I δ 12 26 a0).toInt from congrArg Int32.toInt (u23 12 26 a0 (by decide)))))
                refine ok_bind (k_X12_emit L hN (a0 := a0) (x1 := (4 : Int32)) (x2 := (0 : Int32)) k_a0 (show (q_I r583 12 24 a0).toInt ≤ 3 by first | with_reducible assumption | omega) (show (q_I r583 12 5 a0).toInt < 0 → (q_I r583 12 26 a0).toInt < 500 by first | with_reducible assumption | omega) i585) (fun r599 hr600 => ?_)
                obtain ⟨i603, ⟨u608, u609, u610⟩, p604, p605, p606, p607⟩ := hr600
                have u611 := kp_t u592 u608
                have v612 : q_V r599 = q_V δ := (u609).trans v593
                have v613 := kr_t v594 u610
                have f614 := cb_12_26 i603 k_a0
                have us615 : US ad a0 δ r599 := US.em us598 p607 (by decide) (by decide)
                have f616 : (q_I r599 12 4 a0).toInt = (q_I r583 12 4 a0).toInt := congrArg Int32.toInt (u608 12 4 a0 (by decide))
                have f617 : (q_I r599 12 5 a0).toInt = (q_I r583 12 5 a0).toInt := congrArg Int32.toInt (u608 12 5 a0 (by decide))
                have f618 : (q_I r599 12 7 a0).toInt = (q_I δ 12 7 a0).toInt := ((show (q_I r599 12 7 a0).toInt = (q_I r583 12 7 a0).toInt from congrArg Int32.toInt (u608 12 7 a0 (by decide))).trans ((show (q_I r583 12 7 a0).toInt = (q_I r416.2 12 7 a0).toInt from congrArg Int32.toInt (u588 12 7 a0 (by decide))).trans ((show (q_I r416.2 12 7 a0).toInt = (q_I r17.2 12 7 a0).toInt from congrArg Int32.toInt (u421 12 7 a0 (by decide))).trans (show (q_I r17.2 12 7 a0).toInt = (q_I δ 12 7 a0).toInt from congrArg Int32.toInt (u23 12 7 a0 (by decide))))))
                exact ok_some (show RI ad h.1 δ0 r599 ∧ (kp [(12, 4), (12, 5), (12, 6), (12, 7), (12, 26)] δ r599 ∧ q_V r599 = q_V δ ∧ kr ad [116, 117] δ r599) ∧ (q_I δ 12 4 a0).toInt ≤ (q_I r599 12 4 a0).toInt ∧ (q_I δ 12 5 a0).toInt ≤ (q_I r599 12 5 a0).toInt ∧ (q_I r599 12 7 a0).toInt = (q_I δ 12 7 a0).toInt ∧ (q_I δ 12 26 a0).toInt ≤ (q_I r599 12 26 a0).toInt ∧ (q_I r599 12 26 a0).toInt - (q_I δ 12 26 a0).toInt ≤ (q_I r599 12 4 a0).toInt - (q_I δ 12 4 a0).toInt ∧ US ad a0 δ r599 from ⟨i603, ⟨kp_w (by decide) u611, v612, kr_w (by decide) v613⟩, by first | with_reducible assumption | omega, by first | with_reducible assumption | omega, by first | with_reducible assumption | omega, by first | with_reducible assumption | omega, by first | with_reducible assumption | omega, us615⟩)
              · have c619 : r416.1.toInt ≠ r575.1.toInt := o_ne h580
                refine ok_bind (k_X12_of L hN (a0 := 15) (show 15 < 16 by first | with_reducible assumption | omega) i418) (fun r620 hr621 => ?_)
                obtain ⟨i622, p623⟩ := hr621
                try rw [i622]
                have f624 := ti_b r620.1
                refine ok_ite (fun h625 => ?_) (fun h625 => ?_)
                · have c626 : r416.1.toInt = r620.1.toInt := o_eq h625
                  unfold J_X12_unit_176
                  refine ok_ite (fun h627 => absurd h627 (by decide)) (fun h627 => ?_)
                  refine ok_bind (k_X12_pass L hN (a0 := a0) k_a0 i418) (fun r628 hr629 => ?_)
                  obtain ⟨i630, ⟨u633, u634, u635, u636⟩, p631, p632⟩ := hr629
                  have u637 := kp_t u425 u633
                  have v638 : q_V r628 = q_V δ := (u634).trans v426
                  have v639 := kr_t v427 u636
                  have f640 := cb_12_4 i630 k_a0
                  have f641 : (q_I r416.2 12 3 a0).toInt = (q_I r17.2 12 3 a0).toInt := congrArg Int32.toInt (u421 12 3 a0 (by decide))
                  have f642 : (q_I r628 12 5 a0).toInt = (q_I r416.2 12 5 a0).toInt := congrArg Int32.toInt (u633 12 5 a0 (by decide))
                  have us643 : NU ad a0 δ r628 := NU.t us439 (show NU ad a0 r416.2 r628 from ⟨u636 116 (by decide) (by decide) (by decide), u633 12 26 _ (by decide), u633 12 24 _ (by decide), fun z => by omega⟩)
                  have f646 : (q_I r628 12 24 a0).toInt = (q_I δ 12 24 a0).toInt := ((show (q_I r628 12 24 a0).toInt = (q_I r416.2 12 24 a0).toInt from congrArg Int32.toInt (u633 12 24 a0 (by decide))).trans ((show (q_I r416.2 12 24 a0).toInt = (q_I r17.2 12 24 a0).toInt from congrArg Int32.toInt (u421 12 24 a0 (by decide))).trans (show (q_I r17.2 12 24 a0).toInt = (q_I δ 12 24 a0).toInt from congrArg Int32.toInt (u23 12 24 a0 (by decide)))))
                  have f647 : (q_I r628 12 26 a0).toInt = (q_I δ 12 26 a0).toInt := ((show (q_I r628 12 26 a0).toInt = (q_I r416.2 12 26 a0).toInt from congrArg Int32.toInt (u633 12 26 a0 (by decide))).trans ((show (q_I r416.2 12 26 a0).toInt = (q_I r17.2 12 26 a0).toInt from congrArg Int32.toInt (u421 12 26 a0 (by decide))).trans (show (q_I r17.2 12 26 a0).toInt = (q_I δ 12 26 a0).toInt from congrArg Int32.toInt (u23 12 26 a0 (by decide)))))
                  refine ok_bind (k_X12_emit L hN (a0 := a0) (x1 := (5 : Int32)) (x2 := (0 : Int32)) k_a0 (show (q_I r628 12 24 a0).toInt ≤ 3 by first | with_reducible assumption | omega) (show (q_I r628 12 5 a0).toInt < 0 → (q_I r628 12 26 a0).toInt < 500 by first | with_reducible assumption | omega) i630) (fun r644 hr645 => ?_)
                  obtain ⟨i648, ⟨u653, u654, u655⟩, p649, p650, p651, p652⟩ := hr645
                  have u656 := kp_t u637 u653
                  have v657 : q_V r644 = q_V δ := (u654).trans v638
                  have v658 := kr_t v639 u655
                  have f659 := cb_12_26 i648 k_a0
                  have us660 : US ad a0 δ r644 := US.em us643 p652 (by decide) (by decide)
                  have f661 : (q_I r644 12 4 a0).toInt = (q_I r628 12 4 a0).toInt := congrArg Int32.toInt (u653 12 4 a0 (by decide))
                  have f662 : (q_I r644 12 5 a0).toInt = (q_I r628 12 5 a0).toInt := congrArg Int32.toInt (u653 12 5 a0 (by decide))
                  have f663 : (q_I r644 12 7 a0).toInt = (q_I δ 12 7 a0).toInt := ((show (q_I r644 12 7 a0).toInt = (q_I r628 12 7 a0).toInt from congrArg Int32.toInt (u653 12 7 a0 (by decide))).trans ((show (q_I r628 12 7 a0).toInt = (q_I r416.2 12 7 a0).toInt from congrArg Int32.toInt (u633 12 7 a0 (by decide))).trans ((show (q_I r416.2 12 7 a0).toInt = (q_I r17.2 12 7 a0).toInt from congrArg Int32.toInt (u421 12 7 a0 (by decide))).trans (show (q_I r17.2 12 7 a0).toInt = (q_I δ 12 7 a0).toInt from congrArg Int32.toInt (u23 12 7 a0 (by decide))))))
                  exact ok_some (show RI ad h.1 δ0 r644 ∧ (kp [(12, 4), (12, 5), (12, 6), (12, 7), (12, 26)] δ r644 ∧ q_V r644 = q_V δ ∧ kr ad [116, 117] δ r644) ∧ (q_I δ 12 4 a0).toInt ≤ (q_I r644 12 4 a0).toInt ∧ (q_I δ 12 5 a0).toInt ≤ (q_I r644 12 5 a0).toInt ∧ (q_I r644 12 7 a0).toInt = (q_I δ 12 7 a0).toInt ∧ (q_I δ 12 26 a0).toInt ≤ (q_I r644 12 26 a0).toInt ∧ (q_I r644 12 26 a0).toInt - (q_I δ 12 26 a0).toInt ≤ (q_I r644 12 4 a0).toInt - (q_I δ 12 4 a0).toInt ∧ US ad a0 δ r644 from ⟨i648, ⟨kp_w (by decide) u656, v657, kr_w (by decide) v658⟩, by first | with_reducible assumption | omega, by first | with_reducible assumption | omega, by first | with_reducible assumption | omega, by first | with_reducible assumption | omega, by first | with_reducible assumption | omega, us660⟩)
                · have c664 : r416.1.toInt ≠ r620.1.toInt := o_ne h625
                  unfold J_X12_unit_176
                  refine ok_ite (fun h665 => ?_) (fun h665 => absurd (by decide) h665)
                  refine ok_bind (k_X12_wrong L hN (a0 := a0) (x1 := (1 : Int32)) (x2 := (q_I r416.2 12 4 a0)) k_a0 (show 0 ≤ ((q_I r416.2 12 4 a0)).toInt by first | with_reducible assumption | omega) (show ((q_I r416.2 12 4 a0)).toInt ≤ 500 by first | with_reducible assumption | omega) (show 0 ≤ (1 : Int) by first | with_reducible assumption | omega) (show (1 : Int) ≤ 4 by first | with_reducible assumption | omega) i418) (fun r666 hr667 => ?_)
                  obtain ⟨i668, ⟨u671, u672, u673, u674⟩, p669, p670⟩ := hr667
                  have u675 := kp_t u425 u671
                  have v676 : q_V r666 = q_V δ := (u672).trans v426
                  have v677 := kr_t v427 u674
                  have f678 := cb_12_5 i668 k_a0
                  have us679 : NU ad a0 δ r666 := NU.t us439 (show NU ad a0 r416.2 r666 from ⟨u674 116 (by decide) (by decide) (by decide), u671 12 26 _ (by decide), u671 12 24 _ (by decide), fun z => by omega⟩)
                  have f680 : (q_I r666 12 4 a0).toInt = (q_I r416.2 12 4 a0).toInt := congrArg Int32.toInt (u671 12 4 a0 (by decide))
                  have f681 : (q_I r666 12 7 a0).toInt = (q_I δ 12 7 a0).toInt := ((show (q_I r666 12 7 a0).toInt = (q_I r416.2 12 7 a0).toInt from congrArg Int32.toInt (u671 12 7 a0 (by decide))).trans ((show (q_I r416.2 12 7 a0).toInt = (q_I r17.2 12 7 a0).toInt from congrArg Int32.toInt (u421 12 7 a0 (by decide))).trans (show (q_I r17.2 12 7 a0).toInt = (q_I δ 12 7 a0).toInt from congrArg Int32.toInt (u23 12 7 a0 (by decide)))))
                  have f682 : (q_I r666 12 26 a0).toInt = (q_I δ 12 26 a0).toInt := ((show (q_I r666 12 26 a0).toInt = (q_I r416.2 12 26 a0).toInt from congrArg Int32.toInt (u671 12 26 a0 (by decide))).trans ((show (q_I r416.2 12 26 a0).toInt = (q_I r17.2 12 26 a0).toInt from congrArg Int32.toInt (u421 12 26 a0 (by decide))).trans (show (q_I r17.2 12 26 a0).toInt = (q_I δ 12 26 a0).toInt from congrArg Int32.toInt (u23 12 26 a0 (by decide)))))
                  exact ok_some (show RI ad h.1 δ0 r666 ∧ (kp [(12, 4), (12, 5), (12, 6), (12, 7), (12, 26)] δ r666 ∧ q_V r666 = q_V δ ∧ kr ad [116, 117] δ r666) ∧ (q_I δ 12 4 a0).toInt ≤ (q_I r666 12 4 a0).toInt ∧ (q_I δ 12 5 a0).toInt ≤ (q_I r666 12 5 a0).toInt ∧ (q_I r666 12 7 a0).toInt = (q_I δ 12 7 a0).toInt ∧ (q_I δ 12 26 a0).toInt ≤ (q_I r666 12 26 a0).toInt ∧ (q_I r666 12 26 a0).toInt - (q_I δ 12 26 a0).toInt ≤ (q_I r666 12 4 a0).toInt - (q_I δ 12 4 a0).toInt ∧ US ad a0 δ r666 from ⟨i668, ⟨kp_w (by decide) u675, v676, kr_w (by decide) v677⟩, by first | with_reducible assumption | omega, by first | with_reducible assumption | omega, by first | with_reducible assumption | omega, by first | with_reducible assumption | omega, by first | with_reducible assumption | omega, US.bad us679 (by omega)⟩)
    · have c683 : r43.1.toInt ≠ (0 : Int) := o_ne h51
      refine ok_bind (k_X12_readNumber L hN (a0 := a0) (x1 := (0 : Int32)) (x2 := (99999 : Int32)) k_a0 i19) (fun r684 hr685 => ?_)
      obtain ⟨i686, ⟨u693, u694, u695, u696⟩, p687, p688, p689, p690, p691, p692⟩ := hr685
      have u697 := kp_t u27 u693
      have v698 : q_V r684.2 = q_V δ := (u694).trans v28
      have v699 := kr_t v29 u696
      have f700 := cb_12_4 i686 k_a0
      have f701 := cb_12_5 i686 k_a0
      have f702 := ti_b r684.1
      replace p692 : ((q_I r684.2 12 5 a0).toInt < 0 → (0 : Int) ≤ (r684.1).toInt ∧ (r684.1).toInt ≤ (99999 : Int)) := p692
      have us703 : NU ad a0 δ r684.2 := NU.t us42 (show NU ad a0 r17.2 r684.2 from ⟨u696 116 (by decide) (by decide) (by decide), u693 12 26 _ (by decide), u693 12 24 _ (by decide), fun z => by omega⟩)
      have f706 : (q_I r684.2 12 24 a0).toInt = (q_I δ 12 24 a0).toInt := ((show (q_I r684.2 12 24 a0).toInt = (q_I r17.2 12 24 a0).toInt from congrArg Int32.toInt (u693 12 24 a0 (by decide))).trans (show (q_I r17.2 12 24 a0).toInt = (q_I δ 12 24 a0).toInt from congrArg Int32.toInt (u23 12 24 a0 (by decide))))
      have f707 : (q_I r684.2 12 26 a0).toInt = (q_I δ 12 26 a0).toInt := ((show (q_I r684.2 12 26 a0).toInt = (q_I r17.2 12 26 a0).toInt from congrArg Int32.toInt (u693 12 26 a0 (by decide))).trans (show (q_I r17.2 12 26 a0).toInt = (q_I δ 12 26 a0).toInt from congrArg Int32.toInt (u23 12 26 a0 (by decide))))
      refine ok_bind (k_X12_emit L hN (a0 := a0) (x1 := (0 : Int32)) (x2 := r684.1) k_a0 (show (q_I r684.2 12 24 a0).toInt ≤ 3 by first | with_reducible assumption | omega) (show (q_I r684.2 12 5 a0).toInt < 0 → (q_I r684.2 12 26 a0).toInt < 500 by first | with_reducible assumption | omega) i686) (fun r704 hr705 => ?_)
      obtain ⟨i708, ⟨u713, u714, u715⟩, p709, p710, p711, p712⟩ := hr705
      have u716 := kp_t u697 u713
      have v717 : q_V r704 = q_V δ := (u714).trans v698
      have v718 := kr_t v699 u715
      have f719 := cb_12_26 i708 k_a0
      have us720 : US ad a0 δ r704 := US.em us703 p712 (by decide) (by decide)
      have f721 : (q_I r704 12 4 a0).toInt = (q_I r684.2 12 4 a0).toInt := congrArg Int32.toInt (u713 12 4 a0 (by decide))
      have f722 : (q_I r704 12 5 a0).toInt = (q_I r684.2 12 5 a0).toInt := congrArg Int32.toInt (u713 12 5 a0 (by decide))
      have f723 : (q_I r704 12 7 a0).toInt = (q_I δ 12 7 a0).toInt := ((show (q_I r704 12 7 a0).toInt = (q_I r684.2 12 7 a0).toInt from congrArg Int32.toInt (u713 12 7 a0 (by decide))).trans ((show (q_I r684.2 12 7 a0).toInt = (q_I r17.2 12 7 a0).toInt from congrArg Int32.toInt (u693 12 7 a0 (by decide))).trans (show (q_I r17.2 12 7 a0).toInt = (q_I δ 12 7 a0).toInt from congrArg Int32.toInt (u23 12 7 a0 (by decide)))))
      exact ok_some (show RI ad h.1 δ0 r704 ∧ (kp [(12, 4), (12, 5), (12, 6), (12, 7), (12, 26)] δ r704 ∧ q_V r704 = q_V δ ∧ kr ad [116, 117] δ r704) ∧ (q_I δ 12 4 a0).toInt ≤ (q_I r704 12 4 a0).toInt ∧ (q_I δ 12 5 a0).toInt ≤ (q_I r704 12 5 a0).toInt ∧ (q_I r704 12 7 a0).toInt = (q_I δ 12 7 a0).toInt ∧ (q_I δ 12 26 a0).toInt ≤ (q_I r704 12 26 a0).toInt ∧ (q_I r704 12 26 a0).toInt - (q_I δ 12 26 a0).toInt ≤ (q_I r704 12 4 a0).toInt - (q_I δ 12 4 a0).toInt ∧ US ad a0 δ r704 from ⟨i708, ⟨kp_w (by decide) u716, v717, kr_w (by decide) v718⟩, by first | with_reducible assumption | omega, by first | with_reducible assumption | omega, by first | with_reducible assumption | omega, by first | with_reducible assumption | omega, by first | with_reducible assumption | omega, us720⟩)
