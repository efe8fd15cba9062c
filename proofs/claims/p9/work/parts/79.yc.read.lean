/-! 79.yc.read (by gen_safe.py) -/
set_option maxHeartbeats 4000000 in
theorem kj_X12_readSteps_79 {ad : List Nat} {h : hp} (L : Lay TLx ad h) {δ0 : dp} {N : Nat} (hN : 10000000 ≤ N) {T : Nat → dp → Option (dp)} {K : Int} (hT : ∀ (a0 : Nat) (δ : dp), q_K h.1 a0 = 12 → (q_I δ 12 24 a0).toInt ≤ 3 → (q_I δ 12 26 a0).toInt ≤ (q_I δ 12 4 a0).toInt → (q_I δ 12 7 a0).toInt = 0 → 4 - (q_I δ 12 27 a0).toInt < K → RI ad h.1 δ0 δ → ok (T a0 δ) (fun r => RI ad h.1 δ0 r ∧ (kp [(12, 4), (12, 5), (12, 6), (12, 7), (12, 25), (12, 26), (12, 27)] δ r ∧ q_V r = q_V δ ∧ kr ad [113, 114, 115, 116, 117] δ r) ∧ (q_I δ 12 4 a0).toInt ≤ (q_I r 12 4 a0).toInt ∧ (q_I δ 12 5 a0).toInt ≤ (q_I r 12 5 a0).toInt ∧ (q_I r 12 7 a0).toInt = (q_I δ 12 7 a0).toInt ∧ (q_I r 12 27 a0).toInt = (q_I δ 12 27 a0).toInt ∧ (q_I r 12 26 a0).toInt ≤ (q_I r 12 4 a0).toInt ∧ SS ad a0 δ r)) {a0 : Nat} {kt0 : dp → Option (dp)} {K0 : Int} (h_kt0 : ∀ (δ : dp), RI ad h.1 δ0 δ → (q_I δ 12 24 a0).toInt ≤ 3 → (q_I δ 12 26 a0).toInt ≤ (q_I δ 12 4 a0).toInt → (q_I δ 12 7 a0).toInt = 0 → 4 - (q_I δ 12 27 a0).toInt ≤ K → 501 - (q_I δ 12 4 a0).toInt < K0 → ok (kt0 δ) (fun r => RI ad h.1 δ0 r ∧ (kp [(12, 4), (12, 5), (12, 6), (12, 7), (12, 25), (12, 26), (12, 27)] δ r ∧ q_V r = q_V δ ∧ kr ad [113, 114, 115, 116, 117] δ r) ∧ (q_I δ 12 4 a0).toInt ≤ (q_I r 12 4 a0).toInt ∧ (q_I δ 12 5 a0).toInt ≤ (q_I r 12 5 a0).toInt ∧ (q_I r 12 7 a0).toInt = (q_I δ 12 7 a0).toInt ∧ (q_I r 12 27 a0).toInt = (q_I δ 12 27 a0).toInt ∧ (q_I r 12 26 a0).toInt ≤ (q_I r 12 4 a0).toInt ∧ SS ad a0 δ r)) {x1v : Int32} (k_a0 : q_K h.1 a0 = 12) {δ : dp} (z0 : (q_I δ 12 24 a0).toInt ≤ 3) (z1 : (q_I δ 12 26 a0).toInt ≤ (q_I δ 12 4 a0).toInt) (z2 : (q_I δ 12 7 a0).toInt = 0) (z3 : 4 - (q_I δ 12 27 a0).toInt ≤ K) (z4 : -1 ≤ (x1v).toInt) (z5 : (x1v).toInt ≤ 5) (z6 : (q_I δ 12 5 a0).toInt < 0 → 0 ≤ (x1v).toInt) (z7 : (q_I δ 12 5 a0).toInt < 0 → (q_I δ 12 25 a0).toInt ≤ 59) (z8 : (q_I δ 12 5 a0).toInt < 0 → (x1v).toInt = 5 → (q_I δ 12 27 a0).toInt ≤ 2) (z9 : (q_I δ 12 5 a0).toInt < 0 → (q_I δ 12 4 a0).toInt < (q_I δ 12 3 a0).toInt ∧ 97 ≤ hc ad δ a0 ∧ hc ad δ a0 ≤ 122) (z10 : 501 - (q_I δ 12 4 a0).toInt ≤ K0) (I : RI ad h.1 δ0 δ) : ok (J_X12_readSteps_79 N h.1 T a0 kt0 x1v δ) (fun r => RI ad h.1 δ0 r ∧ (kp [(12, 4), (12, 5), (12, 6), (12, 7), (12, 25), (12, 26), (12, 27)] δ r ∧ q_V r = q_V δ ∧ kr ad [113, 114, 115, 116, 117] δ r) ∧ (q_I δ 12 4 a0).toInt ≤ (q_I r 12 4 a0).toInt ∧ (q_I δ 12 5 a0).toInt ≤ (q_I r 12 5 a0).toInt ∧ (q_I r 12 7 a0).toInt = (q_I δ 12 7 a0).toInt ∧ (q_I r 12 27 a0).toInt = (q_I δ 12 27 a0).toInt ∧ (q_I r 12 26 a0).toInt ≤ (q_I r 12 4 a0).toInt ∧ SS ad a0 δ r) := by
  unfold J_X12_readSteps_79
  have f1 : hc ad δ a0 = (q_R δ (Ad ad 101) (q_I δ 12 4 a0).toNatClampNeg).toInt := rfl
  have f2 := cb_12_4 I k_a0
  have t3 := ti_tn (q_I δ 12 4 a0)
  have f4 := ti_b (q_R δ (Ad ad 101) (q_I δ 12 4 a0).toNatClampNeg)
  have f5 := cb_12_24 I k_a0
  have f6 := cb_12_26 I k_a0
  have f7 := ti_b (q_I δ 12 7 a0)
  have f8 := cb_12_27 I k_a0
  have f9 := ti_b x1v
  have f10 := cb_12_5 I k_a0
  have f11 := cb_12_25 I k_a0
  have f12 := cb_12_3 I k_a0
  refine ok_bind (k_X12_fine L hN (a0 := a0) k_a0 I) (fun r13 hr14 => ?_)
  obtain ⟨i15, p16, p17, p18⟩ := hr14
  try rw [i15]
  have f19 := bo_l p16
  have f20 := ti_b r13.1
  have f21 := ti_b r13.1
  refine ok_ite (fun h22 => ?_) (fun h22 => ?_)
  · have c23 : r13.1.toInt = (0 : Int) := o_eq h22
    exact ok_some (show RI ad h.1 δ0 δ ∧ (kp [(12, 4), (12, 5), (12, 6), (12, 7), (12, 25), (12, 26), (12, 27)] δ δ ∧ q_V δ = q_V δ ∧ kr ad [113, 114, 115, 116, 117] δ δ) ∧ (q_I δ 12 4 a0).toInt ≤ (q_I δ 12 4 a0).toInt ∧ (q_I δ 12 5 a0).toInt ≤ (q_I δ 12 5 a0).toInt ∧ (q_I δ 12 7 a0).toInt = (q_I δ 12 7 a0).toInt ∧ (q_I δ 12 27 a0).toInt = (q_I δ 12 27 a0).toInt ∧ (q_I δ 12 26 a0).toInt ≤ (q_I δ 12 4 a0).toInt ∧ SS ad a0 δ δ from ⟨I, ⟨kp_w (by decide) kp_r, rfl, kr_w (by decide) (kr_r (ad := ad))⟩, by first | assumption | omega, by first | assumption | omega, by first | assumption | omega, by first | assumption | omega, by first | assumption | omega, SS.n NS.r⟩)
  · have c24 : r13.1.toInt ≠ (0 : Int) := o_ne h22
    refine ok_bind (k_X12_pass L hN (a0 := a0) k_a0 I) (fun r25 hr26 => ?_)
    obtain ⟨i27, ⟨u30, u31, u32, u33⟩, p28, p29⟩ := hr26
    have u34 := kp_t kp_r u30
    have v35 : q_V r25 = q_V δ := (u31).trans rfl
    have v36 := kr_t (kr_r (ad := ad)) u33
    have f37 := cb_12_4 i27 k_a0
    have f39 := cb_12_5 i27 k_a0
    have f40 : (q_I r25 12 5 a0).toInt = (q_I δ 12 5 a0).toInt := congrArg Int32.toInt (u30 12 5 a0 (by decide))
    have ns38 : NS ad a0 δ r25 := ⟨u33 112 (by decide) (by decide) (by decide), u33 113 (by decide) (by decide) (by decide), u33 114 (by decide) (by decide) (by decide), u33 115 (by decide) (by decide) (by decide), u33 116 (by decide) (by decide) (by decide), u30 12 24 _ (by decide), u30 12 25 _ (by decide), u30 12 26 _ (by decide), u30 12 27 _ (by decide), fun z => by omega⟩
    have f44 := cb_12_24 i27 k_a0
    have f45 : (q_I r25 12 24 a0).toInt = (q_I δ 12 24 a0).toInt := congrArg Int32.toInt (u30 12 24 a0 (by decide))
    first | (have q46 := te_mulc (c := 60) (n := 60) rfl (q_I r25 12 24 a0) (by omega) (by omega); obtain ⟨f47, f48, f49⟩ := q46) | (obtain ⟨q46, f47, f48, f49⟩ := ti_mulc (c := 60) (n := 60) rfl (q_I r25 12 24 a0))
    have f50 := cb_12_25 i27 k_a0
    have f51 : (q_I r25 12 25 a0).toInt = (q_I δ 12 25 a0).toInt := congrArg Int32.toInt (u30 12 25 a0 (by decide))
    refine ok_biv (fun vx41 e42 => ?_)
    first | (have q52 := te_add ((60 : Int32) * (q_I r25 12 24 a0)) (q_I r25 12 25 a0) (by omega) (by omega); rw [← e42] at q52; obtain ⟨f53, f54, f55⟩ := q52) | (obtain ⟨q52, f53, f54, f55⟩ : ∃ q : Int, vx41.toInt = ((60 : Int32) * (q_I r25 12 24 a0)).toInt + (q_I r25 12 25 a0).toInt + 4294967296 * q ∧ -2147483648 ≤ vx41.toInt ∧ vx41.toInt ≤ 2147483647 := by rw [e42]; exact ti_add ((60 : Int32) * (q_I r25 12 24 a0)) (q_I r25 12 25 a0))
    first | (have q60 := te_addc (c := 1) (n := 1) rfl (q_I r25 12 25 a0) (by omega) (by omega); obtain ⟨f61, f62, f63⟩ := q60) | (obtain ⟨q60, f61, f62, f63⟩ := ti_addc (c := 1) (n := 1) rfl (q_I r25 12 25 a0))
    refine ok_bdv (fun d56 e57 => ?_)
    have i58 : RI ad h.1 δ0 d56 := by rw [e57]; exact cs_12_25 L i27 k_a0 (show 0 ≤ ((q_I r25 12 25 a0) + (1 : Int32)).toInt by omega) (show ((q_I r25 12 25 a0) + (1 : Int32)).toInt ≤ 60 by omega)
    have u64 := kp_I u34 e57
    have v65 : q_V d56 = q_V δ := ((show q_V d56 = q_V r25 by rw [e57]; rfl)).trans v35
    have v66 := kr_N v36 (show q_R d56 = q_R r25 by rw [e57]; rfl)
    obtain ⟨b67, o68, k69, n70, w71⟩ := gO_12_29 L k_a0
    obtain rfl := gS_12_29 L k_a0 o68
    refine ok_at o68 ?_
    have t72 := ti_tn vx41
    refine ok_gd (fun hc73 => ?_) ?_
    · rcases hc73 with hc73 | hc73
      · have c74 : vx41.toInt < (0 : Int) := o_lt hc73
        omega
      · omega
    refine ok_bdv (fun d75 e76 => ?_)
    have i77 : RI ad h.1 δ0 d75 := by rw [e76]; exact RI.sR L i58 w71
    have u78 := kp_N u64 (show q_I d75 = q_I d56 by rw [e76]; rfl)
    have v79 : q_V d75 = q_V δ := ((show q_V d75 = q_V d56 by rw [e76]; rfl)).trans v65
    have v80 := kr_s L (by decide) v66 e76
    refine ok_ite (fun h81 => ?_) (fun h81 => ?_)
    · have c82 : x1v.toInt = (5 : Int) := o_eq h81
      obtain ⟨b83, o84, k85, n86, w87⟩ := gO_12_30 L k_a0
      obtain rfl := gS_12_30 L k_a0 o84
      refine ok_at o84 ?_
      refine ok_bind (k_X12_readNumber L hN (a0 := a0) (x1 := (1 : Int32)) (x2 := (99 : Int32)) k_a0 i77) (fun r88 hr89 => ?_)
      obtain ⟨i90, ⟨u97, u98, u99, u100⟩, p91, p92, p93, p94, p95, p96⟩ := hr89
      have u101 := kp_t u78 u97
      have v102 : q_V r88.2 = q_V δ := (u98).trans v79
      have v103 := kr_t v80 u100
      have f104 := cb_12_4 i77 k_a0
      have f105 : (q_I d75 12 4 a0).toInt = (q_I d56 12 4 a0).toInt := congrArg Int32.toInt (by rw [e76]; rfl)
      have f106 := cb_12_4 i58 k_a0
      have f107 : (q_I d56 12 4 a0).toInt = (q_I r25 12 4 a0).toInt := congrArg Int32.toInt (by rw [e57]; exact rI_o (by decide))
      have f108 := cb_12_4 i90 k_a0
      have f109 := cb_12_5 i77 k_a0
      have f110 : (q_I d75 12 5 a0).toInt = (q_I d56 12 5 a0).toInt := congrArg Int32.toInt (by rw [e76]; rfl)
      have f111 := cb_12_5 i58 k_a0
      have f112 : (q_I d56 12 5 a0).toInt = (q_I r25 12 5 a0).toInt := congrArg Int32.toInt (by rw [e57]; exact rI_o (by decide))
      have f113 := cb_12_5 i90 k_a0
      have f114 := ti_b r88.1
      replace p96 : ((q_I r88.2 12 5 a0).toInt < 0 → (1 : Int) ≤ (r88.1).toInt ∧ (r88.1).toInt ≤ (99 : Int)) := p96
      have f115 := ti_b r88.1
      have ns116 : NS ad a0 d75 r88.2 := ⟨u100 112 (by decide) (by decide) (by decide), u100 113 (by decide) (by decide) (by decide), u100 114 (by decide) (by decide) (by decide), u100 115 (by decide) (by decide) (by decide), u100 116 (by decide) (by decide) (by decide), u97 12 24 _ (by decide), u97 12 25 _ (by decide), u97 12 26 _ (by decide), u97 12 27 _ (by decide), fun z => by omega⟩
      refine ok_gd (fun hc117 => ?_) ?_
      · rcases hc117 with hc117 | hc117
        · have c118 : vx41.toInt < (0 : Int) := o_lt hc117
          omega
        · omega
      refine ok_bdv (fun d119 e120 => ?_)
      have i121 : RI ad h.1 δ0 d119 := by rw [e120]; exact RI.sR L i90 w87
      have u122 := kp_N u101 (show q_I d119 = q_I r88.2 by rw [e120]; rfl)
      have v123 : q_V d119 = q_V δ := ((show q_V d119 = q_V r88.2 by rw [e120]; rfl)).trans v102
      have v124 := kr_s L (by decide) v103 e120
      refine ok_bind (k_X12_sign L hN (a0 := a0) (x1 := (91 : Int32)) k_a0 (show (91 : Int) ≠ 0 by first | assumption | omega) i121) (fun r125 hr126 => ?_)
      obtain ⟨i127, ⟨u131, u132, u133, u134⟩, p128, p129, p130⟩ := hr126
      have u135 := kp_t u122 u131
      have v136 : q_V r125 = q_V δ := (u132).trans v123
      have v137 := kr_t v124 u134
      have f138 := cb_12_4 i121 k_a0
      have f139 : (q_I d119 12 4 a0).toInt = (q_I r88.2 12 4 a0).toInt := congrArg Int32.toInt (by rw [e120]; rfl)
      have f140 := cb_12_4 i127 k_a0
      have f141 := cb_12_5 i121 k_a0
      have f142 : (q_I d119 12 5 a0).toInt = (q_I r88.2 12 5 a0).toInt := congrArg Int32.toInt (by rw [e120]; rfl)
      have f143 := cb_12_5 i127 k_a0
      have ns144 : NS ad a0 d119 r125 := ⟨u134 112 (by decide) (by decide) (by decide), u134 113 (by decide) (by decide) (by decide), u134 114 (by decide) (by decide) (by decide), u134 115 (by decide) (by decide) (by decide), u134 116 (by decide) (by decide) (by decide), u131 12 24 _ (by decide), u131 12 25 _ (by decide), u131 12 26 _ (by decide), u131 12 27 _ (by decide), fun z => by omega⟩
      have f148 := cb_12_27 i127 k_a0
      have f149 : (q_I r125 12 27 a0).toInt = (q_I d119 12 27 a0).toInt := congrArg Int32.toInt (u131 12 27 a0 (by decide))
      have f150 := cb_12_27 i121 k_a0
      have f151 : (q_I d119 12 27 a0).toInt = (q_I r88.2 12 27 a0).toInt := congrArg Int32.toInt (by rw [e120]; rfl)
      have f152 := cb_12_27 i90 k_a0
      have f153 : (q_I r88.2 12 27 a0).toInt = (q_I d75 12 27 a0).toInt := congrArg Int32.toInt (u97 12 27 a0 (by decide))
      have f154 := cb_12_27 i77 k_a0
      have f155 : (q_I d75 12 27 a0).toInt = (q_I d56 12 27 a0).toInt := congrArg Int32.toInt (by rw [e76]; rfl)
      have f156 := cb_12_27 i58 k_a0
      have f157 : (q_I d56 12 27 a0).toInt = (q_I r25 12 27 a0).toInt := congrArg Int32.toInt (by rw [e57]; exact rI_o (by decide))
      have f158 := cb_12_27 i27 k_a0
      have f159 : (q_I r25 12 27 a0).toInt = (q_I δ 12 27 a0).toInt := congrArg Int32.toInt (u30 12 27 a0 (by decide))
      first | (have q161 := te_addc (c := 1) (n := 1) rfl (q_I r125 12 27 a0) (by omega) (by omega); obtain ⟨f162, f163, f164⟩ := q161) | (obtain ⟨q161, f162, f163, f164⟩ := ti_addc (c := 1) (n := 1) rfl (q_I r125 12 27 a0))
      refine ok_bdv (fun d145 e146 => ?_)
      have i147 : RI ad h.1 δ0 d145 := by rw [e146]; exact cs_12_27 L i127 k_a0 (show 0 ≤ ((q_I r125 12 27 a0) + (1 : Int32)).toInt by omega) (show ((q_I r125 12 27 a0) + (1 : Int32)).toInt ≤ 3 by omega)
      have u165 := kp_I u135 e146
      have v166 : q_V d145 = q_V δ := ((show q_V d145 = q_V r125 by rw [e146]; rfl)).trans v136
      have v167 := kr_N v137 (show q_R d145 = q_R r125 by rw [e146]; rfl)
      have f170 := cb_12_24 i147 k_a0
      have f171 : (q_I d145 12 24 a0).toInt = (q_I r125 12 24 a0).toInt := congrArg Int32.toInt (by rw [e146]; exact rI_o (by decide))
      have f172 := cb_12_24 i127 k_a0
      have f173 : (q_I r125 12 24 a0).toInt = (q_I d119 12 24 a0).toInt := congrArg Int32.toInt (u131 12 24 a0 (by decide))
      have f174 := cb_12_24 i121 k_a0
      have f175 : (q_I d119 12 24 a0).toInt = (q_I r88.2 12 24 a0).toInt := congrArg Int32.toInt (by rw [e120]; rfl)
      have f176 := cb_12_24 i90 k_a0
      have f177 : (q_I r88.2 12 24 a0).toInt = (q_I d75 12 24 a0).toInt := congrArg Int32.toInt (u97 12 24 a0 (by decide))
      have f178 := cb_12_24 i77 k_a0
      have f179 : (q_I d75 12 24 a0).toInt = (q_I d56 12 24 a0).toInt := congrArg Int32.toInt (by rw [e76]; rfl)
      have f180 := cb_12_24 i58 k_a0
      have f181 : (q_I d56 12 24 a0).toInt = (q_I r25 12 24 a0).toInt := congrArg Int32.toInt (by rw [e57]; exact rI_o (by decide))
      have f182 := cb_12_26 i147 k_a0
      have f183 : (q_I d145 12 26 a0).toInt = (q_I r125 12 26 a0).toInt := congrArg Int32.toInt (by rw [e146]; exact rI_o (by decide))
      have f184 := cb_12_26 i127 k_a0
      have f185 : (q_I r125 12 26 a0).toInt = (q_I d119 12 26 a0).toInt := congrArg Int32.toInt (u131 12 26 a0 (by decide))
      have f186 := cb_12_26 i121 k_a0
      have f187 : (q_I d119 12 26 a0).toInt = (q_I r88.2 12 26 a0).toInt := congrArg Int32.toInt (by rw [e120]; rfl)
      have f188 := cb_12_26 i90 k_a0
      have f189 : (q_I r88.2 12 26 a0).toInt = (q_I d75 12 26 a0).toInt := congrArg Int32.toInt (u97 12 26 a0 (by decide))
      have f190 := cb_12_26 i77 k_a0
      have f191 : (q_I d75 12 26 a0).toInt = (q_I d56 12 26 a0).toInt := congrArg Int32.toInt (by rw [e76]; rfl)
      have f192 := cb_12_26 i58 k_a0
      have f193 : (q_I d56 12 26 a0).toInt = (q_I r25 12 26 a0).toInt := congrArg Int32.toInt (by rw [e57]; exact rI_o (by decide))
      have f194 := cb_12_26 i27 k_a0
      have f195 : (q_I r25 12 26 a0).toInt = (q_I δ 12 26 a0).toInt := congrArg Int32.toInt (u30 12 26 a0 (by decide))
      have f196 := cb_12_4 i147 k_a0
      have f197 : (q_I d145 12 4 a0).toInt = (q_I r125 12 4 a0).toInt := congrArg Int32.toInt (by rw [e146]; exact rI_o (by decide))
      have f198 := ti_b (q_I d145 12 7 a0)
      have f199 : (q_I d145 12 7 a0).toInt = (q_I r125 12 7 a0).toInt := congrArg Int32.toInt (by rw [e146]; exact rI_o (by decide))
      have f200 := ti_b (q_I r125 12 7 a0)
      have f201 : (q_I r125 12 7 a0).toInt = (q_I d119 12 7 a0).toInt := congrArg Int32.toInt (u131 12 7 a0 (by decide))
      have f202 := ti_b (q_I d119 12 7 a0)
      have f203 : (q_I d119 12 7 a0).toInt = (q_I r88.2 12 7 a0).toInt := congrArg Int32.toInt (by rw [e120]; rfl)
      have f204 := ti_b (q_I r88.2 12 7 a0)
      have f205 : (q_I r88.2 12 7 a0).toInt = (q_I d75 12 7 a0).toInt := congrArg Int32.toInt (u97 12 7 a0 (by decide))
      have f206 := ti_b (q_I d75 12 7 a0)
      have f207 : (q_I d75 12 7 a0).toInt = (q_I d56 12 7 a0).toInt := congrArg Int32.toInt (by rw [e76]; rfl)
      have f208 := ti_b (q_I d56 12 7 a0)
      have f209 : (q_I d56 12 7 a0).toInt = (q_I r25 12 7 a0).toInt := congrArg Int32.toInt (by rw [e57]; exact rI_o (by decide))
      have f210 := ti_b (q_I r25 12 7 a0)
      have f211 : (q_I r25 12 7 a0).toInt = (q_I δ 12 7 a0).toInt := congrArg Int32.toInt (u30 12 7 a0 (by decide))
      have f212 := cb_12_27 i147 k_a0
      have f213 : (q_I d145 12 27 a0).toInt = ((q_I r125 12 27 a0) + (1 : Int32)).toInt := congrArg Int32.toInt (show q_I d145 12 27 a0 = ((q_I r125 12 27 a0) + (1 : Int32)) by rw [e146]; exact rI_s)
      refine ok_bind (hT a0 d145 k_a0 (show (q_I d145 12 24 a0).toInt ≤ 3 by first | assumption | omega) (show (q_I d145 12 26 a0).toInt ≤ (q_I d145 12 4 a0).toInt by first | assumption | omega) (show (q_I d145 12 7 a0).toInt = 0 by first | assumption | omega) (show 4 - (q_I d145 12 27 a0).toInt < _ by first | assumption | omega) i147) (fun r168 hr169 => ?_)
      obtain ⟨i214, ⟨u221, u222, u223⟩, p215, p216, p217, p218, p219, p220⟩ := hr169
      have u224 := kp_t u165 u221
      have v225 : q_V r168 = q_V δ := (u222).trans v166
      have v226 := kr_t v167 u223
      have f227 := cb_12_4 i214 k_a0
      have f228 := cb_12_5 i147 k_a0
      have f229 : (q_I d145 12 5 a0).toInt = (q_I r125 12 5 a0).toInt := congrArg Int32.toInt (by rw [e146]; exact rI_o (by decide))
      have f230 := cb_12_5 i214 k_a0
      have f231 := ti_b (q_I r168 12 7 a0)
      have f232 := cb_12_27 i214 k_a0
      have f233 := cb_12_26 i214 k_a0
      first | (have q238 := te_subc (c := 1) (n := 1) rfl (q_I r168 12 27 a0) (by omega) (by omega); obtain ⟨f239, f240, f241⟩ := q238) | (obtain ⟨q238, f239, f240, f241⟩ := ti_subc (c := 1) (n := 1) rfl (q_I r168 12 27 a0))
      refine ok_bdv (fun d234 e235 => ?_)
      have i236 : RI ad h.1 δ0 d234 := by rw [e235]; exact cs_12_27 L i214 k_a0 (show 0 ≤ ((q_I r168 12 27 a0) - (1 : Int32)).toInt by omega) (show ((q_I r168 12 27 a0) - (1 : Int32)).toInt ≤ 3 by omega)
      have u242 := kp_I u224 e235
      have v243 : q_V d234 = q_V δ := ((show q_V d234 = q_V r168 by rw [e235]; rfl)).trans v225
      have v244 := kr_N v226 (show q_R d234 = q_R r168 by rw [e235]; rfl)
      refine ok_bind (k_X12_sign L hN (a0 := a0) (x1 := (93 : Int32)) k_a0 (show (93 : Int) ≠ 0 by first | assumption | omega) i236) (fun r245 hr246 => ?_)
      obtain ⟨i247, ⟨u251, u252, u253, u254⟩, p248, p249, p250⟩ := hr246
      have u255 := kp_t u242 u251
      have v256 : q_V r245 = q_V δ := (u252).trans v243
      have v257 := kr_t v244 u254
      have f258 := cb_12_4 i236 k_a0
      have f259 : (q_I d234 12 4 a0).toInt = (q_I r168 12 4 a0).toInt := congrArg Int32.toInt (by rw [e235]; exact rI_o (by decide))
      have f260 := cb_12_4 i247 k_a0
      have f261 := cb_12_5 i236 k_a0
      have f262 : (q_I d234 12 5 a0).toInt = (q_I r168 12 5 a0).toInt := congrArg Int32.toInt (by rw [e235]; exact rI_o (by decide))
      have f263 := cb_12_5 i247 k_a0
      have ns264 : NS ad a0 d234 r245 := ⟨u254 112 (by decide) (by decide) (by decide), u254 113 (by decide) (by decide) (by decide), u254 114 (by decide) (by decide) (by decide), u254 115 (by decide) (by decide) (by decide), u254 116 (by decide) (by decide) (by decide), u251 12 24 _ (by decide), u251 12 25 _ (by decide), u251 12 26 _ (by decide), u251 12 27 _ (by decide), fun z => by omega⟩
      obtain ⟨b265, o266, k267, n268, w269⟩ := gO_12_31 L k_a0
      obtain rfl := gS_12_31 L k_a0 o266
      refine ok_at o266 ?_
      refine ok_gd (fun hc270 => ?_) ?_
      · rcases hc270 with hc270 | hc270
        · have c271 : vx41.toInt < (0 : Int) := o_lt hc270
          omega
        · omega
      refine ok_bdv (fun d272 e273 => ?_)
      have i274 : RI ad h.1 δ0 d272 := by rw [e273]; exact RI.sR L i247 w269
      have u275 := kp_N u255 (show q_I d272 = q_I r245 by rw [e273]; rfl)
      have v276 : q_V d272 = q_V δ := ((show q_V d272 = q_V r245 by rw [e273]; rfl)).trans v256
      have v277 := kr_s L (by decide) v257 e273
      unfold J_X12_readSteps_236
      have f278 := cb_12_24 i274 k_a0
      have f279 : (q_I d272 12 24 a0).toInt = (q_I r245 12 24 a0).toInt := congrArg Int32.toInt (by rw [e273]; rfl)
      have f280 := cb_12_24 i247 k_a0
      have f281 : (q_I r245 12 24 a0).toInt = (q_I d234 12 24 a0).toInt := congrArg Int32.toInt (u251 12 24 a0 (by decide))
      have f282 := cb_12_24 i236 k_a0
      have f283 : (q_I d234 12 24 a0).toInt = (q_I r168 12 24 a0).toInt := congrArg Int32.toInt (by rw [e235]; exact rI_o (by decide))
      have f284 := cb_12_24 i214 k_a0
      have f285 : (q_I r168 12 24 a0).toInt = (q_I d145 12 24 a0).toInt := congrArg Int32.toInt (u221 12 24 a0 (by decide))
      have f286 := cb_12_26 i274 k_a0
      have f287 : (q_I d272 12 26 a0).toInt = (q_I r245 12 26 a0).toInt := congrArg Int32.toInt (by rw [e273]; rfl)
      have f288 := cb_12_26 i247 k_a0
      have f289 : (q_I r245 12 26 a0).toInt = (q_I d234 12 26 a0).toInt := congrArg Int32.toInt (u251 12 26 a0 (by decide))
      have f290 := cb_12_26 i236 k_a0
      have f291 : (q_I d234 12 26 a0).toInt = (q_I r168 12 26 a0).toInt := congrArg Int32.toInt (by rw [e235]; exact rI_o (by decide))
      have f292 := cb_12_4 i274 k_a0
      have f293 : (q_I d272 12 4 a0).toInt = (q_I r245 12 4 a0).toInt := congrArg Int32.toInt (by rw [e273]; rfl)
      have f294 := ti_b (q_I d272 12 7 a0)
      have f295 : (q_I d272 12 7 a0).toInt = (q_I r245 12 7 a0).toInt := congrArg Int32.toInt (by rw [e273]; rfl)
      have f296 := ti_b (q_I r245 12 7 a0)
      have f297 : (q_I r245 12 7 a0).toInt = (q_I d234 12 7 a0).toInt := congrArg Int32.toInt (u251 12 7 a0 (by decide))
      have f298 := ti_b (q_I d234 12 7 a0)
      have f299 : (q_I d234 12 7 a0).toInt = (q_I r168 12 7 a0).toInt := congrArg Int32.toInt (by rw [e235]; exact rI_o (by decide))
      have f300 := cb_12_27 i274 k_a0
      have f301 : (q_I d272 12 27 a0).toInt = (q_I r245 12 27 a0).toInt := congrArg Int32.toInt (by rw [e273]; rfl)
      have f302 := cb_12_27 i247 k_a0
      have f303 : (q_I r245 12 27 a0).toInt = (q_I d234 12 27 a0).toInt := congrArg Int32.toInt (u251 12 27 a0 (by decide))
      have f304 := cb_12_27 i236 k_a0
      have f305 : (q_I d234 12 27 a0).toInt = ((q_I r168 12 27 a0) - (1 : Int32)).toInt := congrArg Int32.toInt (show q_I d234 12 27 a0 = ((q_I r168 12 27 a0) - (1 : Int32)) by rw [e235]; exact rI_s)
      refine ok_mono (h_kt0 d272 i274 (show (q_I d272 12 24 a0).toInt ≤ 3 by first | assumption | omega) (show (q_I d272 12 26 a0).toInt ≤ (q_I d272 12 4 a0).toInt by first | assumption | omega) (show (q_I d272 12 7 a0).toInt = 0 by first | assumption | omega) (show 4 - (q_I d272 12 27 a0).toInt ≤ K by first | assumption | omega) (show 501 - (q_I d272 12 4 a0).toInt < _ by omega)) (fun r306 hr307 => ?_)
      obtain ⟨i308, ⟨u315, u316, u317⟩, p309, p310, p311, p312, p313, p314⟩ := hr307
      have u318 := kp_t u275 u315
      have v319 : q_V r306 = q_V δ := (u316).trans v276
      have v320 := kr_t v277 u317
      have f321 := cb_12_4 i308 k_a0
      have f322 := cb_12_5 i274 k_a0
      have f323 : (q_I d272 12 5 a0).toInt = (q_I r245 12 5 a0).toInt := congrArg Int32.toInt (by rw [e273]; rfl)
      have f324 := cb_12_5 i308 k_a0
      have f325 := ti_b (q_I r306 12 7 a0)
      have f326 := cb_12_27 i308 k_a0
      have f327 := cb_12_26 i308 k_a0
      have ss328 : NS ad a0 δ r25 := NS.t NS.r ns38
      have f330 := cb_12_25 i214 k_a0
      have f331 := cb_12_25 i247 k_a0
      have f332 : (q_I r245 12 25 a0).toInt = (q_I d234 12 25 a0).toInt := congrArg Int32.toInt (u251 12 25 a0 (by decide))
      have f333 := cb_12_25 i236 k_a0
      have f334 : (q_I d234 12 25 a0).toInt = (q_I r168 12 25 a0).toInt := congrArg Int32.toInt (by rw [e235]; exact rI_o (by decide))
      have ss329 : SS ad a0 δ d272 := SS.times L ss328 e57 e76 ns116 e120 ns144 e146 p220 e235 ns264 e273 (by omega) (by omega) (by omega) (by omega) (show ((vx41.toNatClampNeg : Nat) : Int) = 60 * (q_I δ 12 24 a0).toInt + (q_I δ 12 25 a0).toInt by omega) (show ((q_I r25 12 25 a0) + (1 : Int32)).toInt = (q_I δ 12 25 a0).toInt + 1 by omega) (show x1v.toInt = 5 by omega) (show r88.1.toInt ≤ 1000000 by omega) (show ((q_I r125 12 27 a0) + (1 : Int32)).toInt = (q_I δ 12 27 a0).toInt + 1 by omega) (show ((q_I r168 12 27 a0) - (1 : Int32)).toInt = (q_I r168 12 27 a0).toInt - 1 by omega) (show (q_I r245 12 25 a0).toInt = (q_I r245 12 25 a0).toInt by omega)
      have ss335 : SS ad a0 δ r306 := SS.t ss329 p314
      exact ⟨by assumption, ⟨kp_w (by decide) u318, v319, kr_w (by decide) v320⟩, by first | assumption | omega, by first | assumption | omega, by first | assumption | omega, by first | assumption | omega, by first | assumption | omega, ss335⟩
    · have c336 : x1v.toInt ≠ (5 : Int) := o_ne h81
      obtain ⟨b337, o338, k339, n340, w341⟩ := gO_12_30 L k_a0
      obtain rfl := gS_12_30 L k_a0 o338
      refine ok_at o338 ?_
      refine ok_gd (fun hc342 => ?_) ?_
      · rcases hc342 with hc342 | hc342
        · have c343 : vx41.toInt < (0 : Int) := o_lt hc342
          omega
        · omega
      refine ok_bdv (fun d344 e345 => ?_)
      have i346 : RI ad h.1 δ0 d344 := by rw [e345]; exact RI.sR L i77 w341
      have u347 := kp_N u78 (show q_I d344 = q_I d75 by rw [e345]; rfl)
      have v348 : q_V d344 = q_V δ := ((show q_V d344 = q_V d75 by rw [e345]; rfl)).trans v79
      have v349 := kr_s L (by decide) v80 e345
      have f352 := cb_12_24 i346 k_a0
      have f353 : (q_I d344 12 24 a0).toInt = (q_I d75 12 24 a0).toInt := congrArg Int32.toInt (by rw [e345]; rfl)
      have f354 := cb_12_24 i77 k_a0
      have f355 : (q_I d75 12 24 a0).toInt = (q_I d56 12 24 a0).toInt := congrArg Int32.toInt (by rw [e76]; rfl)
      have f356 := cb_12_24 i58 k_a0
      have f357 : (q_I d56 12 24 a0).toInt = (q_I r25 12 24 a0).toInt := congrArg Int32.toInt (by rw [e57]; exact rI_o (by decide))
      have f358 := cb_12_26 i346 k_a0
      have f359 : (q_I d344 12 26 a0).toInt = (q_I d75 12 26 a0).toInt := congrArg Int32.toInt (by rw [e345]; rfl)
      have f360 := cb_12_26 i77 k_a0
      have f361 : (q_I d75 12 26 a0).toInt = (q_I d56 12 26 a0).toInt := congrArg Int32.toInt (by rw [e76]; rfl)
      have f362 := cb_12_26 i58 k_a0
      have f363 : (q_I d56 12 26 a0).toInt = (q_I r25 12 26 a0).toInt := congrArg Int32.toInt (by rw [e57]; exact rI_o (by decide))
      have f364 := cb_12_26 i27 k_a0
      have f365 : (q_I r25 12 26 a0).toInt = (q_I δ 12 26 a0).toInt := congrArg Int32.toInt (u30 12 26 a0 (by decide))
      have f366 := cb_12_4 i346 k_a0
      have f367 : (q_I d344 12 4 a0).toInt = (q_I d75 12 4 a0).toInt := congrArg Int32.toInt (by rw [e345]; rfl)
      have f368 := cb_12_4 i77 k_a0
      have f369 : (q_I d75 12 4 a0).toInt = (q_I d56 12 4 a0).toInt := congrArg Int32.toInt (by rw [e76]; rfl)
      have f370 := cb_12_4 i58 k_a0
      have f371 : (q_I d56 12 4 a0).toInt = (q_I r25 12 4 a0).toInt := congrArg Int32.toInt (by rw [e57]; exact rI_o (by decide))
      have f372 := ti_b (q_I d344 12 7 a0)
      have f373 : (q_I d344 12 7 a0).toInt = (q_I d75 12 7 a0).toInt := congrArg Int32.toInt (by rw [e345]; rfl)
      have f374 := ti_b (q_I d75 12 7 a0)
      have f375 : (q_I d75 12 7 a0).toInt = (q_I d56 12 7 a0).toInt := congrArg Int32.toInt (by rw [e76]; rfl)
      have f376 := ti_b (q_I d56 12 7 a0)
      have f377 : (q_I d56 12 7 a0).toInt = (q_I r25 12 7 a0).toInt := congrArg Int32.toInt (by rw [e57]; exact rI_o (by decide))
      have f378 := ti_b (q_I r25 12 7 a0)
      have f379 : (q_I r25 12 7 a0).toInt = (q_I δ 12 7 a0).toInt := congrArg Int32.toInt (u30 12 7 a0 (by decide))
      have f380 := cb_12_5 i346 k_a0
      have f381 : (q_I d344 12 5 a0).toInt = (q_I d75 12 5 a0).toInt := congrArg Int32.toInt (by rw [e345]; rfl)
      have f382 := cb_12_5 i77 k_a0
      have f383 : (q_I d75 12 5 a0).toInt = (q_I d56 12 5 a0).toInt := congrArg Int32.toInt (by rw [e76]; rfl)
      have f384 := cb_12_5 i58 k_a0
      have f385 : (q_I d56 12 5 a0).toInt = (q_I r25 12 5 a0).toInt := congrArg Int32.toInt (by rw [e57]; exact rI_o (by decide))
      refine ok_bind (k_X12_sum L hN (a0 := a0) k_a0 (show (q_I d344 12 24 a0).toInt ≤ 3 by first | assumption | omega) (show (q_I d344 12 26 a0).toInt ≤ (q_I d344 12 4 a0).toInt by first | assumption | omega) (show 0 ≤ (q_I d344 12 7 a0).toInt by first | assumption | omega) (show (q_I d344 12 7 a0).toInt ≤ 7 by first | assumption | omega) (show (q_I d344 12 7 a0).toInt = 7 → 0 ≤ (q_I d344 12 5 a0).toInt by first | assumption | omega) (show 8 - (q_I d344 12 7 a0).toInt < 20 by first | assumption | omega) i346) (fun r350 hr351 => ?_)
      obtain ⟨i386, ⟨u393, u394, u395⟩, p387, p388, p389, p390, p391, p392⟩ := hr351
      have u396 := kp_t u347 u393
      have v397 : q_V r350 = q_V δ := (u394).trans v348
      have v398 := kr_t v349 u395
      have f399 := cb_12_4 i386 k_a0
      have f400 := cb_12_5 i386 k_a0
      have f401 := ti_b (q_I r350 12 7 a0)
      have f402 := cb_12_26 i386 k_a0
      obtain ⟨b403, o404, k405, n406, w407⟩ := gO_12_31 L k_a0
      obtain rfl := gS_12_31 L k_a0 o404
      refine ok_at o404 ?_
      refine ok_gd (fun hc408 => ?_) ?_
      · rcases hc408 with hc408 | hc408
        · have c409 : vx41.toInt < (0 : Int) := o_lt hc408
          omega
        · omega
      refine ok_bdv (fun d410 e411 => ?_)
      have i412 : RI ad h.1 δ0 d410 := by rw [e411]; exact RI.sR L i386 w407
      have u413 := kp_N u396 (show q_I d410 = q_I r350 by rw [e411]; rfl)
      have v414 : q_V d410 = q_V δ := ((show q_V d410 = q_V r350 by rw [e411]; rfl)).trans v397
      have v415 := kr_s L (by decide) v398 e411
      refine ok_bind (k_X12_sign L hN (a0 := a0) (x1 := (59 : Int32)) k_a0 (show (59 : Int) ≠ 0 by first | assumption | omega) i412) (fun r416 hr417 => ?_)
      obtain ⟨i418, ⟨u422, u423, u424, u425⟩, p419, p420, p421⟩ := hr417
      have u426 := kp_t u413 u422
      have v427 : q_V r416 = q_V δ := (u423).trans v414
      have v428 := kr_t v415 u425
      have f429 := cb_12_4 i412 k_a0
      have f430 : (q_I d410 12 4 a0).toInt = (q_I r350 12 4 a0).toInt := congrArg Int32.toInt (by rw [e411]; rfl)
      have f431 := cb_12_4 i418 k_a0
      have f432 := cb_12_5 i412 k_a0
      have f433 : (q_I d410 12 5 a0).toInt = (q_I r350 12 5 a0).toInt := congrArg Int32.toInt (by rw [e411]; rfl)
      have f434 := cb_12_5 i418 k_a0
      have ns435 : NS ad a0 d410 r416 := ⟨u425 112 (by decide) (by decide) (by decide), u425 113 (by decide) (by decide) (by decide), u425 114 (by decide) (by decide) (by decide), u425 115 (by decide) (by decide) (by decide), u425 116 (by decide) (by decide) (by decide), u422 12 24 _ (by decide), u422 12 25 _ (by decide), u422 12 26 _ (by decide), u422 12 27 _ (by decide), fun z => by omega⟩
      unfold J_X12_readSteps_236
      have f436 := cb_12_24 i418 k_a0
      have f437 : (q_I r416 12 24 a0).toInt = (q_I d410 12 24 a0).toInt := congrArg Int32.toInt (u422 12 24 a0 (by decide))
      have f438 := cb_12_24 i412 k_a0
      have f439 : (q_I d410 12 24 a0).toInt = (q_I r350 12 24 a0).toInt := congrArg Int32.toInt (by rw [e411]; rfl)
      have f440 := cb_12_24 i386 k_a0
      have f441 : (q_I r350 12 24 a0).toInt = (q_I d344 12 24 a0).toInt := congrArg Int32.toInt (u393 12 24 a0 (by decide))
      have f442 := cb_12_26 i418 k_a0
      have f443 : (q_I r416 12 26 a0).toInt = (q_I d410 12 26 a0).toInt := congrArg Int32.toInt (u422 12 26 a0 (by decide))
      have f444 := cb_12_26 i412 k_a0
      have f445 : (q_I d410 12 26 a0).toInt = (q_I r350 12 26 a0).toInt := congrArg Int32.toInt (by rw [e411]; rfl)
      have f446 := ti_b (q_I r416 12 7 a0)
      have f447 : (q_I r416 12 7 a0).toInt = (q_I d410 12 7 a0).toInt := congrArg Int32.toInt (u422 12 7 a0 (by decide))
      have f448 := ti_b (q_I d410 12 7 a0)
      have f449 : (q_I d410 12 7 a0).toInt = (q_I r350 12 7 a0).toInt := congrArg Int32.toInt (by rw [e411]; rfl)
      have f450 := cb_12_27 i418 k_a0
      have f451 : (q_I r416 12 27 a0).toInt = (q_I d410 12 27 a0).toInt := congrArg Int32.toInt (u422 12 27 a0 (by decide))
      have f452 := cb_12_27 i412 k_a0
      have f453 : (q_I d410 12 27 a0).toInt = (q_I r350 12 27 a0).toInt := congrArg Int32.toInt (by rw [e411]; rfl)
      have f454 := cb_12_27 i386 k_a0
      have f455 : (q_I r350 12 27 a0).toInt = (q_I d344 12 27 a0).toInt := congrArg Int32.toInt (u393 12 27 a0 (by decide))
      have f456 := cb_12_27 i346 k_a0
      have f457 : (q_I d344 12 27 a0).toInt = (q_I d75 12 27 a0).toInt := congrArg Int32.toInt (by rw [e345]; rfl)
      have f458 := cb_12_27 i77 k_a0
      have f459 : (q_I d75 12 27 a0).toInt = (q_I d56 12 27 a0).toInt := congrArg Int32.toInt (by rw [e76]; rfl)
      have f460 := cb_12_27 i58 k_a0
      have f461 : (q_I d56 12 27 a0).toInt = (q_I r25 12 27 a0).toInt := congrArg Int32.toInt (by rw [e57]; exact rI_o (by decide))
      have f462 := cb_12_27 i27 k_a0
      have f463 : (q_I r25 12 27 a0).toInt = (q_I δ 12 27 a0).toInt := congrArg Int32.toInt (u30 12 27 a0 (by decide))
      refine ok_mono (h_kt0 r416 i418 (show (q_I r416 12 24 a0).toInt ≤ 3 by first | assumption | omega) (show (q_I r416 12 26 a0).toInt ≤ (q_I r416 12 4 a0).toInt by first | assumption | omega) (show (q_I r416 12 7 a0).toInt = 0 by first | assumption | omega) (show 4 - (q_I r416 12 27 a0).toInt ≤ K by first | assumption | omega) (show 501 - (q_I r416 12 4 a0).toInt < _ by omega)) (fun r464 hr465 => ?_)
      obtain ⟨i466, ⟨u473, u474, u475⟩, p467, p468, p469, p470, p471, p472⟩ := hr465
      have u476 := kp_t u426 u473
      have v477 : q_V r464 = q_V δ := (u474).trans v427
      have v478 := kr_t v428 u475
      have f479 := cb_12_4 i466 k_a0
      have f480 := cb_12_5 i466 k_a0
      have f481 := ti_b (q_I r464 12 7 a0)
      have f482 := cb_12_27 i466 k_a0
      have f483 := cb_12_26 i466 k_a0
      have ss484 : NS ad a0 δ r25 := NS.t NS.r ns38
      first | (have q487 := te_mulc (c := 500) (n := 500) rfl (q_I d75 12 24 a0) (by omega) (by omega); obtain ⟨f488, f489, f490⟩ := q487) | (obtain ⟨q487, f488, f489, f490⟩ := ti_mulc (c := 500) (n := 500) rfl (q_I d75 12 24 a0))
      first | (have q492 := te_add ((500 : Int32) * (q_I d75 12 24 a0)) (q_I d75 12 26 a0) (by omega) (by omega); obtain ⟨f493, f494, f495⟩ := q492) | (obtain ⟨q492, f493, f494, f495⟩ := ti_add ((500 : Int32) * (q_I d75 12 24 a0)) (q_I d75 12 26 a0))
      first | (have q497 := te_mulc (c := 500) (n := 500) rfl (q_I r350 12 24 a0) (by omega) (by omega); obtain ⟨f498, f499, f500⟩ := q497) | (obtain ⟨q497, f498, f499, f500⟩ := ti_mulc (c := 500) (n := 500) rfl (q_I r350 12 24 a0))
      first | (have q502 := te_add ((500 : Int32) * (q_I r350 12 24 a0)) (q_I r350 12 26 a0) (by omega) (by omega); obtain ⟨f503, f504, f505⟩ := q502) | (obtain ⟨q502, f503, f504, f505⟩ := ti_add ((500 : Int32) * (q_I r350 12 24 a0)) (q_I r350 12 26 a0))
      have ss485 : SS ad a0 δ r416 := SS.call L ss484 e57 e76 e345 p392 (u395 113 (by decide) (by decide) (by decide)) (u395 114 (by decide) (by decide) (by decide)) (u395 115 (by decide) (by decide) (by decide)) (u393 12 25 _ (by decide)) (u393 12 27 _ (by decide)) e411 ns435 (by omega) (by omega) (by omega) (by omega) (by omega) (by omega) (show ((vx41.toNatClampNeg : Nat) : Int) = 60 * (q_I δ 12 24 a0).toInt + (q_I δ 12 25 a0).toInt by omega) (show ((q_I r25 12 25 a0) + (1 : Int32)).toInt = (q_I δ 12 25 a0).toInt + 1 by omega) (show 0 ≤ x1v.toInt by omega) (show x1v.toInt ≤ 4 by omega) (show (((500 : Int32) * (q_I d75 12 24 a0)) + (q_I d75 12 26 a0)).toInt = 500 * (q_I d344 12 24 a0).toInt + (q_I d344 12 26 a0).toInt by omega) (show (((500 : Int32) * (q_I r350 12 24 a0)) + (q_I r350 12 26 a0)).toInt = 500 * (q_I r350 12 24 a0).toInt + (q_I r350 12 26 a0).toInt by omega)
      have ss506 : SS ad a0 δ r464 := SS.t ss485 p472
      exact ⟨by assumption, ⟨kp_w (by decide) u476, v477, kr_w (by decide) v478⟩, by first | assumption | omega, by first | assumption | omega, by first | assumption | omega, by first | assumption | omega, by first | assumption | omega, ss506⟩
set_option maxHeartbeats 4000000 in
theorem kl_X12_readSteps_0 {ad : List Nat} {h : hp} (L : Lay TLx ad h) {δ0 : dp} {N : Nat} (hN : 10000000 ≤ N) {T : Nat → dp → Option (dp)} {K : Int} (hT : ∀ (a0 : Nat) (δ : dp), q_K h.1 a0 = 12 → (q_I δ 12 24 a0).toInt ≤ 3 → (q_I δ 12 26 a0).toInt ≤ (q_I δ 12 4 a0).toInt → (q_I δ 12 7 a0).toInt = 0 → 4 - (q_I δ 12 27 a0).toInt < K → RI ad h.1 δ0 δ → ok (T a0 δ) (fun r => RI ad h.1 δ0 r ∧ (kp [(12, 4), (12, 5), (12, 6), (12, 7), (12, 25), (12, 26), (12, 27)] δ r ∧ q_V r = q_V δ ∧ kr ad [113, 114, 115, 116, 117] δ r) ∧ (q_I δ 12 4 a0).toInt ≤ (q_I r 12 4 a0).toInt ∧ (q_I δ 12 5 a0).toInt ≤ (q_I r 12 5 a0).toInt ∧ (q_I r 12 7 a0).toInt = (q_I δ 12 7 a0).toInt ∧ (q_I r 12 27 a0).toInt = (q_I δ 12 27 a0).toInt ∧ (q_I r 12 26 a0).toInt ≤ (q_I r 12 4 a0).toInt ∧ SS ad a0 δ r)) {a0 : Nat} (k_a0 : q_K h.1 a0 = 12) : ∀ (n : Nat) (δ : dp), RI ad h.1 δ0 δ → (q_I δ 12 24 a0).toInt ≤ 3 → (q_I δ 12 26 a0).toInt ≤ (q_I δ 12 4 a0).toInt → (q_I δ 12 7 a0).toInt = 0 → 4 - (q_I δ 12 27 a0).toInt ≤ K → 501 - (q_I δ 12 4 a0).toInt < (n : Int) → ok (L_X12_readSteps_0 N h.1 T a0 n δ) (fun r => RI ad h.1 δ0 r ∧ (kp [(12, 4), (12, 5), (12, 6), (12, 7), (12, 25), (12, 26), (12, 27)] δ r ∧ q_V r = q_V δ ∧ kr ad [113, 114, 115, 116, 117] δ r) ∧ (q_I δ 12 4 a0).toInt ≤ (q_I r 12 4 a0).toInt ∧ (q_I δ 12 5 a0).toInt ≤ (q_I r 12 5 a0).toInt ∧ (q_I r 12 7 a0).toInt = (q_I δ 12 7 a0).toInt ∧ (q_I r 12 27 a0).toInt = (q_I δ 12 27 a0).toInt ∧ (q_I r 12 26 a0).toInt ≤ (q_I r 12 4 a0).toInt ∧ SS ad a0 δ r) := by
  intro n
  induction n with
  | zero =>
    intro δ I j0 j1 j2 j3 hm
    have f1 := cb_12_24 I k_a0
    have f2 := cb_12_26 I k_a0
    have f3 := cb_12_4 I k_a0
    have f4 := ti_b (q_I δ 12 7 a0)
    have f5 := cb_12_27 I k_a0
    exfalso; omega
  | succ n ih =>
    intro δ I j0 j1 j2 j3 hm
    unfold L_X12_readSteps_0
    have f1 := cb_12_24 I k_a0
    have f2 := cb_12_26 I k_a0
    have f3 := cb_12_4 I k_a0
    have f4 := ti_b (q_I δ 12 7 a0)
    have f5 := cb_12_27 I k_a0
    refine ok_bind (k_X12_fine L hN (a0 := a0) k_a0 I) (fun r6 hr7 => ?_)
    obtain ⟨i8, p9, p10, p11⟩ := hr7
    try rw [i8]
    have f12 := bo_l p9
    have f13 := cb_12_5 I k_a0
    have f14 := ti_b r6.1
    have f15 := ti_b r6.1
    refine ok_ite (fun h16 => ?_) (fun h16 => ?_)
    · have c17 : r6.1.toInt = (0 : Int) := o_eq h16
      unfold J_X12_readSteps_239
      exact ok_some (show RI ad h.1 δ0 δ ∧ (kp [(12, 4), (12, 5), (12, 6), (12, 7), (12, 25), (12, 26), (12, 27)] δ δ ∧ q_V δ = q_V δ ∧ kr ad [113, 114, 115, 116, 117] δ δ) ∧ (q_I δ 12 4 a0).toInt ≤ (q_I δ 12 4 a0).toInt ∧ (q_I δ 12 5 a0).toInt ≤ (q_I δ 12 5 a0).toInt ∧ (q_I δ 12 7 a0).toInt = (q_I δ 12 7 a0).toInt ∧ (q_I δ 12 27 a0).toInt = (q_I δ 12 27 a0).toInt ∧ (q_I δ 12 26 a0).toInt ≤ (q_I δ 12 4 a0).toInt ∧ SS ad a0 δ δ from ⟨I, ⟨kp_w (by decide) kp_r, rfl, kr_w (by decide) (kr_r (ad := ad))⟩, by first | assumption | omega, by first | assumption | omega, by first | assumption | omega, by first | assumption | omega, by first | assumption | omega, SS.n NS.r⟩)
    · have c18 : r6.1.toInt ≠ (0 : Int) := o_ne h16
      refine ok_bind (k_X12_isMore L hN (a0 := a0) k_a0 I) (fun r19 hr20 => ?_)
      obtain ⟨i21, ⟨u25, u26, u27, u28⟩, p22, p23, p24⟩ := hr20
      have u29 := kp_t kp_r u25
      have v30 : q_V r19.2 = q_V δ := (u26).trans rfl
      have v31 := kr_t (kr_r (ad := ad)) u28
      have f32 := bo_l p22
      have f33 := cb_12_4 i21 k_a0
      have f34 := ti_b r19.1
      have f35 := cb_12_3 I k_a0
      have f36 := ti_b r19.1
      have f38 := cb_12_5 i21 k_a0
      have f39 : (q_I r19.2 12 5 a0).toInt = (q_I δ 12 5 a0).toInt := congrArg Int32.toInt (u25 12 5 a0 (by decide))
      have ns37 : NS ad a0 δ r19.2 := ⟨u28 112 (by decide) (by decide) (by decide), u28 113 (by decide) (by decide) (by decide), u28 114 (by decide) (by decide) (by decide), u28 115 (by decide) (by decide) (by decide), u28 116 (by decide) (by decide) (by decide), u25 12 24 _ (by decide), u25 12 25 _ (by decide), u25 12 26 _ (by decide), u25 12 27 _ (by decide), fun z => by omega⟩
      refine ok_ite (fun h40 => ?_) (fun h40 => ?_)
      · have c41 : r19.1.toInt = (0 : Int) := o_eq h40
        unfold J_X12_readSteps_239
        have f42 := ti_b (q_I r19.2 12 7 a0)
        have f43 : (q_I r19.2 12 7 a0).toInt = (q_I δ 12 7 a0).toInt := congrArg Int32.toInt (u25 12 7 a0 (by decide))
        have f44 := cb_12_27 i21 k_a0
        have f45 : (q_I r19.2 12 27 a0).toInt = (q_I δ 12 27 a0).toInt := congrArg Int32.toInt (u25 12 27 a0 (by decide))
        have f46 := cb_12_26 i21 k_a0
        have f47 : (q_I r19.2 12 26 a0).toInt = (q_I δ 12 26 a0).toInt := congrArg Int32.toInt (u25 12 26 a0 (by decide))
        have ss48 : NS ad a0 δ r19.2 := NS.t NS.r ns37
        exact ok_some (show RI ad h.1 δ0 r19.2 ∧ (kp [(12, 4), (12, 5), (12, 6), (12, 7), (12, 25), (12, 26), (12, 27)] δ r19.2 ∧ q_V r19.2 = q_V δ ∧ kr ad [113, 114, 115, 116, 117] δ r19.2) ∧ (q_I δ 12 4 a0).toInt ≤ (q_I r19.2 12 4 a0).toInt ∧ (q_I δ 12 5 a0).toInt ≤ (q_I r19.2 12 5 a0).toInt ∧ (q_I r19.2 12 7 a0).toInt = (q_I δ 12 7 a0).toInt ∧ (q_I r19.2 12 27 a0).toInt = (q_I δ 12 27 a0).toInt ∧ (q_I r19.2 12 26 a0).toInt ≤ (q_I r19.2 12 4 a0).toInt ∧ SS ad a0 δ r19.2 from ⟨i21, ⟨kp_w (by decide) u29, v30, kr_w (by decide) v31⟩, by first | assumption | omega, by first | assumption | omega, by first | assumption | omega, by first | assumption | omega, by first | assumption | omega, SS.n ss48⟩)
      · have c49 : r19.1.toInt ≠ (0 : Int) := o_ne h40
        refine ok_bind (k_X12_here L hN (a0 := a0) k_a0 i21) (fun r50 hr51 => ?_)
        obtain ⟨i52, ⟨u56, u57, u58, u59⟩, p53, p54, p55⟩ := hr51
        have u60 := kp_t u29 u56
        have v61 : q_V r50.2 = q_V δ := (u57).trans v30
        have v62 := kr_t v31 u59
        have f63 := cb_12_4 i52 k_a0
        have f64 : hc ad r50.2 a0 = (q_R r50.2 (Ad ad 101) (q_I r50.2 12 4 a0).toNatClampNeg).toInt := rfl
        have t65 := ti_tn (q_I r50.2 12 4 a0)
        have f66 : (q_R r50.2 (Ad ad 101) (q_I r50.2 12 4 a0).toNatClampNeg).toInt = (q_R r19.2 (Ad ad 101) (q_I r50.2 12 4 a0).toNatClampNeg).toInt := congrArg Int32.toInt (congrFun (u59 101 (by decide) (by decide) (by decide)) _)
        have f67 : (q_R r19.2 (Ad ad 101) (q_I r50.2 12 4 a0).toNatClampNeg).toInt = (q_R δ (Ad ad 101) (q_I r50.2 12 4 a0).toNatClampNeg).toInt := congrArg Int32.toInt (congrFun (u28 101 (by decide) (by decide) (by decide)) _)
        have f68 := ti_b (q_R δ (Ad ad 101) (q_I r50.2 12 4 a0).toNatClampNeg)
        have f69 := ti_b (q_R r19.2 (Ad ad 101) (q_I r50.2 12 4 a0).toNatClampNeg)
        have f70 := ti_b (q_R r50.2 (Ad ad 101) (q_I r50.2 12 4 a0).toNatClampNeg)
        have f71 := ti_b r50.1
        have f72 := cb_12_3 i21 k_a0
        have f73 : (q_I r19.2 12 3 a0).toInt = (q_I δ 12 3 a0).toInt := congrArg Int32.toInt (u25 12 3 a0 (by decide))
        have f74 : hc ad r19.2 a0 = (q_R r19.2 (Ad ad 101) (q_I r19.2 12 4 a0).toNatClampNeg).toInt := rfl
        have t75 := ti_tn (q_I r19.2 12 4 a0)
        have f76 : (q_R r19.2 (Ad ad 101) (q_I r19.2 12 4 a0).toNatClampNeg).toInt = (q_R δ (Ad ad 101) (q_I r19.2 12 4 a0).toNatClampNeg).toInt := congrArg Int32.toInt (congrFun (u28 101 (by decide) (by decide) (by decide)) _)
        have f77 := ti_b (q_R δ (Ad ad 101) (q_I r19.2 12 4 a0).toNatClampNeg)
        have f78 := ti_b (q_R r19.2 (Ad ad 101) (q_I r19.2 12 4 a0).toNatClampNeg)
        have f79 := ti_b r50.1
        have f81 := cb_12_5 i52 k_a0
        have f82 : (q_I r50.2 12 5 a0).toInt = (q_I r19.2 12 5 a0).toInt := congrArg Int32.toInt (u56 12 5 a0 (by decide))
        have ns80 : NS ad a0 r19.2 r50.2 := ⟨u59 112 (by decide) (by decide) (by decide), u59 113 (by decide) (by decide) (by decide), u59 114 (by decide) (by decide) (by decide), u59 115 (by decide) (by decide) (by decide), u59 116 (by decide) (by decide) (by decide), u56 12 24 _ (by decide), u56 12 25 _ (by decide), u56 12 26 _ (by decide), u56 12 27 _ (by decide), fun z => by omega⟩
        refine ok_ite (fun h83 => ?_) (fun h83 => ?_)
        · have c84 : r50.1.toInt = (93 : Int) := o_eq h83
          unfold J_X12_readSteps_239
          have f85 := ti_b (q_I r50.2 12 7 a0)
          have f86 : (q_I r50.2 12 7 a0).toInt = (q_I r19.2 12 7 a0).toInt := congrArg Int32.toInt (u56 12 7 a0 (by decide))
          have f87 := ti_b (q_I r19.2 12 7 a0)
          have f88 : (q_I r19.2 12 7 a0).toInt = (q_I δ 12 7 a0).toInt := congrArg Int32.toInt (u25 12 7 a0 (by decide))
          have f89 := cb_12_27 i52 k_a0
          have f90 : (q_I r50.2 12 27 a0).toInt = (q_I r19.2 12 27 a0).toInt := congrArg Int32.toInt (u56 12 27 a0 (by decide))
          have f91 := cb_12_27 i21 k_a0
          have f92 : (q_I r19.2 12 27 a0).toInt = (q_I δ 12 27 a0).toInt := congrArg Int32.toInt (u25 12 27 a0 (by decide))
          have f93 := cb_12_26 i52 k_a0
          have f94 : (q_I r50.2 12 26 a0).toInt = (q_I r19.2 12 26 a0).toInt := congrArg Int32.toInt (u56 12 26 a0 (by decide))
          have f95 := cb_12_26 i21 k_a0
          have f96 : (q_I r19.2 12 26 a0).toInt = (q_I δ 12 26 a0).toInt := congrArg Int32.toInt (u25 12 26 a0 (by decide))
          have ss97 : NS ad a0 δ r19.2 := NS.t NS.r ns37
          have ss98 : NS ad a0 δ r50.2 := NS.t ss97 ns80
          exact ok_some (show RI ad h.1 δ0 r50.2 ∧ (kp [(12, 4), (12, 5), (12, 6), (12, 7), (12, 25), (12, 26), (12, 27)] δ r50.2 ∧ q_V r50.2 = q_V δ ∧ kr ad [113, 114, 115, 116, 117] δ r50.2) ∧ (q_I δ 12 4 a0).toInt ≤ (q_I r50.2 12 4 a0).toInt ∧ (q_I δ 12 5 a0).toInt ≤ (q_I r50.2 12 5 a0).toInt ∧ (q_I r50.2 12 7 a0).toInt = (q_I δ 12 7 a0).toInt ∧ (q_I r50.2 12 27 a0).toInt = (q_I δ 12 27 a0).toInt ∧ (q_I r50.2 12 26 a0).toInt ≤ (q_I r50.2 12 4 a0).toInt ∧ SS ad a0 δ r50.2 from ⟨i52, ⟨kp_w (by decide) u60, v61, kr_w (by decide) v62⟩, by first | assumption | omega, by first | assumption | omega, by first | assumption | omega, by first | assumption | omega, by first | assumption | omega, SS.n ss98⟩)
        · have c99 : r50.1.toInt ≠ (93 : Int) := o_ne h83
          refine ok_bind (k_X12_word L hN (a0 := a0) k_a0 i52) (fun r100 hr101 => ?_)
          obtain ⟨i102, ⟨u105, u106, u107, u108⟩, p103, p104⟩ := hr101
          have u109 := kp_t u60 u105
          have v110 : q_V r100.2 = q_V δ := (u106).trans v61
          have v111 := kr_t v62 u108
          have f112 := cb_12_4 i102 k_a0
          have f113 : hc ad r100.2 a0 = (q_R r100.2 (Ad ad 101) (q_I r100.2 12 4 a0).toNatClampNeg).toInt := rfl
          have t114 := ti_tn (q_I r100.2 12 4 a0)
          have f115 : (q_R r100.2 (Ad ad 101) (q_I r100.2 12 4 a0).toNatClampNeg).toInt = (q_R r50.2 (Ad ad 101) (q_I r100.2 12 4 a0).toNatClampNeg).toInt := congrArg Int32.toInt (congrFun (u108 101 (by decide) (by decide) (by decide)) _)
          have f116 : (q_R r50.2 (Ad ad 101) (q_I r100.2 12 4 a0).toNatClampNeg).toInt = (q_R r19.2 (Ad ad 101) (q_I r100.2 12 4 a0).toNatClampNeg).toInt := congrArg Int32.toInt (congrFun (u59 101 (by decide) (by decide) (by decide)) _)
          have f117 : (q_R r19.2 (Ad ad 101) (q_I r100.2 12 4 a0).toNatClampNeg).toInt = (q_R δ (Ad ad 101) (q_I r100.2 12 4 a0).toNatClampNeg).toInt := congrArg Int32.toInt (congrFun (u28 101 (by decide) (by decide) (by decide)) _)
          have f118 := ti_b (q_R δ (Ad ad 101) (q_I r100.2 12 4 a0).toNatClampNeg)
          have f119 := ti_b (q_R r19.2 (Ad ad 101) (q_I r100.2 12 4 a0).toNatClampNeg)
          have f120 := ti_b (q_R r50.2 (Ad ad 101) (q_I r100.2 12 4 a0).toNatClampNeg)
          have f121 := ti_b (q_R r100.2 (Ad ad 101) (q_I r100.2 12 4 a0).toNatClampNeg)
          have f122 := ti_b r100.1
          have f123 := cb_12_3 i52 k_a0
          have f124 : (q_I r50.2 12 3 a0).toInt = (q_I r19.2 12 3 a0).toInt := congrArg Int32.toInt (u56 12 3 a0 (by decide))
          have f125 := ti_b r100.1
          have f127 := cb_12_5 i102 k_a0
          have f128 : (q_I r100.2 12 5 a0).toInt = (q_I r50.2 12 5 a0).toInt := congrArg Int32.toInt (u105 12 5 a0 (by decide))
          have ns126 : NS ad a0 r50.2 r100.2 := ⟨u108 112 (by decide) (by decide) (by decide), u108 113 (by decide) (by decide) (by decide), u108 114 (by decide) (by decide) (by decide), u108 115 (by decide) (by decide) (by decide), u108 116 (by decide) (by decide) (by decide), u105 12 24 _ (by decide), u105 12 25 _ (by decide), u105 12 26 _ (by decide), u105 12 27 _ (by decide), fun z => by omega⟩
          refine ok_bind (k_X12_stepOf L hN (x0 := r100.1)  i102) (fun r129 hr130 => ?_)
          obtain ⟨i131, p132, p133, p134⟩ := hr130
          try rw [i131]
          have f135 := ti_b r129.1
          have f136 := ti_b r129.1
          refine ok_ite (fun h137 => ?_) (fun h137 => ?_)
          · have c138 : r129.1.toInt = (-1 : Int) := o_eq h137
            refine ok_bind (k_X12_wrong L hN (a0 := a0) (x1 := (1 : Int32)) (x2 := (q_I r100.2 12 4 a0)) k_a0 (show 0 ≤ ((q_I r100.2 12 4 a0)).toInt by first | assumption | omega) (show ((q_I r100.2 12 4 a0)).toInt ≤ 500 by first | assumption | omega) (show 0 ≤ (1 : Int) by first | assumption | omega) (show (1 : Int) ≤ 4 by first | assumption | omega) i102) (fun r139 hr140 => ?_)
            obtain ⟨i141, ⟨u144, u145, u146, u147⟩, p142, p143⟩ := hr140
            have u148 := kp_t u109 u144
            have v149 : q_V r139 = q_V δ := (u145).trans v110
            have v150 := kr_t v111 u147
            have f151 := cb_12_5 i141 k_a0
            have ns152 : NS ad a0 r100.2 r139 := ⟨u147 112 (by decide) (by decide) (by decide), u147 113 (by decide) (by decide) (by decide), u147 114 (by decide) (by decide) (by decide), u147 115 (by decide) (by decide) (by decide), u147 116 (by decide) (by decide) (by decide), u144 12 24 _ (by decide), u144 12 25 _ (by decide), u144 12 26 _ (by decide), u144 12 27 _ (by decide), fun z => by omega⟩
            have f153 := cb_12_24 i141 k_a0
            have f154 : (q_I r139 12 24 a0).toInt = (q_I r100.2 12 24 a0).toInt := congrArg Int32.toInt (u144 12 24 a0 (by decide))
            have f155 := cb_12_24 i102 k_a0
            have f156 : (q_I r100.2 12 24 a0).toInt = (q_I r50.2 12 24 a0).toInt := congrArg Int32.toInt (u105 12 24 a0 (by decide))
            have f157 := cb_12_24 i52 k_a0
            have f158 : (q_I r50.2 12 24 a0).toInt = (q_I r19.2 12 24 a0).toInt := congrArg Int32.toInt (u56 12 24 a0 (by decide))
            have f159 := cb_12_24 i21 k_a0
            have f160 : (q_I r19.2 12 24 a0).toInt = (q_I δ 12 24 a0).toInt := congrArg Int32.toInt (u25 12 24 a0 (by decide))
            have f161 := cb_12_26 i141 k_a0
            have f162 : (q_I r139 12 26 a0).toInt = (q_I r100.2 12 26 a0).toInt := congrArg Int32.toInt (u144 12 26 a0 (by decide))
            have f163 := cb_12_26 i102 k_a0
            have f164 : (q_I r100.2 12 26 a0).toInt = (q_I r50.2 12 26 a0).toInt := congrArg Int32.toInt (u105 12 26 a0 (by decide))
            have f165 := cb_12_26 i52 k_a0
            have f166 : (q_I r50.2 12 26 a0).toInt = (q_I r19.2 12 26 a0).toInt := congrArg Int32.toInt (u56 12 26 a0 (by decide))
            have f167 := cb_12_26 i21 k_a0
            have f168 : (q_I r19.2 12 26 a0).toInt = (q_I δ 12 26 a0).toInt := congrArg Int32.toInt (u25 12 26 a0 (by decide))
            have f169 := cb_12_4 i141 k_a0
            have f170 : (q_I r139 12 4 a0).toInt = (q_I r100.2 12 4 a0).toInt := congrArg Int32.toInt (u144 12 4 a0 (by decide))
            have f171 := ti_b (q_I r139 12 7 a0)
            have f172 : (q_I r139 12 7 a0).toInt = (q_I r100.2 12 7 a0).toInt := congrArg Int32.toInt (u144 12 7 a0 (by decide))
            have f173 := ti_b (q_I r100.2 12 7 a0)
            have f174 : (q_I r100.2 12 7 a0).toInt = (q_I r50.2 12 7 a0).toInt := congrArg Int32.toInt (u105 12 7 a0 (by decide))
            have f175 := ti_b (q_I r50.2 12 7 a0)
            have f176 : (q_I r50.2 12 7 a0).toInt = (q_I r19.2 12 7 a0).toInt := congrArg Int32.toInt (u56 12 7 a0 (by decide))
            have f177 := ti_b (q_I r19.2 12 7 a0)
            have f178 : (q_I r19.2 12 7 a0).toInt = (q_I δ 12 7 a0).toInt := congrArg Int32.toInt (u25 12 7 a0 (by decide))
            have f179 := cb_12_27 i141 k_a0
            have f180 : (q_I r139 12 27 a0).toInt = (q_I r100.2 12 27 a0).toInt := congrArg Int32.toInt (u144 12 27 a0 (by decide))
            have f181 := cb_12_27 i102 k_a0
            have f182 : (q_I r100.2 12 27 a0).toInt = (q_I r50.2 12 27 a0).toInt := congrArg Int32.toInt (u105 12 27 a0 (by decide))
            have f183 := cb_12_27 i52 k_a0
            have f184 : (q_I r50.2 12 27 a0).toInt = (q_I r19.2 12 27 a0).toInt := congrArg Int32.toInt (u56 12 27 a0 (by decide))
            have f185 := cb_12_27 i21 k_a0
            have f186 : (q_I r19.2 12 27 a0).toInt = (q_I δ 12 27 a0).toInt := congrArg Int32.toInt (u25 12 27 a0 (by decide))
            have f187 := cb_12_25 i141 k_a0
            have f188 : (q_I r139 12 25 a0).toInt = (q_I r100.2 12 25 a0).toInt := congrArg Int32.toInt (u144 12 25 a0 (by decide))
            have f189 := cb_12_25 i102 k_a0
            have f190 : (q_I r100.2 12 25 a0).toInt = (q_I r50.2 12 25 a0).toInt := congrArg Int32.toInt (u105 12 25 a0 (by decide))
            have f191 := cb_12_25 i52 k_a0
            have f192 : (q_I r50.2 12 25 a0).toInt = (q_I r19.2 12 25 a0).toInt := congrArg Int32.toInt (u56 12 25 a0 (by decide))
            have f193 := cb_12_25 i21 k_a0
            have f194 : (q_I r19.2 12 25 a0).toInt = (q_I δ 12 25 a0).toInt := congrArg Int32.toInt (u25 12 25 a0 (by decide))
            have f195 := cb_12_25 I k_a0
            have f196 : hc ad r139 a0 = (q_R r139 (Ad ad 101) (q_I r139 12 4 a0).toNatClampNeg).toInt := rfl
            have t197 := ti_tn (q_I r139 12 4 a0)
            have f198 : (q_R r139 (Ad ad 101) (q_I r139 12 4 a0).toNatClampNeg).toInt = (q_R r100.2 (Ad ad 101) (q_I r139 12 4 a0).toNatClampNeg).toInt := congrArg Int32.toInt (congrFun (u147 101 (by decide) (by decide) (by decide)) _)
            have f199 : (q_R r100.2 (Ad ad 101) (q_I r139 12 4 a0).toNatClampNeg).toInt = (q_R r50.2 (Ad ad 101) (q_I r139 12 4 a0).toNatClampNeg).toInt := congrArg Int32.toInt (congrFun (u108 101 (by decide) (by decide) (by decide)) _)
            have f200 : (q_R r50.2 (Ad ad 101) (q_I r139 12 4 a0).toNatClampNeg).toInt = (q_R r19.2 (Ad ad 101) (q_I r139 12 4 a0).toNatClampNeg).toInt := congrArg Int32.toInt (congrFun (u59 101 (by decide) (by decide) (by decide)) _)
            have f201 : (q_R r19.2 (Ad ad 101) (q_I r139 12 4 a0).toNatClampNeg).toInt = (q_R δ (Ad ad 101) (q_I r139 12 4 a0).toNatClampNeg).toInt := congrArg Int32.toInt (congrFun (u28 101 (by decide) (by decide) (by decide)) _)
            have f202 := ti_b (q_R δ (Ad ad 101) (q_I r139 12 4 a0).toNatClampNeg)
            have f203 := ti_b (q_R r19.2 (Ad ad 101) (q_I r139 12 4 a0).toNatClampNeg)
            have f204 := ti_b (q_R r50.2 (Ad ad 101) (q_I r139 12 4 a0).toNatClampNeg)
            have f205 := ti_b (q_R r100.2 (Ad ad 101) (q_I r139 12 4 a0).toNatClampNeg)
            have f206 := ti_b (q_R r139 (Ad ad 101) (q_I r139 12 4 a0).toNatClampNeg)
            have f207 := cb_12_3 i141 k_a0
            have f208 : (q_I r139 12 3 a0).toInt = (q_I r100.2 12 3 a0).toInt := congrArg Int32.toInt (u144 12 3 a0 (by decide))
            have f209 := cb_12_3 i102 k_a0
            have f210 : (q_I r100.2 12 3 a0).toInt = (q_I r50.2 12 3 a0).toInt := congrArg Int32.toInt (u105 12 3 a0 (by decide))
            refine ok_mono (kj_X12_readSteps_79 L hN (K0 := (n : Int)) (a0 := a0) (x1v := r129.1) hT ih k_a0 (show (q_I r139 12 24 a0).toInt ≤ 3 by first | assumption | omega) (show (q_I r139 12 26 a0).toInt ≤ (q_I r139 12 4 a0).toInt by first | assumption | omega) (show (q_I r139 12 7 a0).toInt = 0 by first | assumption | omega) (show 4 - (q_I r139 12 27 a0).toInt ≤ K by first | assumption | omega) (show -1 ≤ (r129.1).toInt by first | assumption | omega) (show (r129.1).toInt ≤ 5 by first | assumption | omega) (show (q_I r139 12 5 a0).toInt < 0 → 0 ≤ (r129.1).toInt by first | assumption | omega) (show (q_I r139 12 5 a0).toInt < 0 → (q_I r139 12 25 a0).toInt ≤ 59 by first | assumption | omega) (show (q_I r139 12 5 a0).toInt < 0 → (r129.1).toInt = 5 → (q_I r139 12 27 a0).toInt ≤ 2 by first | assumption | omega) (show (q_I r139 12 5 a0).toInt < 0 → (q_I r139 12 4 a0).toInt < (q_I r139 12 3 a0).toInt ∧ 97 ≤ hc ad r139 a0 ∧ hc ad r139 a0 ≤ 122 by first | assumption | omega) (show 501 - (q_I r139 12 4 a0).toInt ≤ (n : Int) by first | assumption | omega) i141) (fun r211 hr212 => ?_)
            obtain ⟨i213, ⟨u220, u221, u222⟩, p214, p215, p216, p217, p218, p219⟩ := hr212
            have u223 := kp_t u148 u220
            have v224 : q_V r211 = q_V δ := (u221).trans v149
            have v225 := kr_t v150 u222
            have f226 := cb_12_4 i213 k_a0
            have f227 := cb_12_5 i213 k_a0
            have f228 := ti_b (q_I r211 12 7 a0)
            have f229 := cb_12_27 i213 k_a0
            have f230 := cb_12_26 i213 k_a0
            have ss231 : NS ad a0 δ r19.2 := NS.t NS.r ns37
            have ss232 : NS ad a0 δ r50.2 := NS.t ss231 ns80
            have ss233 : NS ad a0 δ r100.2 := NS.t ss232 ns126
            have ss234 : NS ad a0 δ r139 := NS.t ss233 ns152
            have ss235 : SS ad a0 δ r211 := SS.pre ss234 p219
            exact ⟨by assumption, ⟨kp_w (by decide) u223, v224, kr_w (by decide) v225⟩, by first | assumption | omega, by first | assumption | omega, by first | assumption | omega, by first | assumption | omega, by first | assumption | omega, ss235⟩
          · have c236 : r129.1.toInt ≠ (-1 : Int) := o_ne h137
            have f237 := cb_12_25 i102 k_a0
            have f238 : (q_I r100.2 12 25 a0).toInt = (q_I r50.2 12 25 a0).toInt := congrArg Int32.toInt (u105 12 25 a0 (by decide))
            have f239 := cb_12_25 i52 k_a0
            have f240 : (q_I r50.2 12 25 a0).toInt = (q_I r19.2 12 25 a0).toInt := congrArg Int32.toInt (u56 12 25 a0 (by decide))
            have f241 := cb_12_25 i21 k_a0
            have f242 : (q_I r19.2 12 25 a0).toInt = (q_I δ 12 25 a0).toInt := congrArg Int32.toInt (u25 12 25 a0 (by decide))
            have f243 := cb_12_25 I k_a0
            refine ok_ite (fun h244 => ?_) (fun h244 => ?_)
            · have c245 : (q_I r100.2 12 25 a0).toInt = (60 : Int) := o_eq h244
              unfold J_X12_readSteps_70
              refine ok_bind (k_X12_wrong L hN (a0 := a0) (x1 := (3 : Int32)) (x2 := (q_I r100.2 12 4 a0)) k_a0 (show 0 ≤ ((q_I r100.2 12 4 a0)).toInt by first | assumption | omega) (show ((q_I r100.2 12 4 a0)).toInt ≤ 500 by first | assumption | omega) (show 0 ≤ (3 : Int) by first | assumption | omega) (show (3 : Int) ≤ 4 by first | assumption | omega) i102) (fun r246 hr247 => ?_)
              obtain ⟨i248, ⟨u251, u252, u253, u254⟩, p249, p250⟩ := hr247
              have u255 := kp_t u109 u251
              have v256 : q_V r246 = q_V δ := (u252).trans v110
              have v257 := kr_t v111 u254
              have f258 := cb_12_5 i248 k_a0
              have ns259 : NS ad a0 r100.2 r246 := ⟨u254 112 (by decide) (by decide) (by decide), u254 113 (by decide) (by decide) (by decide), u254 114 (by decide) (by decide) (by decide), u254 115 (by decide) (by decide) (by decide), u254 116 (by decide) (by decide) (by decide), u251 12 24 _ (by decide), u251 12 25 _ (by decide), u251 12 26 _ (by decide), u251 12 27 _ (by decide), fun z => by omega⟩
              have f260 := cb_12_24 i248 k_a0
              have f261 : (q_I r246 12 24 a0).toInt = (q_I r100.2 12 24 a0).toInt := congrArg Int32.toInt (u251 12 24 a0 (by decide))
              have f262 := cb_12_24 i102 k_a0
              have f263 : (q_I r100.2 12 24 a0).toInt = (q_I r50.2 12 24 a0).toInt := congrArg Int32.toInt (u105 12 24 a0 (by decide))
              have f264 := cb_12_24 i52 k_a0
              have f265 : (q_I r50.2 12 24 a0).toInt = (q_I r19.2 12 24 a0).toInt := congrArg Int32.toInt (u56 12 24 a0 (by decide))
              have f266 := cb_12_24 i21 k_a0
              have f267 : (q_I r19.2 12 24 a0).toInt = (q_I δ 12 24 a0).toInt := congrArg Int32.toInt (u25 12 24 a0 (by decide))
              have f268 := cb_12_26 i248 k_a0
              have f269 : (q_I r246 12 26 a0).toInt = (q_I r100.2 12 26 a0).toInt := congrArg Int32.toInt (u251 12 26 a0 (by decide))
              have f270 := cb_12_26 i102 k_a0
              have f271 : (q_I r100.2 12 26 a0).toInt = (q_I r50.2 12 26 a0).toInt := congrArg Int32.toInt (u105 12 26 a0 (by decide))
              have f272 := cb_12_26 i52 k_a0
              have f273 : (q_I r50.2 12 26 a0).toInt = (q_I r19.2 12 26 a0).toInt := congrArg Int32.toInt (u56 12 26 a0 (by decide))
              have f274 := cb_12_26 i21 k_a0
              have f275 : (q_I r19.2 12 26 a0).toInt = (q_I δ 12 26 a0).toInt := congrArg Int32.toInt (u25 12 26 a0 (by decide))
              have f276 := cb_12_4 i248 k_a0
              have f277 : (q_I r246 12 4 a0).toInt = (q_I r100.2 12 4 a0).toInt := congrArg Int32.toInt (u251 12 4 a0 (by decide))
              have f278 := ti_b (q_I r246 12 7 a0)
              have f279 : (q_I r246 12 7 a0).toInt = (q_I r100.2 12 7 a0).toInt := congrArg Int32.toInt (u251 12 7 a0 (by decide))
              have f280 := ti_b (q_I r100.2 12 7 a0)
              have f281 : (q_I r100.2 12 7 a0).toInt = (q_I r50.2 12 7 a0).toInt := congrArg Int32.toInt (u105 12 7 a0 (by decide))
              have f282 := ti_b (q_I r50.2 12 7 a0)
              have f283 : (q_I r50.2 12 7 a0).toInt = (q_I r19.2 12 7 a0).toInt := congrArg Int32.toInt (u56 12 7 a0 (by decide))
              have f284 := ti_b (q_I r19.2 12 7 a0)
              have f285 : (q_I r19.2 12 7 a0).toInt = (q_I δ 12 7 a0).toInt := congrArg Int32.toInt (u25 12 7 a0 (by decide))
              have f286 := cb_12_27 i248 k_a0
              have f287 : (q_I r246 12 27 a0).toInt = (q_I r100.2 12 27 a0).toInt := congrArg Int32.toInt (u251 12 27 a0 (by decide))
              have f288 := cb_12_27 i102 k_a0
              have f289 : (q_I r100.2 12 27 a0).toInt = (q_I r50.2 12 27 a0).toInt := congrArg Int32.toInt (u105 12 27 a0 (by decide))
              have f290 := cb_12_27 i52 k_a0
              have f291 : (q_I r50.2 12 27 a0).toInt = (q_I r19.2 12 27 a0).toInt := congrArg Int32.toInt (u56 12 27 a0 (by decide))
              have f292 := cb_12_27 i21 k_a0
              have f293 : (q_I r19.2 12 27 a0).toInt = (q_I δ 12 27 a0).toInt := congrArg Int32.toInt (u25 12 27 a0 (by decide))
              have f294 := cb_12_25 i248 k_a0
              have f295 : (q_I r246 12 25 a0).toInt = (q_I r100.2 12 25 a0).toInt := congrArg Int32.toInt (u251 12 25 a0 (by decide))
              have f296 : hc ad r246 a0 = (q_R r246 (Ad ad 101) (q_I r246 12 4 a0).toNatClampNeg).toInt := rfl
              have t297 := ti_tn (q_I r246 12 4 a0)
              have f298 : (q_R r246 (Ad ad 101) (q_I r246 12 4 a0).toNatClampNeg).toInt = (q_R r100.2 (Ad ad 101) (q_I r246 12 4 a0).toNatClampNeg).toInt := congrArg Int32.toInt (congrFun (u254 101 (by decide) (by decide) (by decide)) _)
              have f299 : (q_R r100.2 (Ad ad 101) (q_I r246 12 4 a0).toNatClampNeg).toInt = (q_R r50.2 (Ad ad 101) (q_I r246 12 4 a0).toNatClampNeg).toInt := congrArg Int32.toInt (congrFun (u108 101 (by decide) (by decide) (by decide)) _)
              have f300 : (q_R r50.2 (Ad ad 101) (q_I r246 12 4 a0).toNatClampNeg).toInt = (q_R r19.2 (Ad ad 101) (q_I r246 12 4 a0).toNatClampNeg).toInt := congrArg Int32.toInt (congrFun (u59 101 (by decide) (by decide) (by decide)) _)
              have f301 : (q_R r19.2 (Ad ad 101) (q_I r246 12 4 a0).toNatClampNeg).toInt = (q_R δ (Ad ad 101) (q_I r246 12 4 a0).toNatClampNeg).toInt := congrArg Int32.toInt (congrFun (u28 101 (by decide) (by decide) (by decide)) _)
              have f302 := ti_b (q_R δ (Ad ad 101) (q_I r246 12 4 a0).toNatClampNeg)
              have f303 := ti_b (q_R r19.2 (Ad ad 101) (q_I r246 12 4 a0).toNatClampNeg)
              have f304 := ti_b (q_R r50.2 (Ad ad 101) (q_I r246 12 4 a0).toNatClampNeg)
              have f305 := ti_b (q_R r100.2 (Ad ad 101) (q_I r246 12 4 a0).toNatClampNeg)
              have f306 := ti_b (q_R r246 (Ad ad 101) (q_I r246 12 4 a0).toNatClampNeg)
              have f307 := cb_12_3 i248 k_a0
              have f308 : (q_I r246 12 3 a0).toInt = (q_I r100.2 12 3 a0).toInt := congrArg Int32.toInt (u251 12 3 a0 (by decide))
              have f309 := cb_12_3 i102 k_a0
              have f310 : (q_I r100.2 12 3 a0).toInt = (q_I r50.2 12 3 a0).toInt := congrArg Int32.toInt (u105 12 3 a0 (by decide))
              refine ok_mono (kj_X12_readSteps_79 L hN (K0 := (n : Int)) (a0 := a0) (x1v := r129.1) hT ih k_a0 (show (q_I r246 12 24 a0).toInt ≤ 3 by first | assumption | omega) (show (q_I r246 12 26 a0).toInt ≤ (q_I r246 12 4 a0).toInt by first | assumption | omega) (show (q_I r246 12 7 a0).toInt = 0 by first | assumption | omega) (show 4 - (q_I r246 12 27 a0).toInt ≤ K by first | assumption | omega) (show -1 ≤ (r129.1).toInt by first | assumption | omega) (show (r129.1).toInt ≤ 5 by first | assumption | omega) (show (q_I r246 12 5 a0).toInt < 0 → 0 ≤ (r129.1).toInt by first | assumption | omega) (show (q_I r246 12 5 a0).toInt < 0 → (q_I r246 12 25 a0).toInt ≤ 59 by first | assumption | omega) (show (q_I r246 12 5 a0).toInt < 0 → (r129.1).toInt = 5 → (q_I r246 12 27 a0).toInt ≤ 2 by first | assumption | omega) (show (q_I r246 12 5 a0).toInt < 0 → (q_I r246 12 4 a0).toInt < (q_I r246 12 3 a0).toInt ∧ 97 ≤ hc ad r246 a0 ∧ hc ad r246 a0 ≤ 122 by first | assumption | omega) (show 501 - (q_I r246 12 4 a0).toInt ≤ (n : Int) by first | assumption | omega) i248) (fun r311 hr312 => ?_)
              obtain ⟨i313, ⟨u320, u321, u322⟩, p314, p315, p316, p317, p318, p319⟩ := hr312
              have u323 := kp_t u255 u320
              have v324 : q_V r311 = q_V δ := (u321).trans v256
              have v325 := kr_t v257 u322
              have f326 := cb_12_4 i313 k_a0
              have f327 := cb_12_5 i313 k_a0
              have f328 := ti_b (q_I r311 12 7 a0)
              have f329 := cb_12_27 i313 k_a0
              have f330 := cb_12_26 i313 k_a0
              have ss331 : NS ad a0 δ r19.2 := NS.t NS.r ns37
              have ss332 : NS ad a0 δ r50.2 := NS.t ss331 ns80
              have ss333 : NS ad a0 δ r100.2 := NS.t ss332 ns126
              have ss334 : NS ad a0 δ r246 := NS.t ss333 ns259
              have ss335 : SS ad a0 δ r311 := SS.pre ss334 p319
              exact ⟨by assumption, ⟨kp_w (by decide) u323, v324, kr_w (by decide) v325⟩, by first | assumption | omega, by first | assumption | omega, by first | assumption | omega, by first | assumption | omega, by first | assumption | omega, ss335⟩
            · have c336 : (q_I r100.2 12 25 a0).toInt ≠ (60 : Int) := o_ne h244
              refine ok_ite (fun h337 => ?_) (fun h337 => ?_)
              · have c338 : r129.1.toInt = (5 : Int) := o_eq h337
                have f339 := cb_12_27 i102 k_a0
                have f340 : (q_I r100.2 12 27 a0).toInt = (q_I r50.2 12 27 a0).toInt := congrArg Int32.toInt (u105 12 27 a0 (by decide))
                have f341 := cb_12_27 i52 k_a0
                have f342 : (q_I r50.2 12 27 a0).toInt = (q_I r19.2 12 27 a0).toInt := congrArg Int32.toInt (u56 12 27 a0 (by decide))
                have f343 := cb_12_27 i21 k_a0
                have f344 : (q_I r19.2 12 27 a0).toInt = (q_I δ 12 27 a0).toInt := congrArg Int32.toInt (u25 12 27 a0 (by decide))
                refine ok_ite (fun h345 => ?_) (fun h345 => ?_)
                · have c346 : (q_I r100.2 12 27 a0).toInt = (3 : Int) := o_eq h345
                  unfold J_X12_readSteps_70
                  refine ok_bind (k_X12_wrong L hN (a0 := a0) (x1 := (3 : Int32)) (x2 := (q_I r100.2 12 4 a0)) k_a0 (show 0 ≤ ((q_I r100.2 12 4 a0)).toInt by first | assumption | omega) (show ((q_I r100.2 12 4 a0)).toInt ≤ 500 by first | assumption | omega) (show 0 ≤ (3 : Int) by first | assumption | omega) (show (3 : Int) ≤ 4 by first | assumption | omega) i102) (fun r347 hr348 => ?_)
                  obtain ⟨i349, ⟨u352, u353, u354, u355⟩, p350, p351⟩ := hr348
                  have u356 := kp_t u109 u352
                  have v357 : q_V r347 = q_V δ := (u353).trans v110
                  have v358 := kr_t v111 u355
                  have f359 := cb_12_5 i349 k_a0
                  have ns360 : NS ad a0 r100.2 r347 := ⟨u355 112 (by decide) (by decide) (by decide), u355 113 (by decide) (by decide) (by decide), u355 114 (by decide) (by decide) (by decide), u355 115 (by decide) (by decide) (by decide), u355 116 (by decide) (by decide) (by decide), u352 12 24 _ (by decide), u352 12 25 _ (by decide), u352 12 26 _ (by decide), u352 12 27 _ (by decide), fun z => by omega⟩
                  have f361 := cb_12_24 i349 k_a0
                  have f362 : (q_I r347 12 24 a0).toInt = (q_I r100.2 12 24 a0).toInt := congrArg Int32.toInt (u352 12 24 a0 (by decide))
                  have f363 := cb_12_24 i102 k_a0
                  have f364 : (q_I r100.2 12 24 a0).toInt = (q_I r50.2 12 24 a0).toInt := congrArg Int32.toInt (u105 12 24 a0 (by decide))
                  have f365 := cb_12_24 i52 k_a0
                  have f366 : (q_I r50.2 12 24 a0).toInt = (q_I r19.2 12 24 a0).toInt := congrArg Int32.toInt (u56 12 24 a0 (by decide))
                  have f367 := cb_12_24 i21 k_a0
                  have f368 : (q_I r19.2 12 24 a0).toInt = (q_I δ 12 24 a0).toInt := congrArg Int32.toInt (u25 12 24 a0 (by decide))
                  have f369 := cb_12_26 i349 k_a0
                  have f370 : (q_I r347 12 26 a0).toInt = (q_I r100.2 12 26 a0).toInt := congrArg Int32.toInt (u352 12 26 a0 (by decide))
                  have f371 := cb_12_26 i102 k_a0
                  have f372 : (q_I r100.2 12 26 a0).toInt = (q_I r50.2 12 26 a0).toInt := congrArg Int32.toInt (u105 12 26 a0 (by decide))
                  have f373 := cb_12_26 i52 k_a0
                  have f374 : (q_I r50.2 12 26 a0).toInt = (q_I r19.2 12 26 a0).toInt := congrArg Int32.toInt (u56 12 26 a0 (by decide))
                  have f375 := cb_12_26 i21 k_a0
                  have f376 : (q_I r19.2 12 26 a0).toInt = (q_I δ 12 26 a0).toInt := congrArg Int32.toInt (u25 12 26 a0 (by decide))
                  have f377 := cb_12_4 i349 k_a0
                  have f378 : (q_I r347 12 4 a0).toInt = (q_I r100.2 12 4 a0).toInt := congrArg Int32.toInt (u352 12 4 a0 (by decide))
                  have f379 := ti_b (q_I r347 12 7 a0)
                  have f380 : (q_I r347 12 7 a0).toInt = (q_I r100.2 12 7 a0).toInt := congrArg Int32.toInt (u352 12 7 a0 (by decide))
                  have f381 := ti_b (q_I r100.2 12 7 a0)
                  have f382 : (q_I r100.2 12 7 a0).toInt = (q_I r50.2 12 7 a0).toInt := congrArg Int32.toInt (u105 12 7 a0 (by decide))
                  have f383 := ti_b (q_I r50.2 12 7 a0)
                  have f384 : (q_I r50.2 12 7 a0).toInt = (q_I r19.2 12 7 a0).toInt := congrArg Int32.toInt (u56 12 7 a0 (by decide))
                  have f385 := ti_b (q_I r19.2 12 7 a0)
                  have f386 : (q_I r19.2 12 7 a0).toInt = (q_I δ 12 7 a0).toInt := congrArg Int32.toInt (u25 12 7 a0 (by decide))
                  have f387 := cb_12_27 i349 k_a0
                  have f388 : (q_I r347 12 27 a0).toInt = (q_I r100.2 12 27 a0).toInt := congrArg Int32.toInt (u352 12 27 a0 (by decide))
                  have f389 := cb_12_25 i349 k_a0
                  have f390 : (q_I r347 12 25 a0).toInt = (q_I r100.2 12 25 a0).toInt := congrArg Int32.toInt (u352 12 25 a0 (by decide))
                  have f391 : hc ad r347 a0 = (q_R r347 (Ad ad 101) (q_I r347 12 4 a0).toNatClampNeg).toInt := rfl
                  have t392 := ti_tn (q_I r347 12 4 a0)
                  have f393 : (q_R r347 (Ad ad 101) (q_I r347 12 4 a0).toNatClampNeg).toInt = (q_R r100.2 (Ad ad 101) (q_I r347 12 4 a0).toNatClampNeg).toInt := congrArg Int32.toInt (congrFun (u355 101 (by decide) (by decide) (by decide)) _)
                  have f394 : (q_R r100.2 (Ad ad 101) (q_I r347 12 4 a0).toNatClampNeg).toInt = (q_R r50.2 (Ad ad 101) (q_I r347 12 4 a0).toNatClampNeg).toInt := congrArg Int32.toInt (congrFun (u108 101 (by decide) (by decide) (by decide)) _)
                  have f395 : (q_R r50.2 (Ad ad 101) (q_I r347 12 4 a0).toNatClampNeg).toInt = (q_R r19.2 (Ad ad 101) (q_I r347 12 4 a0).toNatClampNeg).toInt := congrArg Int32.toInt (congrFun (u59 101 (by decide) (by decide) (by decide)) _)
                  have f396 : (q_R r19.2 (Ad ad 101) (q_I r347 12 4 a0).toNatClampNeg).toInt = (q_R δ (Ad ad 101) (q_I r347 12 4 a0).toNatClampNeg).toInt := congrArg Int32.toInt (congrFun (u28 101 (by decide) (by decide) (by decide)) _)
                  have f397 := ti_b (q_R δ (Ad ad 101) (q_I r347 12 4 a0).toNatClampNeg)
                  have f398 := ti_b (q_R r19.2 (Ad ad 101) (q_I r347 12 4 a0).toNatClampNeg)
                  have f399 := ti_b (q_R r50.2 (Ad ad 101) (q_I r347 12 4 a0).toNatClampNeg)
                  have f400 := ti_b (q_R r100.2 (Ad ad 101) (q_I r347 12 4 a0).toNatClampNeg)
                  have f401 := ti_b (q_R r347 (Ad ad 101) (q_I r347 12 4 a0).toNatClampNeg)
                  have f402 := cb_12_3 i349 k_a0
                  have f403 : (q_I r347 12 3 a0).toInt = (q_I r100.2 12 3 a0).toInt := congrArg Int32.toInt (u352 12 3 a0 (by decide))
                  have f404 := cb_12_3 i102 k_a0
                  have f405 : (q_I r100.2 12 3 a0).toInt = (q_I r50.2 12 3 a0).toInt := congrArg Int32.toInt (u105 12 3 a0 (by decide))
                  refine ok_mono (kj_X12_readSteps_79 L hN (K0 := (n : Int)) (a0 := a0) (x1v := r129.1) hT ih k_a0 (show (q_I r347 12 24 a0).toInt ≤ 3 by first | assumption | omega) (show (q_I r347 12 26 a0).toInt ≤ (q_I r347 12 4 a0).toInt by first | assumption | omega) (show (q_I r347 12 7 a0).toInt = 0 by first | assumption | omega) (show 4 - (q_I r347 12 27 a0).toInt ≤ K by first | assumption | omega) (show -1 ≤ (r129.1).toInt by first | assumption | omega) (show (r129.1).toInt ≤ 5 by first | assumption | omega) (show (q_I r347 12 5 a0).toInt < 0 → 0 ≤ (r129.1).toInt by first | assumption | omega) (show (q_I r347 12 5 a0).toInt < 0 → (q_I r347 12 25 a0).toInt ≤ 59 by first | assumption | omega) (show (q_I r347 12 5 a0).toInt < 0 → (r129.1).toInt = 5 → (q_I r347 12 27 a0).toInt ≤ 2 by first | assumption | omega) (show (q_I r347 12 5 a0).toInt < 0 → (q_I r347 12 4 a0).toInt < (q_I r347 12 3 a0).toInt ∧ 97 ≤ hc ad r347 a0 ∧ hc ad r347 a0 ≤ 122 by first | assumption | omega) (show 501 - (q_I r347 12 4 a0).toInt ≤ (n : Int) by first | assumption | omega) i349) (fun r406 hr407 => ?_)
                  obtain ⟨i408, ⟨u415, u416, u417⟩, p409, p410, p411, p412, p413, p414⟩ := hr407
                  have u418 := kp_t u356 u415
                  have v419 : q_V r406 = q_V δ := (u416).trans v357
                  have v420 := kr_t v358 u417
                  have f421 := cb_12_4 i408 k_a0
                  have f422 := cb_12_5 i408 k_a0
                  have f423 := ti_b (q_I r406 12 7 a0)
                  have f424 := cb_12_27 i408 k_a0
                  have f425 := cb_12_26 i408 k_a0
                  have ss426 : NS ad a0 δ r19.2 := NS.t NS.r ns37
                  have ss427 : NS ad a0 δ r50.2 := NS.t ss426 ns80
                  have ss428 : NS ad a0 δ r100.2 := NS.t ss427 ns126
                  have ss429 : NS ad a0 δ r347 := NS.t ss428 ns360
                  have ss430 : SS ad a0 δ r406 := SS.pre ss429 p414
                  exact ⟨by assumption, ⟨kp_w (by decide) u418, v419, kr_w (by decide) v420⟩, by first | assumption | omega, by first | assumption | omega, by first | assumption | omega, by first | assumption | omega, by first | assumption | omega, ss430⟩
                · have c431 : (q_I r100.2 12 27 a0).toInt ≠ (3 : Int) := o_ne h345
                  have f432 := cb_12_24 i102 k_a0
                  have f433 : (q_I r100.2 12 24 a0).toInt = (q_I r50.2 12 24 a0).toInt := congrArg Int32.toInt (u105 12 24 a0 (by decide))
                  have f434 := cb_12_24 i52 k_a0
                  have f435 : (q_I r50.2 12 24 a0).toInt = (q_I r19.2 12 24 a0).toInt := congrArg Int32.toInt (u56 12 24 a0 (by decide))
                  have f436 := cb_12_24 i21 k_a0
                  have f437 : (q_I r19.2 12 24 a0).toInt = (q_I δ 12 24 a0).toInt := congrArg Int32.toInt (u25 12 24 a0 (by decide))
                  have f438 := cb_12_26 i102 k_a0
                  have f439 : (q_I r100.2 12 26 a0).toInt = (q_I r50.2 12 26 a0).toInt := congrArg Int32.toInt (u105 12 26 a0 (by decide))
                  have f440 := cb_12_26 i52 k_a0
                  have f441 : (q_I r50.2 12 26 a0).toInt = (q_I r19.2 12 26 a0).toInt := congrArg Int32.toInt (u56 12 26 a0 (by decide))
                  have f442 := cb_12_26 i21 k_a0
                  have f443 : (q_I r19.2 12 26 a0).toInt = (q_I δ 12 26 a0).toInt := congrArg Int32.toInt (u25 12 26 a0 (by decide))
                  have f444 := ti_b (q_I r100.2 12 7 a0)
                  have f445 : (q_I r100.2 12 7 a0).toInt = (q_I r50.2 12 7 a0).toInt := congrArg Int32.toInt (u105 12 7 a0 (by decide))
                  have f446 := ti_b (q_I r50.2 12 7 a0)
                  have f447 : (q_I r50.2 12 7 a0).toInt = (q_I r19.2 12 7 a0).toInt := congrArg Int32.toInt (u56 12 7 a0 (by decide))
                  have f448 := ti_b (q_I r19.2 12 7 a0)
                  have f449 : (q_I r19.2 12 7 a0).toInt = (q_I δ 12 7 a0).toInt := congrArg Int32.toInt (u25 12 7 a0 (by decide))
                  have f450 := cb_12_3 i102 k_a0
                  have f451 : (q_I r100.2 12 3 a0).toInt = (q_I r50.2 12 3 a0).toInt := congrArg Int32.toInt (u105 12 3 a0 (by decide))
                  refine ok_mono (kj_X12_readSteps_79 L hN (K0 := (n : Int)) (a0 := a0) (x1v := r129.1) hT ih k_a0 (show (q_I r100.2 12 24 a0).toInt ≤ 3 by first | assumption | omega) (show (q_I r100.2 12 26 a0).toInt ≤ (q_I r100.2 12 4 a0).toInt by first | assumption | omega) (show (q_I r100.2 12 7 a0).toInt = 0 by first | assumption | omega) (show 4 - (q_I r100.2 12 27 a0).toInt ≤ K by first | assumption | omega) (show -1 ≤ (r129.1).toInt by first | assumption | omega) (show (r129.1).toInt ≤ 5 by first | assumption | omega) (show (q_I r100.2 12 5 a0).toInt < 0 → 0 ≤ (r129.1).toInt by first | assumption | omega) (show (q_I r100.2 12 5 a0).toInt < 0 → (q_I r100.2 12 25 a0).toInt ≤ 59 by first | assumption | omega) (show (q_I r100.2 12 5 a0).toInt < 0 → (r129.1).toInt = 5 → (q_I r100.2 12 27 a0).toInt ≤ 2 by first | assumption | omega) (show (q_I r100.2 12 5 a0).toInt < 0 → (q_I r100.2 12 4 a0).toInt < (q_I r100.2 12 3 a0).toInt ∧ 97 ≤ hc ad r100.2 a0 ∧ hc ad r100.2 a0 ≤ 122 by first | assumption | omega) (show 501 - (q_I r100.2 12 4 a0).toInt ≤ (n : Int) by first | assumption | omega) i102) (fun r452 hr453 => ?_)
                  obtain ⟨i454, ⟨u461, u462, u463⟩, p455, p456, p457, p458, p459, p460⟩ := hr453
                  have u464 := kp_t u109 u461
                  have v465 : q_V r452 = q_V δ := (u462).trans v110
                  have v466 := kr_t v111 u463
                  have f467 := cb_12_4 i454 k_a0
                  have f468 := cb_12_5 i454 k_a0
                  have f469 := ti_b (q_I r452 12 7 a0)
                  have f470 := cb_12_27 i454 k_a0
                  have f471 := cb_12_26 i454 k_a0
                  have ss472 : NS ad a0 δ r19.2 := NS.t NS.r ns37
                  have ss473 : NS ad a0 δ r50.2 := NS.t ss472 ns80
                  have ss474 : NS ad a0 δ r100.2 := NS.t ss473 ns126
                  have ss475 : SS ad a0 δ r452 := SS.pre ss474 p460
                  exact ⟨by assumption, ⟨kp_w (by decide) u464, v465, kr_w (by decide) v466⟩, by first | assumption | omega, by first | assumption | omega, by first | assumption | omega, by first | assumption | omega, by first | assumption | omega, ss475⟩
              · have c476 : r129.1.toInt ≠ (5 : Int) := o_ne h337
                have f477 := cb_12_24 i102 k_a0
                have f478 : (q_I r100.2 12 24 a0).toInt = (q_I r50.2 12 24 a0).toInt := congrArg Int32.toInt (u105 12 24 a0 (by decide))
                have f479 := cb_12_24 i52 k_a0
                have f480 : (q_I r50.2 12 24 a0).toInt = (q_I r19.2 12 24 a0).toInt := congrArg Int32.toInt (u56 12 24 a0 (by decide))
                have f481 := cb_12_24 i21 k_a0
                have f482 : (q_I r19.2 12 24 a0).toInt = (q_I δ 12 24 a0).toInt := congrArg Int32.toInt (u25 12 24 a0 (by decide))
                have f483 := cb_12_26 i102 k_a0
                have f484 : (q_I r100.2 12 26 a0).toInt = (q_I r50.2 12 26 a0).toInt := congrArg Int32.toInt (u105 12 26 a0 (by decide))
                have f485 := cb_12_26 i52 k_a0
                have f486 : (q_I r50.2 12 26 a0).toInt = (q_I r19.2 12 26 a0).toInt := congrArg Int32.toInt (u56 12 26 a0 (by decide))
                have f487 := cb_12_26 i21 k_a0
                have f488 : (q_I r19.2 12 26 a0).toInt = (q_I δ 12 26 a0).toInt := congrArg Int32.toInt (u25 12 26 a0 (by decide))
                have f489 := ti_b (q_I r100.2 12 7 a0)
                have f490 : (q_I r100.2 12 7 a0).toInt = (q_I r50.2 12 7 a0).toInt := congrArg Int32.toInt (u105 12 7 a0 (by decide))
                have f491 := ti_b (q_I r50.2 12 7 a0)
                have f492 : (q_I r50.2 12 7 a0).toInt = (q_I r19.2 12 7 a0).toInt := congrArg Int32.toInt (u56 12 7 a0 (by decide))
                have f493 := ti_b (q_I r19.2 12 7 a0)
                have f494 : (q_I r19.2 12 7 a0).toInt = (q_I δ 12 7 a0).toInt := congrArg Int32.toInt (u25 12 7 a0 (by decide))
                have f495 := cb_12_27 i102 k_a0
                have f496 : (q_I r100.2 12 27 a0).toInt = (q_I r50.2 12 27 a0).toInt := congrArg Int32.toInt (u105 12 27 a0 (by decide))
                have f497 := cb_12_27 i52 k_a0
                have f498 : (q_I r50.2 12 27 a0).toInt = (q_I r19.2 12 27 a0).toInt := congrArg Int32.toInt (u56 12 27 a0 (by decide))
                have f499 := cb_12_27 i21 k_a0
                have f500 : (q_I r19.2 12 27 a0).toInt = (q_I δ 12 27 a0).toInt := congrArg Int32.toInt (u25 12 27 a0 (by decide))
                have f501 := cb_12_3 i102 k_a0
                have f502 : (q_I r100.2 12 3 a0).toInt = (q_I r50.2 12 3 a0).toInt := congrArg Int32.toInt (u105 12 3 a0 (by decide))
                refine ok_mono (kj_X12_readSteps_79 L hN (K0 := (n : Int)) (a0 := a0) (x1v := r129.1) hT ih k_a0 (show (q_I r100.2 12 24 a0).toInt ≤ 3 by first | assumption | omega) (show (q_I r100.2 12 26 a0).toInt ≤ (q_I r100.2 12 4 a0).toInt by first | assumption | omega) (show (q_I r100.2 12 7 a0).toInt = 0 by first | assumption | omega) (show 4 - (q_I r100.2 12 27 a0).toInt ≤ K by first | assumption | omega) (show -1 ≤ (r129.1).toInt by first | assumption | omega) (show (r129.1).toInt ≤ 5 by first | assumption | omega) (show (q_I r100.2 12 5 a0).toInt < 0 → 0 ≤ (r129.1).toInt by first | assumption | omega) (show (q_I r100.2 12 5 a0).toInt < 0 → (q_I r100.2 12 25 a0).toInt ≤ 59 by first | assumption | omega) (show (q_I r100.2 12 5 a0).toInt < 0 → (r129.1).toInt = 5 → (q_I r100.2 12 27 a0).toInt ≤ 2 by first | assumption | omega) (show (q_I r100.2 12 5 a0).toInt < 0 → (q_I r100.2 12 4 a0).toInt < (q_I r100.2 12 3 a0).toInt ∧ 97 ≤ hc ad r100.2 a0 ∧ hc ad r100.2 a0 ≤ 122 by first | assumption | omega) (show 501 - (q_I r100.2 12 4 a0).toInt ≤ (n : Int) by first | assumption | omega) i102) (fun r503 hr504 => ?_)
                obtain ⟨i505, ⟨u512, u513, u514⟩, p506, p507, p508, p509, p510, p511⟩ := hr504
                have u515 := kp_t u109 u512
                have v516 : q_V r503 = q_V δ := (u513).trans v110
                have v517 := kr_t v111 u514
                have f518 := cb_12_4 i505 k_a0
                have f519 := cb_12_5 i505 k_a0
                have f520 := ti_b (q_I r503 12 7 a0)
                have f521 := cb_12_27 i505 k_a0
                have f522 := cb_12_26 i505 k_a0
                have ss523 : NS ad a0 δ r19.2 := NS.t NS.r ns37
                have ss524 : NS ad a0 δ r50.2 := NS.t ss523 ns80
                have ss525 : NS ad a0 δ r100.2 := NS.t ss524 ns126
                have ss526 : SS ad a0 δ r503 := SS.pre ss525 p511
                exact ⟨by assumption, ⟨kp_w (by decide) u515, v516, kr_w (by decide) v517⟩, by first | assumption | omega, by first | assumption | omega, by first | assumption | omega, by first | assumption | omega, by first | assumption | omega, ss526⟩
set_option maxHeartbeats 4000000 in
theorem ke_X12_readSteps {ad : List Nat} {h : hp} (L : Lay TLx ad h) {δ0 : dp} {N : Nat} (hN : 10000000 ≤ N) : ∀ (k : Nat), ∀ (a0 : Nat) (δ : dp), q_K h.1 a0 = 12 → (q_I δ 12 24 a0).toInt ≤ 3 → (q_I δ 12 26 a0).toInt ≤ (q_I δ 12 4 a0).toInt → (q_I δ 12 7 a0).toInt = 0 → 4 - (q_I δ 12 27 a0).toInt < (k : Int) → RI ad h.1 δ0 δ → ok (E_X12_readSteps N h.1 k a0 δ) (fun r => RI ad h.1 δ0 r ∧ (kp [(12, 4), (12, 5), (12, 6), (12, 7), (12, 25), (12, 26), (12, 27)] δ r ∧ q_V r = q_V δ ∧ kr ad [113, 114, 115, 116, 117] δ r) ∧ (q_I δ 12 4 a0).toInt ≤ (q_I r 12 4 a0).toInt ∧ (q_I δ 12 5 a0).toInt ≤ (q_I r 12 5 a0).toInt ∧ (q_I r 12 7 a0).toInt = (q_I δ 12 7 a0).toInt ∧ (q_I r 12 27 a0).toInt = (q_I δ 12 27 a0).toInt ∧ (q_I r 12 26 a0).toInt ≤ (q_I r 12 4 a0).toInt ∧ SS ad a0 δ r) := by
  intro k
  induction k with
  | zero =>
    intro a0 δ k_a0 z0 z1 z2 hd I
    have f28 := cb_12_27 I k_a0
    exfalso; omega
  | succ k ih =>
    intro a0 δ k_a0 z0 z1 z2 hd I
    unfold E_X12_readSteps B_X12_readSteps
    have f1 := cb_12_24 I k_a0
    have f2 := cb_12_26 I k_a0
    have f3 := cb_12_4 I k_a0
    have f4 := ti_b (q_I δ 12 7 a0)
    have f5 := cb_12_27 I k_a0
    refine ok_mono (kl_X12_readSteps_0 L hN   ih k_a0 _ δ I (show (q_I δ 12 24 a0).toInt ≤ 3 by first | assumption | omega) (show (q_I δ 12 26 a0).toInt ≤ (q_I δ 12 4 a0).toInt by first | assumption | omega) (show (q_I δ 12 7 a0).toInt = 0 by first | assumption | omega) (show 4 - (q_I δ 12 27 a0).toInt ≤ (k : Int) by first | assumption | omega) (show 501 - (q_I δ 12 4 a0).toInt < _ by omega)) (fun r6 hr7 => ?_)
    obtain ⟨i8, ⟨u15, u16, u17⟩, p9, p10, p11, p12, p13, p14⟩ := hr7
    have u18 := kp_t kp_r u15
    have v19 : q_V r6 = q_V δ := (u16).trans rfl
    have v20 := kr_t (kr_r (ad := ad)) u17
    have f21 := cb_12_4 i8 k_a0
    have f22 := cb_12_5 I k_a0
    have f23 := cb_12_5 i8 k_a0
    have f24 := ti_b (q_I r6 12 7 a0)
    have f25 := cb_12_27 i8 k_a0
    have f26 := cb_12_26 i8 k_a0
    have ss27 : SS ad a0 δ r6 := SS.pre NS.r p14
    exact ⟨by assumption, ⟨kp_w (by decide) u18, v19, kr_w (by decide) v20⟩, by first | assumption | omega, by first | assumption | omega, by first | assumption | omega, by first | assumption | omega, by first | assumption | omega, ss27⟩
set_option maxHeartbeats 4000000 in
theorem k_X12_readSteps {ad : List Nat} {h : hp} (L : Lay TLx ad h) {δ0 : dp} {N : Nat} (hN : 10000000 ≤ N) {a0 : Nat} (k_a0 : q_K h.1 a0 = 12) {δ : dp} (z0 : (q_I δ 12 24 a0).toInt ≤ 3) (z1 : (q_I δ 12 26 a0).toInt ≤ (q_I δ 12 4 a0).toInt) (z2 : (q_I δ 12 7 a0).toInt = 0) (hd : 4 - (q_I δ 12 27 a0).toInt < 20) (I : RI ad h.1 δ0 δ) : ok (D_X12_readSteps N h.1 a0 δ) (fun r => RI ad h.1 δ0 r ∧ (kp [(12, 4), (12, 5), (12, 6), (12, 7), (12, 25), (12, 26), (12, 27)] δ r ∧ q_V r = q_V δ ∧ kr ad [113, 114, 115, 116, 117] δ r) ∧ (q_I δ 12 4 a0).toInt ≤ (q_I r 12 4 a0).toInt ∧ (q_I δ 12 5 a0).toInt ≤ (q_I r 12 5 a0).toInt ∧ (q_I r 12 7 a0).toInt = (q_I δ 12 7 a0).toInt ∧ (q_I r 12 27 a0).toInt = (q_I δ 12 27 a0).toInt ∧ (q_I r 12 26 a0).toInt ≤ (q_I r 12 4 a0).toInt ∧ SS ad a0 δ r) := ke_X12_readSteps L hN 20 a0 δ k_a0 z0 z1 z2 hd I
