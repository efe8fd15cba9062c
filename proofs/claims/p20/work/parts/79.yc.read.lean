/-! 79.yc.read (by gen_safe.py) -/
set_option maxHeartbeats 4000000 in
theorem kj_X12_readSteps_79 {ad : List Nat} {h : hp} (L : Lay TLx ad h) {δ0 : dp} {N : Nat} (hN : 10000000 ≤ N) {T : Nat → dp → Option (dp)} {K : Int} (hT : ∀ (a0 : Nat) (δ : dp), q_K h.1 a0 = 12 → (q_I δ 12 24 a0).toInt ≤ 3 → (q_I δ 12 26 a0).toInt ≤ (q_I δ 12 4 a0).toInt → (q_I δ 12 7 a0).toInt = 0 → 4 - (q_I δ 12 27 a0).toInt < K → RI ad h.1 δ0 δ → ok (T a0 δ) (fun r => RI ad h.1 δ0 r ∧ (kp [(12, 4), (12, 5), (12, 6), (12, 7), (12, 25), (12, 26), (12, 27)] δ r ∧ q_V r = q_V δ ∧ kr ad [113, 114, 115, 116, 117] δ r) ∧ (q_I δ 12 4 a0).toInt ≤ (q_I r 12 4 a0).toInt ∧ (q_I δ 12 5 a0).toInt ≤ (q_I r 12 5 a0).toInt ∧ (q_I r 12 7 a0).toInt = (q_I δ 12 7 a0).toInt ∧ (q_I r 12 27 a0).toInt = (q_I δ 12 27 a0).toInt ∧ (q_I r 12 26 a0).toInt ≤ (q_I r 12 4 a0).toInt ∧ SS ad a0 δ r)) {a0 : Nat} {kt0 : dp → Option (dp)} {K0 : Int} (h_kt0 : ∀ (δ : dp), RI ad h.1 δ0 δ → (q_I δ 12 24 a0).toInt ≤ 3 → (q_I δ 12 26 a0).toInt ≤ (q_I δ 12 4 a0).toInt → (q_I δ 12 7 a0).toInt = 0 → 4 - (q_I δ 12 27 a0).toInt ≤ K → 501 - (q_I δ 12 4 a0).toInt < K0 → ok (kt0 δ) (fun r => RI ad h.1 δ0 r ∧ (kp [(12, 4), (12, 5), (12, 6), (12, 7), (12, 25), (12, 26), (12, 27)] δ r ∧ q_V r = q_V δ ∧ kr ad [113, 114, 115, 116, 117] δ r) ∧ (q_I δ 12 4 a0).toInt ≤ (q_I r 12 4 a0).toInt ∧ (q_I δ 12 5 a0).toInt ≤ (q_I r 12 5 a0).toInt ∧ (q_I r 12 7 a0).toInt = (q_I δ 12 7 a0).toInt ∧ (q_I r 12 27 a0).toInt = (q_I δ 12 27 a0).toInt ∧ (q_I r 12 26 a0).toInt ≤ (q_I r 12 4 a0).toInt ∧ SS ad a0 δ r)) {x1v : Int32} (k_a0 : q_K h.1 a0 = 12) {δ : dp} (z0 : (q_I δ 12 24 a0).toInt ≤ 3) (z1 : (q_I δ 12 26 a0).toInt ≤ (q_I δ 12 4 a0).toInt) (z2 : (q_I δ 12 7 a0).toInt = 0) (z3 : 4 - (q_I δ 12 27 a0).toInt ≤ K) (z4 : -1 ≤ (x1v).toInt) (z5 : (x1v).toInt ≤ 5) (z6 : (q_I δ 12 5 a0).toInt < 0 → 0 ≤ (x1v).toInt) (z7 : (q_I δ 12 5 a0).toInt < 0 → (q_I δ 12 25 a0).toInt ≤ 59) (z8 : (q_I δ 12 5 a0).toInt < 0 → (x1v).toInt = 5 → (q_I δ 12 27 a0).toInt ≤ 2) (z9 : (q_I δ 12 5 a0).toInt < 0 → (q_I δ 12 4 a0).toInt < (q_I δ 12 3 a0).toInt ∧ 97 ≤ hc ad δ a0 ∧ hc ad δ a0 ≤ 122) (z10 : 501 - (q_I δ 12 4 a0).toInt ≤ K0) (I : RI ad h.1 δ0 δ) : ok (J_X12_readSteps_79 N h.1 T a0 kt0 x1v δ) (fun r => RI ad h.1 δ0 r ∧ (kp [(12, 4), (12, 5), (12, 6), (12, 7), (12, 25), (12, 26), (12, 27)] δ r ∧ q_V r = q_V δ ∧ kr ad [113, 114, 115, 116, 117] δ r) ∧ (q_I δ 12 4 a0).toInt ≤ (q_I r 12 4 a0).toInt ∧ (q_I δ 12 5 a0).toInt ≤ (q_I r 12 5 a0).toInt ∧ (q_I r 12 7 a0).toInt = (q_I δ 12 7 a0).toInt ∧ (q_I r 12 27 a0).toInt = (q_I δ 12 27 a0).toInt ∧ (q_I r 12 26 a0).toInt ≤ (q_I r 12 4 a0).toInt ∧ SS ad a0 δ r) := by
  unfold J_X12_readSteps_79
  have f1 : hc ad δ a0 = (q_R δ (Ad ad 101) (q_I δ 12 4 a0).toNatClampNeg).toInt := rfl
  have f2 := cb_12_4 I k_a0
  have t3 := ti_tn (q_I δ 12 4 a0)
  have f4 := ti_b (q_R δ (Ad ad 101) (q_I δ 12 4 a0).toNatClampNeg)
  have f5 := cb_12_24 I k_a0
  have f6 := cb_12_26 I k_a0
  have f7 := ti_b (q_I δ 12 7 a0)
  have f8 := cb_12_27 I k_a0
  have f9 := ti_b x1v
  have f10 := cb_12_5 I k_a0
  have f11 := cb_12_25 I k_a0
  have f12 := cb_12_3 I k_a0
  refine ok_bind (k_X12_fine L hN (a0 := a0) k_a0 I) (fun r13 hr14 => ?_)
  obtain ⟨i15, p16, p17, p18⟩ := hr14
  try rw [i15]
  have f19 := bo_l p16
  have f20 := ti_b r13.1
  refine ok_ite (fun h21 => ?_) (fun h21 => ?_)
  · have c22 : r13.1.toInt = (0 : Int) := o_eq h21
    exact ok_some (show RI ad h.1 δ0 δ ∧ (kp [(12, 4), (12, 5), (12, 6), (12, 7), (12, 25), (12, 26), (12, 27)] δ δ ∧ q_V δ = q_V δ ∧ kr ad [113, 114, 115, 116, 117] δ δ) ∧ (q_I δ 12 4 a0).toInt ≤ (q_I δ 12 4 a0).toInt ∧ (q_I δ 12 5 a0).toInt ≤ (q_I δ 12 5 a0).toInt ∧ (q_I δ 12 7 a0).toInt = (q_I δ 12 7 a0).toInt ∧ (q_I δ 12 27 a0).toInt = (q_I δ 12 27 a0).toInt ∧ (q_I δ 12 26 a0).toInt ≤ (q_I δ 12 4 a0).toInt ∧ SS ad a0 δ δ from ⟨I, ⟨kp_w (by decide) kp_r, rfl, kr_w (by decide) (kr_r (ad := ad))⟩, by first | with_reducible assumption | omega, by first | with_reducible assumption | omega, by first | with_reducible assumption | omega, by first | with_reducible assumption | omega, by first | with_reducible assumption | omega, SS.n NS.r⟩)
  · have c23 : r13.1.toInt ≠ (0 : Int) := o_ne h21
    refine ok_bind (k_X12_pass L hN (a0 := a0) k_a0 I) (fun r24 hr25 => ?_)
    obtain ⟨i26, ⟨u29, u30, u31, u32⟩, p27, p28⟩ := hr25
    have u33 := kp_t kp_r u29
    have v34 : q_V r24 = q_V δ := (u30).trans rfl
    have v35 := kr_t (kr_r (ad := ad)) u32
    have f36 := cb_12_4 i26 k_a0
    have f38 : (q_I r24 12 5 a0).toInt = (q_I δ 12 5 a0).toInt := congrArg Int32.toInt (u29 12 5 a0 (by decide))
    have ns37 : NS ad a0 δ r24 := ⟨u32 112 (by decide) (by decide) (by decide), u32 113 (by decide) (by decide) (by decide), u32 114 (by decide) (by decide) (by decide), u32 115 (by decide) (by decide) (by decide), u32 116 (by decide) (by decide) (by decide), u29 12 24 _ (by decide), u29 12 25 _ (by decide), u29 12 26 _ (by decide), u29 12 27 _ (by decide), fun z => by omega⟩
    have f42 : (q_I r24 12 24 a0).toInt = (q_I δ 12 24 a0).toInt := congrArg Int32.toInt (u29 12 24 a0 (by decide))
    first | (have q43 := te_mulc (c := 60) (n := 60) rfl (q_I r24 12 24 a0) (by omega) (by omega); obtain ⟨f44, f45, f46⟩ := q43) | (obtain ⟨q43, f44, f45, f46⟩ := ti_mulc (c := 60) (n := 60) rfl (q_I r24 12 24 a0))
    have f47 : (q_I r24 12 25 a0).toInt = (q_I δ 12 25 a0).toInt := congrArg Int32.toInt (u29 12 25 a0 (by decide))
    refine ok_biv (fun vx39 e40 => ?_)
    first | (have q48 := te_add ((60 : Int32) * (q_I r24 12 24 a0)) (q_I r24 12 25 a0) (by omega) (by omega); rw [← e40] at q48; obtain ⟨f49, f50, f51⟩ := q48) | (obtain ⟨q48, f49, f50, f51⟩ : ∃ q : Int, vx39.toInt = ((60 : Int32) * (q_I r24 12 24 a0)).toInt + (q_I r24 12 25 a0).toInt + 4294967296 * q ∧ -2147483648 ≤ vx39.toInt ∧ vx39.toInt ≤ 2147483647 := by rw [e40]; exact ti_add ((60 : Int32) * (q_I r24 12 24 a0)) (q_I r24 12 25 a0))
    first | (have q56 := te_addc (c := 1) (n := 1) rfl (q_I r24 12 25 a0) (by omega) (by omega); obtain ⟨f57, f58, f59⟩ := q56) | (obtain ⟨q56, f57, f58, f59⟩ := ti_addc (c := 1) (n := 1) rfl (q_I r24 12 25 a0))
    refine ok_bdv (fun d52 e53 => ?_)
    have i54 : RI ad h.1 δ0 d52 := by rw [e53]; exact cs_12_25 L i26 k_a0 (show 0 ≤ ((q_I r24 12 25 a0) + (1 : Int32)).toInt by omega) (show ((q_I r24 12 25 a0) + (1 : Int32)).toInt ≤ 60 by omega)
    have u60 := kp_I u33 e53
    have v61 : q_V d52 = q_V δ := ((show q_V d52 = q_V r24 by rw [e53]; rfl)).trans v34
    have v62 := kr_N v35 (show q_R d52 = q_R r24 by rw [e53]; rfl)
    obtain ⟨b63, o64, k65, n66, w67⟩ := gO_12_29 L k_a0
    obtain rfl := gS_12_29 L k_a0 o64
    refine ok_at o64 ?_
    have t68 := ti_tn vx39
    refine ok_gd (fun hc69 => ?_) ?_
    · rcases hc69 with hc69 | hc69
      · have c70 : vx39.toInt < (0 : Int) := o_lt hc69
        omega
      · omega
    refine ok_bdv (fun d71 e72 => ?_)
    have i73 : RI ad h.1 δ0 d71 := by rw [e72]; exact RI.sR L i54 w67
    have u74 := kp_N u60 (show q_I d71 = q_I d52 by rw [e72]; rfl)
    have v75 : q_V d71 = q_V δ := ((show q_V d71 = q_V d52 by rw [e72]; rfl)).trans v61
    have v76 := kr_s L (by decide) v62 e72
    refine ok_ite (fun h77 => ?_) (fun h77 => ?_)
    · have c78 : x1v.toInt = (5 : Int) := o_eq h77
      obtain ⟨b79, o80, k81, n82, w83⟩ := gO_12_30 L k_a0
      obtain rfl := gS_12_30 L k_a0 o80
      refine ok_at o80 ?_
      refine ok_bind (k_X12_readNumber L hN (a0 := a0) (x1 := (1 : Int32)) (x2 := (99 : Int32)) k_a0 i73) (fun r84 hr85 => ?_)
      obtain ⟨i86, ⟨u93, u94, u95, u96⟩, p87, p88, p89, p90, p91, p92⟩ := hr85
      have u97 := kp_t u74 u93
      have v98 : q_V r84.2 = q_V δ := (u94).trans v75
      have v99 := kr_t v76 u96
      have f100 : (q_I d71 12 4 a0).toInt = (q_I r24 12 4 a0).toInt := ((show (q_I d71 12 4 a0).toInt = (q_I d52 12 4 a0).toInt from congrArg Int32.toInt (by rw [e72]; rfl)).trans (show (q_I d52 12 4 a0).toInt = (q_I r24 12 4 a0).toInt from congrArg Int32.toInt (by rw [e53]; exact rI_o (by decide))))
      have f101 := cb_12_4 i86 k_a0
      have f102 : (q_I d71 12 5 a0).toInt = (q_I r24 12 5 a0).toInt := ((show (q_I d71 12 5 a0).toInt = (q_I d52 12 5 a0).toInt from congrArg Int32.toInt (by rw [e72]; rfl)).trans (show (q_I d52 12 5 a0).toInt = (q_I r24 12 5 a0).toInt from congrArg Int32.toInt (by rw [e53]; exact rI_o (by decide))))
      have f103 := cb_12_5 i86 k_a0
      have f104 := ti_b r84.1
      replace p92 : ((q_I r84.2 12 5 a0).toInt < 0 → (1 : Int) ≤ (r84.1).toInt ∧ (r84.1).toInt ≤ (99 : Int)) := p92
      have ns105 : NS ad a0 d71 r84.2 := ⟨u96 112 (by decide) (by decide) (by decide), u96 113 (by decide) (by decide) (by decide), u96 114 (by decide) (by decide) (by decide), u96 115 (by decide) (by decide) (by decide), u96 116 (by decide) (by decide) (by decide), u93 12 24 _ (by decide), u93 12 25 _ (by decide), u93 12 26 _ (by decide), u93 12 27 _ (by decide), fun z => by omega⟩
      refine ok_gd (fun hc106 => ?_) ?_
      · rcases hc106 with hc106 | hc106
        · have c107 : vx39.toInt < (0 : Int) := o_lt hc106
          omega
        · omega
      refine ok_bdv (fun d108 e109 => ?_)
      have i110 : RI ad h.1 δ0 d108 := by rw [e109]; exact RI.sR L i86 w83
      have u111 := kp_N u97 (show q_I d108 = q_I r84.2 by rw [e109]; rfl)
      have v112 : q_V d108 = q_V δ := ((show q_V d108 = q_V r84.2 by rw [e109]; rfl)).trans v98
      have v113 := kr_s L (by decide) v99 e109
      refine ok_bind (k_X12_sign L hN (a0 := a0) (x1 := (91 : Int32)) k_a0 (show (91 : Int) ≠ 0 by first | with_reducible assumption | omega) i110) (fun r114 hr115 => ?_)
      obtain ⟨i116, ⟨u120, u121, u122, u123⟩, p117, p118, p119⟩ := hr115
      have u124 := kp_t u111 u120
      have v125 : q_V r114 = q_V δ := (u121).trans v112
      have v126 := kr_t v113 u123
      have f127 : (q_I d108 12 4 a0).toInt = (q_I r84.2 12 4 a0).toInt := congrArg Int32.toInt (by rw [e109]; rfl)
      have f128 := cb_12_4 i116 k_a0
      have f129 : (q_I d108 12 5 a0).toInt = (q_I r84.2 12 5 a0).toInt := congrArg Int32.toInt (by rw [e109]; rfl)
      have f130 := cb_12_5 i116 k_a0
      have ns131 : NS ad a0 d108 r114 := ⟨u123 112 (by decide) (by decide) (by decide), u123 113 (by decide) (by decide) (by decide), u123 114 (by decide) (by decide) (by decide), u123 115 (by decide) (by decide) (by decide), u123 116 (by decide) (by decide) (by decide), u120 12 24 _ (by decide), u120 12 25 _ (by decide), u120 12 26 _ (by decide), u120 12 27 _ (by decide), fun z => by omega⟩
      have f135 : (q_I r114 12 27 a0).toInt = (q_I δ 12 27 a0).toInt := ((show (q_I r114 12 27 a0).toInt = (q_I d108 12 27 a0).toInt from congrArg Int32.toInt (u120 12 27 a0 (by decide))).trans ((show (q_I d108 12 27 a0).toInt = (q_I r84.2 12 27 a0).toInt from congrArg Int32.toInt (by rw [e109]; rfl)).trans ((show (q_I r84.2 12 27 a0).toInt = (q_I d71 12 27 a0).toInt from congrArg Int32.toInt (u93 12 27 a0 (by decide))).trans ((show (q_I d71 12 27 a0).toInt = (q_I d52 12 27 a0).toInt from congrArg Int32.toInt (by rw [e72]; rfl)).trans ((show (q_I d52 12 27 a0).toInt = (q_I r24 12 27 a0).toInt from congrArg Int32.toInt (by rw [e53]; exact rI_o (by decide))).trans (show (q_I r24 12 27 a0).toInt = (q_I δ 12 27 a0).toInt from congrArg Int32.toInt (u29 12 27 a0 (by decide))))))))
      first | (have q137 := te_addc (c := 1) (n := 1) rfl (q_I r114 12 27 a0) (by omega) (by omega); obtain ⟨f138, f139, f140⟩ := q137) | (obtain ⟨q137, f138, f139, f140⟩ := ti_addc (c := 1) (n := 1) rfl (q_I r114 12 27 a0))
      refine ok_bdv (fun d132 e133 => ?_)
      have i134 : RI ad h.1 δ0 d132 := by rw [e133]; exact cs_12_27 L i116 k_a0 (show 0 ≤ ((q_I r114 12 27 a0) + (1 : Int32)).toInt by omega) (show ((q_I r114 12 27 a0) + (1 : Int32)).toInt ≤ 3 by omega)
      have u141 := kp_I u124 e133
      have v142 : q_V d132 = q_V δ := ((show q_V d132 = q_V r114 by rw [e133]; rfl)).trans v125
      have v143 := kr_N v126 (show q_R d132 = q_R r114 by rw [e133]; rfl)
      have f146 : (q_I d132 12 24 a0).toInt = (q_I r24 12 24 a0).toInt := ((show (q_I d132 12 24 a0).toInt = (q_I r114 12 24 a0).toInt from congrArg Int32.toInt (by rw [e133]; exact rI_o (by decide))).trans ((show (q_I r114 12 24 a0).toInt = (q_I d108 12 24 a0).toInt from congrArg Int32.toInt (u120 12 24 a0 (by decide))).trans ((show (q_I d108 12 24 a0).toInt = (q_I r84.2 12 24 a0).toInt from congrArg Int32.toInt (by rw [e109]; rfl)).trans ((show (q_I r84.2 12 24 a0).toInt = (q_I d71 12 24 a0).toInt from congrArg Int32.toInt (u93 12 24 a0 (by decide))).trans ((show (q_I d71 12 24 a0).toInt = (q_I d52 12 24 a0).toInt from congrArg Int32.toInt (by rw [e72]; rfl)).trans (show (q_I d52 12 24 a0).toInt = (q_I r24 12 24 a0).toInt from congrArg Int32.toInt (by rw [e53]; exact rI_o (by decide))))))))
      have f147 : (q_I d132 12 26 a0).toInt = (q_I δ 12 26 a0).toInt := ((show (q_I d132 12 26 a0).toInt = (q_I r114 12 26 a0).toInt from congrArg Int32.toInt (by rw [e133]; exact rI_o (by decide))).trans ((show (q_I r114 12 26 a0).toInt = (q_I d108 12 26 a0).toInt from congrArg Int32.toInt (u120 12 26 a0 (by decide))).trans ((show (q_I d108 12 26 a0).toInt = (q_I r84.2 12 26 a0).toInt from congrArg Int32.toInt (by rw [e109]; rfl)).trans ((show (q_I r84.2 12 26 a0).toInt = (q_I d71 12 26 a0).toInt from congrArg Int32.toInt (u93 12 26 a0 (by decide))).trans ((show (q_I d71 12 26 a0).toInt = (q_I d52 12 26 a0).toInt from congrArg Int32.toInt (by rw [e72]; rfl)).trans ((show (q_I d52 12 26 a0).toInt = (q_I r24 12 26 a0).toInt from congrArg Int32.toInt (by rw [e53]; exact rI_o (by decide))).trans (show (q_I r24 12 26 a0).toInt = (q_I δ 12 26 a0).toInt from congrArg Int32.toInt (u29 12 26 a0 (by decide)))))))))
      have f148 : (q_I d132 12 4 a0).toInt = (q_I r114 12 4 a0).toInt := congrArg Int32.toInt (by rw [e133]; exact rI_o (by decide))
      have f149 : (q_I d132 12 7 a0).toInt = (q_I δ 12 7 a0).toInt := ((show (q_I d132 12 7 a0).toInt = (q_I r114 12 7 a0).toInt from congrArg Int32.toInt (by rw [e133]; exact rI_o (by decide))).trans ((show (q_I r114 12 7 a0).toInt = (q_I d108 12 7 a0).toInt from congrArg Int32.toInt (u120 12 7 a0 (by decide))).trans ((show (q_I d108 12 7 a0).toInt = (q_I r84.2 12 7 a0).toInt from congrArg Int32.toInt (by rw [e109]; rfl)).trans ((show (q_I r84.2 12 7 a0).toInt = (q_I d71 12 7 a0).toInt from congrArg Int32.toInt (u93 12 7 a0 (by decide))).trans ((show (q_I d71 12 7 a0).toInt = (q_I d52 12 7 a0).toInt from congrArg Int32.toInt (by rw [e72]; rfl)).trans ((show (q_I d52 12 7 a0).toInt = (q_I r24 12 7 a0).toInt from congrArg Int32.toInt (by rw [e53]; exact rI_o (by decide))).trans (show (q_I r24 12 7 a0).toInt = (q_I δ 12 7 a0).toInt from congrArg Int32.toInt (u29 12 7 a0 (by decide)))))))))
      have f150 := cb_12_27 i134 k_a0
      have f151 : (q_I d132 12 27 a0).toInt = ((q_I r114 12 27 a0) + (1 : Int32)).toInt := congrArg Int32.toInt (show q_I d132 12 27 a0 = ((q_I r114 12 27 a0) + (1 : Int32)) by rw [e133]; exact rI_s)
      refine ok_bind (hT a0 d132 k_a0 (show (q_I d132 12 24 a0).toInt ≤ 3 by first | with_reducible assumption | omega) (show (q_I d132 12 26 a0).toInt ≤ (q_I d132 12 4 a0).toInt by first | with_reducible assumption | omega) (show (q_I d132 12 7 a0).toInt = 0 by first | with_reducible assumption | omega) (show 4 - (q_I d132 12 27 a0).toInt < _ by first | with_reducible assumption | omega) i134) (fun r144 hr145 => ?_)
      obtain ⟨i152, ⟨u159, u160, u161⟩, p153, p154, p155, p156, p157, p158⟩ := hr145
      have u162 := kp_t u141 u159
      have v163 : q_V r144 = q_V δ := (u160).trans v142
      have v164 := kr_t v143 u161
      have f165 := cb_12_4 i152 k_a0
      have f166 : (q_I d132 12 5 a0).toInt = (q_I r114 12 5 a0).toInt := congrArg Int32.toInt (by rw [e133]; exact rI_o (by decide))
      have f167 := cb_12_5 i152 k_a0
      have f168 := ti_b (q_I r144 12 7 a0)
      have f169 := cb_12_27 i152 k_a0
      have f170 := cb_12_26 i152 k_a0
      first | (have q175 := te_subc (c := 1) (n := 1) rfl (q_I r144 12 27 a0) (by omega) (by omega); obtain ⟨f176, f177, f178⟩ := q175) | (obtain ⟨q175, f176, f177, f178⟩ := ti_subc (c := 1) (n := 1) rfl (q_I r144 12 27 a0))
      refine ok_bdv (fun d171 e172 => ?_)
      have i173 : RI ad h.1 δ0 d171 := by rw [e172]; exact cs_12_27 L i152 k_a0 (show 0 ≤ ((q_I r144 12 27 a0) - (1 : Int32)).toInt by omega) (show ((q_I r144 12 27 a0) - (1 : Int32)).toInt ≤ 3 by omega)
      have u179 := kp_I u162 e172
      have v180 : q_V d171 = q_V δ := ((show q_V d171 = q_V r144 by rw [e172]; rfl)).trans v163
      have v181 := kr_N v164 (show q_R d171 = q_R r144 by rw [e172]; rfl)
      refine ok_bind (k_X12_sign L hN (a0 := a0) (x1 := (93 : Int32)) k_a0 (show (93 : Int) ≠ 0 by first | with_reducible assumption | omega) i173) (fun r182 hr183 => ?_)
      obtain ⟨i184, ⟨u188, u189, u190, u191⟩, p185, p186, p187⟩ := hr183
      have u192 := kp_t u179 u188
      have v193 : q_V r182 = q_V δ := (u189).trans v180
      have v194 := kr_t v181 u191
      have f195 : (q_I d171 12 4 a0).toInt = (q_I r144 12 4 a0).toInt := congrArg Int32.toInt (by rw [e172]; exact rI_o (by decide))
      have f196 := cb_12_4 i184 k_a0
      have f197 : (q_I d171 12 5 a0).toInt = (q_I r144 12 5 a0).toInt := congrArg Int32.toInt (by rw [e172]; exact rI_o (by decide))
      have f198 := cb_12_5 i184 k_a0
      have ns199 : NS ad a0 d171 r182 := ⟨u191 112 (by decide) (by decide) (by decide), u191 113 (by decide) (by decide) (by decide), u191 114 (by decide) (by decide) (by decide), u191 115 (by decide) (by decide) (by decide), u191 116 (by decide) (by decide) (by decide), u188 12 24 _ (by decide), u188 12 25 _ (by decide), u188 12 26 _ (by decide), u188 12 27 _ (by decide), fun z => by omega⟩
      obtain ⟨b200, o201, k202, n203, w204⟩ := gO_12_31 L k_a0
      obtain rfl := gS_12_31 L k_a0 o201
      refine ok_at o201 ?_
      refine ok_gd (fun hc205 => ?_) ?_
      · rcases hc205 with hc205 | hc205
        · have c206 : vx39.toInt < (0 : Int) := o_lt hc205
          omega
        · omega
      refine ok_bdv (fun d207 e208 => ?_)
      have i209 : RI ad h.1 δ0 d207 := by rw [e208]; exact RI.sR L i184 w204
      have u210 := kp_N u192 (show q_I d207 = q_I r182 by rw [e208]; rfl)
      have v211 : q_V d207 = q_V δ := ((show q_V d207 = q_V r182 by rw [e208]; rfl)).trans v193
      have v212 := kr_s L (by decide) v194 e208
      unfold J_X12_readSteps_236
      have f213 : (q_I d207 12 24 a0).toInt = (q_I d132 12 24 a0).toInt := ((show (q_I d207 12 24 a0).toInt = (q_I r182 12 24 a0).toInt from congrArg Int32.toInt (by rw [e208]; rfl)).trans ((show (q_I r182 12 24 a0).toInt = (q_I d171 12 24 a0).toInt from congrArg Int32.toInt (u188 12 24 a0 (by decide))).trans ((show (q_I d171 12 24 a0).toInt = (q_I r144 12 24 a0).toInt from congrArg Int32.toInt (by rw [e172]; exact rI_o (by decide))).trans (show (q_I r144 12 24 a0).toInt = (q_I d132 12 24 a0).toInt from congrArg Int32.toInt (u159 12 24 a0 (by decide))))))
      have f214 : (q_I d207 12 26 a0).toInt = (q_I r144 12 26 a0).toInt := ((show (q_I d207 12 26 a0).toInt = (q_I r182 12 26 a0).toInt from congrArg Int32.toInt (by rw [e208]; rfl)).trans ((show (q_I r182 12 26 a0).toInt = (q_I d171 12 26 a0).toInt from congrArg Int32.toInt (u188 12 26 a0 (by decide))).trans (show (q_I d171 12 26 a0).toInt = (q_I r144 12 26 a0).toInt from congrArg Int32.toInt (by rw [e172]; exact rI_o (by decide)))))
      have f215 : (q_I d207 12 4 a0).toInt = (q_I r182 12 4 a0).toInt := congrArg Int32.toInt (by rw [e208]; rfl)
      have f216 : (q_I d207 12 7 a0).toInt = (q_I r144 12 7 a0).toInt := ((show (q_I d207 12 7 a0).toInt = (q_I r182 12 7 a0).toInt from congrArg Int32.toInt (by rw [e208]; rfl)).trans ((show (q_I r182 12 7 a0).toInt = (q_I d171 12 7 a0).toInt from congrArg Int32.toInt (u188 12 7 a0 (by decide))).trans (show (q_I d171 12 7 a0).toInt = (q_I r144 12 7 a0).toInt from congrArg Int32.toInt (by rw [e172]; exact rI_o (by decide)))))
      have f217 : (q_I d207 12 27 a0).toInt = (q_I d171 12 27 a0).toInt := ((show (q_I d207 12 27 a0).toInt = (q_I r182 12 27 a0).toInt from congrArg Int32.toInt (by rw [e208]; rfl)).trans (show (q_I r182 12 27 a0).toInt = (q_I d171 12 27 a0).toInt from congrArg Int32.toInt (u188 12 27 a0 (by decide))))
      have f218 := cb_12_27 i173 k_a0
      have f219 : (q_I d171 12 27 a0).toInt = ((q_I r144 12 27 a0) - (1 : Int32)).toInt := congrArg Int32.toInt (show q_I d171 12 27 a0 = ((q_I r144 12 27 a0) - (1 : Int32)) by rw [e172]; exact rI_s)
      refine ok_mono (h_kt0 d207 i209 (show (q_I d207 12 24 a0).toInt ≤ 3 by first | with_reducible assumption | omega) (show (q_I d207 12 26 a0).toInt ≤ (q_I d207 12 4 a0).toInt by first | with_reducible assumption | omega) (show (q_I d207 12 7 a0).toInt = 0 by first | with_reducible assumption | omega) (show 4 - (q_I d207 12 27 a0).toInt ≤ K by first | with_reducible assumption | omega) (show 501 - (q_I d207 12 4 a0).toInt < _ by omega)) (fun r220 hr221 => ?_)
      obtain ⟨i222, ⟨u229, u230, u231⟩, p223, p224, p225, p226, p227, p228⟩ := hr221
      have u232 := kp_t u210 u229
      have v233 : q_V r220 = q_V δ := (u230).trans v211
      have v234 := kr_t v212 u231
      have f235 := cb_12_4 i222 k_a0
      have f236 : (q_I d207 12 5 a0).toInt = (q_I r182 12 5 a0).toInt := congrArg Int32.toInt (by rw [e208]; rfl)
      have f237 := cb_12_5 i222 k_a0
      have f238 := ti_b (q_I r220 12 7 a0)
      have f239 := cb_12_27 i222 k_a0
      have f240 := cb_12_26 i222 k_a0
      have ss241 : NS ad a0 δ r24 := NS.t NS.r ns37
      have f243 : (q_I r24 12 26 a0).toInt = (q_I δ 12 26 a0).toInt := congrArg Int32.toInt (u29 12 26 a0 (by decide))
      have f244 : (q_I r24 12 27 a0).toInt = (q_I δ 12 27 a0).toInt := congrArg Int32.toInt (u29 12 27 a0 (by decide))
      have f245 := cb_12_25 i152 k_a0
      have f246 : (q_I r182 12 25 a0).toInt = (q_I r144 12 25 a0).toInt := ((show (q_I r182 12 25 a0).toInt = (q_I d171 12 25 a0).toInt from congrArg Int32.toInt (u188 12 25 a0 (by decide))).trans (show (q_I d171 12 25 a0).toInt = (q_I r144 12 25 a0).toInt from congrArg Int32.toInt (by rw [e172]; exact rI_o (by decide))))
      have ss242 : SS ad a0 δ d207 := SS.times L ss241 e53 e72 ns105 e109 ns131 e133 p158 e172 ns199 e208 (by omega) (by omega) (by omega) (by omega) (show ((vx39.toNatClampNeg : Nat) : Int) = 60 * (q_I δ 12 24 a0).toInt + (q_I δ 12 25 a0).toInt by omega) (show ((q_I r24 12 25 a0) + (1 : Int32)).toInt = (q_I δ 12 25 a0).toInt + 1 by omega) (show x1v.toInt = 5 by omega) (show r84.1.toInt ≤ 1000000 by omega) (show ((q_I r114 12 27 a0) + (1 : Int32)).toInt = (q_I δ 12 27 a0).toInt + 1 by omega) (show ((q_I r144 12 27 a0) - (1 : Int32)).toInt = (q_I r144 12 27 a0).toInt - 1 by omega) (show (q_I r182 12 25 a0).toInt = (q_I r182 12 25 a0).toInt by omega)
      have ss247 : SS ad a0 δ r220 := SS.t ss242 p228
      exact ⟨by first | with_reducible assumption | assumption, ⟨kp_w (by decide) u232, v233, kr_w (by decide) v234⟩, by first | with_reducible assumption | omega, by first | with_reducible assumption | omega, by first | with_reducible assumption | omega, by first | with_reducible assumption | omega, by first | with_reducible assumption | omega, ss247⟩
    · have c248 : x1v.toInt ≠ (5 : Int) := o_ne h77
      obtain ⟨b249, o250, k251, n252, w253⟩ := gO_12_30 L k_a0
      obtain rfl := gS_12_30 L k_a0 o250
      refine ok_at o250 ?_
      refine ok_gd (fun hc254 => ?_) ?_
      · rcases hc254 with hc254 | hc254
        · have c255 : vx39.toInt < (0 : Int) := o_lt hc254
          omega
        · omega
      refine ok_bdv (fun d256 e257 => ?_)
      have i258 : RI ad h.1 δ0 d256 := by rw [e257]; exact RI.sR L i73 w253
      have u259 := kp_N u74 (show q_I d256 = q_I d71 by rw [e257]; rfl)
      have v260 : q_V d256 = q_V δ := ((show q_V d256 = q_V d71 by rw [e257]; rfl)).trans v75
      have v261 := kr_s L (by decide) v76 e257
      have f264 : (q_I d256 12 24 a0).toInt = (q_I r24 12 24 a0).toInt := ((show (q_I d256 12 24 a0).toInt = (q_I d71 12 24 a0).toInt from congrArg Int32.toInt (by rw [e257]; rfl)).trans ((show (q_I d71 12 24 a0).toInt = (q_I d52 12 24 a0).toInt from congrArg Int32.toInt (by rw [e72]; rfl)).trans (show (q_I d52 12 24 a0).toInt = (q_I r24 12 24 a0).toInt from congrArg Int32.toInt (by rw [e53]; exact rI_o (by decide)))))
      have f265 : (q_I d256 12 26 a0).toInt = (q_I δ 12 26 a0).toInt := ((show (q_I d256 12 26 a0).toInt = (q_I d71 12 26 a0).toInt from congrArg Int32.toInt (by rw [e257]; rfl)).trans ((show (q_I d71 12 26 a0).toInt = (q_I d52 12 26 a0).toInt from congrArg Int32.toInt (by rw [e72]; rfl)).trans ((show (q_I d52 12 26 a0).toInt = (q_I r24 12 26 a0).toInt from congrArg Int32.toInt (by rw [e53]; exact rI_o (by decide))).trans (show (q_I r24 12 26 a0).toInt = (q_I δ 12 26 a0).toInt from congrArg Int32.toInt (u29 12 26 a0 (by decide))))))
      have f266 : (q_I d256 12 4 a0).toInt = (q_I r24 12 4 a0).toInt := ((show (q_I d256 12 4 a0).toInt = (q_I d71 12 4 a0).toInt from congrArg Int32.toInt (by rw [e257]; rfl)).trans ((show (q_I d71 12 4 a0).toInt = (q_I d52 12 4 a0).toInt from congrArg Int32.toInt (by rw [e72]; rfl)).trans (show (q_I d52 12 4 a0).toInt = (q_I r24 12 4 a0).toInt from congrArg Int32.toInt (by rw [e53]; exact rI_o (by decide)))))
      have f267 : (q_I d256 12 7 a0).toInt = (q_I δ 12 7 a0).toInt := ((show (q_I d256 12 7 a0).toInt = (q_I d71 12 7 a0).toInt from congrArg Int32.toInt (by rw [e257]; rfl)).trans ((show (q_I d71 12 7 a0).toInt = (q_I d52 12 7 a0).toInt from congrArg Int32.toInt (by rw [e72]; rfl)).trans ((show (q_I d52 12 7 a0).toInt = (q_I r24 12 7 a0).toInt from congrArg Int32.toInt (by rw [e53]; exact rI_o (by decide))).trans (show (q_I r24 12 7 a0).toInt = (q_I δ 12 7 a0).toInt from congrArg Int32.toInt (u29 12 7 a0 (by decide))))))
      have f268 : (q_I d256 12 5 a0).toInt = (q_I r24 12 5 a0).toInt := ((show (q_I d256 12 5 a0).toInt = (q_I d71 12 5 a0).toInt from congrArg Int32.toInt (by rw [e257]; rfl)).trans ((show (q_I d71 12 5 a0).toInt = (q_I d52 12 5 a0).toInt from congrArg Int32.toInt (by rw [e72]; rfl)).trans (show (q_I d52 12 5 a0).toInt = (q_I r24 12 5 a0).toInt from congrArg Int32.toInt (by rw [e53]; exact rI_o (by decide)))))
      refine ok_bind (k_X12_sum L hN (a0 := a0) k_a0 (show (q_I d256 12 24 a0).toInt ≤ 3 by first | with_reducible assumption | omega) (show (q_I d256 12 26 a0).toInt ≤ (q_I d256 12 4 a0).toInt by first | with_reducible assumption | omega) (show 0 ≤ (q_I d256 12 7 a0).toInt by first | with_reducible assumption | omega) (show (q_I d256 12 7 a0).toInt ≤ 7 by first | with_reducible assumption | omega) (show (q_I d256 12 7 a0).toInt = 7 → 0 ≤ (q_I d256 12 5 a0).toInt by first | with_reducible assumption | omega) (show 8 - (q_I d256 12 7 a0).toInt < 20 by first | with_reducible assumption | omega) i258) (fun r262 hr263 => ?_)
      obtain ⟨i269, ⟨u276, u277, u278⟩, p270, p271, p272, p273, p274, p275⟩ := hr263
      have u279 := kp_t u259 u276
      have v280 : q_V r262 = q_V δ := (u277).trans v260
      have v281 := kr_t v261 u278
      have f282 := cb_12_4 i269 k_a0
      have f283 := cb_12_5 i269 k_a0
      have f284 := ti_b (q_I r262 12 7 a0)
      have f285 := cb_12_26 i269 k_a0
      obtain ⟨b286, o287, k288, n289, w290⟩ := gO_12_31 L k_a0
      obtain rfl := gS_12_31 L k_a0 o287
      refine ok_at o287 ?_
      refine ok_gd (fun hc291 => ?_) ?_
      · rcases hc291 with hc291 | hc291
        · have c292 : vx39.toInt < (0 : Int) := o_lt hc291
          omega
        · omega
      refine ok_bdv (fun d293 e294 => ?_)
      have i295 : RI ad h.1 δ0 d293 := by rw [e294]; exact RI.sR L i269 w290
      have u296 := kp_N u279 (show q_I d293 = q_I r262 by rw [e294]; rfl)
      have v297 : q_V d293 = q_V δ := ((show q_V d293 = q_V r262 by rw [e294]; rfl)).trans v280
      have v298 := kr_s L (by decide) v281 e294
      refine ok_bind (k_X12_sign L hN (a0 := a0) (x1 := (59 : Int32)) k_a0 (show (59 : Int) ≠ 0 by first | with_reducible assumption | omega) i295) (fun r299 hr300 => ?_)
      obtain ⟨i301, ⟨u305, u306, u307, u308⟩, p302, p303, p304⟩ := hr300
      have u309 := kp_t u296 u305
      have v310 : q_V r299 = q_V δ := (u306).trans v297
      have v311 := kr_t v298 u308
      have f312 : (q_I d293 12 4 a0).toInt = (q_I r262 12 4 a0).toInt := congrArg Int32.toInt (by rw [e294]; rfl)
      have f313 := cb_12_4 i301 k_a0
      have f314 : (q_I d293 12 5 a0).toInt = (q_I r262 12 5 a0).toInt := congrArg Int32.toInt (by rw [e294]; rfl)
      have f315 := cb_12_5 i301 k_a0
      have ns316 : NS ad a0 d293 r299 := ⟨u308 112 (by decide) (by decide) (by decide), u308 113 (by decide) (by decide) (by decide), u308 114 (by decide) (by decide) (by decide), u308 115 (by decide) (by decide) (by decide), u308 116 (by decide) (by decide) (by decide), u305 12 24 _ (by decide), u305 12 25 _ (by decide), u305 12 26 _ (by decide), u305 12 27 _ (by decide), fun z => by omega⟩
      unfold J_X12_readSteps_236
      have f317 : (q_I r299 12 24 a0).toInt = (q_I d256 12 24 a0).toInt := ((show (q_I r299 12 24 a0).toInt = (q_I d293 12 24 a0).toInt from congrArg Int32.toInt (u305 12 24 a0 (by decide))).trans ((show (q_I d293 12 24 a0).toInt = (q_I r262 12 24 a0).toInt from congrArg Int32.toInt (by rw [e294]; rfl)).trans (show (q_I r262 12 24 a0).toInt = (q_I d256 12 24 a0).toInt from congrArg Int32.toInt (u276 12 24 a0 (by decide)))))
      have f318 : (q_I r299 12 26 a0).toInt = (q_I r262 12 26 a0).toInt := ((show (q_I r299 12 26 a0).toInt = (q_I d293 12 26 a0).toInt from congrArg Int32.toInt (u305 12 26 a0 (by decide))).trans (show (q_I d293 12 26 a0).toInt = (q_I r262 12 26 a0).toInt from congrArg Int32.toInt (by rw [e294]; rfl)))
      have f319 : (q_I r299 12 7 a0).toInt = (q_I r262 12 7 a0).toInt := ((show (q_I r299 12 7 a0).toInt = (q_I d293 12 7 a0).toInt from congrArg Int32.toInt (u305 12 7 a0 (by decide))).trans (show (q_I d293 12 7 a0).toInt = (q_I r262 12 7 a0).toInt from congrArg Int32.toInt (by rw [e294]; rfl)))
      have f320 : (q_I r299 12 27 a0).toInt = (q_I δ 12 27 a0).toInt := ((show (q_I r299 12 27 a0).toInt = (q_I d293 12 27 a0).toInt from congrArg Int32.toInt (u305 12 27 a0 (by decide))).trans ((show (q_I d293 12 27 a0).toInt = (q_I r262 12 27 a0).toInt from congrArg Int32.toInt (by rw [e294]; rfl)).trans ((show (q_I r262 12 27 a0).toInt = (q_I d256 12 27 a0).toInt from congrArg Int32.toInt (u276 12 27 a0 (by decide))).trans ((show (q_I d256 12 27 a0).toInt = (q_I d71 12 27 a0).toInt from congrArg Int32.toInt (by rw [e257]; rfl)).trans ((show (q_I d71 12 27 a0).toInt = (q_I d52 12 27 a0).toInt from congrArg Int32.toInt (by rw [e72]; rfl)).trans ((show (q_I d52 12 27 a0).toInt = (q_I r24 12 27 a0).toInt from congrArg Int32.toInt (by rw [e53]; exact rI_o (by decide))).trans (show (q_I r24 12 27 a0).toInt = (q_I δ 12 27 a0).toInt from congrArg Int32.toInt (u29 12 27 a0 (by decide)))))))))
      refine ok_mono (h_kt0 r299 i301 (show (q_I r299 12 24 a0).toInt ≤ 3 by first | with_reducible assumption | omega) (show (q_I r299 12 26 a0).toInt ≤ (q_I r299 12 4 a0).toInt by first | with_reducible assumption | omega) (show (q_I r299 12 7 a0).toInt = 0 by first | with_reducible assumption | omega) (show 4 - (q_I r299 12 27 a0).toInt ≤ K by first | with_reducible assumption | omega) (show 501 - (q_I r299 12 4 a0).toInt < _ by omega)) (fun r321 hr322 => ?_)
      obtain ⟨i323, ⟨u330, u331, u332⟩, p324, p325, p326, p327, p328, p329⟩ := hr322
      have u333 := kp_t u309 u330
      have v334 : q_V r321 = q_V δ := (u331).trans v310
      have v335 := kr_t v311 u332
      have f336 := cb_12_4 i323 k_a0
      have f337 := cb_12_5 i323 k_a0
      have f338 := ti_b (q_I r321 12 7 a0)
      have f339 := cb_12_27 i323 k_a0
      have f340 := cb_12_26 i323 k_a0
      have ss341 : NS ad a0 δ r24 := NS.t NS.r ns37
      have f343 : (q_I r24 12 26 a0).toInt = (q_I δ 12 26 a0).toInt := congrArg Int32.toInt (u29 12 26 a0 (by decide))
      have f344 : (q_I r24 12 27 a0).toInt = (q_I δ 12 27 a0).toInt := congrArg Int32.toInt (u29 12 27 a0 (by decide))
      have f345 : (q_I r262 12 24 a0).toInt = (q_I d256 12 24 a0).toInt := congrArg Int32.toInt (u276 12 24 a0 (by decide))
      have f347 : (q_I d71 12 24 a0).toInt = (q_I r24 12 24 a0).toInt := ((show (q_I d71 12 24 a0).toInt = (q_I d52 12 24 a0).toInt from congrArg Int32.toInt (by rw [e72]; rfl)).trans (show (q_I d52 12 24 a0).toInt = (q_I r24 12 24 a0).toInt from congrArg Int32.toInt (by rw [e53]; exact rI_o (by decide))))
      first | (have q348 := te_mulc (c := 500) (n := 500) rfl (q_I d71 12 24 a0) (by omega) (by omega); obtain ⟨f349, f350, f351⟩ := q348) | (obtain ⟨q348, f349, f350, f351⟩ := ti_mulc (c := 500) (n := 500) rfl (q_I d71 12 24 a0))
      have f352 : (q_I d71 12 26 a0).toInt = (q_I r24 12 26 a0).toInt := ((show (q_I d71 12 26 a0).toInt = (q_I d52 12 26 a0).toInt from congrArg Int32.toInt (by rw [e72]; rfl)).trans (show (q_I d52 12 26 a0).toInt = (q_I r24 12 26 a0).toInt from congrArg Int32.toInt (by rw [e53]; exact rI_o (by decide))))
      first | (have q354 := te_add ((500 : Int32) * (q_I d71 12 24 a0)) (q_I d71 12 26 a0) (by omega) (by omega); obtain ⟨f355, f356, f357⟩ := q354) | (obtain ⟨q354, f355, f356, f357⟩ := ti_add ((500 : Int32) * (q_I d71 12 24 a0)) (q_I d71 12 26 a0))
      first | (have q359 := te_mulc (c := 500) (n := 500) rfl (q_I r262 12 24 a0) (by omega) (by omega); obtain ⟨f360, f361, f362⟩ := q359) | (obtain ⟨q359, f360, f361, f362⟩ := ti_mulc (c := 500) (n := 500) rfl (q_I r262 12 24 a0))
      first | (have q364 := te_add ((500 : Int32) * (q_I r262 12 24 a0)) (q_I r262 12 26 a0) (by omega) (by omega); obtain ⟨f365, f366, f367⟩ := q364) | (obtain ⟨q364, f365, f366, f367⟩ := ti_add ((500 : Int32) * (q_I r262 12 24 a0)) (q_I r262 12 26 a0))
      have ss342 : SS ad a0 δ r299 := SS.call L ss341 e53 e72 e257 p275 (u278 113 (by decide) (by decide) (by decide)) (u278 114 (by decide) (by decide) (by decide)) (u278 115 (by decide) (by decide) (by decide)) (u276 12 25 _ (by decide)) (u276 12 27 _ (by decide)) e294 ns316 (by omega) (by omega) (by omega) (by omega) (by omega) (by omega) (show ((vx39.toNatClampNeg : Nat) : Int) = 60 * (q_I δ 12 24 a0).toInt + (q_I δ 12 25 a0).toInt by omega) (show ((q_I r24 12 25 a0) + (1 : Int32)).toInt = (q_I δ 12 25 a0).toInt + 1 by omega) (show 0 ≤ x1v.toInt by omega) (show x1v.toInt ≤ 4 by omega) (show (((500 : Int32) * (q_I d71 12 24 a0)) + (q_I d71 12 26 a0)).toInt = 500 * (q_I d256 12 24 a0).toInt + (q_I d256 12 26 a0).toInt by omega) (show (((500 : Int32) * (q_I r262 12 24 a0)) + (q_I r262 12 26 a0)).toInt = 500 * (q_I r262 12 24 a0).toInt + (q_I r262 12 26 a0).toInt by omega)
      have ss368 : SS ad a0 δ r321 := SS.t ss342 p329
      exact ⟨by first | with_reducible assumption | assumption, ⟨kp_w (by decide) u333, v334, kr_w (by decide) v335⟩, by first | with_reducible assumption | omega, by first | with_reducible assumption | omega, by first | with_reducible assumption | omega, by first | with_reducible assumption | omega, by first | with_reducible assumption | omega, ss368⟩
set_option maxHeartbeats 4000000 in
theorem kl_X12_readSteps_0 {ad : List Nat} {h : hp} (L : Lay TLx ad h) {δ0 : dp} {N : Nat} (hN : 10000000 ≤ N) {T : Nat → dp → Option (dp)} {K : Int} (hT : ∀ (a0 : Nat) (δ : dp), q_K h.1 a0 = 12 → (q_I δ 12 24 a0).toInt ≤ 3 → (q_I δ 12 26 a0).toInt ≤ (q_I δ 12 4 a0).toInt → (q_I δ 12 7 a0).toInt = 0 → 4 - (q_I δ 12 27 a0).toInt < K → RI ad h.1 δ0 δ → ok (T a0 δ) (fun r => RI ad h.1 δ0 r ∧ (kp [(12, 4), (12, 5), (12, 6), (12, 7), (12, 25), (12, 26), (12, 27)] δ r ∧ q_V r = q_V δ ∧ kr ad [113, 114, 115, 116, 117] δ r) ∧ (q_I δ 12 4 a0).toInt ≤ (q_I r 12 4 a0).toInt ∧ (q_I δ 12 5 a0).toInt ≤ (q_I r 12 5 a0).toInt ∧ (q_I r 12 7 a0).toInt = (q_I δ 12 7 a0).toInt ∧ (q_I r 12 27 a0).toInt = (q_I δ 12 27 a0).toInt ∧ (q_I r 12 26 a0).toInt ≤ (q_I r 12 4 a0).toInt ∧ SS ad a0 δ r)) {a0 : Nat} (k_a0 : q_K h.1 a0 = 12) : ∀ (n : Nat) (δ : dp), RI ad h.1 δ0 δ → (q_I δ 12 24 a0).toInt ≤ 3 → (q_I δ 12 26 a0).toInt ≤ (q_I δ 12 4 a0).toInt → (q_I δ 12 7 a0).toInt = 0 → 4 - (q_I δ 12 27 a0).toInt ≤ K → 501 - (q_I δ 12 4 a0).toInt < (n : Int) → ok (L_X12_readSteps_0 N h.1 T a0 n δ) (fun r => RI ad h.1 δ0 r ∧ (kp [(12, 4), (12, 5), (12, 6), (12, 7), (12, 25), (12, 26), (12, 27)] δ r ∧ q_V r = q_V δ ∧ kr ad [113, 114, 115, 116, 117] δ r) ∧ (q_I δ 12 4 a0).toInt ≤ (q_I r 12 4 a0).toInt ∧ (q_I δ 12 5 a0).toInt ≤ (q_I r 12 5 a0).toInt ∧ (q_I r 12 7 a0).toInt = (q_I δ 12 7 a0).toInt ∧ (q_I r 12 27 a0).toInt = (q_I δ 12 27 a0).toInt ∧ (q_I r 12 26 a0).toInt ≤ (q_I r 12 4 a0).toInt ∧ SS ad a0 δ r) := by
  intro n
  induction n with
  | zero =>
    intro δ I j0 j1 j2 j3 hm
    have f1 := cb_12_24 I k_a0
    have f2 := cb_12_26 I k_a0
    have f3 := cb_12_4 I k_a0
    have f4 := ti_b (q_I δ 12 7 a0)
    have f5 := cb_12_27 I k_a0
    exfalso; omega
  | succ n ih =>
    intro δ I j0 j1 j2 j3 hm
    unfold L_X12_readSteps_0
    have f1 := cb_12_24 I k_a0
    have f2 := cb_12_26 I k_a0
    have f3 := cb_12_4 I k_a0
    have f4 := ti_b (q_I δ 12 7 a0)
    have f5 := cb_12_27 I k_a0
    refine ok_bind (k_X12_fine L hN (a0 := a0) k_a0 I) (fun r6 hr7 => ?_)
    obtain ⟨i8, p9, p10, p11⟩ := hr7
    try rw [i8]
    have f12 := bo_l p9
    have f13 := cb_12_5 I k_a0
    have f14 := ti_b r6.1
    refine ok_ite (fun h15 => ?_) (fun h15 => ?_)
    · have c16 : r6.1.toInt = (0 : Int) := o_eq h15
      unfold J_X12_readSteps_239
      exact ok_some (show RI ad h.1 δ0 δ ∧ (kp [(12, 4), (12, 5), (12, 6), (12, 7), (12, 25), (12, 26), (12, 27)] δ δ ∧ q_V δ = q_V δ ∧ kr ad [113, 114, 115, 116, 117] δ δ) ∧ (q_I δ 12 4 a0).toInt ≤ (q_I δ 12 4 a0).toInt ∧ (q_I δ 12 5 a0).toInt ≤ (q_I δ 12 5 a0).toInt ∧ (q_I δ 12 7 a0).toInt = (q_I δ 12 7 a0).toInt ∧ (q_I δ 12 27 a0).toInt = (q_I δ 12 27 a0).toInt ∧ (q_I δ 12 26 a0).toInt ≤ (q_I δ 12 4 a0).toInt ∧ SS ad a0 δ δ from ⟨I, ⟨kp_w (by decide) kp_r, rfl, kr_w (by decide) (kr_r (ad := ad))⟩, by first | with_reducible assumption | omega, by first | with_reducible assumption | omega, by first | with_reducible assumption | omega, by first | with_reducible assumption | omega, by first | with_reducible assumption | omega, SS.n NS.r⟩)
    · have c17 : r6.1.toInt ≠ (0 : Int) := o_ne h15
      refine ok_bind (k_X12_isMore L hN (a0 := a0) k_a0 I) (fun r18 hr19 => ?_)
      obtain ⟨i20, ⟨u24, u25, u26, u27⟩, p21, p22, p23⟩ := hr19
      have u28 := kp_t kp_r u24
      have v29 : q_V r18.2 = q_V δ := (u25).trans rfl
      have v30 := kr_t (kr_r (ad := ad)) u27
      have f31 := bo_l p21
      have f32 := cb_12_4 i20 k_a0
      have f33 := ti_b r18.1
      have f34 := cb_12_3 I k_a0
      have f36 : (q_I r18.2 12 5 a0).toInt = (q_I δ 12 5 a0).toInt := congrArg Int32.toInt (u24 12 5 a0 (by decide))
      have ns35 : NS ad a0 δ r18.2 := ⟨u27 112 (by decide) (by decide) (by decide), u27 113 (by decide) (by decide) (by decide), u27 114 (by decide) (by decide) (by decide), u27 115 (by decide) (by decide) (by decide), u27 116 (by decide) (by decide) (by decide), u24 12 24 _ (by decide), u24 12 25 _ (by decide), u24 12 26 _ (by decide), u24 12 27 _ (by decide), fun z => by omega⟩
      refine ok_ite (fun h37 => ?_) (fun h37 => ?_)
      · have c38 : r18.1.toInt = (0 : Int) := o_eq h37
        unfold J_X12_readSteps_239
        have f39 : (q_I r18.2 12 7 a0).toInt = (q_I δ 12 7 a0).toInt := congrArg Int32.toInt (u24 12 7 a0 (by decide))
        have f40 : (q_I r18.2 12 27 a0).toInt = (q_I δ 12 27 a0).toInt := congrArg Int32.toInt (u24 12 27 a0 (by decide))
        have f41 : (q_I r18.2 12 26 a0).toInt = (q_I δ 12 26 a0).toInt := congrArg Int32.toInt (u24 12 26 a0 (by decide))
        have ss42 : NS ad a0 δ r18.2 := NS.t NS.r ns35
        exact ok_some (show RI ad h.1 δ0 r18.2 ∧ (kp [(12, 4), (12, 5), (12, 6), (12, 7), (12, 25), (12, 26), (12, 27)] δ r18.2 ∧ q_V r18.2 = q_V δ ∧ kr ad [113, 114, 115, 116, 117] δ r18.2) ∧ (q_I δ 12 4 a0).toInt ≤ (q_I r18.2 12 4 a0).toInt ∧ (q_I δ 12 5 a0).toInt ≤ (q_I r18.2 12 5 a0).toInt ∧ (q_I r18.2 12 7 a0).toInt = (q_I δ 12 7 a0).toInt ∧ (q_I r18.2 12 27 a0).toInt = (q_I δ 12 27 a0).toInt ∧ (q_I r18.2 12 26 a0).toInt ≤ (q_I r18.2 12 4 a0).toInt ∧ SS ad a0 δ r18.2 from ⟨i20, ⟨kp_w (by decide) u28, v29, kr_w (by decide) v30⟩, by first | with_reducible assumption | omega, by first | with_reducible assumption | omega, by first | with_reducible assumption | omega, by first | with_reducible assumption | omega, by first | with_reducible assumption | omega, SS.n ss42⟩)
      · have c43 : r18.1.toInt ≠ (0 : Int) := o_ne h37
        refine ok_bind (k_X12_here L hN (a0 := a0) k_a0 i20) (fun r44 hr45 => ?_)
        obtain ⟨i46, ⟨u50, u51, u52, u53⟩, p47, p48, p49⟩ := hr45
        have u54 := kp_t u28 u50
        have v55 : q_V r44.2 = q_V δ := (u51).trans v29
        have v56 := kr_t v30 u53
        have f57 := cb_12_4 i46 k_a0
        have f58 : hc ad r44.2 a0 = (q_R r44.2 (Ad ad 101) (q_I r44.2 12 4 a0).toNatClampNeg).toInt := rfl
        have t59 := ti_tn (q_I r44.2 12 4 a0)
        have f60 : (q_R r44.2 (Ad ad 101) (q_I r44.2 12 4 a0).toNatClampNeg).toInt = (q_R r18.2 (Ad ad 101) (q_I r44.2 12 4 a0).toNatClampNeg).toInt := congrArg Int32.toInt (congrFun (u53 101 (by decide) (by decide) (by decide)) _)
        have f61 : (q_R r18.2 (Ad ad 101) (q_I r44.2 12 4 a0).toNatClampNeg).toInt = (q_R δ (Ad ad 101) (q_I r44.2 12 4 a0).toNatClampNeg).toInt := congrArg Int32.toInt (congrFun (u27 101 (by decide) (by decide) (by decide)) _)
        have f62 := ti_b (q_R δ (Ad ad 101) (q_I r44.2 12 4 a0).toNatClampNeg)
        have f63 := ti_b (q_R r18.2 (Ad ad 101) (q_I r44.2 12 4 a0).toNatClampNeg)
        have f64 := ti_b (q_R r44.2 (Ad ad 101) (q_I r44.2 12 4 a0).toNatClampNeg)
        have f65 := ti_b r44.1
        have f66 : (q_I r18.2 12 3 a0).toInt = (q_I δ 12 3 a0).toInt := congrArg Int32.toInt (u24 12 3 a0 (by decide))
        have f67 : hc ad r18.2 a0 = (q_R r18.2 (Ad ad 101) (q_I r18.2 12 4 a0).toNatClampNeg).toInt := rfl
        have t68 := ti_tn (q_I r18.2 12 4 a0)
        have f69 : (q_R r18.2 (Ad ad 101) (q_I r18.2 12 4 a0).toNatClampNeg).toInt = (q_R δ (Ad ad 101) (q_I r18.2 12 4 a0).toNatClampNeg).toInt := congrArg Int32.toInt (congrFun (u27 101 (by decide) (by decide) (by decide)) _)
        have f70 := ti_b (q_R δ (Ad ad 101) (q_I r18.2 12 4 a0).toNatClampNeg)
        have f71 := ti_b (q_R r18.2 (Ad ad 101) (q_I r18.2 12 4 a0).toNatClampNeg)
        have f73 : (q_I r44.2 12 5 a0).toInt = (q_I r18.2 12 5 a0).toInt := congrArg Int32.toInt (u50 12 5 a0 (by decide))
        have ns72 : NS ad a0 r18.2 r44.2 := ⟨u53 112 (by decide) (by decide) (by decide), u53 113 (by decide) (by decide) (by decide), u53 114 (by decide) (by decide) (by decide), u53 115 (by decide) (by decide) (by decide), u53 116 (by decide) (by decide) (by decide), u50 12 24 _ (by decide), u50 12 25 _ (by decide), u50 12 26 _ (by decide), u50 12 27 _ (by decide), fun z => by omega⟩
        refine ok_ite (fun h74 => ?_) (fun h74 => ?_)
        · have c75 : r44.1.toInt = (93 : Int) := o_eq h74
          unfold J_X12_readSteps_239
          have f76 : (q_I r44.2 12 7 a0).toInt = (q_I δ 12 7 a0).toInt := ((show (q_I r44.2 12 7 a0).toInt = (q_I r18.2 12 7 a0).toInt from congrArg Int32.toInt (u50 12 7 a0 (by decide))).trans (show (q_I r18.2 12 7 a0).toInt = (q_I δ 12 7 a0).toInt from congrArg Int32.toInt (u24 12 7 a0 (by decide))))
          have f77 : (q_I r44.2 12 27 a0).toInt = (q_I δ 12 27 a0).toInt := ((show (q_I r44.2 12 27 a0).toInt = (q_I r18.2 12 27 a0).toInt from congrArg Int32.toInt (u50 12 27 a0 (by decide))).trans (show (q_I r18.2 12 27 a0).toInt = (q_I δ 12 27 a0).toInt from congrArg Int32.toInt (u24 12 27 a0 (by decide))))
          have f78 : (q_I r44.2 12 26 a0).toInt = (q_I δ 12 26 a0).toInt := ((show (q_I r44.2 12 26 a0).toInt = (q_I r18.2 12 26 a0).toInt from congrArg Int32.toInt (u50 12 26 a0 (by decide))).trans (show (q_I r18.2 12 26 a0).toInt = (q_I δ 12 26 a0).toInt from congrArg Int32.toInt (u24 12 26 a0 (by decide))))
          have ss79 : NS ad a0 δ r18.2 := NS.t NS.r ns35
          have ss80 : NS ad a0 δ r44.2 := NS.t ss79 ns72
          exact ok_some (show RI ad h.1 δ0 r44.2 ∧ (kp [(12, 4), (12, 5), (12, 6), (12, 7), (12, 25), (12, 26), (12, 27)] δ r44.2 ∧ q_V r44.2 = q_V δ ∧ kr ad [113, 114, 115, 116, 117] δ r44.2) ∧ (q_I δ 12 4 a0).toInt ≤ (q_I r44.2 12 4 a0).toInt ∧ (q_I δ 12 5 a0).toInt ≤ (q_I r44.2 12 5 a0).toInt ∧ (q_I r44.2 12 7 a0).toInt = (q_I δ 12 7 a0).toInt ∧ (q_I r44.2 12 27 a0).toInt = (q_I δ 12 27 a0).toInt ∧ (q_I r44.2 12 26 a0).toInt ≤ (q_I r44.2 12 4 a0).toInt ∧ SS ad a0 δ r44.2 from ⟨i46, ⟨kp_w (by decide) u54, v55, kr_w (by decide) v56⟩, by first | with_reducible assumption | omega, by first | with_reducible assumption | omega, by first | with_reducible assumption | omega, by first | with_reducible assumption | omega, by first | with_reducible assumption | omega, SS.n ss80⟩)
        · have c81 : r44.1.toInt ≠ (93 : Int) := o_ne h74
          refine ok_bind (k_X12_word L hN (a0 := a0) k_a0 i46) (fun r82 hr83 => ?_)
          obtain ⟨i84, ⟨u87, u88, u89, u90⟩, p85, p86⟩ := hr83
          have u91 := kp_t u54 u87
          have v92 : q_V r82.2 = q_V δ := (u88).trans v55
          have v93 := kr_t v56 u90
          have f94 := cb_12_4 i84 k_a0
          have f95 : hc ad r82.2 a0 = (q_R r82.2 (Ad ad 101) (q_I r82.2 12 4 a0).toNatClampNeg).toInt := rfl
          have t96 := ti_tn (q_I r82.2 12 4 a0)
          have f97 : (q_R r82.2 (Ad ad 101) (q_I r82.2 12 4 a0).toNatClampNeg).toInt = (q_R r44.2 (Ad ad 101) (q_I r82.2 12 4 a0).toNatClampNeg).toInt := congrArg Int32.toInt (congrFun (u90 101 (by decide) (by decide) (by decide)) _)
          have f98 : (q_R r44.2 (Ad ad 101) (q_I r82.2 12 4 a0).toNatClampNeg).toInt = (q_R r18.2 (Ad ad 101) (q_I r82.2 12 4 a0).toNatClampNeg).toInt := congrArg Int32.toInt (congrFun (u53 101 (by decide) (by decide) (by decide)) _)
          have f99 : (q_R r18.2 (Ad ad 101) (q_I r82.2 12 4 a0).toNatClampNeg).toInt = (q_R δ (Ad ad 101) (q_I r82.2 12 4 a0).toNatClampNeg).toInt := congrArg Int32.toInt (congrFun (u27 101 (by decide) (by decide) (by decide)) _)
          have f100 := ti_b (q_R δ (Ad ad 101) (q_I r82.2 12 4 a0).toNatClampNeg)
          have f101 := ti_b (q_R r18.2 (Ad ad 101) (q_I r82.2 12 4 a0).toNatClampNeg)
          have f102 := ti_b (q_R r44.2 (Ad ad 101) (q_I r82.2 12 4 a0).toNatClampNeg)
          have f103 := ti_b (q_R r82.2 (Ad ad 101) (q_I r82.2 12 4 a0).toNatClampNeg)
          have f104 := ti_b r82.1
          have f105 : (q_I r44.2 12 3 a0).toInt = (q_I r18.2 12 3 a0).toInt := congrArg Int32.toInt (u50 12 3 a0 (by decide))
          have f107 : (q_I r82.2 12 5 a0).toInt = (q_I r44.2 12 5 a0).toInt := congrArg Int32.toInt (u87 12 5 a0 (by decide))
          have ns106 : NS ad a0 r44.2 r82.2 := ⟨u90 112 (by decide) (by decide) (by decide), u90 113 (by decide) (by decide) (by decide), u90 114 (by decide) (by decide) (by decide), u90 115 (by decide) (by decide) (by decide), u90 116 (by decide) (by decide) (by decide), u87 12 24 _ (by decide), u87 12 25 _ (by decide), u87 12 26 _ (by decide), u87 12 27 _ (by decide), fun z => by omega⟩
          refine ok_bind (k_X12_stepOf L hN (x0 := r82.1)  i84) (fun r108 hr109 => ?_)
          obtain ⟨i110, p111, p112, p113⟩ := hr109
          try rw [i110]
          have f114 := ti_b r108.1
          refine ok_ite (fun h115 => ?_) (fun h115 => ?_)
          · have c116 : r108.1.toInt = (-1 : Int) := o_eq h115
            refine ok_bind (k_X12_wrong L hN (a0 := a0) (x1 := (1 : Int32)) (x2 := (q_I r82.2 12 4 a0)) k_a0 (show 0 ≤ ((q_I r82.2 12 4 a0)).toInt by first | with_reducible assumption | omega) (show ((q_I r82.2 12 4 a0)).toInt ≤ 500 by first | with_reducible assumption | omega) (show 0 ≤ (1 : Int) by first | with_reducible assumption | omega) (show (1 : Int) ≤ 4 by first | with_reducible assumption | omega) i84) (fun r117 hr118 => ?_)
            obtain ⟨i119, ⟨u122, u123, u124, u125⟩, p120, p121⟩ := hr118
            have u126 := kp_t u91 u122
            have v127 : q_V r117 = q_V δ := (u123).trans v92
            have v128 := kr_t v93 u125
            have f129 := cb_12_5 i119 k_a0
            have ns130 : NS ad a0 r82.2 r117 := ⟨u125 112 (by decide) (by decide) (by decide), u125 113 (by decide) (by decide) (by decide), u125 114 (by decide) (by decide) (by decide), u125 115 (by decide) (by decide) (by decide), u125 116 (by decide) (by decide) (by decide), u122 12 24 _ (by decide), u122 12 25 _ (by decide), u122 12 26 _ (by decide), u122 12 27 _ (by decide), fun z => by omega⟩
            have f131 : (q_I r117 12 24 a0).toInt = (q_I δ 12 24 a0).toInt := ((show (q_I r117 12 24 a0).toInt = (q_I r82.2 12 24 a0).toInt from congrArg Int32.toInt (u122 12 24 a0 (by decide))).trans ((show (q_I r82.2 12 24 a0).toInt = (q_I r44.2 12 24 a0).toInt from congrArg Int32.toInt (u87 12 24 a0 (by decide))).trans ((show (q_I r44.2 12 24 a0).toInt = (q_I r18.2 12 24 a0).toInt from congrArg Int32.toInt (u50 12 24 a0 (by decide))).trans (show (q_I r18.2 12 24 a0).toInt = (q_I δ 12 24 a0).toInt from congrArg Int32.toInt (u24 12 24 a0 (by decide))))))
            have f132 : (q_I r117 12 26 a0).toInt = (q_I δ 12 26 a0).toInt := ((show (q_I r117 12 26 a0).toInt = (q_I r82.2 12 26 a0).toInt from congrArg Int32.toInt (u122 12 26 a0 (by decide))).trans ((show (q_I r82.2 12 26 a0).toInt = (q_I r44.2 12 26 a0).toInt from congrArg Int32.toInt (u87 12 26 a0 (by decide))).trans ((show (q_I r44.2 12 26 a0).toInt = (q_I r18.2 12 26 a0).toInt from congrArg Int32.toInt (u50 12 26 a0 (by decide))).trans (show (q_I r18.2 12 26 a0).toInt = (q_I δ 12 26 a0).toInt from congrArg Int32.toInt (u24 12 26 a0 (by decide))))))
            have f133 : (q_I r117 12 4 a0).toInt = (q_I r82.2 12 4 a0).toInt := congrArg Int32.toInt (u122 12 4 a0 (by decide))
            have f134 : (q_I r117 12 7 a0).toInt = (q_I δ 12 7 a0).toInt := ((show (q_I r117 12 7 a0).toInt = (q_I r82.2 12 7 a0).toInt from congrArg Int32.toInt (u122 12 7 a0 (by decide))).trans ((show (q_I r82.2 12 7 a0).toInt = (q_I r44.2 12 7 a0).toInt from congrArg Int32.toInt (u87 12 7 a0 (by decide))).trans ((show (q_I r44.2 12 7 a0).toInt = (q_I r18.2 12 7 a0).toInt from congrArg Int32.toInt (u50 12 7 a0 (by decide))).trans (show (q_I r18.2 12 7 a0).toInt = (q_I δ 12 7 a0).toInt from congrArg Int32.toInt (u24 12 7 a0 (by decide))))))
            have f135 : (q_I r117 12 27 a0).toInt = (q_I δ 12 27 a0).toInt := ((show (q_I r117 12 27 a0).toInt = (q_I r82.2 12 27 a0).toInt from congrArg Int32.toInt (u122 12 27 a0 (by decide))).trans ((show (q_I r82.2 12 27 a0).toInt = (q_I r44.2 12 27 a0).toInt from congrArg Int32.toInt (u87 12 27 a0 (by decide))).trans ((show (q_I r44.2 12 27 a0).toInt = (q_I r18.2 12 27 a0).toInt from congrArg Int32.toInt (u50 12 27 a0 (by decide))).trans (show (q_I r18.2 12 27 a0).toInt = (q_I δ 12 27 a0).toInt from congrArg Int32.toInt (u24 12 27 a0 (by decide))))))
            have f136 : (q_I r117 12 25 a0).toInt = (q_I δ 12 25 a0).toInt := ((show (q_I r117 12 25 a0).toInt = (q_I r82.2 12 25 a0).toInt from congrArg Int32.toInt (u122 12 25 a0 (by decide))).trans ((show (q_I r82.2 12 25 a0).toInt = (q_I r44.2 12 25 a0).toInt from congrArg Int32.toInt (u87 12 25 a0 (by decide))).trans ((show (q_I r44.2 12 25 a0).toInt = (q_I r18.2 12 25 a0).toInt from congrArg Int32.toInt (u50 12 25 a0 (by decide))).trans (show (q_I r18.2 12 25 a0).toInt = (q_I δ 12 25 a0).toInt from congrArg Int32.toInt (u24 12 25 a0 (by decide))))))
            have f137 := cb_12_25 I k_a0
            have f138 : hc ad r117 a0 = (q_R r117 (Ad ad 101) (q_I r117 12 4 a0).toNatClampNeg).toInt := rfl
            have t139 := ti_tn (q_I r117 12 4 a0)
            have f140 : (q_R r117 (Ad ad 101) (q_I r117 12 4 a0).toNatClampNeg).toInt = (q_R r82.2 (Ad ad 101) (q_I r117 12 4 a0).toNatClampNeg).toInt := congrArg Int32.toInt (congrFun (u125 101 (by decide) (by decide) (by decide)) _)
            have f141 : (q_R r82.2 (Ad ad 101) (q_I r117 12 4 a0).toNatClampNeg).toInt = (q_R r44.2 (Ad ad 101) (q_I r117 12 4 a0).toNatClampNeg).toInt := congrArg Int32.toInt (congrFun (u90 101 (by decide) (by decide) (by decide)) _)
            have f142 : (q_R r44.2 (Ad ad 101) (q_I r117 12 4 a0).toNatClampNeg).toInt = (q_R r18.2 (Ad ad 101) (q_I r117 12 4 a0).toNatClampNeg).toInt := congrArg Int32.toInt (congrFun (u53 101 (by decide) (by decide) (by decide)) _)
            have f143 : (q_R r18.2 (Ad ad 101) (q_I r117 12 4 a0).toNatClampNeg).toInt = (q_R δ (Ad ad 101) (q_I r117 12 4 a0).toNatClampNeg).toInt := congrArg Int32.toInt (congrFun (u27 101 (by decide) (by decide) (by decide)) _)
            have f144 := ti_b (q_R δ (Ad ad 101) (q_I r117 12 4 a0).toNatClampNeg)
            have f145 := ti_b (q_R r18.2 (Ad ad 101) (q_I r117 12 4 a0).toNatClampNeg)
            have f146 := ti_b (q_R r44.2 (Ad ad 101) (q_I r117 12 4 a0).toNatClampNeg)
            have f147 := ti_b (q_R r82.2 (Ad ad 101) (q_I r117 12 4 a0).toNatClampNeg)
            have f148 := ti_b (q_R r117 (Ad ad 101) (q_I r117 12 4 a0).toNatClampNeg)
            have f149 : (q_I r117 12 3 a0).toInt = (q_I r44.2 12 3 a0).toInt := ((show (q_I r117 12 3 a0).toInt = (q_I r82.2 12 3 a0).toInt from congrArg Int32.toInt (u122 12 3 a0 (by decide))).trans (show (q_I r82.2 12 3 a0).toInt = (q_I r44.2 12 3 a0).toInt from congrArg Int32.toInt (u87 12 3 a0 (by decide))))
            refine ok_mono (kj_X12_readSteps_79 L hN (K0 := (n : Int)) (a0 := a0) (x1v := r108.1) hT ih k_a0 (show (q_I r117 12 24 a0).toInt ≤ 3 by first | with_reducible assumption | omega) (show (q_I r117 12 26 a0).toInt ≤ (q_I r117 12 4 a0).toInt by first | with_reducible assumption | omega) (show (q_I r117 12 7 a0).toInt = 0 by first | with_reducible assumption | omega) (show 4 - (q_I r117 12 27 a0).toInt ≤ K by first | with_reducible assumption | omega) (show -1 ≤ (r108.1).toInt by first | with_reducible assumption | omega) (show (r108.1).toInt ≤ 5 by first | with_reducible assumption | omega) (show (q_I r117 12 5 a0).toInt < 0 → 0 ≤ (r108.1).toInt by first | with_reducible assumption | omega) (show (q_I r117 12 5 a0).toInt < 0 → (q_I r117 12 25 a0).toInt ≤ 59 by first | with_reducible assumption | omega) (show (q_I r117 12 5 a0).toInt < 0 → (r108.1).toInt = 5 → (q_I r117 12 27 a0).toInt ≤ 2 by first | with_reducible assumption | omega) (show (q_I r117 12 5 a0).toInt < 0 → (q_I r117 12 4 a0).toInt < (q_I r117 12 3 a0).toInt ∧ 97 ≤ hc ad r117 a0 ∧ hc ad r117 a0 ≤ 122 by first | with_reducible assumption | omega) (show 501 - (q_I r117 12 4 a0).toInt ≤ (n : Int) by first | with_reducible assumption | omega) i119) (fun r150 hr151 => ?_)
            obtain ⟨i152, ⟨u159, u160, u161⟩, p153, p154, p155, p156, p157, p158⟩ := hr151
            have u162 := kp_t u126 u159
            have v163 : q_V r150 = q_V δ := (u160).trans v127
            have v164 := kr_t v128 u161
            have f165 := cb_12_4 i152 k_a0
            have f166 := cb_12_5 i152 k_a0
            have f167 := ti_b (q_I r150 12 7 a0)
            have f168 := cb_12_27 i152 k_a0
            have f169 := cb_12_26 i152 k_a0
            have ss170 : NS ad a0 δ r18.2 := NS.t NS.r ns35
            have ss171 : NS ad a0 δ r44.2 := NS.t ss170 ns72
            have ss172 : NS ad a0 δ r82.2 := NS.t ss171 ns106
            have ss173 : NS ad a0 δ r117 := NS.t ss172 ns130
            have ss174 : SS ad a0 δ r150 := SS.pre ss173 p158
            exact ⟨by first | with_reducible assumption | assumption, ⟨kp_w (by decide) u162, v163, kr_w (by decide) v164⟩, by first | with_reducible assumption | omega, by first | with_reducible assumption | omega, by first | with_reducible assumption | omega, by first | with_reducible assumption | omega, by first | with_reducible assumption | omega, ss174⟩
          · have c175 : r108.1.toInt ≠ (-1 : Int) := o_ne h115
            have f176 : (q_I r82.2 12 25 a0).toInt = (q_I δ 12 25 a0).toInt := ((show (q_I r82.2 12 25 a0).toInt = (q_I r44.2 12 25 a0).toInt from congrArg Int32.toInt (u87 12 25 a0 (by decide))).trans ((show (q_I r44.2 12 25 a0).toInt = (q_I r18.2 12 25 a0).toInt from congrArg Int32.toInt (u50 12 25 a0 (by decide))).trans (show (q_I r18.2 12 25 a0).toInt = (q_I δ 12 25 a0).toInt from congrArg Int32.toInt (u24 12 25 a0 (by decide)))))
            have f177 := cb_12_25 I k_a0
            refine ok_ite (fun h178 => ?_) (fun h178 => ?_)
            · have c179 : (q_I r82.2 12 25 a0).toInt = (60 : Int) := o_eq h178
              unfold J_X12_readSteps_70
              refine ok_bind (k_X12_wrong L hN (a0 := a0) (x1 := (3 : Int32)) (x2 := (q_I r82.2 12 4 a0)) k_a0 (show 0 ≤ ((q_I r82.2 12 4 a0)).toInt by first | with_reducible assumption | omega) (show ((q_I r82.2 12 4 a0)).toInt ≤ 500 by first | with_reducible assumption | omega) (show 0 ≤ (3 : Int) by first | with_reducible assumption | omega) (show (3 : Int) ≤ 4 by first | with_reducible assumption | omega) i84) (fun r180 hr181 => ?_)
              obtain ⟨i182, ⟨u185, u186, u187, u188⟩, p183, p184⟩ := hr181
              have u189 := kp_t u91 u185
              have v190 : q_V r180 = q_V δ := (u186).trans v92
              have v191 := kr_t v93 u188
              have f192 := cb_12_5 i182 k_a0
              have ns193 : NS ad a0 r82.2 r180 := ⟨u188 112 (by decide) (by decide) (by decide), u188 113 (by decide) (by decide) (by decide), u188 114 (by decide) (by decide) (by decide), u188 115 (by decide) (by decide) (by decide), u188 116 (by decide) (by decide) (by decide), u185 12 24 _ (by decide), u185 12 25 _ (by decide), u185 12 26 _ (by decide), u185 12 27 _ (by decide), fun z => by omega⟩
              have f194 : (q_I r180 12 24 a0).toInt = (q_I δ 12 24 a0).toInt := ((show (q_I r180 12 24 a0).toInt = (q_I r82.2 12 24 a0).toInt from congrArg Int32.toInt (u185 12 24 a0 (by decide))).trans ((show (q_I r82.2 12 24 a0).toInt = (q_I r44.2 12 24 a0).toInt from congrArg Int32.toInt (u87 12 24 a0 (by decide))).trans ((show (q_I r44.2 12 24 a0).toInt = (q_I r18.2 12 24 a0).toInt from congrArg Int32.toInt (u50 12 24 a0 (by decide))).trans (show (q_I r18.2 12 24 a0).toInt = (q_I δ 12 24 a0).toInt from congrArg Int32.toInt (u24 12 24 a0 (by decide))))))
              have f195 : (q_I r180 12 26 a0).toInt = (q_I δ 12 26 a0).toInt := ((show (q_I r180 12 26 a0).toInt = (q_I r82.2 12 26 a0).toInt from congrArg Int32.toInt (u185 12 26 a0 (by decide))).trans ((show (q_I r82.2 12 26 a0).toInt = (q_I r44.2 12 26 a0).toInt from congrArg Int32.toInt (u87 12 26 a0 (by decide))).trans ((show (q_I r44.2 12 26 a0).toInt = (q_I r18.2 12 26 a0).toInt from congrArg Int32.toInt (u50 12 26 a0 (by decide))).trans (show (q_I r18.2 12 26 a0).toInt = (q_I δ 12 26 a0).toInt from congrArg Int32.toInt (u24 12 26 a0 (by decide))))))
              have f196 : (q_I r180 12 4 a0).toInt = (q_I r82.2 12 4 a0).toInt := congrArg Int32.toInt (u185 12 4 a0 (by decide))
              have f197 : (q_I r180 12 7 a0).toInt = (q_I δ 12 7 a0).toInt := ((show (q_I r180 12 7 a0).toInt = (q_I r82.2 12 7 a0).toInt from congrArg Int32.toInt (u185 12 7 a0 (by decide))).trans ((show (q_I r82.2 12 7 a0).toInt = (q_I r44.2 12 7 a0).toInt from congrArg Int32.toInt (u87 12 7 a0 (by decide))).trans ((show (q_I r44.2 12 7 a0).toInt = (q_I r18.2 12 7 a0).toInt from congrArg Int32.toInt (u50 12 7 a0 (by decide))).trans (show (q_I r18.2 12 7 a0).toInt = (q_I δ 12 7 a0).toInt from congrArg Int32.toInt (u24 12 7 a0 (by decide))))))
              have f198 : (q_I r180 12 27 a0).toInt = (q_I δ 12 27 a0).toInt := ((show (q_I r180 12 27 a0).toInt = (q_I r82.2 12 27 a0).toInt from congrArg Int32.toInt (u185 12 27 a0 (by decide))).trans ((show (q_I r82.2 12 27 a0).toInt = (q_I r44.2 12 27 a0).toInt from congrArg Int32.toInt (u87 12 27 a0 (by decide))).trans ((show (q_I r44.2 12 27 a0).toInt = (q_I r18.2 12 27 a0).toInt from congrArg Int32.toInt (u50 12 27 a0 (by decide))).trans (show (q_I r18.2 12 27 a0).toInt = (q_I δ 12 27 a0).toInt from congrArg Int32.toInt (u24 12 27 a0 (by decide))))))
              have f199 : (q_I r180 12 25 a0).toInt = (q_I r82.2 12 25 a0).toInt := congrArg Int32.toInt (u185 12 25 a0 (by decide))
              have f200 : hc ad r180 a0 = (q_R r180 (Ad ad 101) (q_I r180 12 4 a0).toNatClampNeg).toInt := rfl
              have t201 := ti_tn (q_I r180 12 4 a0)
              have f202 : (q_R r180 (Ad ad 101) (q_I r180 12 4 a0).toNatClampNeg).toInt = (q_R r82.2 (Ad ad 101) (q_I r180 12 4 a0).toNatClampNeg).toInt := congrArg Int32.toInt (congrFun (u188 101 (by decide) (by decide) (by decide)) _)
              have f203 : (q_R r82.2 (Ad ad 101) (q_I r180 12 4 a0).toNatClampNeg).toInt = (q_R r44.2 (Ad ad 101) (q_I r180 12 4 a0).toNatClampNeg).toInt := congrArg Int32.toInt (congrFun (u90 101 (by decide) (by decide) (by decide)) _)
              have f204 : (q_R r44.2 (Ad ad 101) (q_I r180 12 4 a0).toNatClampNeg).toInt = (q_R r18.2 (Ad ad 101) (q_I r180 12 4 a0).toNatClampNeg).toInt := congrArg Int32.toInt (congrFun (u53 101 (by decide) (by decide) (by decide)) _)
              have f205 : (q_R r18.2 (Ad ad 101) (q_I r180 12 4 a0).toNatClampNeg).toInt = (q_R δ (Ad ad 101) (q_I r180 12 4 a0).toNatClampNeg).toInt := congrArg Int32.toInt (congrFun (u27 101 (by decide) (by decide) (by decide)) _)
              have f206 := ti_b (q_R δ (Ad ad 101) (q_I r180 12 4 a0).toNatClampNeg)
              have f207 := ti_b (q_R r18.2 (Ad ad 101) (q_I r180 12 4 a0).toNatClampNeg)
              have f208 := ti_b (q_R r44.2 (Ad ad 101) (q_I r180 12 4 a0).toNatClampNeg)
              have f209 := ti_b (q_R r82.2 (Ad ad 101) (q_I r180 12 4 a0).toNatClampNeg)
              have f210 := ti_b (q_R r180 (Ad ad 101) (q_I r180 12 4 a0).toNatClampNeg)
              have f211 : (q_I r180 12 3 a0).toInt = (q_I r44.2 12 3 a0).toInt := ((show (q_I r180 12 3 a0).toInt = (q_I r82.2 12 3 a0).toInt from congrArg Int32.toInt (u185 12 3 a0 (by decide))).trans (show (q_I r82.2 12 3 a0).toInt = (q_I r44.2 12 3 a0).toInt from congrArg Int32.toInt (u87 12 3 a0 (by decide))))
              refine ok_mono (kj_X12_readSteps_79 L hN (K0 := (n : Int)) (a0 := a0) (x1v := r108.1) hT ih k_a0 (show (q_I r180 12 24 a0).toInt ≤ 3 by first | with_reducible assumption | omega) (show (q_I r180 12 26 a0).toInt ≤ (q_I r180 12 4 a0).toInt by first | with_reducible assumption | omega) (show (q_I r180 12 7 a0).toInt = 0 by first | with_reducible assumption | omega) (show 4 - (q_I r180 12 27 a0).toInt ≤ K by first | with_reducible assumption | omega) (show -1 ≤ (r108.1).toInt by first | with_reducible assumption | omega) (show (r108.1).toInt ≤ 5 by first | with_reducible assumption | omega) (show (q_I r180 12 5 a0).toInt < 0 → 0 ≤ (r108.1).toInt by first | with_reducible assumption | omega) (show (q_I r180 12 5 a0).toInt < 0 → (q_I r180 12 25 a0).toInt ≤ 59 by first | with_reducible assumption | omega) (show (q_I r180 12 5 a0).toInt < 0 → (r108.1).toInt = 5 → (q_I r180 12 27 a0).toInt ≤ 2 by first | with_reducible assumption | omega) (show (q_I r180 12 5 a0).toInt < 0 → (q_I r180 12 4 a0).toInt < (q_I r180 12 3 a0).toInt ∧ 97 ≤ hc ad r180 a0 ∧ hc ad r180 a0 ≤ 122 by first | with_reducible assumption | omega) (show 501 - (q_I r180 12 4 a0).toInt ≤ (n : Int) by first | with_reducible assumption | omega) i182) (fun r212 hr213 => ?_)
              obtain ⟨i214, ⟨u221, u222, u223⟩, p215, p216, p217, p218, p219, p220⟩ := hr213
              have u224 := kp_t u189 u221
              have v225 : q_V r212 = q_V δ := (u222).trans v190
              have v226 := kr_t v191 u223
              have f227 := cb_12_4 i214 k_a0
              have f228 := cb_12_5 i214 k_a0
              have f229 := ti_b (q_I r212 12 7 a0)
              have f230 := cb_12_27 i214 k_a0
              have f231 := cb_12_26 i214 k_a0
              have ss232 : NS ad a0 δ r18.2 := NS.t NS.r ns35
              have ss233 : NS ad a0 δ r44.2 := NS.t ss232 ns72
              have ss234 : NS ad a0 δ r82.2 := NS.t ss233 ns106
              have ss235 : NS ad a0 δ r180 := NS.t ss234 ns193
              have ss236 : SS ad a0 δ r212 := SS.pre ss235 p220
              exact ⟨by first | with_reducible assumption | assumption, ⟨kp_w (by decide) u224, v225, kr_w (by decide) v226⟩, by first | with_reducible assumption | omega, by first | with_reducible assumption | omega, by first | with_reducible assumption | omega, by first | with_reducible assumption | omega, by first | with_reducible assumption | omega, ss236⟩
            · have c237 : (q_I r82.2 12 25 a0).toInt ≠ (60 : Int) := o_ne h178
              refine ok_ite (fun h238 => ?_) (fun h238 => ?_)
              · have c239 : r108.1.toInt = (5 : Int) := o_eq h238
                have f240 : (q_I r82.2 12 27 a0).toInt = (q_I δ 12 27 a0).toInt := ((show (q_I r82.2 12 27 a0).toInt = (q_I r44.2 12 27 a0).toInt from congrArg Int32.toInt (u87 12 27 a0 (by decide))).trans ((show (q_I r44.2 12 27 a0).toInt = (q_I r18.2 12 27 a0).toInt from congrArg Int32.toInt (u50 12 27 a0 (by decide))).trans (show (q_I r18.2 12 27 a0).toInt = (q_I δ 12 27 a0).toInt from congrArg Int32.toInt (u24 12 27 a0 (by decide)))))
                refine ok_ite (fun h241 => ?_) (fun h241 => ?_)
                · have c242 : (q_I r82.2 12 27 a0).toInt = (3 : Int) := o_eq h241
                  unfold J_X12_readSteps_70
                  refine ok_bind (k_X12_wrong L hN (a0 := a0) (x1 := (3 : Int32)) (x2 := (q_I r82.2 12 4 a0)) k_a0 (show 0 ≤ ((q_I r82.2 12 4 a0)).toInt by first | with_reducible assumption | omega) (show ((q_I r82.2 12 4 a0)).toInt ≤ 500 by first | with_reducible assumption | omega) (show 0 ≤ (3 : Int) by first | with_reducible assumption | omega) (show (3 : Int) ≤ 4 by first | with_reducible assumption | omega) i84) (fun r243 hr244 => ?_)
                  obtain ⟨i245, ⟨u248, u249, u250, u251⟩, p246, p247⟩ := hr244
                  have u252 := kp_t u91 u248
                  have v253 : q_V r243 = q_V δ := (u249).trans v92
                  have v254 := kr_t v93 u251
                  have f255 := cb_12_5 i245 k_a0
                  have ns256 : NS ad a0 r82.2 r243 := ⟨u251 112 (by decide) (by decide) (by decide), u251 113 (by decide) (by decide) (by decide), u251 114 (by decide) (by decide) (by decide), u251 115 (by decide) (by decide) (by decide), u251 116 (by decide) (by decide) (by decide), u248 12 24 _ (by decide), u248 12 25 _ (by decide), u248 12 26 _ (by decide), u248 12 27 _ (by decide), fun z => by omega⟩
                  have f257 : (q_I r243 12 24 a0).toInt = (q_I δ 12 24 a0).toInt := ((show (q_I r243 12 24 a0).toInt = (q_I r82.2 12 24 a0).toInt from congrArg Int32.toInt (u248 12 24 a0 (by decide))).trans ((show (q_I r82.2 12 24 a0).toInt = (q_I r44.2 12 24 a0).toInt from congrArg Int32.toInt (u87 12 24 a0 (by decide))).trans ((show (q_I r44.2 12 24 a0).toInt = (q_I r18.2 12 24 a0).toInt from congrArg Int32.toInt (u50 12 24 a0 (by decide))).trans (show (q_I r18.2 12 24 a0).toInt = (q_I δ 12 24 a0).toInt from congrArg Int32.toInt (u24 12 24 a0 (by decide))))))
                  have f258 : (q_I r243 12 26 a0).toInt = (q_I δ 12 26 a0).toInt := ((show (q_I r243 12 26 a0).toInt = (q_I r82.2 12 26 a0).toInt from congrArg Int32.toInt (u248 12 26 a0 (by decide))).trans ((show (q_I r82.2 12 26 a0).toInt = (q_I r44.2 12 26 a0).toInt from congrArg Int32.toInt (u87 12 26 a0 (by decide))).trans ((show (q_I r44.2 12 26 a0).toInt = (q_I r18.2 12 26 a0).toInt from congrArg Int32.toInt (u50 12 26 a0 (by decide))).trans (show (q_I r18.2 12 26 a0).toInt = (q_I δ 12 26 a0).toInt from congrArg Int32.toInt (u24 12 26 a0 (by decide))))))
                  have f259 : (q_I r243 12 4 a0).toInt = (q_I r82.2 12 4 a0).toInt := congrArg Int32.toInt (u248 12 4 a0 (by decide))
                  have f260 : (q_I r243 12 7 a0).toInt = (q_I δ 12 7 a0).toInt := ((show (q_I r243 12 7 a0).toInt = (q_I r82.2 12 7 a0).toInt from congrArg Int32.toInt (u248 12 7 a0 (by decide))).trans ((show (q_I r82.2 12 7 a0).toInt = (q_I r44.2 12 7 a0).toInt from congrArg Int32.toInt (u87 12 7 a0 (by decide))).trans ((show (q_I r44.2 12 7 a0).toInt = (q_I r18.2 12 7 a0).toInt from congrArg Int32.toInt (u50 12 7 a0 (by decide))).trans (show (q_I r18.2 12 7 a0).toInt = (q_I δ 12 7 a0).toInt from congrArg Int32.toInt (u24 12 7 a0 (by decide))))))
                  have f261 : (q_I r243 12 27 a0).toInt = (q_I r82.2 12 27 a0).toInt := congrArg Int32.toInt (u248 12 27 a0 (by decide))
                  have f262 : (q_I r243 12 25 a0).toInt = (q_I r82.2 12 25 a0).toInt := congrArg Int32.toInt (u248 12 25 a0 (by decide))
                  have f263 : hc ad r243 a0 = (q_R r243 (Ad ad 101) (q_I r243 12 4 a0).toNatClampNeg).toInt := rfl
                  have t264 := ti_tn (q_I r243 12 4 a0)
                  have f265 : (q_R r243 (Ad ad 101) (q_I r243 12 4 a0).toNatClampNeg).toInt = (q_R r82.2 (Ad ad 101) (q_I r243 12 4 a0).toNatClampNeg).toInt := congrArg Int32.toInt (congrFun (u251 101 (by decide) (by decide) (by decide)) _)
                  have f266 : (q_R r82.2 (Ad ad 101) (q_I r243 12 4 a0).toNatClampNeg).toInt = (q_R r44.2 (Ad ad 101) (q_I r243 12 4 a0).toNatClampNeg).toInt := congrArg Int32.toInt (congrFun (u90 101 (by decide) (by decide) (by decide)) _)
                  have f267 : (q_R r44.2 (Ad ad 101) (q_I r243 12 4 a0).toNatClampNeg).toInt = (q_R r18.2 (Ad ad 101) (q_I r243 12 4 a0).toNatClampNeg).toInt := congrArg Int32.toInt (congrFun (u53 101 (by decide) (by decide) (by decide)) _)
                  have f268 : (q_R r18.2 (Ad ad 101) (q_I r243 12 4 a0).toNatClampNeg).toInt = (q_R δ (Ad ad 101) (q_I r243 12 4 a0).toNatClampNeg).toInt := congrArg Int32.toInt (congrFun (u27 101 (by decide) (by decide) (by decide)) _)
                  have f269 := ti_b (q_R δ (Ad ad 101) (q_I r243 12 4 a0).toNatClampNeg)
                  have f270 := ti_b (q_R r18.2 (Ad ad 101) (q_I r243 12 4 a0).toNatClampNeg)
                  have f271 := ti_b (q_R r44.2 (Ad ad 101) (q_I r243 12 4 a0).toNatClampNeg)
                  have f272 := ti_b (q_R r82.2 (Ad ad 101) (q_I r243 12 4 a0).toNatClampNeg)
                  have f273 := ti_b (q_R r243 (Ad ad 101) (q_I r243 12 4 a0).toNatClampNeg)
                  have f274 : (q_I r243 12 3 a0).toInt = (q_I r44.2 12 3 a0).toInt := ((show (q_I r243 12 3 a0).toInt = (q_I r82.2 12 3 a0).toInt from congrArg Int32.toInt (u248 12 3 a0 (by decide))).trans (show (q_I r82.2 12 3 a0).toInt = (q_I r44.2 12 3 a0).toInt from congrArg Int32.toInt (u87 12 3 a0 (by decide))))
                  refine ok_mono (kj_X12_readSteps_79 L hN (K0 := (n : Int)) (a0 := a0) (x1v := r108.1) hT ih k_a0 (show (q_I r243 12 24 a0).toInt ≤ 3 by first | with_reducible assumption | omega) (show (q_I r243 12 26 a0).toInt ≤ (q_I r243 12 4 a0).toInt by first | with_reducible assumption | omega) (show (q_I r243 12 7 a0).toInt = 0 by first | with_reducible assumption | omega) (show 4 - (q_I r243 12 27 a0).toInt ≤ K by first | with_reducible assumption | omega) (show -1 ≤ (r108.1).toInt by first | with_reducible assumption | omega) (show (r108.1).toInt ≤ 5 by first | with_reducible assumption | omega) (show (q_I r243 12 5 a0).toInt < 0 → 0 ≤ (r108.1).toInt by first | with_reducible assumption | omega) (show (q_I r243 12 5 a0).toInt < 0 → (q_I r243 12 25 a0).toInt ≤ 59 by first | with_reducible assumption | omega) (show (q_I r243 12 5 a0).toInt < 0 → (r108.1).toInt = 5 → (q_I r243 12 27 a0).toInt ≤ 2 by first | with_reducible assumption | omega) (show (q_I r243 12 5 a0).toInt < 0 → (q_I r243 12 4 a0).toInt < (q_I r243 12 3 a0).toInt ∧ 97 ≤ hc ad r243 a0 ∧ hc ad r243 a0 ≤ 122 by first | with_reducible assumption | omega) (show 501 - (q_I r243 12 4 a0).toInt ≤ (n : Int) by first | with_reducible assumption | omega) i245) (fun r275 hr276 => ?_)
                  obtain ⟨i277, ⟨u284, u285, u286⟩, p278, p279, p280, p281, p282, p283⟩ := hr276
                  have u287 := kp_t u252 u284
                  have v288 : q_V r275 = q_V δ := (u285).trans v253
                  have v289 := kr_t v254 u286
                  have f290 := cb_12_4 i277 k_a0
                  have f291 := cb_12_5 i277 k_a0
                  have f292 := ti_b (q_I r275 12 7 a0)
                  have f293 := cb_12_27 i277 k_a0
                  have f294 := cb_12_26 i277 k_a0
                  have ss295 : NS ad a0 δ r18.2 := NS.t NS.r ns35
                  have ss296 : NS ad a0 δ r44.2 := NS.t ss295 ns72
                  have ss297 : NS ad a0 δ r82.2 := NS.t ss296 ns106
                  have ss298 : NS ad a0 δ r243 := NS.t ss297 ns256
                  have ss299 : SS ad a0 δ r275 := SS.pre ss298 p283
                  exact ⟨by first | with_reducible assumption | assumption, ⟨kp_w (by decide) u287, v288, kr_w (by decide) v289⟩, by first | with_reducible assumption | omega, by first | with_reducible assumption | omega, by first | with_reducible assumption | omega, by first | with_reducible assumption | omega, by first | with_reducible assumption | omega, ss299⟩
                · have c300 : (q_I r82.2 12 27 a0).toInt ≠ (3 : Int) := o_ne h241
                  have f301 : (q_I r82.2 12 24 a0).toInt = (q_I δ 12 24 a0).toInt := ((show (q_I r82.2 12 24 a0).toInt = (q_I r44.2 12 24 a0).toInt from congrArg Int32.toInt (u87 12 24 a0 (by decide))).trans ((show (q_I r44.2 12 24 a0).toInt = (q_I r18.2 12 24 a0).toInt from congrArg Int32.toInt (u50 12 24 a0 (by decide))).trans (show (q_I r18.2 12 24 a0).toInt = (q_I δ 12 24 a0).toInt from congrArg Int32.toInt (u24 12 24 a0 (by decide)))))
                  have f302 : (q_I r82.2 12 26 a0).toInt = (q_I δ 12 26 a0).toInt := ((show (q_I r82.2 12 26 a0).toInt = (q_I r44.2 12 26 a0).toInt from congrArg Int32.toInt (u87 12 26 a0 (by decide))).trans ((show (q_I r44.2 12 26 a0).toInt = (q_I r18.2 12 26 a0).toInt from congrArg Int32.toInt (u50 12 26 a0 (by decide))).trans (show (q_I r18.2 12 26 a0).toInt = (q_I δ 12 26 a0).toInt from congrArg Int32.toInt (u24 12 26 a0 (by decide)))))
                  have f303 : (q_I r82.2 12 7 a0).toInt = (q_I δ 12 7 a0).toInt := ((show (q_I r82.2 12 7 a0).toInt = (q_I r44.2 12 7 a0).toInt from congrArg Int32.toInt (u87 12 7 a0 (by decide))).trans ((show (q_I r44.2 12 7 a0).toInt = (q_I r18.2 12 7 a0).toInt from congrArg Int32.toInt (u50 12 7 a0 (by decide))).trans (show (q_I r18.2 12 7 a0).toInt = (q_I δ 12 7 a0).toInt from congrArg Int32.toInt (u24 12 7 a0 (by decide)))))
                  have f304 : (q_I r82.2 12 3 a0).toInt = (q_I r44.2 12 3 a0).toInt := congrArg Int32.toInt (u87 12 3 a0 (by decide))
                  refine ok_mono (kj_X12_readSteps_79 L hN (K0 := (n : Int)) (a0 := a0) (x1v := r108.1) hT ih k_a0 (show (q_I r82.2 12 24 a0).toInt ≤ 3 by first | with_reducible assumption | omega) (show (q_I r82.2 12 26 a0).toInt ≤ (q_I r82.2 12 4 a0).toInt by first | with_reducible assumption | omega) (show (q_I r82.2 12 7 a0).toInt = 0 by first | with_reducible assumption | omega) (show 4 - (q_I r82.2 12 27 a0).toInt ≤ K by first | with_reducible assumption | omega) (show -1 ≤ (r108.1).toInt by first | with_reducible assumption | omega) (show (r108.1).toInt ≤ 5 by first | with_reducible assumption | omega) (show (q_I r82.2 12 5 a0).toInt < 0 → 0 ≤ (r108.1).toInt by first | with_reducible assumption | omega) (show (q_I r82.2 12 5 a0).toInt < 0 → (q_I r82.2 12 25 a0).toInt ≤ 59 by first | with_reducible assumption | omega) (show (q_I r82.2 12 5 a0).toInt < 0 → (r108.1).toInt = 5 → (q_I r82.2 12 27 a0).toInt ≤ 2 by first | with_reducible assumption | omega) (show (q_I r82.2 12 5 a0).toInt < 0 → (q_I r82.2 12 4 a0).toInt < (q_I r82.2 12 3 a0).toInt ∧ 97 ≤ hc ad r82.2 a0 ∧ hc ad r82.2 a0 ≤ 122 by first | with_reducible assumption | omega) (show 501 - (q_I r82.2 12 4 a0).toInt ≤ (n : Int) by first | with_reducible assumption | omega) i84) (fun r305 hr306 => ?_)
                  obtain ⟨i307, ⟨u314, u315, u316⟩, p308, p309, p310, p311, p312, p313⟩ := hr306
                  have u317 := kp_t u91 u314
                  have v318 : q_V r305 = q_V δ := (u315).trans v92
                  have v319 := kr_t v93 u316
                  have f320 := cb_12_4 i307 k_a0
                  have f321 := cb_12_5 i307 k_a0
                  have f322 := ti_b (q_I r305 12 7 a0)
                  have f323 := cb_12_27 i307 k_a0
                  have f324 := cb_12_26 i307 k_a0
                  have ss325 : NS ad a0 δ r18.2 := NS.t NS.r ns35
                  have ss326 : NS ad a0 δ r44.2 := NS.t ss325 ns72
                  have ss327 : NS ad a0 δ r82.2 := NS.t ss326 ns106
                  have ss328 : SS ad a0 δ r305 := SS.pre ss327 p313
                  exact ⟨by first | with_reducible assumption | assumption, ⟨kp_w (by decide) u317, v318, kr_w (by decide) v319⟩, by first | with_reducible assumption | omega, by first | with_reducible assumption | omega, by first | with_reducible assumption | omega, by first | with_reducible assumption | omega, by first | with_reducible assumption | omega, ss328⟩
              · have c329 : r108.1.toInt ≠ (5 : Int) := o_ne h238
                have f330 : (q_I r82.2 12 24 a0).toInt = (q_I δ 12 24 a0).toInt := ((show (q_I r82.2 12 24 a0).toInt = (q_I r44.2 12 24 a0).toInt from congrArg Int32.toInt (u87 12 24 a0 (by decide))).trans ((show (q_I r44.2 12 24 a0).toInt = (q_I r18.2 12 24 a0).toInt from congrArg Int32.toInt (u50 12 24 a0 (by decide))).trans (show (q_I r18.2 12 24 a0).toInt = (q_I δ 12 24 a0).toInt from congrArg Int32.toInt (u24 12 24 a0 (by decide)))))
                have f331 : (q_I r82.2 12 26 a0).toInt = (q_I δ 12 26 a0).toInt := ((show (q_I r82.2 12 26 a0).toInt = (q_I r44.2 12 26 a0).toInt from congrArg Int32.toInt (u87 12 26 a0 (by decide))).trans ((show (q_I r44.2 12 26 a0).toInt = (q_I r18.2 12 26 a0).toInt from congrArg Int32.toInt (u50 12 26 a0 (by decide))).trans (show (q_I r18.2 12 26 a0).toInt = (q_I δ 12 26 a0).toInt from congrArg Int32.toInt (u24 12 26 a0 (by decide)))))
                have f332 : (q_I r82.2 12 7 a0).toInt = (q_I δ 12 7 a0).toInt := ((show (q_I r82.2 12 7 a0).toInt = (q_I r44.2 12 7 a0).toInt from congrArg Int32.toInt (u87 12 7 a0 (by decide))).trans ((show (q_I r44.2 12 7 a0).toInt = (q_I r18.2 12 7 a0).toInt from congrArg Int32.toInt (u50 12 7 a0 (by decide))).trans (show (q_I r18.2 12 7 a0).toInt = (q_I δ 12 7 a0).toInt from congrArg Int32.toInt (u24 12 7 a0 (by decide)))))
                have f333 : (q_I r82.2 12 27 a0).toInt = (q_I δ 12 27 a0).toInt := ((show (q_I r82.2 12 27 a0).toInt = (q_I r44.2 12 27 a0).toInt from congrArg Int32.toInt (u87 12 27 a0 (by decide))).trans ((show (q_I r44.2 12 27 a0).toInt = (q_I r18.2 12 27 a0).toInt from congrArg Int32.toInt (u50 12 27 a0 (by decide))).trans (show (q_I r18.2 12 27 a0).toInt = (q_I δ 12 27 a0).toInt from congrArg Int32.toInt (u24 12 27 a0 (by decide)))))
                have f334 : (q_I r82.2 12 3 a0).toInt = (q_I r44.2 12 3 a0).toInt := congrArg Int32.toInt (u87 12 3 a0 (by decide))
                refine ok_mono (kj_X12_readSteps_79 L hN (K0 := (n : Int)) (a0 := a0) (x1v := r108.1) hT ih k_a0 (show (q_I r82.2 12 24 a0).toInt ≤ 3 by first | with_reducible assumption | omega) (show (q_I r82.2 12 26 a0).toInt ≤ (q_I r82.2 12 4 a0).toInt by first | with_reducible assumption | omega) (show (q_I r82.2 12 7 a0).toInt = 0 by first | with_reducible assumption | omega) (show 4 - (q_I r82.2 12 27 a0).toInt ≤ K by first | with_reducible assumption | omega) (show -1 ≤ (r108.1).toInt by first | with_reducible assumption | omega) (show (r108.1).toInt ≤ 5 by first | with_reducible assumption | omega) (show (q_I r82.2 12 5 a0).toInt < 0 → 0 ≤ (r108.1).toInt by first | with_reducible assumption | omega) (show (q_I r82.2 12 5 a0).toInt < 0 → (q_I r82.2 12 25 a0).toInt ≤ 59 by first | with_reducible assumption | omega) (show (q_I r82.2 12 5 a0).toInt < 0 → (r108.1).toInt = 5 → (q_I r82.2 12 27 a0).toInt ≤ 2 by first | with_reducible assumption | omega) (show (q_I r82.2 12 5 a0).toInt < 0 → (q_I r82.2 12 4 a0).toInt < (q_I r82.2 12 3 a0).toInt ∧ 97 ≤ hc ad r82.2 a0 ∧ hc ad r82.2 a0 ≤ 122 by first | with_reducible assumption | omega) (show 501 - (q_I r82.2 12 4 a0).toInt ≤ (n : Int) by first | with_reducible assumption | omega) i84) (fun r335 hr336 => ?_)
                obtain ⟨i337, ⟨u344, u345, u346⟩, p338, p339, p340, p341, p342, p343⟩ := hr336
                have u347 := kp_t u91 u344
                have v348 : q_V r335 = q_V δ := (u345).trans v92
                have v349 := kr_t v93 u346
                have f350 := cb_12_4 i337 k_a0
                have f351 := cb_12_5 i337 k_a0
                have f352 := ti_b (q_I r335 12 7 a0)
                have f353 := cb_12_27 i337 k_a0
                have f354 := cb_12_26 i337 k_a0
                have ss355 : NS ad a0 δ r18.2 := NS.t NS.r ns35
                have ss356 : NS ad a0 δ r44.2 := NS.t ss355 ns72
                have ss357 : NS ad a0 δ r82.2 := NS.t ss356 ns106
                have ss358 : SS ad a0 δ r335 := SS.pre ss357 p343
                exact ⟨by first | with_reducible assumption | assumption, ⟨kp_w (by decide) u347, v348, kr_w (by decide) v349⟩, by first | with_reducible assumption | omega, by first | with_reducible assumption | omega, by first | with_reducible assumption | omega, by first | with_reducible assumption | omega, by first | with_reducible assumption | omega, ss358⟩
set_option maxHeartbeats 4000000 in
theorem ke_X12_readSteps {ad : List Nat} {h : hp} (L : Lay TLx ad h) {δ0 : dp} {N : Nat} (hN : 10000000 ≤ N) : ∀ (k : Nat), ∀ (a0 : Nat) (δ : dp), q_K h.1 a0 = 12 → (q_I δ 12 24 a0).toInt ≤ 3 → (q_I δ 12 26 a0).toInt ≤ (q_I δ 12 4 a0).toInt → (q_I δ 12 7 a0).toInt = 0 → 4 - (q_I δ 12 27 a0).toInt < (k : Int) → RI ad h.1 δ0 δ → ok (E_X12_readSteps N h.1 k a0 δ) (fun r => RI ad h.1 δ0 r ∧ (kp [(12, 4), (12, 5), (12, 6), (12, 7), (12, 25), (12, 26), (12, 27)] δ r ∧ q_V r = q_V δ ∧ kr ad [113, 114, 115, 116, 117] δ r) ∧ (q_I δ 12 4 a0).toInt ≤ (q_I r 12 4 a0).toInt ∧ (q_I δ 12 5 a0).toInt ≤ (q_I r 12 5 a0).toInt ∧ (q_I r 12 7 a0).toInt = (q_I δ 12 7 a0).toInt ∧ (q_I r 12 27 a0).toInt = (q_I δ 12 27 a0).toInt ∧ (q_I r 12 26 a0).toInt ≤ (q_I r 12 4 a0).toInt ∧ SS ad a0 δ r) := by
  intro k
  induction k with
  | zero =>
    intro a0 δ k_a0 z0 z1 z2 hd I
    have f28 := cb_12_27 I k_a0
    exfalso; omega
  | succ k ih =>
    intro a0 δ k_a0 z0 z1 z2 hd I
    unfold E_X12_readSteps B_X12_readSteps
    have f1 := cb_12_24 I k_a0
    have f2 := cb_12_26 I k_a0
    have f3 := cb_12_4 I k_a0
    have f4 := ti_b (q_I δ 12 7 a0)
    have f5 := cb_12_27 I k_a0
    refine ok_mono (kl_X12_readSteps_0 L hN   ih k_a0 _ δ I (show (q_I δ 12 24 a0).toInt ≤ 3 by first | with_reducible assumption | omega) (show (q_I δ 12 26 a0).toInt ≤ (q_I δ 12 4 a0).toInt by first | with_reducible assumption | omega) (show (q_I δ 12 7 a0).toInt = 0 by first | with_reducible assumption | omega) (show 4 - (q_I δ 12 27 a0).toInt ≤ (k : Int) by first | with_reducible assumption | omega) (show 501 - (q_I δ 12 4 a0).toInt < _ by omega)) (fun r6 hr7 => ?_)
    obtain ⟨i8, ⟨u15, u16, u17⟩, p9, p10, p11, p12, p13, p14⟩ := hr7
    have u18 := kp_t kp_r u15
    have v19 : q_V r6 = q_V δ := (u16).trans rfl
    have v20 := kr_t (kr_r (ad := ad)) u17
    have f21 := cb_12_4 i8 k_a0
    have f22 := cb_12_5 I k_a0
    have f23 := cb_12_5 i8 k_a0
    have f24 := ti_b (q_I r6 12 7 a0)
    have f25 := cb_12_27 i8 k_a0
    have f26 := cb_12_26 i8 k_a0
    have ss27 : SS ad a0 δ r6 := SS.pre NS.r p14
    exact ⟨by first | with_reducible assumption | assumption, ⟨kp_w (by decide) u18, v19, kr_w (by decide) v20⟩, by first | with_reducible assumption | omega, by first | with_reducible assumption | omega, by first | with_reducible assumption | omega, by first | with_reducible assumption | omega, by first | with_reducible assumption | omega, ss27⟩
set_option maxHeartbeats 4000000 in
theorem k_X12_readSteps {ad : List Nat} {h : hp} (L : Lay TLx ad h) {δ0 : dp} {N : Nat} (hN : 10000000 ≤ N) {a0 : Nat} (k_a0 : q_K h.1 a0 = 12) {δ : dp} (z0 : (q_I δ 12 24 a0).toInt ≤ 3) (z1 : (q_I δ 12 26 a0).toInt ≤ (q_I δ 12 4 a0).toInt) (z2 : (q_I δ 12 7 a0).toInt = 0) (hd : 4 - (q_I δ 12 27 a0).toInt < 20) (I : RI ad h.1 δ0 δ) : ok (D_X12_readSteps N h.1 a0 δ) (fun r => RI ad h.1 δ0 r ∧ (kp [(12, 4), (12, 5), (12, 6), (12, 7), (12, 25), (12, 26), (12, 27)] δ r ∧ q_V r = q_V δ ∧ kr ad [113, 114, 115, 116, 117] δ r) ∧ (q_I δ 12 4 a0).toInt ≤ (q_I r 12 4 a0).toInt ∧ (q_I δ 12 5 a0).toInt ≤ (q_I r 12 5 a0).toInt ∧ (q_I r 12 7 a0).toInt = (q_I δ 12 7 a0).toInt ∧ (q_I r 12 27 a0).toInt = (q_I δ 12 27 a0).toInt ∧ (q_I r 12 26 a0).toInt ≤ (q_I r 12 4 a0).toInt ∧ SS ad a0 δ r) := ke_X12_readSteps L hN 20 a0 δ k_a0 z0 z1 z2 hd I
