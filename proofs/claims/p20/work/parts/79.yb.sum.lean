/-! 79.yb.sum (by gen_safe.py) -/
set_option maxHeartbeats 4000000 in
theorem kl_X12_product_4 {ad : List Nat} {h : hp} (L : Lay TLx ad h) {δ0 : dp} {N : Nat} (hN : 10000000 ≤ N) {T : Nat → dp → Option (dp)} {K : Int} (hT : ∀ (a0 : Nat) (δ : dp), q_K h.1 a0 = 12 → (q_I δ 12 24 a0).toInt ≤ 3 → (q_I δ 12 26 a0).toInt ≤ (q_I δ 12 4 a0).toInt → 0 ≤ (q_I δ 12 7 a0).toInt → (q_I δ 12 7 a0).toInt ≤ 7 → ((q_I δ 12 7 a0).toInt = 7 → 0 ≤ (q_I δ 12 5 a0).toInt) → 8 - (q_I δ 12 7 a0).toInt < K → RI ad h.1 δ0 δ → ok (T a0 δ) (fun r => RI ad h.1 δ0 r ∧ (kp [(12, 4), (12, 5), (12, 6), (12, 7), (12, 26)] δ r ∧ q_V r = q_V δ ∧ kr ad [116, 117] δ r) ∧ (q_I δ 12 4 a0).toInt ≤ (q_I r 12 4 a0).toInt ∧ (q_I δ 12 5 a0).toInt ≤ (q_I r 12 5 a0).toInt ∧ (q_I r 12 7 a0).toInt = (q_I δ 12 7 a0).toInt ∧ (q_I δ 12 26 a0).toInt ≤ (q_I r 12 26 a0).toInt ∧ (q_I r 12 26 a0).toInt - (q_I δ 12 26 a0).toInt ≤ (q_I r 12 4 a0).toInt - (q_I δ 12 4 a0).toInt ∧ US ad a0 δ r)) {a0 : Nat} (k_a0 : q_K h.1 a0 = 12) : ∀ (n : Nat) (δ : dp), RI ad h.1 δ0 δ → (q_I δ 12 24 a0).toInt ≤ 3 → (q_I δ 12 26 a0).toInt ≤ (q_I δ 12 4 a0).toInt → 0 ≤ (q_I δ 12 7 a0).toInt → (q_I δ 12 7 a0).toInt ≤ 7 → ((q_I δ 12 7 a0).toInt = 7 → 0 ≤ (q_I δ 12 5 a0).toInt) → 8 - (q_I δ 12 7 a0).toInt ≤ K → 501 - (q_I δ 12 4 a0).toInt < (n : Int) → ok (L_X12_product_4 N h.1 T a0 n δ) (fun r => RI ad h.1 δ0 r ∧ (kp [(12, 4), (12, 5), (12, 6), (12, 7), (12, 26)] δ r ∧ q_V r = q_V δ ∧ kr ad [116, 117] δ r) ∧ (q_I δ 12 4 a0).toInt ≤ (q_I r 12 4 a0).toInt ∧ (q_I δ 12 5 a0).toInt ≤ (q_I r 12 5 a0).toInt ∧ (q_I r 12 7 a0).toInt = (q_I δ 12 7 a0).toInt ∧ (q_I δ 12 26 a0).toInt ≤ (q_I r 12 26 a0).toInt ∧ (q_I r 12 26 a0).toInt - (q_I δ 12 26 a0).toInt ≤ (q_I r 12 4 a0).toInt - (q_I δ 12 4 a0).toInt ∧ LU ad a0 δ r) := by
  intro n
  induction n with
  | zero =>
    intro δ I j0 j1 j2 j3 j4 j5 hm
    have f1 := cb_12_24 I k_a0
    have f2 := cb_12_26 I k_a0
    have f3 := cb_12_4 I k_a0
    have f4 := ti_b (q_I δ 12 7 a0)
    have f5 := cb_12_5 I k_a0
    exfalso; omega
  | succ n ih =>
    intro δ I j0 j1 j2 j3 j4 j5 hm
    unfold L_X12_product_4
    have f1 := cb_12_24 I k_a0
    have f2 := cb_12_26 I k_a0
    have f3 := cb_12_4 I k_a0
    have f4 := ti_b (q_I δ 12 7 a0)
    have f5 := cb_12_5 I k_a0
    refine ok_bind (k_X12_fine L hN (a0 := a0) k_a0 I) (fun r6 hr7 => ?_)
    obtain ⟨i8, p9, p10, p11⟩ := hr7
    try rw [i8]
    have f12 := bo_l p9
    have f13 := ti_b r6.1
    refine ok_ite (fun h14 => ?_) (fun h14 => ?_)
    · have c15 : r6.1.toInt = (0 : Int) := o_eq h14
      unfold J_X12_product_69
      exact ok_some (show RI ad h.1 δ0 δ ∧ (kp [(12, 4), (12, 5), (12, 6), (12, 7), (12, 26)] δ δ ∧ q_V δ = q_V δ ∧ kr ad [116, 117] δ δ) ∧ (q_I δ 12 4 a0).toInt ≤ (q_I δ 12 4 a0).toInt ∧ (q_I δ 12 5 a0).toInt ≤ (q_I δ 12 5 a0).toInt ∧ (q_I δ 12 7 a0).toInt = (q_I δ 12 7 a0).toInt ∧ (q_I δ 12 26 a0).toInt ≤ (q_I δ 12 26 a0).toInt ∧ (q_I δ 12 26 a0).toInt - (q_I δ 12 26 a0).toInt ≤ (q_I δ 12 4 a0).toInt - (q_I δ 12 4 a0).toInt ∧ LU ad a0 δ δ from ⟨I, ⟨kp_w (by decide) kp_r, rfl, kr_w (by decide) (kr_r (ad := ad))⟩, by first | with_reducible assumption | omega, by first | with_reducible assumption | omega, by first | with_reducible assumption | omega, by first | with_reducible assumption | omega, by first | with_reducible assumption | omega, LU.n NU.r⟩)
    · have c16 : r6.1.toInt ≠ (0 : Int) := o_ne h14
      refine ok_bind (k_X12_here L hN (a0 := a0) k_a0 I) (fun r17 hr18 => ?_)
      obtain ⟨i19, ⟨u23, u24, u25, u26⟩, p20, p21, p22⟩ := hr18
      have u27 := kp_t kp_r u23
      have v28 : q_V r17.2 = q_V δ := (u24).trans rfl
      have v29 := kr_t (kr_r (ad := ad)) u26
      have f30 := cb_12_4 i19 k_a0
      have f31 : hc ad r17.2 a0 = (q_R r17.2 (Ad ad 101) (q_I r17.2 12 4 a0).toNatClampNeg).toInt := rfl
      have t32 := ti_tn (q_I r17.2 12 4 a0)
      have f33 : (q_R r17.2 (Ad ad 101) (q_I r17.2 12 4 a0).toNatClampNeg).toInt = (q_R δ (Ad ad 101) (q_I r17.2 12 4 a0).toNatClampNeg).toInt := congrArg Int32.toInt (congrFun (u26 101 (by decide) (by decide) (by decide)) _)
      have f34 := ti_b (q_R δ (Ad ad 101) (q_I r17.2 12 4 a0).toNatClampNeg)
      have f35 := ti_b (q_R r17.2 (Ad ad 101) (q_I r17.2 12 4 a0).toNatClampNeg)
      have f36 := ti_b r17.1
      have f37 := cb_12_3 I k_a0
      have f38 : hc ad δ a0 = (q_R δ (Ad ad 101) (q_I δ 12 4 a0).toNatClampNeg).toInt := rfl
      have t39 := ti_tn (q_I δ 12 4 a0)
      have f40 := ti_b (q_R δ (Ad ad 101) (q_I δ 12 4 a0).toNatClampNeg)
      have f41 : (q_I r17.2 12 5 a0).toInt = (q_I δ 12 5 a0).toInt := congrArg Int32.toInt (u23 12 5 a0 (by decide))
      have us42 : NU ad a0 δ r17.2 := NU.t NU.r (show NU ad a0 δ r17.2 from ⟨u26 116 (by decide) (by decide) (by decide), u23 12 26 _ (by decide), u23 12 24 _ (by decide), fun z => by omega⟩)
      refine ok_ite (fun h43 => ?_) (fun h43 => ?_)
      · have c44 : r17.1.toInt = (42 : Int) := o_eq h43
        unfold J_X12_product_29
        refine ok_bind (k_X12_here L hN (a0 := a0) k_a0 i19) (fun r45 hr46 => ?_)
        obtain ⟨i47, ⟨u51, u52, u53, u54⟩, p48, p49, p50⟩ := hr46
        have u55 := kp_t u27 u51
        have v56 : q_V r45.2 = q_V δ := (u52).trans v28
        have v57 := kr_t v29 u54
        have f58 := cb_12_4 i47 k_a0
        have f59 : hc ad r45.2 a0 = (q_R r45.2 (Ad ad 101) (q_I r45.2 12 4 a0).toNatClampNeg).toInt := rfl
        have t60 := ti_tn (q_I r45.2 12 4 a0)
        have f61 : (q_R r45.2 (Ad ad 101) (q_I r45.2 12 4 a0).toNatClampNeg).toInt = (q_R r17.2 (Ad ad 101) (q_I r45.2 12 4 a0).toNatClampNeg).toInt := congrArg Int32.toInt (congrFun (u54 101 (by decide) (by decide) (by decide)) _)
        have f62 : (q_R r17.2 (Ad ad 101) (q_I r45.2 12 4 a0).toNatClampNeg).toInt = (q_R δ (Ad ad 101) (q_I r45.2 12 4 a0).toNatClampNeg).toInt := congrArg Int32.toInt (congrFun (u26 101 (by decide) (by decide) (by decide)) _)
        have f63 := ti_b (q_R δ (Ad ad 101) (q_I r45.2 12 4 a0).toNatClampNeg)
        have f64 := ti_b (q_R r17.2 (Ad ad 101) (q_I r45.2 12 4 a0).toNatClampNeg)
        have f65 := ti_b (q_R r45.2 (Ad ad 101) (q_I r45.2 12 4 a0).toNatClampNeg)
        have f66 := ti_b r45.1
        have f67 : (q_I r17.2 12 3 a0).toInt = (q_I δ 12 3 a0).toInt := congrArg Int32.toInt (u23 12 3 a0 (by decide))
        have f68 : (q_I r45.2 12 5 a0).toInt = (q_I r17.2 12 5 a0).toInt := congrArg Int32.toInt (u51 12 5 a0 (by decide))
        have us69 : NU ad a0 δ r45.2 := NU.t us42 (show NU ad a0 r17.2 r45.2 from ⟨u54 116 (by decide) (by decide) (by decide), u51 12 26 _ (by decide), u51 12 24 _ (by decide), fun z => by omega⟩)
        first | (have q74 := te_addc (c := 1) (n := 1) rfl (q_I r45.2 12 4 a0) (by omega) (by omega); obtain ⟨f75, f76, f77⟩ := q74) | (obtain ⟨q74, f75, f76, f77⟩ := ti_addc (c := 1) (n := 1) rfl (q_I r45.2 12 4 a0))
        refine ok_bdv (fun d70 e71 => ?_)
        have i72 : RI ad h.1 δ0 d70 := by rw [e71]; exact cs_12_4 L i47 k_a0 (show 0 ≤ ((q_I r45.2 12 4 a0) + (1 : Int32)).toInt by omega) (show ((q_I r45.2 12 4 a0) + (1 : Int32)).toInt ≤ 500 by omega)
        have u78 := kp_I u55 e71
        have v79 : q_V d70 = q_V δ := ((show q_V d70 = q_V r45.2 by rw [e71]; rfl)).trans v56
        have v80 := kr_N v57 (show q_R d70 = q_R r45.2 by rw [e71]; rfl)
        have us81 : NU ad a0 δ d70 := NU.t us69 (show NU ad a0 r45.2 d70 from NU.w e71 (by decide))
        have f84 : (q_I d70 12 24 a0).toInt = (q_I δ 12 24 a0).toInt := ((show (q_I d70 12 24 a0).toInt = (q_I r45.2 12 24 a0).toInt from congrArg Int32.toInt (by rw [e71]; exact rI_o (by decide))).trans ((show (q_I r45.2 12 24 a0).toInt = (q_I r17.2 12 24 a0).toInt from congrArg Int32.toInt (u51 12 24 a0 (by decide))).trans (show (q_I r17.2 12 24 a0).toInt = (q_I δ 12 24 a0).toInt from congrArg Int32.toInt (u23 12 24 a0 (by decide)))))
        have f85 : (q_I d70 12 26 a0).toInt = (q_I δ 12 26 a0).toInt := ((show (q_I d70 12 26 a0).toInt = (q_I r45.2 12 26 a0).toInt from congrArg Int32.toInt (by rw [e71]; exact rI_o (by decide))).trans ((show (q_I r45.2 12 26 a0).toInt = (q_I r17.2 12 26 a0).toInt from congrArg Int32.toInt (u51 12 26 a0 (by decide))).trans (show (q_I r17.2 12 26 a0).toInt = (q_I δ 12 26 a0).toInt from congrArg Int32.toInt (u23 12 26 a0 (by decide)))))
        have f86 := cb_12_4 i72 k_a0
        have f87 : (q_I d70 12 4 a0).toInt = ((q_I r45.2 12 4 a0) + (1 : Int32)).toInt := congrArg Int32.toInt (show q_I d70 12 4 a0 = ((q_I r45.2 12 4 a0) + (1 : Int32)) by rw [e71]; exact rI_s)
        have f88 : (q_I d70 12 7 a0).toInt = (q_I δ 12 7 a0).toInt := ((show (q_I d70 12 7 a0).toInt = (q_I r45.2 12 7 a0).toInt from congrArg Int32.toInt (by rw [e71]; exact rI_o (by decide))).trans ((show (q_I r45.2 12 7 a0).toInt = (q_I r17.2 12 7 a0).toInt from congrArg Int32.toInt (u51 12 7 a0 (by decide))).trans (show (q_I r17.2 12 7 a0).toInt = (q_I δ 12 7 a0).toInt from congrArg Int32.toInt (u23 12 7 a0 (by decide)))))
        have f89 : (q_I d70 12 5 a0).toInt = (q_I r45.2 12 5 a0).toInt := congrArg Int32.toInt (by rw [e71]; exact rI_o (by decide))
        refine ok_bind (k_bX12_unit L hN (a0 := a0) hT k_a0 (show (q_I d70 12 24 a0).toInt ≤ 3 by first | with_reducible assumption | omega) (show (q_I d70 12 26 a0).toInt ≤ (q_I d70 12 4 a0).toInt by first | with_reducible assumption | omega) (show 0 ≤ (q_I d70 12 7 a0).toInt by first | with_reducible assumption | omega) (show (q_I d70 12 7 a0).toInt ≤ 7 by first | with_reducible assumption | omega) (show (q_I d70 12 7 a0).toInt = 7 → 0 ≤ (q_I d70 12 5 a0).toInt by first | with_reducible assumption | omega) (show 8 - (q_I d70 12 7 a0).toInt ≤ K by first | with_reducible assumption | omega) i72) (fun r82 hr83 => ?_)
        obtain ⟨i90, ⟨u97, u98, u99⟩, p91, p92, p93, p94, p95, p96⟩ := hr83
        have u100 := kp_t u78 u97
        have v101 : q_V r82 = q_V δ := (u98).trans v79
        have v102 := kr_t v80 u99
        have f103 := cb_12_4 i90 k_a0
        have f104 := cb_12_5 i90 k_a0
        have f105 := ti_b (q_I r82 12 7 a0)
        have f106 := cb_12_26 i90 k_a0
        have us107 : US ad a0 δ r82 := US.pre us81 p96
        refine ok_ite (fun h108 => ?_) (fun h108 => ?_)
        · have c109 : r45.1.toInt = (42 : Int) := o_eq h108
          unfold J_X12_product_62
          have f112 : (q_I r82 12 24 a0).toInt = (q_I d70 12 24 a0).toInt := congrArg Int32.toInt (u97 12 24 a0 (by decide))
          refine ok_bind (k_X12_emit L hN (a0 := a0) (x1 := (8 : Int32)) (x2 := (0 : Int32)) k_a0 (show (q_I r82 12 24 a0).toInt ≤ 3 by first | with_reducible assumption | omega) (show (q_I r82 12 5 a0).toInt < 0 → (q_I r82 12 26 a0).toInt < 500 by first | with_reducible assumption | omega) i90) (fun r110 hr111 => ?_)
          obtain ⟨i113, ⟨u118, u119, u120⟩, p114, p115, p116, p117⟩ := hr111
          have u121 := kp_t u100 u118
          have v122 : q_V r110 = q_V δ := (u119).trans v101
          have v123 := kr_t v102 u120
          have f124 := cb_12_26 i113 k_a0
          have us125 : LU ad a0 δ r110 := LU.em us107 p117 (by decide)
          have f126 : (q_I r110 12 24 a0).toInt = (q_I r82 12 24 a0).toInt := congrArg Int32.toInt (u118 12 24 a0 (by decide))
          have f127 : (q_I r110 12 4 a0).toInt = (q_I r82 12 4 a0).toInt := congrArg Int32.toInt (u118 12 4 a0 (by decide))
          have f128 : (q_I r110 12 7 a0).toInt = (q_I r82 12 7 a0).toInt := congrArg Int32.toInt (u118 12 7 a0 (by decide))
          have f129 : (q_I r110 12 5 a0).toInt = (q_I r82 12 5 a0).toInt := congrArg Int32.toInt (u118 12 5 a0 (by decide))
          refine ok_mono (ih r110 i113 (show (q_I r110 12 24 a0).toInt ≤ 3 by first | with_reducible assumption | omega) (show (q_I r110 12 26 a0).toInt ≤ (q_I r110 12 4 a0).toInt by first | with_reducible assumption | omega) (show 0 ≤ (q_I r110 12 7 a0).toInt by first | with_reducible assumption | omega) (show (q_I r110 12 7 a0).toInt ≤ 7 by first | with_reducible assumption | omega) (show (q_I r110 12 7 a0).toInt = 7 → 0 ≤ (q_I r110 12 5 a0).toInt by first | with_reducible assumption | omega) (show 8 - (q_I r110 12 7 a0).toInt ≤ K by first | with_reducible assumption | omega) (show 501 - (q_I r110 12 4 a0).toInt < _ by omega)) (fun r130 hr131 => ?_)
          obtain ⟨i132, ⟨u139, u140, u141⟩, p133, p134, p135, p136, p137, p138⟩ := hr131
          have u142 := kp_t u121 u139
          have v143 : q_V r130 = q_V δ := (u140).trans v122
          have v144 := kr_t v123 u141
          have f145 := cb_12_4 i132 k_a0
          have f146 := cb_12_5 i132 k_a0
          have f147 := ti_b (q_I r130 12 7 a0)
          have f148 := cb_12_26 i132 k_a0
          have us149 : LU ad a0 δ r130 := LU.t us125 p138
          exact ⟨by first | with_reducible assumption | assumption, ⟨kp_w (by decide) u142, v143, kr_w (by decide) v144⟩, by first | with_reducible assumption | omega, by first | with_reducible assumption | omega, by first | with_reducible assumption | omega, by first | with_reducible assumption | omega, by first | with_reducible assumption | omega, us149⟩
        · have c150 : r45.1.toInt ≠ (42 : Int) := o_ne h108
          unfold J_X12_product_62
          have f153 : (q_I r82 12 24 a0).toInt = (q_I d70 12 24 a0).toInt := congrArg Int32.toInt (u97 12 24 a0 (by decide))
          refine ok_bind (k_X12_emit L hN (a0 := a0) (x1 := (9 : Int32)) (x2 := (0 : Int32)) k_a0 (show (q_I r82 12 24 a0).toInt ≤ 3 by first | with_reducible assumption | omega) (show (q_I r82 12 5 a0).toInt < 0 → (q_I r82 12 26 a0).toInt < 500 by first | with_reducible assumption | omega) i90) (fun r151 hr152 => ?_)
          obtain ⟨i154, ⟨u159, u160, u161⟩, p155, p156, p157, p158⟩ := hr152
          have u162 := kp_t u100 u159
          have v163 : q_V r151 = q_V δ := (u160).trans v101
          have v164 := kr_t v102 u161
          have f165 := cb_12_26 i154 k_a0
          have us166 : LU ad a0 δ r151 := LU.em us107 p158 (by decide)
          have f167 : (q_I r151 12 24 a0).toInt = (q_I r82 12 24 a0).toInt := congrArg Int32.toInt (u159 12 24 a0 (by decide))
          have f168 : (q_I r151 12 4 a0).toInt = (q_I r82 12 4 a0).toInt := congrArg Int32.toInt (u159 12 4 a0 (by decide))
          have f169 : (q_I r151 12 7 a0).toInt = (q_I r82 12 7 a0).toInt := congrArg Int32.toInt (u159 12 7 a0 (by decide))
          have f170 : (q_I r151 12 5 a0).toInt = (q_I r82 12 5 a0).toInt := congrArg Int32.toInt (u159 12 5 a0 (by decide))
          refine ok_mono (ih r151 i154 (show (q_I r151 12 24 a0).toInt ≤ 3 by first | with_reducible assumption | omega) (show (q_I r151 12 26 a0).toInt ≤ (q_I r151 12 4 a0).toInt by first | with_reducible assumption | omega) (show 0 ≤ (q_I r151 12 7 a0).toInt by first | with_reducible assumption | omega) (show (q_I r151 12 7 a0).toInt ≤ 7 by first | with_reducible assumption | omega) (show (q_I r151 12 7 a0).toInt = 7 → 0 ≤ (q_I r151 12 5 a0).toInt by first | with_reducible assumption | omega) (show 8 - (q_I r151 12 7 a0).toInt ≤ K by first | with_reducible assumption | omega) (show 501 - (q_I r151 12 4 a0).toInt < _ by omega)) (fun r171 hr172 => ?_)
          obtain ⟨i173, ⟨u180, u181, u182⟩, p174, p175, p176, p177, p178, p179⟩ := hr172
          have u183 := kp_t u162 u180
          have v184 : q_V r171 = q_V δ := (u181).trans v163
          have v185 := kr_t v164 u182
          have f186 := cb_12_4 i173 k_a0
          have f187 := cb_12_5 i173 k_a0
          have f188 := ti_b (q_I r171 12 7 a0)
          have f189 := cb_12_26 i173 k_a0
          have us190 : LU ad a0 δ r171 := LU.t us166 p179
          exact ⟨by first | with_reducible assumption | assumption, ⟨kp_w (by decide) u183, v184, kr_w (by decide) v185⟩, by first | with_reducible assumption | omega, by first | with_reducible assumption | omega, by first | with_reducible assumption | omega, by first | with_reducible assumption | omega, by first | with_reducible assumption | omega, us190⟩
      · have c191 : r17.1.toInt ≠ (42 : Int) := o_ne h43
        refine ok_bind (k_X12_here L hN (a0 := a0) k_a0 i19) (fun r192 hr193 => ?_)
        obtain ⟨i194, ⟨u198, u199, u200, u201⟩, p195, p196, p197⟩ := hr193
        have u202 := kp_t u27 u198
        have v203 : q_V r192.2 = q_V δ := (u199).trans v28
        have v204 := kr_t v29 u201
        have f205 := cb_12_4 i194 k_a0
        have f206 : hc ad r192.2 a0 = (q_R r192.2 (Ad ad 101) (q_I r192.2 12 4 a0).toNatClampNeg).toInt := rfl
        have t207 := ti_tn (q_I r192.2 12 4 a0)
        have f208 : (q_R r192.2 (Ad ad 101) (q_I r192.2 12 4 a0).toNatClampNeg).toInt = (q_R r17.2 (Ad ad 101) (q_I r192.2 12 4 a0).toNatClampNeg).toInt := congrArg Int32.toInt (congrFun (u201 101 (by decide) (by decide) (by decide)) _)
        have f209 : (q_R r17.2 (Ad ad 101) (q_I r192.2 12 4 a0).toNatClampNeg).toInt = (q_R δ (Ad ad 101) (q_I r192.2 12 4 a0).toNatClampNeg).toInt := congrArg Int32.toInt (congrFun (u26 101 (by decide) (by decide) (by decide)) _)
        have f210 := ti_b (q_R δ (Ad ad 101) (q_I r192.2 12 4 a0).toNatClampNeg)
        have f211 := ti_b (q_R r17.2 (Ad ad 101) (q_I r192.2 12 4 a0).toNatClampNeg)
        have f212 := ti_b (q_R r192.2 (Ad ad 101) (q_I r192.2 12 4 a0).toNatClampNeg)
        have f213 := ti_b r192.1
        have f214 : (q_I r17.2 12 3 a0).toInt = (q_I δ 12 3 a0).toInt := congrArg Int32.toInt (u23 12 3 a0 (by decide))
        have f215 : (q_I r192.2 12 5 a0).toInt = (q_I r17.2 12 5 a0).toInt := congrArg Int32.toInt (u198 12 5 a0 (by decide))
        have us216 : NU ad a0 δ r192.2 := NU.t us42 (show NU ad a0 r17.2 r192.2 from ⟨u201 116 (by decide) (by decide) (by decide), u198 12 26 _ (by decide), u198 12 24 _ (by decide), fun z => by omega⟩)
        refine ok_ite (fun h217 => ?_) (fun h217 => ?_)
        · have c218 : r192.1.toInt = (37 : Int) := o_eq h217
          unfold J_X12_product_29
          refine ok_bind (k_X12_here L hN (a0 := a0) k_a0 i194) (fun r219 hr220 => ?_)
          obtain ⟨i221, ⟨u225, u226, u227, u228⟩, p222, p223, p224⟩ := hr220
          have u229 := kp_t u202 u225
          have v230 : q_V r219.2 = q_V δ := (u226).trans v203
          have v231 := kr_t v204 u228
          have f232 := cb_12_4 i221 k_a0
          have f233 : hc ad r219.2 a0 = (q_R r219.2 (Ad ad 101) (q_I r219.2 12 4 a0).toNatClampNeg).toInt := rfl
          have t234 := ti_tn (q_I r219.2 12 4 a0)
          have f235 : (q_R r219.2 (Ad ad 101) (q_I r219.2 12 4 a0).toNatClampNeg).toInt = (q_R r192.2 (Ad ad 101) (q_I r219.2 12 4 a0).toNatClampNeg).toInt := congrArg Int32.toInt (congrFun (u228 101 (by decide) (by decide) (by decide)) _)
          have f236 : (q_R r192.2 (Ad ad 101) (q_I r219.2 12 4 a0).toNatClampNeg).toInt = (q_R r17.2 (Ad ad 101) (q_I r219.2 12 4 a0).toNatClampNeg).toInt := congrArg Int32.toInt (congrFun (u201 101 (by decide) (by decide) (by decide)) _)
          have f237 : (q_R r17.2 (Ad ad 101) (q_I r219.2 12 4 a0).toNatClampNeg).toInt = (q_R δ (Ad ad 101) (q_I r219.2 12 4 a0).toNatClampNeg).toInt := congrArg Int32.toInt (congrFun (u26 101 (by decide) (by decide) (by decide)) _)
          have f238 := ti_b (q_R δ (Ad ad 101) (q_I r219.2 12 4 a0).toNatClampNeg)
          have f239 := ti_b (q_R r17.2 (Ad ad 101) (q_I r219.2 12 4 a0).toNatClampNeg)
          have f240 := ti_b (q_R r192.2 (Ad ad 101) (q_I r219.2 12 4 a0).toNatClampNeg)
          have f241 := ti_b (q_R r219.2 (Ad ad 101) (q_I r219.2 12 4 a0).toNatClampNeg)
          have f242 := ti_b r219.1
          have f243 : (q_I r192.2 12 3 a0).toInt = (q_I r17.2 12 3 a0).toInt := congrArg Int32.toInt (u198 12 3 a0 (by decide))
          have f244 : (q_I r219.2 12 5 a0).toInt = (q_I r192.2 12 5 a0).toInt := congrArg Int32.toInt (u225 12 5 a0 (by decide))
          have us245 : NU ad a0 δ r219.2 := NU.t us216 (show NU ad a0 r192.2 r219.2 from ⟨u228 116 (by decide) (by decide) (by decide), u225 12 26 _ (by decide), u225 12 24 _ (by decide), fun z => by omega⟩)
          first | (have q250 := te_addc (c := 1) (n := 1) rfl (q_I r219.2 12 4 a0) (by omega) (by omega); obtain ⟨f251, f252, f253⟩ := q250) | (obtain ⟨q250, f251, f252, f253⟩ := ti_addc (c := 1) (n := 1) rfl (q_I r219.2 12 4 a0))
          refine ok_bdv (fun d246 e247 => ?_)
          have i248 : RI ad h.1 δ0 d246 := by rw [e247]; exact cs_12_4 L i221 k_a0 (show 0 ≤ ((q_I r219.2 12 4 a0) + (1 : Int32)).toInt by omega) (show ((q_I r219.2 12 4 a0) + (1 : Int32)).toInt ≤ 500 by omega)
          have u254 := kp_I u229 e247
          have v255 : q_V d246 = q_V δ := ((show q_V d246 = q_V r219.2 by rw [e247]; rfl)).trans v230
          have v256 := kr_N v231 (show q_R d246 = q_R r219.2 by rw [e247]; rfl)
          have us257 : NU ad a0 δ d246 := NU.t us245 (show NU ad a0 r219.2 d246 from NU.w e247 (by decide))
          have f260 : (q_I d246 12 24 a0).toInt = (q_I δ 12 24 a0).toInt := ((show (q_I d246 12 24 a0).toInt = (q_I r219.2 12 24 a0).toInt from congrArg Int32.toInt (by rw [e247]; exact rI_o (by decide))).trans ((show (q_I r219.2 12 24 a0).toInt = (q_I r192.2 12 24 a0).toInt from congrArg Int32.toInt (u225 12 24 a0 (by decide))).trans ((show (q_I r192.2 12 24 a0).toInt = (q_I r17.2 12 24 a0).toInt from congrArg Int32.toInt (u198 12 24 a0 (by decide))).trans (show (q_I r17.2 12 24 a0).toInt = (q_I δ 12 24 a0).toInt from congrArg Int32.toInt (u23 12 24 a0 (by decide))))))
          have f261 : (q_I d246 12 26 a0).toInt = (q_I δ 12 26 a0).toInt := ((show (q_I d246 12 26 a0).toInt = (q_I r219.2 12 26 a0).toInt from congrArg Int32.toInt (by rw [e247]; exact rI_o (by decide))).trans ((show (q_I r219.2 12 26 a0).toInt = (q_I r192.2 12 26 a0).toInt from congrArg Int32.toInt (u225 12 26 a0 (by decide))).trans ((show (q_I r192.2 12 26 a0).toInt = (q_I r17.2 12 26 a0).toInt from congrArg Int32.toInt (u198 12 26 a0 (by decide))).trans (show (q_I r17.2 12 26 a0).toInt = (q_I δ 12 26 a0).toInt from congrArg Int32.toInt (u23 12 26 a0 (by decide))))))
          have f262 := cb_12_4 i248 k_a0
          have f263 : (q_I d246 12 4 a0).toInt = ((q_I r219.2 12 4 a0) + (1 : Int32)).toInt := congrArg Int32.toInt (show q_I d246 12 4 a0 = ((q_I r219.2 12 4 a0) + (1 : Int32)) by rw [e247]; exact rI_s)
          have f264 : (q_I d246 12 7 a0).toInt = (q_I δ 12 7 a0).toInt := ((show (q_I d246 12 7 a0).toInt = (q_I r219.2 12 7 a0).toInt from congrArg Int32.toInt (by rw [e247]; exact rI_o (by decide))).trans ((show (q_I r219.2 12 7 a0).toInt = (q_I r192.2 12 7 a0).toInt from congrArg Int32.toInt (u225 12 7 a0 (by decide))).trans ((show (q_I r192.2 12 7 a0).toInt = (q_I r17.2 12 7 a0).toInt from congrArg Int32.toInt (u198 12 7 a0 (by decide))).trans (show (q_I r17.2 12 7 a0).toInt = (q_I δ 12 7 a0).toInt from congrArg Int32.toInt (u23 12 7 a0 (by decide))))))
          have f265 : (q_I d246 12 5 a0).toInt = (q_I r219.2 12 5 a0).toInt := congrArg Int32.toInt (by rw [e247]; exact rI_o (by decide))
          refine ok_bind (k_bX12_unit L hN (a0 := a0) hT k_a0 (show (q_I d246 12 24 a0).toInt ≤ 3 by first | with_reducible assumption | omega) (show (q_I d246 12 26 a0).toInt ≤ (q_I d246 12 4 a0).toInt by first | with_reducible assumption | omega) (show 0 ≤ (q_I d246 12 7 a0).toInt by first | with_reducible assumption | omega) (show (q_I d246 12 7 a0).toInt ≤ 7 by first | with_reducible assumption | omega) (show (q_I d246 12 7 a0).toInt = 7 → 0 ≤ (q_I d246 12 5 a0).toInt by first | with_reducible assumption | omega) (show 8 - (q_I d246 12 7 a0).toInt ≤ K by first | with_reducible assumption | omega) i248) (fun r258 hr259 => ?_)
          obtain ⟨i266, ⟨u273, u274, u275⟩, p267, p268, p269, p270, p271, p272⟩ := hr259
          have u276 := kp_t u254 u273
          have v277 : q_V r258 = q_V δ := (u274).trans v255
          have v278 := kr_t v256 u275
          have f279 := cb_12_4 i266 k_a0
          have f280 := cb_12_5 i266 k_a0
          have f281 := ti_b (q_I r258 12 7 a0)
          have f282 := cb_12_26 i266 k_a0
          have us283 : US ad a0 δ r258 := US.pre us257 p272
          refine ok_ite (fun h284 => ?_) (fun h284 => ?_)
          · have c285 : r219.1.toInt = (42 : Int) := o_eq h284
            unfold J_X12_product_62
            have f288 : (q_I r258 12 24 a0).toInt = (q_I d246 12 24 a0).toInt := congrArg Int32.toInt (u273 12 24 a0 (by decide))
            refine ok_bind (k_X12_emit L hN (a0 := a0) (x1 := (8 : Int32)) (x2 := (0 : Int32)) k_a0 (show (q_I r258 12 24 a0).toInt ≤ 3 by first | with_reducible assumption | omega) (show (q_I r258 12 5 a0).toInt < 0 → (q_I r258 12 26 a0).toInt < 500 by first | with_reducible assumption | omega) i266) (fun r286 hr287 => ?_)
            obtain ⟨i289, ⟨u294, u295, u296⟩, p290, p291, p292, p293⟩ := hr287
            have u297 := kp_t u276 u294
            have v298 : q_V r286 = q_V δ := (u295).trans v277
            have v299 := kr_t v278 u296
            have f300 := cb_12_26 i289 k_a0
            have us301 : LU ad a0 δ r286 := LU.em us283 p293 (by decide)
            have f302 : (q_I r286 12 24 a0).toInt = (q_I r258 12 24 a0).toInt := congrArg Int32.toInt (u294 12 24 a0 (by decide))
            have f303 : (q_I r286 12 4 a0).toInt = (q_I r258 12 4 a0).toInt := congrArg Int32.toInt (u294 12 4 a0 (by decide))
            have f304 : (q_I r286 12 7 a0).toInt = (q_I r258 12 7 a0).toInt := congrArg Int32.toInt (u294 12 7 a0 (by decide))
            have f305 : (q_I r286 12 5 a0).toInt = (q_I r258 12 5 a0).toInt := congrArg Int32.toInt (u294 12 5 a0 (by decide))
            refine ok_mono (ih r286 i289 (show (q_I r286 12 24 a0).toInt ≤ 3 by first | with_reducible assumption | omega) (show (q_I r286 12 26 a0).toInt ≤ (q_I r286 12 4 a0).toInt by first | with_reducible assumption | omega) (show 0 ≤ (q_I r286 12 7 a0).toInt by first | with_reducible assumption | omega) (show (q_I r286 12 7 a0).toInt ≤ 7 by first | with_reducible assumption | omega) (show (q_I r286 12 7 a0).toInt = 7 → 0 ≤ (q_I r286 12 5 a0).toInt by first | with_reducible assumption | omega) (show 8 - (q_I r286 12 7 a0).toInt ≤ K by first | with_reducible assumption | omega) (show 501 - (q_I r286 12 4 a0).toInt < _ by omega)) (fun r306 hr307 => ?_)
            obtain ⟨i308, ⟨u315, u316, u317⟩, p309, p310, p311, p312, p313, p314⟩ := hr307
            have u318 := kp_t u297 u315
            have v319 : q_V r306 = q_V δ := (u316).trans v298
            have v320 := kr_t v299 u317
            have f321 := cb_12_4 i308 k_a0
            have f322 := cb_12_5 i308 k_a0
            have f323 := ti_b (q_I r306 12 7 a0)
            have f324 := cb_12_26 i308 k_a0
            have us325 : LU ad a0 δ r306 := LU.t us301 p314
            exact ⟨by first | with_reducible assumption | assumption, ⟨kp_w (by decide) u318, v319, kr_w (by decide) v320⟩, by first | with_reducible assumption | omega, by first | with_reducible assumption | omega, by first | with_reducible assumption | omega, by first | with_reducible assumption | omega, by first | with_reducible assumption | omega, us325⟩
          · have c326 : r219.1.toInt ≠ (42 : Int) := o_ne h284
            unfold J_X12_product_62
            have f329 : (q_I r258 12 24 a0).toInt = (q_I d246 12 24 a0).toInt := congrArg Int32.toInt (u273 12 24 a0 (by decide))
            refine ok_bind (k_X12_emit L hN (a0 := a0) (x1 := (9 : Int32)) (x2 := (0 : Int32)) k_a0 (show (q_I r258 12 24 a0).toInt ≤ 3 by first | with_reducible assumption | omega) (show (q_I r258 12 5 a0).toInt < 0 → (q_I r258 12 26 a0).toInt < 500 by first | with_reducible assumption | omega) i266) (fun r327 hr328 => ?_)
            obtain ⟨i330, ⟨u335, u336, u337⟩, p331, p332, p333, p334⟩ := hr328
            have u338 := kp_t u276 u335
            have v339 : q_V r327 = q_V δ := (u336).trans v277
            have v340 := kr_t v278 u337
            have f341 := cb_12_26 i330 k_a0
            have us342 : LU ad a0 δ r327 := LU.em us283 p334 (by decide)
            have f343 : (q_I r327 12 24 a0).toInt = (q_I r258 12 24 a0).toInt := congrArg Int32.toInt (u335 12 24 a0 (by decide))
            have f344 : (q_I r327 12 4 a0).toInt = (q_I r258 12 4 a0).toInt := congrArg Int32.toInt (u335 12 4 a0 (by decide))
            have f345 : (q_I r327 12 7 a0).toInt = (q_I r258 12 7 a0).toInt := congrArg Int32.toInt (u335 12 7 a0 (by decide))
            have f346 : (q_I r327 12 5 a0).toInt = (q_I r258 12 5 a0).toInt := congrArg Int32.toInt (u335 12 5 a0 (by decide))
            refine ok_mono (ih r327 i330 (show (q_I r327 12 24 a0).toInt ≤ 3 by first | with_reducible assumption | omega) (show (q_I r327 12 26 a0).toInt ≤ (q_I r327 12 4 a0).toInt by first | with_reducible assumption | omega) (show 0 ≤ (q_I r327 12 7 a0).toInt by first | with_reducible assumption | omega) (show (q_I r327 12 7 a0).toInt ≤ 7 by first | with_reducible assumption | omega) (show (q_I r327 12 7 a0).toInt = 7 → 0 ≤ (q_I r327 12 5 a0).toInt by first | with_reducible assumption | omega) (show 8 - (q_I r327 12 7 a0).toInt ≤ K by first | with_reducible assumption | omega) (show 501 - (q_I r327 12 4 a0).toInt < _ by omega)) (fun r347 hr348 => ?_)
            obtain ⟨i349, ⟨u356, u357, u358⟩, p350, p351, p352, p353, p354, p355⟩ := hr348
            have u359 := kp_t u338 u356
            have v360 : q_V r347 = q_V δ := (u357).trans v339
            have v361 := kr_t v340 u358
            have f362 := cb_12_4 i349 k_a0
            have f363 := cb_12_5 i349 k_a0
            have f364 := ti_b (q_I r347 12 7 a0)
            have f365 := cb_12_26 i349 k_a0
            have us366 : LU ad a0 δ r347 := LU.t us342 p355
            exact ⟨by first | with_reducible assumption | assumption, ⟨kp_w (by decide) u359, v360, kr_w (by decide) v361⟩, by first | with_reducible assumption | omega, by first | with_reducible assumption | omega, by first | with_reducible assumption | omega, by first | with_reducible assumption | omega, by first | with_reducible assumption | omega, us366⟩
        · have c367 : r192.1.toInt ≠ (37 : Int) := o_ne h217
          unfold J_X12_product_69
          have f368 : (q_I r192.2 12 7 a0).toInt = (q_I δ 12 7 a0).toInt := ((show (q_I r192.2 12 7 a0).toInt = (q_I r17.2 12 7 a0).toInt from congrArg Int32.toInt (u198 12 7 a0 (by decide))).trans (show (q_I r17.2 12 7 a0).toInt = (q_I δ 12 7 a0).toInt from congrArg Int32.toInt (u23 12 7 a0 (by decide))))
          have f369 : (q_I r192.2 12 26 a0).toInt = (q_I δ 12 26 a0).toInt := ((show (q_I r192.2 12 26 a0).toInt = (q_I r17.2 12 26 a0).toInt from congrArg Int32.toInt (u198 12 26 a0 (by decide))).trans (show (q_I r17.2 12 26 a0).toInt = (q_I δ 12 26 a0).toInt from congrArg Int32.toInt (u23 12 26 a0 (by decide))))
          exact ok_some (show RI ad h.1 δ0 r192.2 ∧ (kp [(12, 4), (12, 5), (12, 6), (12, 7), (12, 26)] δ r192.2 ∧ q_V r192.2 = q_V δ ∧ kr ad [116, 117] δ r192.2) ∧ (q_I δ 12 4 a0).toInt ≤ (q_I r192.2 12 4 a0).toInt ∧ (q_I δ 12 5 a0).toInt ≤ (q_I r192.2 12 5 a0).toInt ∧ (q_I r192.2 12 7 a0).toInt = (q_I δ 12 7 a0).toInt ∧ (q_I δ 12 26 a0).toInt ≤ (q_I r192.2 12 26 a0).toInt ∧ (q_I r192.2 12 26 a0).toInt - (q_I δ 12 26 a0).toInt ≤ (q_I r192.2 12 4 a0).toInt - (q_I δ 12 4 a0).toInt ∧ LU ad a0 δ r192.2 from ⟨i194, ⟨kp_w (by decide) u202, v203, kr_w (by decide) v204⟩, by first | with_reducible assumption | omega, by first | with_reducible assumption | omega, by first | with_reducible assumption | omega, by first | with_reducible assumption | omega, by first | with_reducible assumption | omega, LU.n us216⟩)
set_option maxHeartbeats 4000000 in
theorem k_bX12_product {ad : List Nat} {h : hp} (L : Lay TLx ad h) {δ0 : dp} {N : Nat} (hN : 10000000 ≤ N) {T : Nat → dp → Option (dp)} {K : Int} (hT : ∀ (a0 : Nat) (δ : dp), q_K h.1 a0 = 12 → (q_I δ 12 24 a0).toInt ≤ 3 → (q_I δ 12 26 a0).toInt ≤ (q_I δ 12 4 a0).toInt → 0 ≤ (q_I δ 12 7 a0).toInt → (q_I δ 12 7 a0).toInt ≤ 7 → ((q_I δ 12 7 a0).toInt = 7 → 0 ≤ (q_I δ 12 5 a0).toInt) → 8 - (q_I δ 12 7 a0).toInt < K → RI ad h.1 δ0 δ → ok (T a0 δ) (fun r => RI ad h.1 δ0 r ∧ (kp [(12, 4), (12, 5), (12, 6), (12, 7), (12, 26)] δ r ∧ q_V r = q_V δ ∧ kr ad [116, 117] δ r) ∧ (q_I δ 12 4 a0).toInt ≤ (q_I r 12 4 a0).toInt ∧ (q_I δ 12 5 a0).toInt ≤ (q_I r 12 5 a0).toInt ∧ (q_I r 12 7 a0).toInt = (q_I δ 12 7 a0).toInt ∧ (q_I δ 12 26 a0).toInt ≤ (q_I r 12 26 a0).toInt ∧ (q_I r 12 26 a0).toInt - (q_I δ 12 26 a0).toInt ≤ (q_I r 12 4 a0).toInt - (q_I δ 12 4 a0).toInt ∧ US ad a0 δ r)) {a0 : Nat} (k_a0 : q_K h.1 a0 = 12) {δ : dp} (z0 : (q_I δ 12 24 a0).toInt ≤ 3) (z1 : (q_I δ 12 26 a0).toInt ≤ (q_I δ 12 4 a0).toInt) (z2 : 0 ≤ (q_I δ 12 7 a0).toInt) (z3 : (q_I δ 12 7 a0).toInt ≤ 7) (z4 : (q_I δ 12 7 a0).toInt = 7 → 0 ≤ (q_I δ 12 5 a0).toInt) (z5 : 8 - (q_I δ 12 7 a0).toInt ≤ K) (I : RI ad h.1 δ0 δ) : ok (B_X12_product N h.1 T a0 δ) (fun r => RI ad h.1 δ0 r ∧ (kp [(12, 4), (12, 5), (12, 6), (12, 7), (12, 26)] δ r ∧ q_V r = q_V δ ∧ kr ad [116, 117] δ r) ∧ (q_I δ 12 4 a0).toInt ≤ (q_I r 12 4 a0).toInt ∧ (q_I δ 12 5 a0).toInt ≤ (q_I r 12 5 a0).toInt ∧ (q_I r 12 7 a0).toInt = (q_I δ 12 7 a0).toInt ∧ (q_I δ 12 26 a0).toInt ≤ (q_I r 12 26 a0).toInt ∧ (q_I r 12 26 a0).toInt - (q_I δ 12 26 a0).toInt ≤ (q_I r 12 4 a0).toInt - (q_I δ 12 4 a0).toInt ∧ US ad a0 δ r) := by
  unfold B_X12_product
  have f1 := cb_12_24 I k_a0
  have f2 := cb_12_26 I k_a0
  have f3 := cb_12_4 I k_a0
  have f4 := ti_b (q_I δ 12 7 a0)
  have f5 := cb_12_5 I k_a0
  refine ok_bind (k_bX12_unit L hN (a0 := a0) hT k_a0 (show (q_I δ 12 24 a0).toInt ≤ 3 by first | with_reducible assumption | omega) (show (q_I δ 12 26 a0).toInt ≤ (q_I δ 12 4 a0).toInt by first | with_reducible assumption | omega) (show 0 ≤ (q_I δ 12 7 a0).toInt by first | with_reducible assumption | omega) (show (q_I δ 12 7 a0).toInt ≤ 7 by first | with_reducible assumption | omega) (show (q_I δ 12 7 a0).toInt = 7 → 0 ≤ (q_I δ 12 5 a0).toInt by first | with_reducible assumption | omega) (show 8 - (q_I δ 12 7 a0).toInt ≤ K by first | with_reducible assumption | omega) I) (fun r6 hr7 => ?_)
  obtain ⟨i8, ⟨u15, u16, u17⟩, p9, p10, p11, p12, p13, p14⟩ := hr7
  have u18 := kp_t kp_r u15
  have v19 : q_V r6 = q_V δ := (u16).trans rfl
  have v20 := kr_t (kr_r (ad := ad)) u17
  have f21 := cb_12_4 i8 k_a0
  have f22 := cb_12_5 i8 k_a0
  have f23 := ti_b (q_I r6 12 7 a0)
  have f24 := cb_12_26 i8 k_a0
  have us25 : US ad a0 δ r6 := US.pre NU.r p14
  have f26 : (q_I r6 12 24 a0).toInt = (q_I δ 12 24 a0).toInt := congrArg Int32.toInt (u15 12 24 a0 (by decide))
  refine ok_mono (kl_X12_product_4 L hN   hT k_a0 _ r6 i8 (show (q_I r6 12 24 a0).toInt ≤ 3 by first | with_reducible assumption | omega) (show (q_I r6 12 26 a0).toInt ≤ (q_I r6 12 4 a0).toInt by first | with_reducible assumption | omega) (show 0 ≤ (q_I r6 12 7 a0).toInt by first | with_reducible assumption | omega) (show (q_I r6 12 7 a0).toInt ≤ 7 by first | with_reducible assumption | omega) (show (q_I r6 12 7 a0).toInt = 7 → 0 ≤ (q_I r6 12 5 a0).toInt by first | with_reducible assumption | omega) (show 8 - (q_I r6 12 7 a0).toInt ≤ K by first | with_reducible assumption | omega) (show 501 - (q_I r6 12 4 a0).toInt < _ by omega)) (fun r27 hr28 => ?_)
  obtain ⟨i29, ⟨u36, u37, u38⟩, p30, p31, p32, p33, p34, p35⟩ := hr28
  have u39 := kp_t u18 u36
  have v40 : q_V r27 = q_V δ := (u37).trans v19
  have v41 := kr_t v20 u38
  have f42 := cb_12_4 i29 k_a0
  have f43 := cb_12_5 i29 k_a0
  have f44 := ti_b (q_I r27 12 7 a0)
  have f45 := cb_12_26 i29 k_a0
  have us46 : US ad a0 δ r27 := US.l us25 p35
  exact ⟨by first | with_reducible assumption | assumption, ⟨kp_w (by decide) u39, v40, kr_w (by decide) v41⟩, by first | with_reducible assumption | omega, by first | with_reducible assumption | omega, by first | with_reducible assumption | omega, by first | with_reducible assumption | omega, by first | with_reducible assumption | omega, us46⟩
set_option maxHeartbeats 4000000 in
theorem kl_X12_sum_4 {ad : List Nat} {h : hp} (L : Lay TLx ad h) {δ0 : dp} {N : Nat} (hN : 10000000 ≤ N) {T : Nat → dp → Option (dp)} {K : Int} (hT : ∀ (a0 : Nat) (δ : dp), q_K h.1 a0 = 12 → (q_I δ 12 24 a0).toInt ≤ 3 → (q_I δ 12 26 a0).toInt ≤ (q_I δ 12 4 a0).toInt → 0 ≤ (q_I δ 12 7 a0).toInt → (q_I δ 12 7 a0).toInt ≤ 7 → ((q_I δ 12 7 a0).toInt = 7 → 0 ≤ (q_I δ 12 5 a0).toInt) → 8 - (q_I δ 12 7 a0).toInt < K → RI ad h.1 δ0 δ → ok (T a0 δ) (fun r => RI ad h.1 δ0 r ∧ (kp [(12, 4), (12, 5), (12, 6), (12, 7), (12, 26)] δ r ∧ q_V r = q_V δ ∧ kr ad [116, 117] δ r) ∧ (q_I δ 12 4 a0).toInt ≤ (q_I r 12 4 a0).toInt ∧ (q_I δ 12 5 a0).toInt ≤ (q_I r 12 5 a0).toInt ∧ (q_I r 12 7 a0).toInt = (q_I δ 12 7 a0).toInt ∧ (q_I δ 12 26 a0).toInt ≤ (q_I r 12 26 a0).toInt ∧ (q_I r 12 26 a0).toInt - (q_I δ 12 26 a0).toInt ≤ (q_I r 12 4 a0).toInt - (q_I δ 12 4 a0).toInt ∧ US ad a0 δ r)) {a0 : Nat} (k_a0 : q_K h.1 a0 = 12) : ∀ (n : Nat) (δ : dp), RI ad h.1 δ0 δ → (q_I δ 12 24 a0).toInt ≤ 3 → (q_I δ 12 26 a0).toInt ≤ (q_I δ 12 4 a0).toInt → 0 ≤ (q_I δ 12 7 a0).toInt → (q_I δ 12 7 a0).toInt ≤ 7 → ((q_I δ 12 7 a0).toInt = 7 → 0 ≤ (q_I δ 12 5 a0).toInt) → 8 - (q_I δ 12 7 a0).toInt ≤ K → 501 - (q_I δ 12 4 a0).toInt < (n : Int) → ok (L_X12_sum_4 N h.1 T a0 n δ) (fun r => RI ad h.1 δ0 r ∧ (kp [(12, 4), (12, 5), (12, 6), (12, 7), (12, 26)] δ r ∧ q_V r = q_V δ ∧ kr ad [116, 117] δ r) ∧ (q_I δ 12 4 a0).toInt ≤ (q_I r 12 4 a0).toInt ∧ (q_I δ 12 5 a0).toInt ≤ (q_I r 12 5 a0).toInt ∧ (q_I r 12 7 a0).toInt = (q_I δ 12 7 a0).toInt ∧ (q_I δ 12 26 a0).toInt ≤ (q_I r 12 26 a0).toInt ∧ (q_I r 12 26 a0).toInt - (q_I δ 12 26 a0).toInt ≤ (q_I r 12 4 a0).toInt - (q_I δ 12 4 a0).toInt ∧ LU ad a0 δ r) := by
  intro n
  induction n with
  | zero =>
    intro δ I j0 j1 j2 j3 j4 j5 hm
    have f1 := cb_12_24 I k_a0
    have f2 := cb_12_26 I k_a0
    have f3 := cb_12_4 I k_a0
    have f4 := ti_b (q_I δ 12 7 a0)
    have f5 := cb_12_5 I k_a0
    exfalso; omega
  | succ n ih =>
    intro δ I j0 j1 j2 j3 j4 j5 hm
    unfold L_X12_sum_4
    have f1 := cb_12_24 I k_a0
    have f2 := cb_12_26 I k_a0
    have f3 := cb_12_4 I k_a0
    have f4 := ti_b (q_I δ 12 7 a0)
    have f5 := cb_12_5 I k_a0
    refine ok_bind (k_X12_fine L hN (a0 := a0) k_a0 I) (fun r6 hr7 => ?_)
    obtain ⟨i8, p9, p10, p11⟩ := hr7
    try rw [i8]
    have f12 := bo_l p9
    have f13 := ti_b r6.1
    refine ok_ite (fun h14 => ?_) (fun h14 => ?_)
    · have c15 : r6.1.toInt = (0 : Int) := o_eq h14
      unfold J_X12_sum_69
      exact ok_some (show RI ad h.1 δ0 δ ∧ (kp [(12, 4), (12, 5), (12, 6), (12, 7), (12, 26)] δ δ ∧ q_V δ = q_V δ ∧ kr ad [116, 117] δ δ) ∧ (q_I δ 12 4 a0).toInt ≤ (q_I δ 12 4 a0).toInt ∧ (q_I δ 12 5 a0).toInt ≤ (q_I δ 12 5 a0).toInt ∧ (q_I δ 12 7 a0).toInt = (q_I δ 12 7 a0).toInt ∧ (q_I δ 12 26 a0).toInt ≤ (q_I δ 12 26 a0).toInt ∧ (q_I δ 12 26 a0).toInt - (q_I δ 12 26 a0).toInt ≤ (q_I δ 12 4 a0).toInt - (q_I δ 12 4 a0).toInt ∧ LU ad a0 δ δ from ⟨I, ⟨kp_w (by decide) kp_r, rfl, kr_w (by decide) (kr_r (ad := ad))⟩, by first | with_reducible assumption | omega, by first | with_reducible assumption | omega, by first | with_reducible assumption | omega, by first | with_reducible assumption | omega, by first | with_reducible assumption | omega, LU.n NU.r⟩)
    · have c16 : r6.1.toInt ≠ (0 : Int) := o_ne h14
      refine ok_bind (k_X12_here L hN (a0 := a0) k_a0 I) (fun r17 hr18 => ?_)
      obtain ⟨i19, ⟨u23, u24, u25, u26⟩, p20, p21, p22⟩ := hr18
      have u27 := kp_t kp_r u23
      have v28 : q_V r17.2 = q_V δ := (u24).trans rfl
      have v29 := kr_t (kr_r (ad := ad)) u26
      have f30 := cb_12_4 i19 k_a0
      have f31 : hc ad r17.2 a0 = (q_R r17.2 (Ad ad 101) (q_I r17.2 12 4 a0).toNatClampNeg).toInt := rfl
      have t32 := ti_tn (q_I r17.2 12 4 a0)
      have f33 : (q_R r17.2 (Ad ad 101) (q_I r17.2 12 4 a0).toNatClampNeg).toInt = (q_R δ (Ad ad 101) (q_I r17.2 12 4 a0).toNatClampNeg).toInt := congrArg Int32.toInt (congrFun (u26 101 (by decide) (by decide) (by decide)) _)
      have f34 := ti_b (q_R δ (Ad ad 101) (q_I r17.2 12 4 a0).toNatClampNeg)
      have f35 := ti_b (q_R r17.2 (Ad ad 101) (q_I r17.2 12 4 a0).toNatClampNeg)
      have f36 := ti_b r17.1
      have f37 := cb_12_3 I k_a0
      have f38 : hc ad δ a0 = (q_R δ (Ad ad 101) (q_I δ 12 4 a0).toNatClampNeg).toInt := rfl
      have t39 := ti_tn (q_I δ 12 4 a0)
      have f40 := ti_b (q_R δ (Ad ad 101) (q_I δ 12 4 a0).toNatClampNeg)
      have f41 : (q_I r17.2 12 5 a0).toInt = (q_I δ 12 5 a0).toInt := congrArg Int32.toInt (u23 12 5 a0 (by decide))
      have us42 : NU ad a0 δ r17.2 := NU.t NU.r (show NU ad a0 δ r17.2 from ⟨u26 116 (by decide) (by decide) (by decide), u23 12 26 _ (by decide), u23 12 24 _ (by decide), fun z => by omega⟩)
      refine ok_ite (fun h43 => ?_) (fun h43 => ?_)
      · have c44 : r17.1.toInt = (43 : Int) := o_eq h43
        unfold J_X12_sum_29
        refine ok_bind (k_X12_here L hN (a0 := a0) k_a0 i19) (fun r45 hr46 => ?_)
        obtain ⟨i47, ⟨u51, u52, u53, u54⟩, p48, p49, p50⟩ := hr46
        have u55 := kp_t u27 u51
        have v56 : q_V r45.2 = q_V δ := (u52).trans v28
        have v57 := kr_t v29 u54
        have f58 := cb_12_4 i47 k_a0
        have f59 : hc ad r45.2 a0 = (q_R r45.2 (Ad ad 101) (q_I r45.2 12 4 a0).toNatClampNeg).toInt := rfl
        have t60 := ti_tn (q_I r45.2 12 4 a0)
        have f61 : (q_R r45.2 (Ad ad 101) (q_I r45.2 12 4 a0).toNatClampNeg).toInt = (q_R r17.2 (Ad ad 101) (q_I r45.2 12 4 a0).toNatClampNeg).toInt := congrArg Int32.toInt (congrFun (u54 101 (by decide) (by decide) (by decide)) _)
        have f62 : (q_R r17.2 (Ad ad 101) (q_I r45.2 12 4 a0).toNatClampNeg).toInt = (q_R δ (Ad ad 101) (q_I r45.2 12 4 a0).toNatClampNeg).toInt := congrArg Int32.toInt (congrFun (u26 101 (by decide) (by decide) (by decide)) _)
        have f63 := ti_b (q_R δ (Ad ad 101) (q_I r45.2 12 4 a0).toNatClampNeg)
        have f64 := ti_b (q_R r17.2 (Ad ad 101) (q_I r45.2 12 4 a0).toNatClampNeg)
        have f65 := ti_b (q_R r45.2 (Ad ad 101) (q_I r45.2 12 4 a0).toNatClampNeg)
        have f66 := ti_b r45.1
        have f67 : (q_I r17.2 12 3 a0).toInt = (q_I δ 12 3 a0).toInt := congrArg Int32.toInt (u23 12 3 a0 (by decide))
        have f68 : (q_I r45.2 12 5 a0).toInt = (q_I r17.2 12 5 a0).toInt := congrArg Int32.toInt (u51 12 5 a0 (by decide))
        have us69 : NU ad a0 δ r45.2 := NU.t us42 (show NU ad a0 r17.2 r45.2 from ⟨u54 116 (by decide) (by decide) (by decide), u51 12 26 _ (by decide), u51 12 24 _ (by decide), fun z => by omega⟩)
        first | (have q74 := te_addc (c := 1) (n := 1) rfl (q_I r45.2 12 4 a0) (by omega) (by omega); obtain ⟨f75, f76, f77⟩ := q74) | (obtain ⟨q74, f75, f76, f77⟩ := ti_addc (c := 1) (n := 1) rfl (q_I r45.2 12 4 a0))
        refine ok_bdv (fun d70 e71 => ?_)
        have i72 : RI ad h.1 δ0 d70 := by rw [e71]; exact cs_12_4 L i47 k_a0 (show 0 ≤ ((q_I r45.2 12 4 a0) + (1 : Int32)).toInt by omega) (show ((q_I r45.2 12 4 a0) + (1 : Int32)).toInt ≤ 500 by omega)
        have u78 := kp_I u55 e71
        have v79 : q_V d70 = q_V δ := ((show q_V d70 = q_V r45.2 by rw [e71]; rfl)).trans v56
        have v80 := kr_N v57 (show q_R d70 = q_R r45.2 by rw [e71]; rfl)
        have us81 : NU ad a0 δ d70 := NU.t us69 (show NU ad a0 r45.2 d70 from NU.w e71 (by decide))
        have f84 : (q_I d70 12 24 a0).toInt = (q_I δ 12 24 a0).toInt := ((show (q_I d70 12 24 a0).toInt = (q_I r45.2 12 24 a0).toInt from congrArg Int32.toInt (by rw [e71]; exact rI_o (by decide))).trans ((show (q_I r45.2 12 24 a0).toInt = (q_I r17.2 12 24 a0).toInt from congrArg Int32.toInt (u51 12 24 a0 (by decide))).trans (show (q_I r17.2 12 24 a0).toInt = (q_I δ 12 24 a0).toInt from congrArg Int32.toInt (u23 12 24 a0 (by decide)))))
        have f85 : (q_I d70 12 26 a0).toInt = (q_I δ 12 26 a0).toInt := ((show (q_I d70 12 26 a0).toInt = (q_I r45.2 12 26 a0).toInt from congrArg Int32.toInt (by rw [e71]; exact rI_o (by decide))).trans ((show (q_I r45.2 12 26 a0).toInt = (q_I r17.2 12 26 a0).toInt from congrArg Int32.toInt (u51 12 26 a0 (by decide))).trans (show (q_I r17.2 12 26 a0).toInt = (q_I δ 12 26 a0).toInt from congrArg Int32.toInt (u23 12 26 a0 (by decide)))))
        have f86 := cb_12_4 i72 k_a0
        have f87 : (q_I d70 12 4 a0).toInt = ((q_I r45.2 12 4 a0) + (1 : Int32)).toInt := congrArg Int32.toInt (show q_I d70 12 4 a0 = ((q_I r45.2 12 4 a0) + (1 : Int32)) by rw [e71]; exact rI_s)
        have f88 : (q_I d70 12 7 a0).toInt = (q_I δ 12 7 a0).toInt := ((show (q_I d70 12 7 a0).toInt = (q_I r45.2 12 7 a0).toInt from congrArg Int32.toInt (by rw [e71]; exact rI_o (by decide))).trans ((show (q_I r45.2 12 7 a0).toInt = (q_I r17.2 12 7 a0).toInt from congrArg Int32.toInt (u51 12 7 a0 (by decide))).trans (show (q_I r17.2 12 7 a0).toInt = (q_I δ 12 7 a0).toInt from congrArg Int32.toInt (u23 12 7 a0 (by decide)))))
        have f89 : (q_I d70 12 5 a0).toInt = (q_I r45.2 12 5 a0).toInt := congrArg Int32.toInt (by rw [e71]; exact rI_o (by decide))
        refine ok_bind (k_bX12_product L hN (a0 := a0) hT k_a0 (show (q_I d70 12 24 a0).toInt ≤ 3 by first | with_reducible assumption | omega) (show (q_I d70 12 26 a0).toInt ≤ (q_I d70 12 4 a0).toInt by first | with_reducible assumption | omega) (show 0 ≤ (q_I d70 12 7 a0).toInt by first | with_reducible assumption | omega) (show (q_I d70 12 7 a0).toInt ≤ 7 by first | with_reducible assumption | omega) (show (q_I d70 12 7 a0).toInt = 7 → 0 ≤ (q_I d70 12 5 a0).toInt by first | with_reducible assumption | omega) (show 8 - (q_I d70 12 7 a0).toInt ≤ K by first | with_reducible assumption | omega) i72) (fun r82 hr83 => ?_)
        obtain ⟨i90, ⟨u97, u98, u99⟩, p91, p92, p93, p94, p95, p96⟩ := hr83
        have u100 := kp_t u78 u97
        have v101 : q_V r82 = q_V δ := (u98).trans v79
        have v102 := kr_t v80 u99
        have f103 := cb_12_4 i90 k_a0
        have f104 := cb_12_5 i90 k_a0
        have f105 := ti_b (q_I r82 12 7 a0)
        have f106 := cb_12_26 i90 k_a0
        have us107 : US ad a0 δ r82 := US.pre us81 p96
        refine ok_ite (fun h108 => ?_) (fun h108 => ?_)
        · have c109 : r45.1.toInt = (43 : Int) := o_eq h108
          unfold J_X12_sum_62
          have f112 : (q_I r82 12 24 a0).toInt = (q_I d70 12 24 a0).toInt := congrArg Int32.toInt (u97 12 24 a0 (by decide))
          refine ok_bind (k_X12_emit L hN (a0 := a0) (x1 := (6 : Int32)) (x2 := (0 : Int32)) k_a0 (show (q_I r82 12 24 a0).toInt ≤ 3 by first | with_reducible assumption | omega) (show (q_I r82 12 5 a0).toInt < 0 → (q_I r82 12 26 a0).toInt < 500 by first | with_reducible assumption | omega) i90) (fun r110 hr111 => ?_)
          obtain ⟨i113, ⟨u118, u119, u120⟩, p114, p115, p116, p117⟩ := hr111
          have u121 := kp_t u100 u118
          have v122 : q_V r110 = q_V δ := (u119).trans v101
          have v123 := kr_t v102 u120
          have f124 := cb_12_26 i113 k_a0
          have us125 : LU ad a0 δ r110 := LU.em us107 p117 (by decide)
          have f126 : (q_I r110 12 24 a0).toInt = (q_I r82 12 24 a0).toInt := congrArg Int32.toInt (u118 12 24 a0 (by decide))
          have f127 : (q_I r110 12 4 a0).toInt = (q_I r82 12 4 a0).toInt := congrArg Int32.toInt (u118 12 4 a0 (by decide))
          have f128 : (q_I r110 12 7 a0).toInt = (q_I r82 12 7 a0).toInt := congrArg Int32.toInt (u118 12 7 a0 (by decide))
          have f129 : (q_I r110 12 5 a0).toInt = (q_I r82 12 5 a0).toInt := congrArg Int32.toInt (u118 12 5 a0 (by decide))
          refine ok_mono (ih r110 i113 (show (q_I r110 12 24 a0).toInt ≤ 3 by first | with_reducible assumption | omega) (show (q_I r110 12 26 a0).toInt ≤ (q_I r110 12 4 a0).toInt by first | with_reducible assumption | omega) (show 0 ≤ (q_I r110 12 7 a0).toInt by first | with_reducible assumption | omega) (show (q_I r110 12 7 a0).toInt ≤ 7 by first | with_reducible assumption | omega) (show (q_I r110 12 7 a0).toInt = 7 → 0 ≤ (q_I r110 12 5 a0).toInt by first | with_reducible assumption | omega) (show 8 - (q_I r110 12 7 a0).toInt ≤ K by first | with_reducible assumption | omega) (show 501 - (q_I r110 12 4 a0).toInt < _ by omega)) (fun r130 hr131 => ?_)
          obtain ⟨i132, ⟨u139, u140, u141⟩, p133, p134, p135, p136, p137, p138⟩ := hr131
          have u142 := kp_t u121 u139
          have v143 : q_V r130 = q_V δ := (u140).trans v122
          have v144 := kr_t v123 u141
          have f145 := cb_12_4 i132 k_a0
          have f146 := cb_12_5 i132 k_a0
          have f147 := ti_b (q_I r130 12 7 a0)
          have f148 := cb_12_26 i132 k_a0
          have us149 : LU ad a0 δ r130 := LU.t us125 p138
          exact ⟨by first | with_reducible assumption | assumption, ⟨kp_w (by decide) u142, v143, kr_w (by decide) v144⟩, by first | with_reducible assumption | omega, by first | with_reducible assumption | omega, by first | with_reducible assumption | omega, by first | with_reducible assumption | omega, by first | with_reducible assumption | omega, us149⟩
        · have c150 : r45.1.toInt ≠ (43 : Int) := o_ne h108
          unfold J_X12_sum_62
          have f153 : (q_I r82 12 24 a0).toInt = (q_I d70 12 24 a0).toInt := congrArg Int32.toInt (u97 12 24 a0 (by decide))
          refine ok_bind (k_X12_emit L hN (a0 := a0) (x1 := (7 : Int32)) (x2 := (0 : Int32)) k_a0 (show (q_I r82 12 24 a0).toInt ≤ 3 by first | with_reducible assumption | omega) (show (q_I r82 12 5 a0).toInt < 0 → (q_I r82 12 26 a0).toInt < 500 by first | with_reducible assumption | omega) i90) (fun r151 hr152 => ?_)
          obtain ⟨i154, ⟨u159, u160, u161⟩, p155, p156, p157, p158⟩ := hr152
          have u162 := kp_t u100 u159
          have v163 : q_V r151 = q_V δ := (u160).trans v101
          have v164 := kr_t v102 u161
          have f165 := cb_12_26 i154 k_a0
          have us166 : LU ad a0 δ r151 := LU.em us107 p158 (by decide)
          have f167 : (q_I r151 12 24 a0).toInt = (q_I r82 12 24 a0).toInt := congrArg Int32.toInt (u159 12 24 a0 (by decide))
          have f168 : (q_I r151 12 4 a0).toInt = (q_I r82 12 4 a0).toInt := congrArg Int32.toInt (u159 12 4 a0 (by decide))
          have f169 : (q_I r151 12 7 a0).toInt = (q_I r82 12 7 a0).toInt := congrArg Int32.toInt (u159 12 7 a0 (by decide))
          have f170 : (q_I r151 12 5 a0).toInt = (q_I r82 12 5 a0).toInt := congrArg Int32.toInt (u159 12 5 a0 (by decide))
          refine ok_mono (ih r151 i154 (show (q_I r151 12 24 a0).toInt ≤ 3 by first | with_reducible assumption | omega) (show (q_I r151 12 26 a0).toInt ≤ (q_I r151 12 4 a0).toInt by first | with_reducible assumption | omega) (show 0 ≤ (q_I r151 12 7 a0).toInt by first | with_reducible assumption | omega) (show (q_I r151 12 7 a0).toInt ≤ 7 by first | with_reducible assumption | omega) (show (q_I r151 12 7 a0).toInt = 7 → 0 ≤ (q_I r151 12 5 a0).toInt by first | with_reducible assumption | omega) (show 8 - (q_I r151 12 7 a0).toInt ≤ K by first | with_reducible assumption | omega) (show 501 - (q_I r151 12 4 a0).toInt < _ by omega)) (fun r171 hr172 => ?_)
          obtain ⟨i173, ⟨u180, u181, u182⟩, p174, p175, p176, p177, p178, p179⟩ := hr172
          have u183 := kp_t u162 u180
          have v184 : q_V r171 = q_V δ := (u181).trans v163
          have v185 := kr_t v164 u182
          have f186 := cb_12_4 i173 k_a0
          have f187 := cb_12_5 i173 k_a0
          have f188 := ti_b (q_I r171 12 7 a0)
          have f189 := cb_12_26 i173 k_a0
          have us190 : LU ad a0 δ r171 := LU.t us166 p179
          exact ⟨by first | with_reducible assumption | assumption, ⟨kp_w (by decide) u183, v184, kr_w (by decide) v185⟩, by first | with_reducible assumption | omega, by first | with_reducible assumption | omega, by first | with_reducible assumption | omega, by first | with_reducible assumption | omega, by first | with_reducible assumption | omega, us190⟩
      · have c191 : r17.1.toInt ≠ (43 : Int) := o_ne h43
        refine ok_bind (k_X12_here L hN (a0 := a0) k_a0 i19) (fun r192 hr193 => ?_)
        obtain ⟨i194, ⟨u198, u199, u200, u201⟩, p195, p196, p197⟩ := hr193
        have u202 := kp_t u27 u198
        have v203 : q_V r192.2 = q_V δ := (u199).trans v28
        have v204 := kr_t v29 u201
        have f205 := cb_12_4 i194 k_a0
        have f206 : hc ad r192.2 a0 = (q_R r192.2 (Ad ad 101) (q_I r192.2 12 4 a0).toNatClampNeg).toInt := rfl
        have t207 := ti_tn (q_I r192.2 12 4 a0)
        have f208 : (q_R r192.2 (Ad ad 101) (q_I r192.2 12 4 a0).toNatClampNeg).toInt = (q_R r17.2 (Ad ad 101) (q_I r192.2 12 4 a0).toNatClampNeg).toInt := congrArg Int32.toInt (congrFun (u201 101 (by decide) (by decide) (by decide)) _)
        have f209 : (q_R r17.2 (Ad ad 101) (q_I r192.2 12 4 a0).toNatClampNeg).toInt = (q_R δ (Ad ad 101) (q_I r192.2 12 4 a0).toNatClampNeg).toInt := congrArg Int32.toInt (congrFun (u26 101 (by decide) (by decide) (by decide)) _)
        have f210 := ti_b (q_R δ (Ad ad 101) (q_I r192.2 12 4 a0).toNatClampNeg)
        have f211 := ti_b (q_R r17.2 (Ad ad 101) (q_I r192.2 12 4 a0).toNatClampNeg)
        have f212 := ti_b (q_R r192.2 (Ad ad 101) (q_I r192.2 12 4 a0).toNatClampNeg)
        have f213 := ti_b r192.1
        have f214 : (q_I r17.2 12 3 a0).toInt = (q_I δ 12 3 a0).toInt := congrArg Int32.toInt (u23 12 3 a0 (by decide))
        have f215 : (q_I r192.2 12 5 a0).toInt = (q_I r17.2 12 5 a0).toInt := congrArg Int32.toInt (u198 12 5 a0 (by decide))
        have us216 : NU ad a0 δ r192.2 := NU.t us42 (show NU ad a0 r17.2 r192.2 from ⟨u201 116 (by decide) (by decide) (by decide), u198 12 26 _ (by decide), u198 12 24 _ (by decide), fun z => by omega⟩)
        refine ok_ite (fun h217 => ?_) (fun h217 => ?_)
        · have c218 : r192.1.toInt = (45 : Int) := o_eq h217
          unfold J_X12_sum_29
          refine ok_bind (k_X12_here L hN (a0 := a0) k_a0 i194) (fun r219 hr220 => ?_)
          obtain ⟨i221, ⟨u225, u226, u227, u228⟩, p222, p223, p224⟩ := hr220
          have u229 := kp_t u202 u225
          have v230 : q_V r219.2 = q_V δ := (u226).trans v203
          have v231 := kr_t v204 u228
          have f232 := cb_12_4 i221 k_a0
          have f233 : hc ad r219.2 a0 = (q_R r219.2 (Ad ad 101) (q_I r219.2 12 4 a0).toNatClampNeg).toInt := rfl
          have t234 := ti_tn (q_I r219.2 12 4 a0)
          have f235 : (q_R r219.2 (Ad ad 101) (q_I r219.2 12 4 a0).toNatClampNeg).toInt = (q_R r192.2 (Ad ad 101) (q_I r219.2 12 4 a0).toNatClampNeg).toInt := congrArg Int32.toInt (congrFun (u228 101 (by decide) (by decide) (by decide)) _)
          have f236 : (q_R r192.2 (Ad ad 101) (q_I r219.2 12 4 a0).toNatClampNeg).toInt = (q_R r17.2 (Ad ad 101) (q_I r219.2 12 4 a0).toNatClampNeg).toInt := congrArg Int32.toInt (congrFun (u201 101 (by decide) (by decide) (by decide)) _)
          have f237 : (q_R r17.2 (Ad ad 101) (q_I r219.2 12 4 a0).toNatClampNeg).toInt = (q_R δ (Ad ad 101) (q_I r219.2 12 4 a0).toNatClampNeg).toInt := congrArg Int32.toInt (congrFun (u26 101 (by decide) (by decide) (by decide)) _)
          have f238 := ti_b (q_R δ (Ad ad 101) (q_I r219.2 12 4 a0).toNatClampNeg)
          have f239 := ti_b (q_R r17.2 (Ad ad 101) (q_I r219.2 12 4 a0).toNatClampNeg)
          have f240 := ti_b (q_R r192.2 (Ad ad 101) (q_I r219.2 12 4 a0).toNatClampNeg)
          have f241 := ti_b (q_R r219.2 (Ad ad 101) (q_I r219.2 12 4 a0).toNatClampNeg)
          have f242 := ti_b r219.1
          have f243 : (q_I r192.2 12 3 a0).toInt = (q_I r17.2 12 3 a0).toInt := congrArg Int32.toInt (u198 12 3 a0 (by decide))
          have f244 : (q_I r219.2 12 5 a0).toInt = (q_I r192.2 12 5 a0).toInt := congrArg Int32.toInt (u225 12 5 a0 (by decide))
          have us245 : NU ad a0 δ r219.2 := NU.t us216 (show NU ad a0 r192.2 r219.2 from ⟨u228 116 (by decide) (by decide) (by decide), u225 12 26 _ (by decide), u225 12 24 _ (by decide), fun z => by omega⟩)
          first | (have q250 := te_addc (c := 1) (n := 1) rfl (q_I r219.2 12 4 a0) (by omega) (by omega); obtain ⟨f251, f252, f253⟩ := q250) | (obtain ⟨q250, f251, f252, f253⟩ := ti_addc (c := 1) (n := 1) rfl (q_I r219.2 12 4 a0))
          refine ok_bdv (fun d246 e247 => ?_)
          have i248 : RI ad h.1 δ0 d246 := by rw [e247]; exact cs_12_4 L i221 k_a0 (show 0 ≤ ((q_I r219.2 12 4 a0) + (1 : Int32)).toInt by omega) (show ((q_I r219.2 12 4 a0) + (1 : Int32)).toInt ≤ 500 by omega)
          have u254 := kp_I u229 e247
          have v255 : q_V d246 = q_V δ := ((show q_V d246 = q_V r219.2 by rw [e247]; rfl)).trans v230
          have v256 := kr_N v231 (show q_R d246 = q_R r219.2 by rw [e247]; rfl)
          have us257 : NU ad a0 δ d246 := NU.t us245 (show NU ad a0 r219.2 d246 from NU.w e247 (by decide))
          have f260 : (q_I d246 12 24 a0).toInt = (q_I δ 12 24 a0).toInt := ((show (q_I d246 12 24 a0).toInt = (q_I r219.2 12 24 a0).toInt from congrArg Int32.toInt (by rw [e247]; exact rI_o (by decide))).trans ((show (q_I r219.2 12 24 a0).toInt = (q_I r192.2 12 24 a0).toInt from congrArg Int32.toInt (u225 12 24 a0 (by decide))).trans ((show (q_I r192.2 12 24 a0).toInt = (q_I r17.2 12 24 a0).toInt from congrArg Int32.toInt (u198 12 24 a0 (by decide))).trans (show (q_I r17.2 12 24 a0).toInt = (q_I δ 12 24 a0).toInt from congrArg Int32.toInt (u23 12 24 a0 (by decide))))))
          have f261 : (q_I d246 12 26 a0).toInt = (q_I δ 12 26 a0).toInt := ((show (q_I d246 12 26 a0).toInt = (q_I r219.2 12 26 a0).toInt from congrArg Int32.toInt (by rw [e247]; exact rI_o (by decide))).trans ((show (q_I r219.2 12 26 a0).toInt = (q_I r192.2 12 26 a0).toInt from congrArg Int32.toInt (u225 12 26 a0 (by decide))).trans ((show (q_I r192.2 12 26 a0).toInt = (q_I r17.2 12 26 a0).toInt from congrArg Int32.toInt (u198 12 26 a0 (by decide))).trans (show (q_I r17.2 12 26 a0).toInt = (q_I δ 12 26 a0).toInt from congrArg Int32.toInt (u23 12 26 a0 (by decide))))))
          have f262 := cb_12_4 i248 k_a0
          have f263 : (q_I d246 12 4 a0).toInt = ((q_I r219.2 12 4 a0) + (1 : Int32)).toInt := congrArg Int32.toInt (show q_I d246 12 4 a0 = ((q_I r219.2 12 4 a0) + (1 : Int32)) by rw [e247]; exact rI_s)
          have f264 : (q_I d246 12 7 a0).toInt = (q_I δ 12 7 a0).toInt := ((show (q_I d246 12 7 a0).toInt = (q_I r219.2 12 7 a0).toInt from congrArg Int32.toInt (by rw [e247]; exact rI_o (by decide))).trans ((show (q_I r219.2 12 7 a0).toInt = (q_I r192.2 12 7 a0).toInt from congrArg Int32.toInt (u225 12 7 a0 (by decide))).trans ((show (q_I r192.2 12 7 a0).toInt = (q_I r17.2 12 7 a0).toInt from congrArg Int32.toInt (u198 12 7 a0 (by decide))).trans (show (q_I r17.2 12 7 a0).toInt = (q_I δ 12 7 a0).toInt from congrArg Int32.toInt (u23 12 7 a0 (by decide))))))
          have f265 : (q_I d246 12 5 a0).toInt = (q_I r219.2 12 5 a0).toInt := congrArg Int32.toInt (by rw [e247]; exact rI_o (by decide))
          refine ok_bind (k_bX12_product L hN (a0 := a0) hT k_a0 (show (q_I d246 12 24 a0).toInt ≤ 3 by first | with_reducible assumption | omega) (show (q_I d246 12 26 a0).toInt ≤ (q_I d246 12 4 a0).toInt by first | with_reducible assumption | omega) (show 0 ≤ (q_I d246 12 7 a0).toInt by first | with_reducible assumption | omega) (show (q_I d246 12 7 a0).toInt ≤ 7 by first | with_reducible assumption | omega) (show (q_I d246 12 7 a0).toInt = 7 → 0 ≤ (q_I d246 12 5 a0).toInt by first | with_reducible assumption | omega) (show 8 - (q_I d246 12 7 a0).toInt ≤ K by first | with_reducible assumption | omega) i248) (fun r258 hr259 => ?_)
          obtain ⟨i266, ⟨u273, u274, u275⟩, p267, p268, p269, p270, p271, p272⟩ := hr259
          have u276 := kp_t u254 u273
          have v277 : q_V r258 = q_V δ := (u274).trans v255
          have v278 := kr_t v256 u275
          have f279 := cb_12_4 i266 k_a0
          have f280 := cb_12_5 i266 k_a0
          have f281 := ti_b (q_I r258 12 7 a0)
          have f282 := cb_12_26 i266 k_a0
          have us283 : US ad a0 δ r258 := US.pre us257 p272
          refine ok_ite (fun h284 => ?_) (fun h284 => ?_)
          · have c285 : r219.1.toInt = (43 : Int) := o_eq h284
            unfold J_X12_sum_62
            have f288 : (q_I r258 12 24 a0).toInt = (q_I d246 12 24 a0).toInt := congrArg Int32.toInt (u273 12 24 a0 (by decide))
            refine ok_bind (k_X12_emit L hN (a0 := a0) (x1 := (6 : Int32)) (x2 := (0 : Int32)) k_a0 (show (q_I r258 12 24 a0).toInt ≤ 3 by first | with_reducible assumption | omega) (show (q_I r258 12 5 a0).toInt < 0 → (q_I r258 12 26 a0).toInt < 500 by first | with_reducible assumption | omega) i266) (fun r286 hr287 => ?_)
            obtain ⟨i289, ⟨u294, u295, u296⟩, p290, p291, p292, p293⟩ := hr287
            have u297 := kp_t u276 u294
            have v298 : q_V r286 = q_V δ := (u295).trans v277
            have v299 := kr_t v278 u296
            have f300 := cb_12_26 i289 k_a0
            have us301 : LU ad a0 δ r286 := LU.em us283 p293 (by decide)
            have f302 : (q_I r286 12 24 a0).toInt = (q_I r258 12 24 a0).toInt := congrArg Int32.toInt (u294 12 24 a0 (by decide))
            have f303 : (q_I r286 12 4 a0).toInt = (q_I r258 12 4 a0).toInt := congrArg Int32.toInt (u294 12 4 a0 (by decide))
            have f304 : (q_I r286 12 7 a0).toInt = (q_I r258 12 7 a0).toInt := congrArg Int32.toInt (u294 12 7 a0 (by decide))
            have f305 : (q_I r286 12 5 a0).toInt = (q_I r258 12 5 a0).toInt := congrArg Int32.toInt (u294 12 5 a0 (by decide))
            refine ok_mono (ih r286 i289 (show (q_I r286 12 24 a0).toInt ≤ 3 by first | with_reducible assumption | omega) (show (q_I r286 12 26 a0).toInt ≤ (q_I r286 12 4 a0).toInt by first | with_reducible assumption | omega) (show 0 ≤ (q_I r286 12 7 a0).toInt by first | with_reducible assumption | omega) (show (q_I r286 12 7 a0).toInt ≤ 7 by first | with_reducible assumption | omega) (show (q_I r286 12 7 a0).toInt = 7 → 0 ≤ (q_I r286 12 5 a0).toInt by first | with_reducible assumption | omega) (show 8 - (q_I r286 12 7 a0).toInt ≤ K by first | with_reducible assumption | omega) (show 501 - (q_I r286 12 4 a0).toInt < _ by omega)) (fun r306 hr307 => ?_)
            obtain ⟨i308, ⟨u315, u316, u317⟩, p309, p310, p311, p312, p313, p314⟩ := hr307
            have u318 := kp_t u297 u315
            have v319 : q_V r306 = q_V δ := (u316).trans v298
            have v320 := kr_t v299 u317
            have f321 := cb_12_4 i308 k_a0
            have f322 := cb_12_5 i308 k_a0
            have f323 := ti_b (q_I r306 12 7 a0)
            have f324 := cb_12_26 i308 k_a0
            have us325 : LU ad a0 δ r306 := LU.t us301 p314
            exact ⟨by first | with_reducible assumption | assumption, ⟨kp_w (by decide) u318, v319, kr_w (by decide) v320⟩, by first | with_reducible assumption | omega, by first | with_reducible assumption | omega, by first | with_reducible assumption | omega, by first | with_reducible assumption | omega, by first | with_reducible assumption | omega, us325⟩
          · have c326 : r219.1.toInt ≠ (43 : Int) := o_ne h284
            unfold J_X12_sum_62
            have f329 : (q_I r258 12 24 a0).toInt = (q_I d246 12 24 a0).toInt := congrArg Int32.toInt (u273 12 24 a0 (by decide))
            refine ok_bind (k_X12_emit L hN (a0 := a0) (x1 := (7 : Int32)) (x2 := (0 : Int32)) k_a0 (show (q_I r258 12 24 a0).toInt ≤ 3 by first | with_reducible assumption | omega) (show (q_I r258 12 5 a0).toInt < 0 → (q_I r258 12 26 a0).toInt < 500 by first | with_reducible assumption | omega) i266) (fun r327 hr328 => ?_)
            obtain ⟨i330, ⟨u335, u336, u337⟩, p331, p332, p333, p334⟩ := hr328
            have u338 := kp_t u276 u335
            have v339 : q_V r327 = q_V δ := (u336).trans v277
            have v340 := kr_t v278 u337
            have f341 := cb_12_26 i330 k_a0
            have us342 : LU ad a0 δ r327 := LU.em us283 p334 (by decide)
            have f343 : (q_I r327 12 24 a0).toInt = (q_I r258 12 24 a0).toInt := congrArg Int32.toInt (u335 12 24 a0 (by decide))
            have f344 : (q_I r327 12 4 a0).toInt = (q_I r258 12 4 a0).toInt := congrArg Int32.toInt (u335 12 4 a0 (by decide))
            have f345 : (q_I r327 12 7 a0).toInt = (q_I r258 12 7 a0).toInt := congrArg Int32.toInt (u335 12 7 a0 (by decide))
            have f346 : (q_I r327 12 5 a0).toInt = (q_I r258 12 5 a0).toInt := congrArg Int32.toInt (u335 12 5 a0 (by decide))
            refine ok_mono (ih r327 i330 (show (q_I r327 12 24 a0).toInt ≤ 3 by first | with_reducible assumption | omega) (show (q_I r327 12 26 a0).toInt ≤ (q_I r327 12 4 a0).toInt by first | with_reducible assumption | omega) (show 0 ≤ (q_I r327 12 7 a0).toInt by first | with_reducible assumption | omega) (show (q_I r327 12 7 a0).toInt ≤ 7 by first | with_reducible assumption | omega) (show (q_I r327 12 7 a0).toInt = 7 → 0 ≤ (q_I r327 12 5 a0).toInt by first | with_reducible assumption | omega) (show 8 - (q_I r327 12 7 a0).toInt ≤ K by first | with_reducible assumption | omega) (show 501 - (q_I r327 12 4 a0).toInt < _ by omega)) (fun r347 hr348 => ?_)
            obtain ⟨i349, ⟨u356, u357, u358⟩, p350, p351, p352, p353, p354, p355⟩ := hr348
            have u359 := kp_t u338 u356
            have v360 : q_V r347 = q_V δ := (u357).trans v339
            have v361 := kr_t v340 u358
            have f362 := cb_12_4 i349 k_a0
            have f363 := cb_12_5 i349 k_a0
            have f364 := ti_b (q_I r347 12 7 a0)
            have f365 := cb_12_26 i349 k_a0
            have us366 : LU ad a0 δ r347 := LU.t us342 p355
            exact ⟨by first | with_reducible assumption | assumption, ⟨kp_w (by decide) u359, v360, kr_w (by decide) v361⟩, by first | with_reducible assumption | omega, by first | with_reducible assumption | omega, by first | with_reducible assumption | omega, by first | with_reducible assumption | omega, by first | with_reducible assumption | omega, us366⟩
        · have c367 : r192.1.toInt ≠ (45 : Int) := o_ne h217
          unfold J_X12_sum_69
          have f368 : (q_I r192.2 12 7 a0).toInt = (q_I δ 12 7 a0).toInt := ((show (q_I r192.2 12 7 a0).toInt = (q_I r17.2 12 7 a0).toInt from congrArg Int32.toInt (u198 12 7 a0 (by decide))).trans (show (q_I r17.2 12 7 a0).toInt = (q_I δ 12 7 a0).toInt from congrArg Int32.toInt (u23 12 7 a0 (by decide))))
          have f369 : (q_I r192.2 12 26 a0).toInt = (q_I δ 12 26 a0).toInt := ((show (q_I r192.2 12 26 a0).toInt = (q_I r17.2 12 26 a0).toInt from congrArg Int32.toInt (u198 12 26 a0 (by decide))).trans (show (q_I r17.2 12 26 a0).toInt = (q_I δ 12 26 a0).toInt from congrArg Int32.toInt (u23 12 26 a0 (by decide))))
          exact ok_some (show RI ad h.1 δ0 r192.2 ∧ (kp [(12, 4), (12, 5), (12, 6), (12, 7), (12, 26)] δ r192.2 ∧ q_V r192.2 = q_V δ ∧ kr ad [116, 117] δ r192.2) ∧ (q_I δ 12 4 a0).toInt ≤ (q_I r192.2 12 4 a0).toInt ∧ (q_I δ 12 5 a0).toInt ≤ (q_I r192.2 12 5 a0).toInt ∧ (q_I r192.2 12 7 a0).toInt = (q_I δ 12 7 a0).toInt ∧ (q_I δ 12 26 a0).toInt ≤ (q_I r192.2 12 26 a0).toInt ∧ (q_I r192.2 12 26 a0).toInt - (q_I δ 12 26 a0).toInt ≤ (q_I r192.2 12 4 a0).toInt - (q_I δ 12 4 a0).toInt ∧ LU ad a0 δ r192.2 from ⟨i194, ⟨kp_w (by decide) u202, v203, kr_w (by decide) v204⟩, by first | with_reducible assumption | omega, by first | with_reducible assumption | omega, by first | with_reducible assumption | omega, by first | with_reducible assumption | omega, by first | with_reducible assumption | omega, LU.n us216⟩)
set_option maxHeartbeats 4000000 in
theorem ke_X12_sum {ad : List Nat} {h : hp} (L : Lay TLx ad h) {δ0 : dp} {N : Nat} (hN : 10000000 ≤ N) : ∀ (k : Nat), ∀ (a0 : Nat) (δ : dp), q_K h.1 a0 = 12 → (q_I δ 12 24 a0).toInt ≤ 3 → (q_I δ 12 26 a0).toInt ≤ (q_I δ 12 4 a0).toInt → 0 ≤ (q_I δ 12 7 a0).toInt → (q_I δ 12 7 a0).toInt ≤ 7 → ((q_I δ 12 7 a0).toInt = 7 → 0 ≤ (q_I δ 12 5 a0).toInt) → 8 - (q_I δ 12 7 a0).toInt < (k : Int) → RI ad h.1 δ0 δ → ok (E_X12_sum N h.1 k a0 δ) (fun r => RI ad h.1 δ0 r ∧ (kp [(12, 4), (12, 5), (12, 6), (12, 7), (12, 26)] δ r ∧ q_V r = q_V δ ∧ kr ad [116, 117] δ r) ∧ (q_I δ 12 4 a0).toInt ≤ (q_I r 12 4 a0).toInt ∧ (q_I δ 12 5 a0).toInt ≤ (q_I r 12 5 a0).toInt ∧ (q_I r 12 7 a0).toInt = (q_I δ 12 7 a0).toInt ∧ (q_I δ 12 26 a0).toInt ≤ (q_I r 12 26 a0).toInt ∧ (q_I r 12 26 a0).toInt - (q_I δ 12 26 a0).toInt ≤ (q_I r 12 4 a0).toInt - (q_I δ 12 4 a0).toInt ∧ US ad a0 δ r) := by
  intro k
  induction k with
  | zero =>
    intro a0 δ k_a0 z0 z1 z2 z3 z4 hd I
    have f47 := ti_b (q_I δ 12 7 a0)
    exfalso; omega
  | succ k ih =>
    intro a0 δ k_a0 z0 z1 z2 z3 z4 hd I
    unfold E_X12_sum B_X12_sum
    have f1 := cb_12_24 I k_a0
    have f2 := cb_12_26 I k_a0
    have f3 := cb_12_4 I k_a0
    have f4 := ti_b (q_I δ 12 7 a0)
    have f5 := cb_12_5 I k_a0
    refine ok_bind (k_bX12_product L hN (a0 := a0) ih k_a0 (show (q_I δ 12 24 a0).toInt ≤ 3 by first | with_reducible assumption | omega) (show (q_I δ 12 26 a0).toInt ≤ (q_I δ 12 4 a0).toInt by first | with_reducible assumption | omega) (show 0 ≤ (q_I δ 12 7 a0).toInt by first | with_reducible assumption | omega) (show (q_I δ 12 7 a0).toInt ≤ 7 by first | with_reducible assumption | omega) (show (q_I δ 12 7 a0).toInt = 7 → 0 ≤ (q_I δ 12 5 a0).toInt by first | with_reducible assumption | omega) (show 8 - (q_I δ 12 7 a0).toInt ≤ (k : Int) by first | with_reducible assumption | omega) I) (fun r6 hr7 => ?_)
    obtain ⟨i8, ⟨u15, u16, u17⟩, p9, p10, p11, p12, p13, p14⟩ := hr7
    have u18 := kp_t kp_r u15
    have v19 : q_V r6 = q_V δ := (u16).trans rfl
    have v20 := kr_t (kr_r (ad := ad)) u17
    have f21 := cb_12_4 i8 k_a0
    have f22 := cb_12_5 i8 k_a0
    have f23 := ti_b (q_I r6 12 7 a0)
    have f24 := cb_12_26 i8 k_a0
    have us25 : US ad a0 δ r6 := US.pre NU.r p14
    have f26 : (q_I r6 12 24 a0).toInt = (q_I δ 12 24 a0).toInt := congrArg Int32.toInt (u15 12 24 a0 (by decide))
    refine ok_mono (kl_X12_sum_4 L hN   ih k_a0 _ r6 i8 (show (q_I r6 12 24 a0).toInt ≤ 3 by first | with_reducible assumption | omega) (show (q_I r6 12 26 a0).toInt ≤ (q_I r6 12 4 a0).toInt by first | with_reducible assumption | omega) (show 0 ≤ (q_I r6 12 7 a0).toInt by first | with_reducible assumption | omega) (show (q_I r6 12 7 a0).toInt ≤ 7 by first | with_reducible assumption | omega) (show (q_I r6 12 7 a0).toInt = 7 → 0 ≤ (q_I r6 12 5 a0).toInt by first | with_reducible assumption | omega) (show 8 - (q_I r6 12 7 a0).toInt ≤ (k : Int) by first | with_reducible assumption | omega) (show 501 - (q_I r6 12 4 a0).toInt < _ by omega)) (fun r27 hr28 => ?_)
    obtain ⟨i29, ⟨u36, u37, u38⟩, p30, p31, p32, p33, p34, p35⟩ := hr28
    have u39 := kp_t u18 u36
    have v40 : q_V r27 = q_V δ := (u37).trans v19
    have v41 := kr_t v20 u38
    have f42 := cb_12_4 i29 k_a0
    have f43 := cb_12_5 i29 k_a0
    have f44 := ti_b (q_I r27 12 7 a0)
    have f45 := cb_12_26 i29 k_a0
    have us46 : US ad a0 δ r27 := US.l us25 p35
    exact ⟨by first | with_reducible assumption | assumption, ⟨kp_w (by decide) u39, v40, kr_w (by decide) v41⟩, by first | with_reducible assumption | omega, by first | with_reducible assumption | omega, by first | with_reducible assumption | omega, by first | with_reducible assumption | omega, by first | with_reducible assumption | omega, us46⟩
set_option maxHeartbeats 4000000 in
theorem k_X12_sum {ad : List Nat} {h : hp} (L : Lay TLx ad h) {δ0 : dp} {N : Nat} (hN : 10000000 ≤ N) {a0 : Nat} (k_a0 : q_K h.1 a0 = 12) {δ : dp} (z0 : (q_I δ 12 24 a0).toInt ≤ 3) (z1 : (q_I δ 12 26 a0).toInt ≤ (q_I δ 12 4 a0).toInt) (z2 : 0 ≤ (q_I δ 12 7 a0).toInt) (z3 : (q_I δ 12 7 a0).toInt ≤ 7) (z4 : (q_I δ 12 7 a0).toInt = 7 → 0 ≤ (q_I δ 12 5 a0).toInt) (hd : 8 - (q_I δ 12 7 a0).toInt < 20) (I : RI ad h.1 δ0 δ) : ok (D_X12_sum N h.1 a0 δ) (fun r => RI ad h.1 δ0 r ∧ (kp [(12, 4), (12, 5), (12, 6), (12, 7), (12, 26)] δ r ∧ q_V r = q_V δ ∧ kr ad [116, 117] δ r) ∧ (q_I δ 12 4 a0).toInt ≤ (q_I r 12 4 a0).toInt ∧ (q_I δ 12 5 a0).toInt ≤ (q_I r 12 5 a0).toInt ∧ (q_I r 12 7 a0).toInt = (q_I δ 12 7 a0).toInt ∧ (q_I δ 12 26 a0).toInt ≤ (q_I r 12 26 a0).toInt ∧ (q_I r 12 26 a0).toInt - (q_I δ 12 26 a0).toInt ≤ (q_I r 12 4 a0).toInt - (q_I δ 12 4 a0).toInt ∧ US ad a0 δ r) := ke_X12_sum L hN 20 a0 δ k_a0 z0 z1 z2 z3 z4 hd I
set_option maxHeartbeats 4000000 in
theorem k_X12_stepOf {ad : List Nat} {h : hp} (L : Lay TLx ad h) {δ0 : dp} {N : Nat} (hN : 10000000 ≤ N) {x0 : Int32} {δ : dp} (I : RI ad h.1 δ0 δ) : ok (D_X12_stepOf N h.1 x0 δ) (fun r => r.2 = δ ∧ -1 ≤ (r.1).toInt ∧ (r.1).toInt ≤ 5 ∧ ((r.1).toInt = -1 ∨ (x0).toInt ≠ 0)) := by
  unfold D_X12_stepOf
  refine ok_bind (k_X12_of L hN (a0 := 5) (show 5 < 16 by first | with_reducible assumption | omega) I) (fun r1 hr2 => ?_)
  obtain ⟨i3, p4⟩ := hr2
  try rw [i3]
  have f5 := ti_b r1.1
  have f6 := ti_b x0
  refine ok_ite (fun h7 => ?_) (fun h7 => ?_)
  · have c8 : x0.toInt = r1.1.toInt := o_eq h7
    unfold J_X12_stepOf_79
    exact ok_some (show δ = δ ∧ -1 ≤ (0 : Int) ∧ (0 : Int) ≤ 5 ∧ ((0 : Int) = -1 ∨ (x0).toInt ≠ 0) from ⟨rfl, by first | with_reducible assumption | omega, by first | with_reducible assumption | omega, by first | with_reducible assumption | omega⟩)
  · have c9 : x0.toInt ≠ r1.1.toInt := o_ne h7
    refine ok_bind (k_X12_of L hN (a0 := 6) (show 6 < 16 by first | with_reducible assumption | omega) I) (fun r10 hr11 => ?_)
    obtain ⟨i12, p13⟩ := hr11
    try rw [i12]
    have f14 := ti_b r10.1
    refine ok_ite (fun h15 => ?_) (fun h15 => ?_)
    · have c16 : x0.toInt = r10.1.toInt := o_eq h15
      unfold J_X12_stepOf_79
      exact ok_some (show δ = δ ∧ -1 ≤ (1 : Int) ∧ (1 : Int) ≤ 5 ∧ ((1 : Int) = -1 ∨ (x0).toInt ≠ 0) from ⟨rfl, by first | with_reducible assumption | omega, by first | with_reducible assumption | omega, by first | with_reducible assumption | omega⟩)
    · have c17 : x0.toInt ≠ r10.1.toInt := o_ne h15
      refine ok_bind (k_X12_of L hN (a0 := 7) (show 7 < 16 by first | with_reducible assumption | omega) I) (fun r18 hr19 => ?_)
      obtain ⟨i20, p21⟩ := hr19
      try rw [i20]
      have f22 := ti_b r18.1
      refine ok_ite (fun h23 => ?_) (fun h23 => ?_)
      · have c24 : x0.toInt = r18.1.toInt := o_eq h23
        unfold J_X12_stepOf_79
        exact ok_some (show δ = δ ∧ -1 ≤ (2 : Int) ∧ (2 : Int) ≤ 5 ∧ ((2 : Int) = -1 ∨ (x0).toInt ≠ 0) from ⟨rfl, by first | with_reducible assumption | omega, by first | with_reducible assumption | omega, by first | with_reducible assumption | omega⟩)
      · have c25 : x0.toInt ≠ r18.1.toInt := o_ne h23
        refine ok_bind (k_X12_of L hN (a0 := 8) (show 8 < 16 by first | with_reducible assumption | omega) I) (fun r26 hr27 => ?_)
        obtain ⟨i28, p29⟩ := hr27
        try rw [i28]
        have f30 := ti_b r26.1
        refine ok_ite (fun h31 => ?_) (fun h31 => ?_)
        · have c32 : x0.toInt = r26.1.toInt := o_eq h31
          unfold J_X12_stepOf_79
          exact ok_some (show δ = δ ∧ -1 ≤ (3 : Int) ∧ (3 : Int) ≤ 5 ∧ ((3 : Int) = -1 ∨ (x0).toInt ≠ 0) from ⟨rfl, by first | with_reducible assumption | omega, by first | with_reducible assumption | omega, by first | with_reducible assumption | omega⟩)
        · have c33 : x0.toInt ≠ r26.1.toInt := o_ne h31
          refine ok_bind (k_X12_of L hN (a0 := 9) (show 9 < 16 by first | with_reducible assumption | omega) I) (fun r34 hr35 => ?_)
          obtain ⟨i36, p37⟩ := hr35
          try rw [i36]
          have f38 := ti_b r34.1
          refine ok_ite (fun h39 => ?_) (fun h39 => ?_)
          · have c40 : x0.toInt = r34.1.toInt := o_eq h39
            unfold J_X12_stepOf_79
            exact ok_some (show δ = δ ∧ -1 ≤ (4 : Int) ∧ (4 : Int) ≤ 5 ∧ ((4 : Int) = -1 ∨ (x0).toInt ≠ 0) from ⟨rfl, by first | with_reducible assumption | omega, by first | with_reducible assumption | omega, by first | with_reducible assumption | omega⟩)
          · have c41 : x0.toInt ≠ r34.1.toInt := o_ne h39
            refine ok_bind (k_X12_of L hN (a0 := 10) (show 10 < 16 by first | with_reducible assumption | omega) I) (fun r42 hr43 => ?_)
            obtain ⟨i44, p45⟩ := hr43
            try rw [i44]
            have f46 := ti_b r42.1
            refine ok_ite (fun h47 => ?_) (fun h47 => ?_)
            · have c48 : x0.toInt = r42.1.toInt := o_eq h47
              unfold J_X12_stepOf_79
              exact ok_some (show δ = δ ∧ -1 ≤ (5 : Int) ∧ (5 : Int) ≤ 5 ∧ ((5 : Int) = -1 ∨ (x0).toInt ≠ 0) from ⟨rfl, by first | with_reducible assumption | omega, by first | with_reducible assumption | omega, by first | with_reducible assumption | omega⟩)
            · have c49 : x0.toInt ≠ r42.1.toInt := o_ne h47
              unfold J_X12_stepOf_79
              exact ok_some (show δ = δ ∧ -1 ≤ (-1 : Int) ∧ (-1 : Int) ≤ 5 ∧ ((-1 : Int) = -1 ∨ (x0).toInt ≠ 0) from ⟨rfl, by first | with_reducible assumption | omega, by first | with_reducible assumption | omega, by first | with_reducible assumption | omega⟩)
