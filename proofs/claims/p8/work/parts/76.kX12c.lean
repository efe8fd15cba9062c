/-! 76.kX12c (by gen_safe.py) -/
set_option maxHeartbeats 4000000 in
theorem k_X12_lowerBits {ad : List Nat} {h : hp} (L : Lay TLx ad h) {δ0 : dp} {N : Nat} (hN : 10000000 ≤ N) {a0 : Nat} {x1 : Int32} (k_a0 : q_K h.1 a0 = 12) {δ : dp} (I : RI ad h.1 δ0 δ) : ok (D_X12_lowerBits N h.1 a0 x1 δ) (fun r => r.2 = δ ∧ (2 ≤ (x1).toInt → (x1).toInt % 2 = 0 ∨ (q_I δ 12 12 a0).toInt = 1 → (r.1).toInt = (x1).toInt / 2) ∧ (2 ≤ (x1).toInt → (x1).toInt % 2 = 1 → (q_I δ 12 12 a0).toInt = 0 → (r.1).toInt = (x1).toInt / 2 + 1) ∧ (2 ≤ (x1).toInt ∧ (x1).toInt ≤ 16 → 1 ≤ (r.1).toInt ∧ (r.1).toInt < (x1).toInt ∧ (x1).toInt ≤ 2 * (r.1).toInt + 1 ∧ 2 * (r.1).toInt ≤ (x1).toInt + 1)) := by
  unfold D_X12_lowerBits
  have f1 := ti_b x1
  have f3 := ti_div (c := 2) (n := 2) rfl (by decide) x1
  have f4 := ti_b (x1 / (2 : Int32))
  first | (have q5 := te_mulr (c := 2) (n := 2) rfl (x1 / (2 : Int32)) (by omega) (by omega); obtain ⟨f6, f7, f8⟩ := q5) | (obtain ⟨q5, f6, f7, f8⟩ := ti_mulr (c := 2) (n := 2) rfl (x1 / (2 : Int32)))
  first | (have q10 := te_sub x1 (x1 / (2 : Int32) * (2 : Int32)) (by omega) (by omega); obtain ⟨f11, f12, f13⟩ := q10) | (obtain ⟨q10, f11, f12, f13⟩ := ti_sub x1 (x1 / (2 : Int32) * (2 : Int32)))
  refine ok_ite (fun h14 => ?_) (fun h14 => ?_)
  · have c15 : (x1 - x1 / (2 : Int32) * (2 : Int32)).toInt = (0 : Int) := o_eq h14
    unfold J_X12_lowerBits_30
    have f16 := cb_12_12 I k_a0
    exact ok_some (show δ = δ ∧ (2 ≤ (x1).toInt → (x1).toInt % 2 = 0 ∨ (q_I δ 12 12 a0).toInt = 1 → ((x1 / (2 : Int32))).toInt = (x1).toInt / 2) ∧ (2 ≤ (x1).toInt → (x1).toInt % 2 = 1 → (q_I δ 12 12 a0).toInt = 0 → ((x1 / (2 : Int32))).toInt = (x1).toInt / 2 + 1) ∧ (2 ≤ (x1).toInt ∧ (x1).toInt ≤ 16 → 1 ≤ ((x1 / (2 : Int32))).toInt ∧ ((x1 / (2 : Int32))).toInt < (x1).toInt ∧ (x1).toInt ≤ 2 * ((x1 / (2 : Int32))).toInt + 1 ∧ 2 * ((x1 / (2 : Int32))).toInt ≤ (x1).toInt + 1) from ⟨rfl, by first | assumption | omega, by first | assumption | omega, by first | assumption | omega⟩)
  · have c17 : (x1 - x1 / (2 : Int32) * (2 : Int32)).toInt ≠ (0 : Int) := o_ne h14
    have f18 := cb_12_12 I k_a0
    refine ok_ite (fun h19 => ?_) (fun h19 => ?_)
    · have c20 : (q_I δ 12 12 a0).toInt = (0 : Int) := o_eq h19
      unfold J_X12_lowerBits_30
      first | (have q22 := te_addc (c := 1) (n := 1) rfl (x1 / (2 : Int32)) (by omega) (by omega); obtain ⟨f23, f24, f25⟩ := q22) | (obtain ⟨q22, f23, f24, f25⟩ := ti_addc (c := 1) (n := 1) rfl (x1 / (2 : Int32)))
      exact ok_some (show δ = δ ∧ (2 ≤ (x1).toInt → (x1).toInt % 2 = 0 ∨ (q_I δ 12 12 a0).toInt = 1 → (((x1 / (2 : Int32)) + (1 : Int32))).toInt = (x1).toInt / 2) ∧ (2 ≤ (x1).toInt → (x1).toInt % 2 = 1 → (q_I δ 12 12 a0).toInt = 0 → (((x1 / (2 : Int32)) + (1 : Int32))).toInt = (x1).toInt / 2 + 1) ∧ (2 ≤ (x1).toInt ∧ (x1).toInt ≤ 16 → 1 ≤ (((x1 / (2 : Int32)) + (1 : Int32))).toInt ∧ (((x1 / (2 : Int32)) + (1 : Int32))).toInt < (x1).toInt ∧ (x1).toInt ≤ 2 * (((x1 / (2 : Int32)) + (1 : Int32))).toInt + 1 ∧ 2 * (((x1 / (2 : Int32)) + (1 : Int32))).toInt ≤ (x1).toInt + 1) from ⟨rfl, by first | assumption | omega, by first | assumption | omega, by first | assumption | omega⟩)
    · have c26 : (q_I δ 12 12 a0).toInt ≠ (0 : Int) := o_ne h19
      unfold J_X12_lowerBits_30
      exact ok_some (show δ = δ ∧ (2 ≤ (x1).toInt → (x1).toInt % 2 = 0 ∨ (q_I δ 12 12 a0).toInt = 1 → ((x1 / (2 : Int32))).toInt = (x1).toInt / 2) ∧ (2 ≤ (x1).toInt → (x1).toInt % 2 = 1 → (q_I δ 12 12 a0).toInt = 0 → ((x1 / (2 : Int32))).toInt = (x1).toInt / 2 + 1) ∧ (2 ≤ (x1).toInt ∧ (x1).toInt ≤ 16 → 1 ≤ ((x1 / (2 : Int32))).toInt ∧ ((x1 / (2 : Int32))).toInt < (x1).toInt ∧ (x1).toInt ≤ 2 * ((x1 / (2 : Int32))).toInt + 1 ∧ 2 * ((x1 / (2 : Int32))).toInt ≤ (x1).toInt + 1) from ⟨rfl, by first | assumption | omega, by first | assumption | omega, by first | assumption | omega⟩)
set_option maxHeartbeats 4000000 in
theorem kl_X12_lists_11 {ad : List Nat} {h : hp} (L : Lay TLx ad h) {δ0 : dp} {N : Nat} (hN : 10000000 ≤ N) {a0 : Nat} {x1 : Int32} {x2 : Int32} {x3 : Int32} (k_a0 : q_K h.1 a0 = 12) : ∀ (n : Nat) (x4v : Int32) (x5v : Int32) (δ : dp), RI ad h.1 δ0 δ → 0 ≤ (x1).toInt → (x1).toInt ≤ (x2).toInt → (x2).toInt ≤ (x1).toInt + 2000 → (x1).toInt + 1 ≤ (x5v).toInt → (x5v).toInt ≤ (x2).toInt + 1 → (x2).toInt ≤ (x4v).toInt → (x4v).toInt ≤ 12000 → (x4v).toInt ≤ (q_I δ 12 36 a0).toInt → (q_I δ 12 36 a0).toInt ≤ (x4v).toInt + (x5v).toInt - (x1).toInt - 1 → (x2).toInt + 1 - (x5v).toInt < (n : Int) → ok (L_X12_lists_11 N h.1 a0 x1 x2 x3 n x4v x5v δ) (fun r => RI ad h.1 δ0 r.2 ∧ (kp [(12, 36)] δ r.2 ∧ q_V r.2 = q_V δ ∧ kr ad [119] δ r.2) ∧ (r.1).toInt = (x4v).toInt ∧ (q_I δ 12 36 a0).toInt ≤ (q_I r.2 12 36 a0).toInt ∧ (q_I r.2 12 36 a0).toInt ≤ (x4v).toInt + 2000) := by
  intro n
  induction n with
  | zero =>
    intro x4v x5v δ I j0 j1 j2 j3 j4 j5 j6 j7 j8 hm
    have f1 := ti_b x1
    have f2 := ti_b x2
    have f3 := ti_b x5v
    have f4 := ti_b x4v
    have f5 := cb_12_36 I k_a0
    exfalso; omega
  | succ n ih =>
    intro x4v x5v δ I j0 j1 j2 j3 j4 j5 j6 j7 j8 hm
    unfold L_X12_lists_11
    have f1 := ti_b x1
    have f2 := ti_b x2
    have f3 := ti_b x5v
    have f4 := ti_b x4v
    have f5 := cb_12_36 I k_a0
    first | (have q7 := te_subc (c := 1) (n := 1) rfl x2 (by omega) (by omega); obtain ⟨f8, f9, f10⟩ := q7) | (obtain ⟨q7, f8, f9, f10⟩ := ti_subc (c := 1) (n := 1) rfl x2)
    refine ok_ite (fun h11 => ?_) (fun h11 => ?_)
    · have c12 : (x2 - (1 : Int32)).toInt ≤ x5v.toInt := o_le h11
      exact ok_some (show RI ad h.1 δ0 δ ∧ (kp [(12, 36)] δ δ ∧ q_V δ = q_V δ ∧ kr ad [119] δ δ) ∧ (x4v).toInt = (x4v).toInt ∧ (q_I δ 12 36 a0).toInt ≤ (q_I δ 12 36 a0).toInt ∧ (q_I δ 12 36 a0).toInt ≤ (x4v).toInt + 2000 from ⟨I, ⟨kp_w (by decide) kp_r, rfl, kr_w (by decide) (kr_r (ad := ad))⟩, by first | assumption | omega, by first | assumption | omega, by first | assumption | omega⟩)
    · have c13 : x5v.toInt < (x2 - (1 : Int32)).toInt := o_nle h11
      obtain ⟨b14, o15, k16, n17, w18⟩ := gO_12_35 L k_a0
      obtain rfl := gS_12_35 L k_a0 o15
      refine ok_at o15 ?_
      have t19 := ti_tn x5v
      refine ok_gd (fun hc20 => ?_) ?_
      · rcases hc20 with hc20 | hc20
        · have c21 : x5v.toInt < (0 : Int) := o_lt hc20
          omega
        · omega
      have f24 := ti_b ((q_R δ (Ad ad 119) x5v.toNatClampNeg) >>> (x3 &&& 31))
      refine ok_biv (fun vx22 e23 => ?_)
      have f25 : vx22.toInt = ((q_R δ (Ad ad 119) x5v.toNatClampNeg) >>> (x3 &&& 31)).toInt := congrArg Int32.toInt e23
      refine ok_ite (fun h26 => ?_) (fun h26 => ?_)
      · have c27 : (q_I δ 12 36 a0).toInt ≤ x4v.toInt := o_le h26
        unfold J_X12_lists_58
        refine ok_at o15 ?_
        have t28 := ti_tn (q_I δ 12 36 a0)
        refine ok_gd (fun hc29 => ?_) ?_
        · rcases hc29 with hc29 | hc29
          · have c30 : (q_I δ 12 36 a0).toInt < (0 : Int) := o_lt hc29
            omega
          · omega
        refine ok_bdv (fun d31 e32 => ?_)
        have i33 : RI ad h.1 δ0 d31 := by rw [e32]; exact RI.sR L I w18
        have u34 := kp_N kp_r (show q_I d31 = q_I δ by rw [e32]; rfl)
        have v35 : q_V d31 = q_V δ := ((show q_V d31 = q_V δ by rw [e32]; rfl)).trans rfl
        have v36 := kr_s L (by decide) (kr_r (ad := ad)) e32
        have f40 := cb_12_36 i33 k_a0
        have f41 : (q_I d31 12 36 a0).toInt = (q_I δ 12 36 a0).toInt := congrArg Int32.toInt (by rw [e32]; rfl)
        first | (have q43 := te_addc (c := 1) (n := 1) rfl (q_I d31 12 36 a0) (by omega) (by omega); obtain ⟨f44, f45, f46⟩ := q43) | (obtain ⟨q43, f44, f45, f46⟩ := ti_addc (c := 1) (n := 1) rfl (q_I d31 12 36 a0))
        refine ok_bdv (fun d37 e38 => ?_)
        have i39 : RI ad h.1 δ0 d37 := by rw [e38]; exact cs_12_36 L i33 k_a0 (show 0 ≤ ((q_I d31 12 36 a0) + (1 : Int32)).toInt by omega) (show ((q_I d31 12 36 a0) + (1 : Int32)).toInt ≤ 14000 by omega)
        have u47 := kp_I u34 e38
        have v48 : q_V d37 = q_V δ := ((show q_V d37 = q_V d31 by rw [e38]; rfl)).trans v35
        have v49 := kr_N v36 (show q_R d37 = q_R d31 by rw [e38]; rfl)
        unfold J_X12_lists_79
        refine ok_biv (fun vx50 e51 => ?_)
        first | (have q52 := te_addc (c := 1) (n := 1) rfl x5v (by omega) (by omega); rw [← e51] at q52; obtain ⟨f53, f54, f55⟩ := q52) | (obtain ⟨q52, f53, f54, f55⟩ : ∃ q : Int, vx50.toInt = x5v.toInt + (1 : Int) + 4294967296 * q ∧ -2147483648 ≤ vx50.toInt ∧ vx50.toInt ≤ 2147483647 := by rw [e51]; exact ti_addc (c := 1) (n := 1) rfl x5v)
        have f56 := cb_12_36 i39 k_a0
        have f57 : (q_I d37 12 36 a0).toInt = ((q_I d31 12 36 a0) + (1 : Int32)).toInt := congrArg Int32.toInt (show q_I d37 12 36 a0 = ((q_I d31 12 36 a0) + (1 : Int32)) by rw [e38]; exact rI_s)
        refine ok_mono (ih x4v vx50 d37 i39 (show 0 ≤ (x1).toInt by first | assumption | omega) (show (x1).toInt ≤ (x2).toInt by first | assumption | omega) (show (x2).toInt ≤ (x1).toInt + 2000 by first | assumption | omega) (show (x1).toInt + 1 ≤ (vx50).toInt by first | assumption | omega) (show (vx50).toInt ≤ (x2).toInt + 1 by first | assumption | omega) (show (x2).toInt ≤ (x4v).toInt by first | assumption | omega) (show (x4v).toInt ≤ 12000 by first | assumption | omega) (show (x4v).toInt ≤ (q_I d37 12 36 a0).toInt by first | assumption | omega) (show (q_I d37 12 36 a0).toInt ≤ (x4v).toInt + (vx50).toInt - (x1).toInt - 1 by first | assumption | omega) (show (x2).toInt + 1 - (vx50).toInt < _ by omega)) (fun r58 hr59 => ?_)
        obtain ⟨i60, ⟨u64, u65, u66⟩, p61, p62, p63⟩ := hr59
        have u67 := kp_t u47 u64
        have v68 : q_V r58.2 = q_V δ := (u65).trans v48
        have v69 := kr_t v49 u66
        have f70 := ti_b r58.1
        have f71 := cb_12_36 i60 k_a0
        have f72 := ti_b r58.1
        exact ⟨by assumption, ⟨kp_w (by decide) u67, v68, kr_w (by decide) v69⟩, by first | assumption | omega, by first | assumption | omega, by first | assumption | omega⟩
      · have c73 : x4v.toInt < (q_I δ 12 36 a0).toInt := o_nle h26
        refine ok_at o15 ?_
        first | (have q75 := te_subc (c := 1) (n := 1) rfl (q_I δ 12 36 a0) (by omega) (by omega); obtain ⟨f76, f77, f78⟩ := q75) | (obtain ⟨q75, f76, f77, f78⟩ := ti_subc (c := 1) (n := 1) rfl (q_I δ 12 36 a0))
        have t79 := ti_tn ((q_I δ 12 36 a0) - (1 : Int32))
        refine ok_gd (fun hc80 => ?_) ?_
        · rcases hc80 with hc80 | hc80
          · have c81 : ((q_I δ 12 36 a0) - (1 : Int32)).toInt < (0 : Int) := o_lt hc80
            omega
          · omega
        have f82 := ti_b (q_R δ (Ad ad 119) ((q_I δ 12 36 a0) - (1 : Int32)).toNatClampNeg)
        refine ok_ite (fun h83 => ?_) (fun h83 => ?_)
        · have c84 : (q_R δ (Ad ad 119) ((q_I δ 12 36 a0) - (1 : Int32)).toNatClampNeg).toInt = vx22.toInt := o_eq h83
          unfold J_X12_lists_79
          refine ok_biv (fun vx85 e86 => ?_)
          first | (have q87 := te_addc (c := 1) (n := 1) rfl x5v (by omega) (by omega); rw [← e86] at q87; obtain ⟨f88, f89, f90⟩ := q87) | (obtain ⟨q87, f88, f89, f90⟩ : ∃ q : Int, vx85.toInt = x5v.toInt + (1 : Int) + 4294967296 * q ∧ -2147483648 ≤ vx85.toInt ∧ vx85.toInt ≤ 2147483647 := by rw [e86]; exact ti_addc (c := 1) (n := 1) rfl x5v)
          refine ok_mono (ih x4v vx85 δ I (show 0 ≤ (x1).toInt by first | assumption | omega) (show (x1).toInt ≤ (x2).toInt by first | assumption | omega) (show (x2).toInt ≤ (x1).toInt + 2000 by first | assumption | omega) (show (x1).toInt + 1 ≤ (vx85).toInt by first | assumption | omega) (show (vx85).toInt ≤ (x2).toInt + 1 by first | assumption | omega) (show (x2).toInt ≤ (x4v).toInt by first | assumption | omega) (show (x4v).toInt ≤ 12000 by first | assumption | omega) (show (x4v).toInt ≤ (q_I δ 12 36 a0).toInt by first | assumption | omega) (show (q_I δ 12 36 a0).toInt ≤ (x4v).toInt + (vx85).toInt - (x1).toInt - 1 by first | assumption | omega) (show (x2).toInt + 1 - (vx85).toInt < _ by omega)) (fun r91 hr92 => ?_)
          obtain ⟨i93, ⟨u97, u98, u99⟩, p94, p95, p96⟩ := hr92
          have u100 := kp_t kp_r u97
          have v101 : q_V r91.2 = q_V δ := (u98).trans rfl
          have v102 := kr_t (kr_r (ad := ad)) u99
          have f103 := ti_b r91.1
          have f104 := cb_12_36 i93 k_a0
          have f105 := ti_b r91.1
          exact ⟨by assumption, ⟨kp_w (by decide) u100, v101, kr_w (by decide) v102⟩, by first | assumption | omega, by first | assumption | omega, by first | assumption | omega⟩
        · have c106 : (q_R δ (Ad ad 119) ((q_I δ 12 36 a0) - (1 : Int32)).toNatClampNeg).toInt ≠ vx22.toInt := o_ne h83
          unfold J_X12_lists_58
          refine ok_at o15 ?_
          have t107 := ti_tn (q_I δ 12 36 a0)
          refine ok_gd (fun hc108 => ?_) ?_
          · rcases hc108 with hc108 | hc108
            · have c109 : (q_I δ 12 36 a0).toInt < (0 : Int) := o_lt hc108
              omega
            · omega
          refine ok_bdv (fun d110 e111 => ?_)
          have i112 : RI ad h.1 δ0 d110 := by rw [e111]; exact RI.sR L I w18
          have u113 := kp_N kp_r (show q_I d110 = q_I δ by rw [e111]; rfl)
          have v114 : q_V d110 = q_V δ := ((show q_V d110 = q_V δ by rw [e111]; rfl)).trans rfl
          have v115 := kr_s L (by decide) (kr_r (ad := ad)) e111
          have f119 := cb_12_36 i112 k_a0
          have f120 : (q_I d110 12 36 a0).toInt = (q_I δ 12 36 a0).toInt := congrArg Int32.toInt (by rw [e111]; rfl)
          first | (have q122 := te_addc (c := 1) (n := 1) rfl (q_I d110 12 36 a0) (by omega) (by omega); obtain ⟨f123, f124, f125⟩ := q122) | (obtain ⟨q122, f123, f124, f125⟩ := ti_addc (c := 1) (n := 1) rfl (q_I d110 12 36 a0))
          refine ok_bdv (fun d116 e117 => ?_)
          have i118 : RI ad h.1 δ0 d116 := by rw [e117]; exact cs_12_36 L i112 k_a0 (show 0 ≤ ((q_I d110 12 36 a0) + (1 : Int32)).toInt by omega) (show ((q_I d110 12 36 a0) + (1 : Int32)).toInt ≤ 14000 by omega)
          have u126 := kp_I u113 e117
          have v127 : q_V d116 = q_V δ := ((show q_V d116 = q_V d110 by rw [e117]; rfl)).trans v114
          have v128 := kr_N v115 (show q_R d116 = q_R d110 by rw [e117]; rfl)
          unfold J_X12_lists_79
          refine ok_biv (fun vx129 e130 => ?_)
          first | (have q131 := te_addc (c := 1) (n := 1) rfl x5v (by omega) (by omega); rw [← e130] at q131; obtain ⟨f132, f133, f134⟩ := q131) | (obtain ⟨q131, f132, f133, f134⟩ : ∃ q : Int, vx129.toInt = x5v.toInt + (1 : Int) + 4294967296 * q ∧ -2147483648 ≤ vx129.toInt ∧ vx129.toInt ≤ 2147483647 := by rw [e130]; exact ti_addc (c := 1) (n := 1) rfl x5v)
          have f135 := cb_12_36 i118 k_a0
          have f136 : (q_I d116 12 36 a0).toInt = ((q_I d110 12 36 a0) + (1 : Int32)).toInt := congrArg Int32.toInt (show q_I d116 12 36 a0 = ((q_I d110 12 36 a0) + (1 : Int32)) by rw [e117]; exact rI_s)
          refine ok_mono (ih x4v vx129 d116 i118 (show 0 ≤ (x1).toInt by first | assumption | omega) (show (x1).toInt ≤ (x2).toInt by first | assumption | omega) (show (x2).toInt ≤ (x1).toInt + 2000 by first | assumption | omega) (show (x1).toInt + 1 ≤ (vx129).toInt by first | assumption | omega) (show (vx129).toInt ≤ (x2).toInt + 1 by first | assumption | omega) (show (x2).toInt ≤ (x4v).toInt by first | assumption | omega) (show (x4v).toInt ≤ 12000 by first | assumption | omega) (show (x4v).toInt ≤ (q_I d116 12 36 a0).toInt by first | assumption | omega) (show (q_I d116 12 36 a0).toInt ≤ (x4v).toInt + (vx129).toInt - (x1).toInt - 1 by first | assumption | omega) (show (x2).toInt + 1 - (vx129).toInt < _ by omega)) (fun r137 hr138 => ?_)
          obtain ⟨i139, ⟨u143, u144, u145⟩, p140, p141, p142⟩ := hr138
          have u146 := kp_t u126 u143
          have v147 : q_V r137.2 = q_V δ := (u144).trans v127
          have v148 := kr_t v128 u145
          have f149 := ti_b r137.1
          have f150 := cb_12_36 i139 k_a0
          have f151 := ti_b r137.1
          exact ⟨by assumption, ⟨kp_w (by decide) u146, v147, kr_w (by decide) v148⟩, by first | assumption | omega, by first | assumption | omega, by first | assumption | omega⟩
set_option maxHeartbeats 4000000 in
theorem k_X12_lists {ad : List Nat} {h : hp} (L : Lay TLx ad h) {δ0 : dp} {N : Nat} (hN : 10000000 ≤ N) {a0 : Nat} {x1 : Int32} {x2 : Int32} {x3 : Int32} (k_a0 : q_K h.1 a0 = 12) {δ : dp} (z0 : 0 ≤ (x1).toInt) (z1 : (x1).toInt ≤ (x2).toInt) (z2 : (x2).toInt ≤ (x1).toInt + 2000) (z3 : (x2).toInt ≤ (q_I δ 12 36 a0).toInt) (z4 : (q_I δ 12 36 a0).toInt ≤ 12000) (I : RI ad h.1 δ0 δ) : ok (D_X12_lists N h.1 a0 x1 x2 x3 δ) (fun r => RI ad h.1 δ0 r.2 ∧ (kp [(12, 36)] δ r.2 ∧ q_V r.2 = q_V δ ∧ kr ad [119] δ r.2) ∧ (r.1).toInt = (q_I δ 12 36 a0).toInt ∧ (q_I δ 12 36 a0).toInt ≤ (q_I r.2 12 36 a0).toInt ∧ (q_I r.2 12 36 a0).toInt ≤ (q_I δ 12 36 a0).toInt + 2000) := by
  unfold D_X12_lists
  have f1 := ti_b x1
  have f2 := ti_b x2
  have f3 := cb_12_36 I k_a0
  refine ok_biv (fun vx4 e5 => ?_)
  have f6 : vx4.toInt = (q_I δ 12 36 a0).toInt := congrArg Int32.toInt e5
  refine ok_biv (fun vx7 e8 => ?_)
  first | (have q9 := te_addc (c := 1) (n := 1) rfl x1 (by omega) (by omega); rw [← e8] at q9; obtain ⟨f10, f11, f12⟩ := q9) | (obtain ⟨q9, f10, f11, f12⟩ : ∃ q : Int, vx7.toInt = x1.toInt + (1 : Int) + 4294967296 * q ∧ -2147483648 ≤ vx7.toInt ∧ vx7.toInt ≤ 2147483647 := by rw [e8]; exact ti_addc (c := 1) (n := 1) rfl x1)
  refine ok_mono (kl_X12_lists_11 L hN   k_a0 _ vx4 vx7 δ I (show 0 ≤ (x1).toInt by first | assumption | omega) (show (x1).toInt ≤ (x2).toInt by first | assumption | omega) (show (x2).toInt ≤ (x1).toInt + 2000 by first | assumption | omega) (show (x1).toInt + 1 ≤ (vx7).toInt by first | assumption | omega) (show (vx7).toInt ≤ (x2).toInt + 1 by first | assumption | omega) (show (x2).toInt ≤ (vx4).toInt by first | assumption | omega) (show (vx4).toInt ≤ 12000 by first | assumption | omega) (show (vx4).toInt ≤ (q_I δ 12 36 a0).toInt by first | assumption | omega) (show (q_I δ 12 36 a0).toInt ≤ (vx4).toInt + (vx7).toInt - (x1).toInt - 1 by first | assumption | omega) (show (x2).toInt + 1 - (vx7).toInt < _ by omega)) (fun r13 hr14 => ?_)
  obtain ⟨i15, ⟨u19, u20, u21⟩, p16, p17, p18⟩ := hr14
  have u22 := kp_t kp_r u19
  have v23 : q_V r13.2 = q_V δ := (u20).trans rfl
  have v24 := kr_t (kr_r (ad := ad)) u21
  have f25 := ti_b r13.1
  have f26 := cb_12_36 i15 k_a0
  have f27 := ti_b r13.1
  exact ⟨by assumption, ⟨kp_w (by decide) u22, v23, kr_w (by decide) v24⟩, by first | assumption | omega, by first | assumption | omega, by first | assumption | omega⟩
set_option maxHeartbeats 4000000 in
theorem kl_X12_rooms_11 {ad : List Nat} {h : hp} (L : Lay TLx ad h) {δ0 : dp} {N : Nat} (hN : 10000000 ≤ N) {a0 : Nat} {x1 : Int32} {x2 : Int32} {x3 : Int32} {x4 : Int32} (k_a0 : q_K h.1 a0 = 12) : ∀ (n : Nat) (x5v : Int32) (x6v : Int32) (δ : dp), RI ad h.1 δ0 δ → 0 ≤ (x1).toInt → (x1).toInt ≤ (x2).toInt → (x2).toInt ≤ (x1).toInt + 2000 → (x1).toInt + 1 ≤ (x6v).toInt → (x6v).toInt ≤ (x2).toInt + 1 → (x2).toInt ≤ (x5v).toInt → (x5v).toInt ≤ 12000 → (x5v).toInt ≤ (q_I δ 12 36 a0).toInt → (q_I δ 12 36 a0).toInt ≤ (x5v).toInt + (x6v).toInt - (x1).toInt - 1 → (x2).toInt + 1 - (x6v).toInt < (n : Int) → ok (L_X12_rooms_11 N h.1 a0 x1 x2 x3 x4 n x5v x6v δ) (fun r => RI ad h.1 δ0 r.2 ∧ (kp [(12, 36)] δ r.2 ∧ q_V r.2 = q_V δ ∧ kr ad [119] δ r.2) ∧ (r.1).toInt = (x5v).toInt ∧ (q_I δ 12 36 a0).toInt ≤ (q_I r.2 12 36 a0).toInt ∧ (q_I r.2 12 36 a0).toInt ≤ (x5v).toInt + 2000) := by
  intro n
  induction n with
  | zero =>
    intro x5v x6v δ I j0 j1 j2 j3 j4 j5 j6 j7 j8 hm
    have f1 := ti_b x1
    have f2 := ti_b x2
    have f3 := ti_b x6v
    have f4 := ti_b x5v
    have f5 := cb_12_36 I k_a0
    exfalso; omega
  | succ n ih =>
    intro x5v x6v δ I j0 j1 j2 j3 j4 j5 j6 j7 j8 hm
    unfold L_X12_rooms_11
    have f1 := ti_b x1
    have f2 := ti_b x2
    have f3 := ti_b x6v
    have f4 := ti_b x5v
    have f5 := cb_12_36 I k_a0
    first | (have q7 := te_subc (c := 1) (n := 1) rfl x2 (by omega) (by omega); obtain ⟨f8, f9, f10⟩ := q7) | (obtain ⟨q7, f8, f9, f10⟩ := ti_subc (c := 1) (n := 1) rfl x2)
    refine ok_ite (fun h11 => ?_) (fun h11 => ?_)
    · have c12 : (x2 - (1 : Int32)).toInt ≤ x6v.toInt := o_le h11
      exact ok_some (show RI ad h.1 δ0 δ ∧ (kp [(12, 36)] δ δ ∧ q_V δ = q_V δ ∧ kr ad [119] δ δ) ∧ (x5v).toInt = (x5v).toInt ∧ (q_I δ 12 36 a0).toInt ≤ (q_I δ 12 36 a0).toInt ∧ (q_I δ 12 36 a0).toInt ≤ (x5v).toInt + 2000 from ⟨I, ⟨kp_w (by decide) kp_r, rfl, kr_w (by decide) (kr_r (ad := ad))⟩, by first | assumption | omega, by first | assumption | omega, by first | assumption | omega⟩)
    · have c13 : x6v.toInt < (x2 - (1 : Int32)).toInt := o_nle h11
      obtain ⟨b14, o15, k16, n17, w18⟩ := gO_12_35 L k_a0
      obtain rfl := gS_12_35 L k_a0 o15
      refine ok_at o15 ?_
      have t19 := ti_tn x6v
      refine ok_gd (fun hc20 => ?_) ?_
      · rcases hc20 with hc20 | hc20
        · have c21 : x6v.toInt < (0 : Int) := o_lt hc20
          omega
        · omega
      have f22 := ti_b ((q_R δ (Ad ad 119) x6v.toNatClampNeg) >>> (x3 &&& 31))
      have f23 := ti_b x4
      refine ok_ite (fun h24 => ?_) (fun h24 => ?_)
      · have c25 : ((q_R δ (Ad ad 119) x6v.toNatClampNeg) >>> (x3 &&& 31)).toInt = x4.toInt := o_eq h24
        refine ok_at o15 ?_
        refine ok_at o15 ?_
        refine ok_gd (fun hc26 => ?_) ?_
        · rcases hc26 with hc26 | hc26
          · have c27 : x6v.toInt < (0 : Int) := o_lt hc26
            omega
          · omega
        have t28 := ti_tn (q_I δ 12 36 a0)
        refine ok_gd (fun hc29 => ?_) ?_
        · rcases hc29 with hc29 | hc29
          · have c30 : (q_I δ 12 36 a0).toInt < (0 : Int) := o_lt hc29
            omega
          · omega
        refine ok_bdv (fun d31 e32 => ?_)
        have i33 : RI ad h.1 δ0 d31 := by rw [e32]; exact RI.sR L I w18
        have u34 := kp_N kp_r (show q_I d31 = q_I δ by rw [e32]; rfl)
        have v35 : q_V d31 = q_V δ := ((show q_V d31 = q_V δ by rw [e32]; rfl)).trans rfl
        have v36 := kr_s L (by decide) (kr_r (ad := ad)) e32
        have f40 := cb_12_36 i33 k_a0
        have f41 : (q_I d31 12 36 a0).toInt = (q_I δ 12 36 a0).toInt := congrArg Int32.toInt (by rw [e32]; rfl)
        first | (have q43 := te_addc (c := 1) (n := 1) rfl (q_I d31 12 36 a0) (by omega) (by omega); obtain ⟨f44, f45, f46⟩ := q43) | (obtain ⟨q43, f44, f45, f46⟩ := ti_addc (c := 1) (n := 1) rfl (q_I d31 12 36 a0))
        refine ok_bdv (fun d37 e38 => ?_)
        have i39 : RI ad h.1 δ0 d37 := by rw [e38]; exact cs_12_36 L i33 k_a0 (show 0 ≤ ((q_I d31 12 36 a0) + (1 : Int32)).toInt by omega) (show ((q_I d31 12 36 a0) + (1 : Int32)).toInt ≤ 14000 by omega)
        have u47 := kp_I u34 e38
        have v48 : q_V d37 = q_V δ := ((show q_V d37 = q_V d31 by rw [e38]; rfl)).trans v35
        have v49 := kr_N v36 (show q_R d37 = q_R d31 by rw [e38]; rfl)
        unfold J_X12_rooms_68
        refine ok_biv (fun vx50 e51 => ?_)
        first | (have q52 := te_addc (c := 1) (n := 1) rfl x6v (by omega) (by omega); rw [← e51] at q52; obtain ⟨f53, f54, f55⟩ := q52) | (obtain ⟨q52, f53, f54, f55⟩ : ∃ q : Int, vx50.toInt = x6v.toInt + (1 : Int) + 4294967296 * q ∧ -2147483648 ≤ vx50.toInt ∧ vx50.toInt ≤ 2147483647 := by rw [e51]; exact ti_addc (c := 1) (n := 1) rfl x6v)
        have f56 := cb_12_36 i39 k_a0
        have f57 : (q_I d37 12 36 a0).toInt = ((q_I d31 12 36 a0) + (1 : Int32)).toInt := congrArg Int32.toInt (show q_I d37 12 36 a0 = ((q_I d31 12 36 a0) + (1 : Int32)) by rw [e38]; exact rI_s)
        refine ok_mono (ih x5v vx50 d37 i39 (show 0 ≤ (x1).toInt by first | assumption | omega) (show (x1).toInt ≤ (x2).toInt by first | assumption | omega) (show (x2).toInt ≤ (x1).toInt + 2000 by first | assumption | omega) (show (x1).toInt + 1 ≤ (vx50).toInt by first | assumption | omega) (show (vx50).toInt ≤ (x2).toInt + 1 by first | assumption | omega) (show (x2).toInt ≤ (x5v).toInt by first | assumption | omega) (show (x5v).toInt ≤ 12000 by first | assumption | omega) (show (x5v).toInt ≤ (q_I d37 12 36 a0).toInt by first | assumption | omega) (show (q_I d37 12 36 a0).toInt ≤ (x5v).toInt + (vx50).toInt - (x1).toInt - 1 by first | assumption | omega) (show (x2).toInt + 1 - (vx50).toInt < _ by omega)) (fun r58 hr59 => ?_)
        obtain ⟨i60, ⟨u64, u65, u66⟩, p61, p62, p63⟩ := hr59
        have u67 := kp_t u47 u64
        have v68 : q_V r58.2 = q_V δ := (u65).trans v48
        have v69 := kr_t v49 u66
        have f70 := ti_b r58.1
        have f71 := cb_12_36 i60 k_a0
        have f72 := ti_b r58.1
        exact ⟨by assumption, ⟨kp_w (by decide) u67, v68, kr_w (by decide) v69⟩, by first | assumption | omega, by first | assumption | omega, by first | assumption | omega⟩
      · have c73 : ((q_R δ (Ad ad 119) x6v.toNatClampNeg) >>> (x3 &&& 31)).toInt ≠ x4.toInt := o_ne h24
        unfold J_X12_rooms_68
        refine ok_biv (fun vx74 e75 => ?_)
        first | (have q76 := te_addc (c := 1) (n := 1) rfl x6v (by omega) (by omega); rw [← e75] at q76; obtain ⟨f77, f78, f79⟩ := q76) | (obtain ⟨q76, f77, f78, f79⟩ : ∃ q : Int, vx74.toInt = x6v.toInt + (1 : Int) + 4294967296 * q ∧ -2147483648 ≤ vx74.toInt ∧ vx74.toInt ≤ 2147483647 := by rw [e75]; exact ti_addc (c := 1) (n := 1) rfl x6v)
        refine ok_mono (ih x5v vx74 δ I (show 0 ≤ (x1).toInt by first | assumption | omega) (show (x1).toInt ≤ (x2).toInt by first | assumption | omega) (show (x2).toInt ≤ (x1).toInt + 2000 by first | assumption | omega) (show (x1).toInt + 1 ≤ (vx74).toInt by first | assumption | omega) (show (vx74).toInt ≤ (x2).toInt + 1 by first | assumption | omega) (show (x2).toInt ≤ (x5v).toInt by first | assumption | omega) (show (x5v).toInt ≤ 12000 by first | assumption | omega) (show (x5v).toInt ≤ (q_I δ 12 36 a0).toInt by first | assumption | omega) (show (q_I δ 12 36 a0).toInt ≤ (x5v).toInt + (vx74).toInt - (x1).toInt - 1 by first | assumption | omega) (show (x2).toInt + 1 - (vx74).toInt < _ by omega)) (fun r80 hr81 => ?_)
        obtain ⟨i82, ⟨u86, u87, u88⟩, p83, p84, p85⟩ := hr81
        have u89 := kp_t kp_r u86
        have v90 : q_V r80.2 = q_V δ := (u87).trans rfl
        have v91 := kr_t (kr_r (ad := ad)) u88
        have f92 := ti_b r80.1
        have f93 := cb_12_36 i82 k_a0
        have f94 := ti_b r80.1
        exact ⟨by assumption, ⟨kp_w (by decide) u89, v90, kr_w (by decide) v91⟩, by first | assumption | omega, by first | assumption | omega, by first | assumption | omega⟩
set_option maxHeartbeats 4000000 in
theorem k_X12_rooms {ad : List Nat} {h : hp} (L : Lay TLx ad h) {δ0 : dp} {N : Nat} (hN : 10000000 ≤ N) {a0 : Nat} {x1 : Int32} {x2 : Int32} {x3 : Int32} {x4 : Int32} (k_a0 : q_K h.1 a0 = 12) {δ : dp} (z0 : 0 ≤ (x1).toInt) (z1 : (x1).toInt ≤ (x2).toInt) (z2 : (x2).toInt ≤ (x1).toInt + 2000) (z3 : (x2).toInt ≤ (q_I δ 12 36 a0).toInt) (z4 : (q_I δ 12 36 a0).toInt ≤ 12000) (I : RI ad h.1 δ0 δ) : ok (D_X12_rooms N h.1 a0 x1 x2 x3 x4 δ) (fun r => RI ad h.1 δ0 r.2 ∧ (kp [(12, 36)] δ r.2 ∧ q_V r.2 = q_V δ ∧ kr ad [119] δ r.2) ∧ (r.1).toInt = (q_I δ 12 36 a0).toInt ∧ (q_I δ 12 36 a0).toInt ≤ (q_I r.2 12 36 a0).toInt ∧ (q_I r.2 12 36 a0).toInt ≤ (q_I δ 12 36 a0).toInt + 2000) := by
  unfold D_X12_rooms
  have f1 := ti_b x1
  have f2 := ti_b x2
  have f3 := cb_12_36 I k_a0
  refine ok_biv (fun vx4 e5 => ?_)
  have f6 : vx4.toInt = (q_I δ 12 36 a0).toInt := congrArg Int32.toInt e5
  refine ok_biv (fun vx7 e8 => ?_)
  first | (have q9 := te_addc (c := 1) (n := 1) rfl x1 (by omega) (by omega); rw [← e8] at q9; obtain ⟨f10, f11, f12⟩ := q9) | (obtain ⟨q9, f10, f11, f12⟩ : ∃ q : Int, vx7.toInt = x1.toInt + (1 : Int) + 4294967296 * q ∧ -2147483648 ≤ vx7.toInt ∧ vx7.toInt ≤ 2147483647 := by rw [e8]; exact ti_addc (c := 1) (n := 1) rfl x1)
  refine ok_mono (kl_X12_rooms_11 L hN   k_a0 _ vx4 vx7 δ I (show 0 ≤ (x1).toInt by first | assumption | omega) (show (x1).toInt ≤ (x2).toInt by first | assumption | omega) (show (x2).toInt ≤ (x1).toInt + 2000 by first | assumption | omega) (show (x1).toInt + 1 ≤ (vx7).toInt by first | assumption | omega) (show (vx7).toInt ≤ (x2).toInt + 1 by first | assumption | omega) (show (x2).toInt ≤ (vx4).toInt by first | assumption | omega) (show (vx4).toInt ≤ 12000 by first | assumption | omega) (show (vx4).toInt ≤ (q_I δ 12 36 a0).toInt by first | assumption | omega) (show (q_I δ 12 36 a0).toInt ≤ (vx4).toInt + (vx7).toInt - (x1).toInt - 1 by first | assumption | omega) (show (x2).toInt + 1 - (vx7).toInt < _ by omega)) (fun r13 hr14 => ?_)
  obtain ⟨i15, ⟨u19, u20, u21⟩, p16, p17, p18⟩ := hr14
  have u22 := kp_t kp_r u19
  have v23 : q_V r13.2 = q_V δ := (u20).trans rfl
  have v24 := kr_t (kr_r (ad := ad)) u21
  have f25 := ti_b r13.1
  have f26 := cb_12_36 i15 k_a0
  have f27 := ti_b r13.1
  exact ⟨by assumption, ⟨kp_w (by decide) u22, v23, kr_w (by decide) v24⟩, by first | assumption | omega, by first | assumption | omega, by first | assumption | omega⟩
set_option maxHeartbeats 4000000 in
theorem kl_X12_roomMany_15 {ad : List Nat} {h : hp} (L : Lay TLx ad h) {δ0 : dp} {N : Nat} (hN : 10000000 ≤ N) {a0 : Nat} {x1 : Int32} {x2 : Int32} {x3 : Int32} {x4 : Int32} (k_a0 : q_K h.1 a0 = 12) : ∀ (n : Nat) (x5v : Int32) (x6v : Int32) (x7v : Int32) (δ : dp), RI ad h.1 δ0 δ → 0 ≤ (x3).toInt → (x3).toInt ≤ (x4).toInt → (x4).toInt ≤ 14000 → 1 ≤ (x7v).toInt → (x7v).toInt ≤ (x4).toInt + 1 → (x4).toInt + 1 - (x7v).toInt < (n : Int) → ok (L_X12_roomMany_15 N h.1 a0 x1 x2 x3 x4 n x5v x6v x7v δ) (fun r => r.2 = δ) := by
  intro n
  induction n with
  | zero =>
    intro x5v x6v x7v δ I j0 j1 j2 j3 j4 hm
    have f1 := ti_b x3
    have f2 := ti_b x4
    have f3 := ti_b x7v
    exfalso; omega
  | succ n ih =>
    intro x5v x6v x7v δ I j0 j1 j2 j3 j4 hm
    unfold L_X12_roomMany_15
    have f1 := ti_b x3
    have f2 := ti_b x4
    have f3 := ti_b x7v
    first | (have q5 := te_subc (c := 1) (n := 1) rfl x4 (by omega) (by omega); obtain ⟨f6, f7, f8⟩ := q5) | (obtain ⟨q5, f6, f7, f8⟩ := ti_subc (c := 1) (n := 1) rfl x4)
    refine ok_ite (fun h9 => ?_) (fun h9 => ?_)
    · have c10 : (x4 - (1 : Int32)).toInt ≤ x7v.toInt := o_le h9
      exact ok_some (show δ = δ from rfl)
    · have c11 : x7v.toInt < (x4 - (1 : Int32)).toInt := o_nle h9
      obtain ⟨b12, o13, k14, n15, w16⟩ := gO_12_35 L k_a0
      obtain rfl := gS_12_35 L k_a0 o13
      refine ok_at o13 ?_
      have t17 := ti_tn x7v
      refine ok_gd (fun hc18 => ?_) ?_
      · rcases hc18 with hc18 | hc18
        · have c19 : x7v.toInt < (0 : Int) := o_lt hc18
          omega
        · omega
      have f20 := ti_b ((q_R δ (Ad ad 119) x7v.toNatClampNeg) >>> (x5v &&& 31))
      have f21 := ti_b (x1 >>> (x5v &&& 31))
      refine ok_ite (fun h22 => ?_) (fun h22 => ?_)
      · have c23 : ((q_R δ (Ad ad 119) x7v.toNatClampNeg) >>> (x5v &&& 31)).toInt = (x1 >>> (x5v &&& 31)).toInt := o_eq h22
        unfold J_X12_roomMany_48
        have f26 := ti_b x6v
        refine ok_biv (fun vx24 e25 => ?_)
        first | (have q27 := te_addc (c := 1) (n := 1) rfl x6v (by omega) (by omega); rw [← e25] at q27; obtain ⟨f28, f29, f30⟩ := q27) | (obtain ⟨q27, f28, f29, f30⟩ : ∃ q : Int, vx24.toInt = x6v.toInt + (1 : Int) + 4294967296 * q ∧ -2147483648 ≤ vx24.toInt ∧ vx24.toInt ≤ 2147483647 := by rw [e25]; exact ti_addc (c := 1) (n := 1) rfl x6v)
        refine ok_biv (fun vx31 e32 => ?_)
        first | (have q33 := te_addc (c := 1) (n := 1) rfl x7v (by omega) (by omega); rw [← e32] at q33; obtain ⟨f34, f35, f36⟩ := q33) | (obtain ⟨q33, f34, f35, f36⟩ : ∃ q : Int, vx31.toInt = x7v.toInt + (1 : Int) + 4294967296 * q ∧ -2147483648 ≤ vx31.toInt ∧ vx31.toInt ≤ 2147483647 := by rw [e32]; exact ti_addc (c := 1) (n := 1) rfl x7v)
        refine ok_mono (ih x5v vx24 vx31 δ I (show 0 ≤ (x3).toInt by first | assumption | omega) (show (x3).toInt ≤ (x4).toInt by first | assumption | omega) (show (x4).toInt ≤ 14000 by first | assumption | omega) (show 1 ≤ (vx31).toInt by first | assumption | omega) (show (vx31).toInt ≤ (x4).toInt + 1 by first | assumption | omega) (show (x4).toInt + 1 - (vx31).toInt < _ by omega)) (fun r37 hr38 => ?_)
        have i39 := hr38
        have f40 := ti_b r37.1
        exact by assumption
      · have c41 : ((q_R δ (Ad ad 119) x7v.toNatClampNeg) >>> (x5v &&& 31)).toInt ≠ (x1 >>> (x5v &&& 31)).toInt := o_ne h22
        unfold J_X12_roomMany_48
        have f44 := ti_b x6v
        refine ok_biv (fun vx42 e43 => ?_)
        first | (have q45 := te_addc (c := 0) (n := 0) rfl x6v (by omega) (by omega); rw [← e43] at q45; obtain ⟨f46, f47, f48⟩ := q45) | (obtain ⟨q45, f46, f47, f48⟩ : ∃ q : Int, vx42.toInt = x6v.toInt + (0 : Int) + 4294967296 * q ∧ -2147483648 ≤ vx42.toInt ∧ vx42.toInt ≤ 2147483647 := by rw [e43]; exact ti_addc (c := 0) (n := 0) rfl x6v)
        refine ok_biv (fun vx49 e50 => ?_)
        first | (have q51 := te_addc (c := 1) (n := 1) rfl x7v (by omega) (by omega); rw [← e50] at q51; obtain ⟨f52, f53, f54⟩ := q51) | (obtain ⟨q51, f52, f53, f54⟩ : ∃ q : Int, vx49.toInt = x7v.toInt + (1 : Int) + 4294967296 * q ∧ -2147483648 ≤ vx49.toInt ∧ vx49.toInt ≤ 2147483647 := by rw [e50]; exact ti_addc (c := 1) (n := 1) rfl x7v)
        refine ok_mono (ih x5v vx42 vx49 δ I (show 0 ≤ (x3).toInt by first | assumption | omega) (show (x3).toInt ≤ (x4).toInt by first | assumption | omega) (show (x4).toInt ≤ 14000 by first | assumption | omega) (show 1 ≤ (vx49).toInt by first | assumption | omega) (show (vx49).toInt ≤ (x4).toInt + 1 by first | assumption | omega) (show (x4).toInt + 1 - (vx49).toInt < _ by omega)) (fun r55 hr56 => ?_)
        have i57 := hr56
        have f58 := ti_b r55.1
        exact by assumption
set_option maxHeartbeats 4000000 in
theorem k_X12_roomMany {ad : List Nat} {h : hp} (L : Lay TLx ad h) {δ0 : dp} {N : Nat} (hN : 10000000 ≤ N) {a0 : Nat} {x1 : Int32} {x2 : Int32} {x3 : Int32} {x4 : Int32} (k_a0 : q_K h.1 a0 = 12) {δ : dp} (z0 : 0 ≤ (x3).toInt) (z1 : (x3).toInt ≤ (x4).toInt) (z2 : (x4).toInt ≤ 14000) (I : RI ad h.1 δ0 δ) : ok (D_X12_roomMany N h.1 a0 x1 x2 x3 x4 δ) (fun r => r.2 = δ) := by
  unfold D_X12_roomMany
  have f1 := ti_b x3
  have f2 := ti_b x4
  refine ok_bind (k_X12_lowerBits L hN (a0 := a0) (x1 := x2) k_a0 I) (fun r3 hr4 => ?_)
  obtain ⟨i5, p6, p7, p8⟩ := hr4
  try rw [i5]
  have f9 := ti_b x2
  have f10 := cb_12_12 I k_a0
  have f11 := ti_b r3.1
  have f12 := ti_b r3.1
  refine ok_biv (fun vx13 e14 => ?_)
  first | (have q15 := te_addc (c := 1) (n := 1) rfl x3 (by omega) (by omega); rw [← e14] at q15; obtain ⟨f16, f17, f18⟩ := q15) | (obtain ⟨q15, f16, f17, f18⟩ : ∃ q : Int, vx13.toInt = x3.toInt + (1 : Int) + 4294967296 * q ∧ -2147483648 ≤ vx13.toInt ∧ vx13.toInt ≤ 2147483647 := by rw [e14]; exact ti_addc (c := 1) (n := 1) rfl x3)
  refine ok_mono (kl_X12_roomMany_15 L hN   k_a0 _ r3.1 (0 : Int32) vx13 δ I (show 0 ≤ (x3).toInt by first | assumption | omega) (show (x3).toInt ≤ (x4).toInt by first | assumption | omega) (show (x4).toInt ≤ 14000 by first | assumption | omega) (show 1 ≤ (vx13).toInt by first | assumption | omega) (show (vx13).toInt ≤ (x4).toInt + 1 by first | assumption | omega) (show (x4).toInt + 1 - (vx13).toInt < _ by omega)) (fun r19 hr20 => ?_)
  have i21 := hr20
  have f22 := ti_b r19.1
  exact by assumption
set_option maxHeartbeats 4000000 in
theorem kl_X12_roomEnd_15 {ad : List Nat} {h : hp} (L : Lay TLx ad h) {δ0 : dp} {N : Nat} (hN : 10000000 ≤ N) {a0 : Nat} {x1 : Int32} {x2 : Int32} {x3 : Int32} {x4 : Int32} {x5 : Int32} (k_a0 : q_K h.1 a0 = 12) : ∀ (n : Nat) (x6v : Int32) (x7v : Int32) (x8v : Int32) (δ : dp), RI ad h.1 δ0 δ → 0 ≤ (x3).toInt → (x3).toInt ≤ (x4).toInt → (x4).toInt ≤ 14000 → 1 ≤ (x8v).toInt → (x8v).toInt ≤ (x4).toInt + 1 → (x4).toInt + 1 - (x8v).toInt < (n : Int) → ok (L_X12_roomEnd_15 N h.1 a0 x1 x2 x3 x4 x5 n x6v x7v x8v δ) (fun r => r.2 = δ) := by
  intro n
  induction n with
  | zero =>
    intro x6v x7v x8v δ I j0 j1 j2 j3 j4 hm
    have f1 := ti_b x3
    have f2 := ti_b x4
    have f3 := ti_b x8v
    exfalso; omega
  | succ n ih =>
    intro x6v x7v x8v δ I j0 j1 j2 j3 j4 hm
    unfold L_X12_roomEnd_15
    have f1 := ti_b x3
    have f2 := ti_b x4
    have f3 := ti_b x8v
    first | (have q5 := te_subc (c := 1) (n := 1) rfl x4 (by omega) (by omega); obtain ⟨f6, f7, f8⟩ := q5) | (obtain ⟨q5, f6, f7, f8⟩ := ti_subc (c := 1) (n := 1) rfl x4)
    refine ok_ite (fun h9 => ?_) (fun h9 => ?_)
    · have c10 : (x4 - (1 : Int32)).toInt ≤ x8v.toInt := o_le h9
      exact ok_some (show δ = δ from rfl)
    · have c11 : x8v.toInt < (x4 - (1 : Int32)).toInt := o_nle h9
      obtain ⟨b12, o13, k14, n15, w16⟩ := gO_12_35 L k_a0
      obtain rfl := gS_12_35 L k_a0 o13
      refine ok_at o13 ?_
      have t17 := ti_tn x8v
      refine ok_gd (fun hc18 => ?_) ?_
      · rcases hc18 with hc18 | hc18
        · have c19 : x8v.toInt < (0 : Int) := o_lt hc18
          omega
        · omega
      have f20 := ti_b ((q_R δ (Ad ad 119) x8v.toNatClampNeg) >>> (x6v &&& 31))
      have f21 := ti_b (x1 >>> (x6v &&& 31))
      refine ok_ite (fun h22 => ?_) (fun h22 => ?_)
      · have c23 : ((q_R δ (Ad ad 119) x8v.toNatClampNeg) >>> (x6v &&& 31)).toInt = (x1 >>> (x6v &&& 31)).toInt := o_eq h22
        have f24 := ti_b x7v
        refine ok_ite (fun h25 => ?_) (fun h25 => ?_)
        · have c26 : x7v.toInt = (-1 : Int) := o_eq h25
          unfold J_X12_roomEnd_55
          refine ok_at o13 ?_
          refine ok_gd (fun hc27 => ?_) ?_
          · rcases hc27 with hc27 | hc27
            · have c28 : x8v.toInt < (0 : Int) := o_lt hc27
              omega
            · omega
          have f31 := ti_b ((q_R δ (Ad ad 119) x8v.toNatClampNeg) &&& (((1 : Int32) <<< (x6v &&& 31)) - (1 : Int32)))
          refine ok_biv (fun vx29 e30 => ?_)
          have f32 : vx29.toInt = ((q_R δ (Ad ad 119) x8v.toNatClampNeg) &&& (((1 : Int32) <<< (x6v &&& 31)) - (1 : Int32))).toInt := congrArg Int32.toInt e30
          unfold J_X12_roomEnd_71
          refine ok_biv (fun vx33 e34 => ?_)
          first | (have q35 := te_addc (c := 1) (n := 1) rfl x8v (by omega) (by omega); rw [← e34] at q35; obtain ⟨f36, f37, f38⟩ := q35) | (obtain ⟨q35, f36, f37, f38⟩ : ∃ q : Int, vx33.toInt = x8v.toInt + (1 : Int) + 4294967296 * q ∧ -2147483648 ≤ vx33.toInt ∧ vx33.toInt ≤ 2147483647 := by rw [e34]; exact ti_addc (c := 1) (n := 1) rfl x8v)
          refine ok_mono (ih x6v vx29 vx33 δ I (show 0 ≤ (x3).toInt by first | assumption | omega) (show (x3).toInt ≤ (x4).toInt by first | assumption | omega) (show (x4).toInt ≤ 14000 by first | assumption | omega) (show 1 ≤ (vx33).toInt by first | assumption | omega) (show (vx33).toInt ≤ (x4).toInt + 1 by first | assumption | omega) (show (x4).toInt + 1 - (vx33).toInt < _ by omega)) (fun r39 hr40 => ?_)
          have i41 := hr40
          have f42 := ti_b r39.1
          exact by assumption
        · have c43 : x7v.toInt ≠ (-1 : Int) := o_ne h25
          have f44 := ti_b x5
          refine ok_ite (fun h45 => ?_) (fun h45 => ?_)
          · have c46 : x5.toInt = (0 : Int) := o_eq h45
            unfold J_X12_roomEnd_55
            refine ok_at o13 ?_
            refine ok_gd (fun hc47 => ?_) ?_
            · rcases hc47 with hc47 | hc47
              · have c48 : x8v.toInt < (0 : Int) := o_lt hc47
                omega
              · omega
            have f51 := ti_b ((q_R δ (Ad ad 119) x8v.toNatClampNeg) &&& (((1 : Int32) <<< (x6v &&& 31)) - (1 : Int32)))
            refine ok_biv (fun vx49 e50 => ?_)
            have f52 : vx49.toInt = ((q_R δ (Ad ad 119) x8v.toNatClampNeg) &&& (((1 : Int32) <<< (x6v &&& 31)) - (1 : Int32))).toInt := congrArg Int32.toInt e50
            unfold J_X12_roomEnd_71
            refine ok_biv (fun vx53 e54 => ?_)
            first | (have q55 := te_addc (c := 1) (n := 1) rfl x8v (by omega) (by omega); rw [← e54] at q55; obtain ⟨f56, f57, f58⟩ := q55) | (obtain ⟨q55, f56, f57, f58⟩ : ∃ q : Int, vx53.toInt = x8v.toInt + (1 : Int) + 4294967296 * q ∧ -2147483648 ≤ vx53.toInt ∧ vx53.toInt ≤ 2147483647 := by rw [e54]; exact ti_addc (c := 1) (n := 1) rfl x8v)
            refine ok_mono (ih x6v vx49 vx53 δ I (show 0 ≤ (x3).toInt by first | assumption | omega) (show (x3).toInt ≤ (x4).toInt by first | assumption | omega) (show (x4).toInt ≤ 14000 by first | assumption | omega) (show 1 ≤ (vx53).toInt by first | assumption | omega) (show (vx53).toInt ≤ (x4).toInt + 1 by first | assumption | omega) (show (x4).toInt + 1 - (vx53).toInt < _ by omega)) (fun r59 hr60 => ?_)
            have i61 := hr60
            have f62 := ti_b r59.1
            exact by assumption
          · have c63 : x5.toInt ≠ (0 : Int) := o_ne h45
            unfold J_X12_roomEnd_71
            refine ok_biv (fun vx64 e65 => ?_)
            first | (have q66 := te_addc (c := 1) (n := 1) rfl x8v (by omega) (by omega); rw [← e65] at q66; obtain ⟨f67, f68, f69⟩ := q66) | (obtain ⟨q66, f67, f68, f69⟩ : ∃ q : Int, vx64.toInt = x8v.toInt + (1 : Int) + 4294967296 * q ∧ -2147483648 ≤ vx64.toInt ∧ vx64.toInt ≤ 2147483647 := by rw [e65]; exact ti_addc (c := 1) (n := 1) rfl x8v)
            refine ok_mono (ih x6v x7v vx64 δ I (show 0 ≤ (x3).toInt by first | assumption | omega) (show (x3).toInt ≤ (x4).toInt by first | assumption | omega) (show (x4).toInt ≤ 14000 by first | assumption | omega) (show 1 ≤ (vx64).toInt by first | assumption | omega) (show (vx64).toInt ≤ (x4).toInt + 1 by first | assumption | omega) (show (x4).toInt + 1 - (vx64).toInt < _ by omega)) (fun r70 hr71 => ?_)
            have i72 := hr71
            have f73 := ti_b r70.1
            exact by assumption
      · have c74 : ((q_R δ (Ad ad 119) x8v.toNatClampNeg) >>> (x6v &&& 31)).toInt ≠ (x1 >>> (x6v &&& 31)).toInt := o_ne h22
        unfold J_X12_roomEnd_71
        refine ok_biv (fun vx75 e76 => ?_)
        first | (have q77 := te_addc (c := 1) (n := 1) rfl x8v (by omega) (by omega); rw [← e76] at q77; obtain ⟨f78, f79, f80⟩ := q77) | (obtain ⟨q77, f78, f79, f80⟩ : ∃ q : Int, vx75.toInt = x8v.toInt + (1 : Int) + 4294967296 * q ∧ -2147483648 ≤ vx75.toInt ∧ vx75.toInt ≤ 2147483647 := by rw [e76]; exact ti_addc (c := 1) (n := 1) rfl x8v)
        refine ok_mono (ih x6v x7v vx75 δ I (show 0 ≤ (x3).toInt by first | assumption | omega) (show (x3).toInt ≤ (x4).toInt by first | assumption | omega) (show (x4).toInt ≤ 14000 by first | assumption | omega) (show 1 ≤ (vx75).toInt by first | assumption | omega) (show (vx75).toInt ≤ (x4).toInt + 1 by first | assumption | omega) (show (x4).toInt + 1 - (vx75).toInt < _ by omega)) (fun r81 hr82 => ?_)
        have i83 := hr82
        have f84 := ti_b r81.1
        exact by assumption
set_option maxHeartbeats 4000000 in
theorem k_X12_roomEnd {ad : List Nat} {h : hp} (L : Lay TLx ad h) {δ0 : dp} {N : Nat} (hN : 10000000 ≤ N) {a0 : Nat} {x1 : Int32} {x2 : Int32} {x3 : Int32} {x4 : Int32} {x5 : Int32} (k_a0 : q_K h.1 a0 = 12) {δ : dp} (z0 : 0 ≤ (x3).toInt) (z1 : (x3).toInt ≤ (x4).toInt) (z2 : (x4).toInt ≤ 14000) (I : RI ad h.1 δ0 δ) : ok (D_X12_roomEnd N h.1 a0 x1 x2 x3 x4 x5 δ) (fun r => r.2 = δ) := by
  unfold D_X12_roomEnd
  have f1 := ti_b x3
  have f2 := ti_b x4
  refine ok_bind (k_X12_lowerBits L hN (a0 := a0) (x1 := x2) k_a0 I) (fun r3 hr4 => ?_)
  obtain ⟨i5, p6, p7, p8⟩ := hr4
  try rw [i5]
  have f9 := ti_b x2
  have f10 := cb_12_12 I k_a0
  have f11 := ti_b r3.1
  have f12 := ti_b r3.1
  refine ok_biv (fun vx13 e14 => ?_)
  first | (have q15 := te_addc (c := 1) (n := 1) rfl x3 (by omega) (by omega); rw [← e14] at q15; obtain ⟨f16, f17, f18⟩ := q15) | (obtain ⟨q15, f16, f17, f18⟩ : ∃ q : Int, vx13.toInt = x3.toInt + (1 : Int) + 4294967296 * q ∧ -2147483648 ≤ vx13.toInt ∧ vx13.toInt ≤ 2147483647 := by rw [e14]; exact ti_addc (c := 1) (n := 1) rfl x3)
  refine ok_mono (kl_X12_roomEnd_15 L hN   k_a0 _ r3.1 (-1 : Int32) vx13 δ I (show 0 ≤ (x3).toInt by first | assumption | omega) (show (x3).toInt ≤ (x4).toInt by first | assumption | omega) (show (x4).toInt ≤ 14000 by first | assumption | omega) (show 1 ≤ (vx13).toInt by first | assumption | omega) (show (vx13).toInt ≤ (x4).toInt + 1 by first | assumption | omega) (show (x4).toInt + 1 - (vx13).toInt < _ by omega)) (fun r19 hr20 => ?_)
  have i21 := hr20
  have f22 := ti_b r19.1
  exact by assumption
set_option maxHeartbeats 4000000 in
theorem kl_X12_isInside_5 {ad : List Nat} {h : hp} (L : Lay TLx ad h) {δ0 : dp} {N : Nat} (hN : 10000000 ≤ N) {a0 : Nat} {x1 : Int32} {x2 : Int32} {x3 : Int32} (k_a0 : q_K h.1 a0 = 12) : ∀ (n : Nat) (x4v : Int32) (δ : dp), RI ad h.1 δ0 δ → 0 ≤ (x2).toInt → (x2).toInt ≤ (x3).toInt → (x3).toInt ≤ 14000 → 1 ≤ (x4v).toInt → (x4v).toInt ≤ (x3).toInt + 1 → (x3).toInt + 1 - (x4v).toInt < (n : Int) → ok (L_X12_isInside_5 N h.1 a0 x1 x2 x3 n x4v δ) (fun r => r.2 = δ ∧ bo (r.1)) := by
  intro n
  induction n with
  | zero =>
    intro x4v δ I j0 j1 j2 j3 j4 hm
    have f1 := ti_b x2
    have f2 := ti_b x3
    have f3 := ti_b x4v
    exfalso; omega
  | succ n ih =>
    intro x4v δ I j0 j1 j2 j3 j4 hm
    unfold L_X12_isInside_5
    have f1 := ti_b x2
    have f2 := ti_b x3
    have f3 := ti_b x4v
    first | (have q5 := te_subc (c := 1) (n := 1) rfl x3 (by omega) (by omega); obtain ⟨f6, f7, f8⟩ := q5) | (obtain ⟨q5, f6, f7, f8⟩ := ti_subc (c := 1) (n := 1) rfl x3)
    refine ok_ite (fun h9 => ?_) (fun h9 => ?_)
    · have c10 : (x3 - (1 : Int32)).toInt ≤ x4v.toInt := o_le h9
      refine ok_gp (by decide) ?_
      exact ok_some (show δ = δ ∧ bo ((0 : Int32)) from ⟨rfl, bo_0⟩)
    · have c11 : x4v.toInt < (x3 - (1 : Int32)).toInt := o_nle h9
      obtain ⟨b12, o13, k14, n15, w16⟩ := gO_12_35 L k_a0
      obtain rfl := gS_12_35 L k_a0 o13
      refine ok_at o13 ?_
      have t17 := ti_tn x4v
      refine ok_gd (fun hc18 => ?_) ?_
      · rcases hc18 with hc18 | hc18
        · have c19 : x4v.toInt < (0 : Int) := o_lt hc18
          omega
        · omega
      have f20 := ti_b (q_R δ (Ad ad 119) x4v.toNatClampNeg)
      have f21 := ti_b x1
      refine ok_ite (fun h22 => ?_) (fun h22 => ?_)
      · have c23 : (q_R δ (Ad ad 119) x4v.toNatClampNeg).toInt = x1.toInt := o_eq h22
        refine ok_gp (by decide) ?_
        exact ok_some (show δ = δ ∧ bo ((1 : Int32)) from ⟨rfl, bo_1⟩)
      · have c24 : (q_R δ (Ad ad 119) x4v.toNatClampNeg).toInt ≠ x1.toInt := o_ne h22
        refine ok_biv (fun vx25 e26 => ?_)
        first | (have q27 := te_addc (c := 1) (n := 1) rfl x4v (by omega) (by omega); rw [← e26] at q27; obtain ⟨f28, f29, f30⟩ := q27) | (obtain ⟨q27, f28, f29, f30⟩ : ∃ q : Int, vx25.toInt = x4v.toInt + (1 : Int) + 4294967296 * q ∧ -2147483648 ≤ vx25.toInt ∧ vx25.toInt ≤ 2147483647 := by rw [e26]; exact ti_addc (c := 1) (n := 1) rfl x4v)
        refine ok_mono (ih vx25 δ I (show 0 ≤ (x2).toInt by first | assumption | omega) (show (x2).toInt ≤ (x3).toInt by first | assumption | omega) (show (x3).toInt ≤ 14000 by first | assumption | omega) (show 1 ≤ (vx25).toInt by first | assumption | omega) (show (vx25).toInt ≤ (x3).toInt + 1 by first | assumption | omega) (show (x3).toInt + 1 - (vx25).toInt < _ by omega)) (fun r31 hr32 => ?_)
        obtain ⟨i33, p34⟩ := hr32
        have f35 := bo_l p34
        have f36 := ti_b r31.1
        exact ⟨by assumption, by first | assumption | omega⟩
set_option maxHeartbeats 4000000 in
theorem k_X12_isInside {ad : List Nat} {h : hp} (L : Lay TLx ad h) {δ0 : dp} {N : Nat} (hN : 10000000 ≤ N) {a0 : Nat} {x1 : Int32} {x2 : Int32} {x3 : Int32} (k_a0 : q_K h.1 a0 = 12) {δ : dp} (z0 : 0 ≤ (x2).toInt) (z1 : (x2).toInt ≤ (x3).toInt) (z2 : (x3).toInt ≤ 14000) (I : RI ad h.1 δ0 δ) : ok (D_X12_isInside N h.1 a0 x1 x2 x3 δ) (fun r => r.2 = δ ∧ bo (r.1)) := by
  unfold D_X12_isInside
  have f1 := ti_b x2
  have f2 := ti_b x3
  refine ok_biv (fun vx3 e4 => ?_)
  first | (have q5 := te_addc (c := 1) (n := 1) rfl x2 (by omega) (by omega); rw [← e4] at q5; obtain ⟨f6, f7, f8⟩ := q5) | (obtain ⟨q5, f6, f7, f8⟩ : ∃ q : Int, vx3.toInt = x2.toInt + (1 : Int) + 4294967296 * q ∧ -2147483648 ≤ vx3.toInt ∧ vx3.toInt ≤ 2147483647 := by rw [e4]; exact ti_addc (c := 1) (n := 1) rfl x2)
  refine ok_mono (kl_X12_isInside_5 L hN   k_a0 _ vx3 δ I (show 0 ≤ (x2).toInt by first | assumption | omega) (show (x2).toInt ≤ (x3).toInt by first | assumption | omega) (show (x3).toInt ≤ 14000 by first | assumption | omega) (show 1 ≤ (vx3).toInt by first | assumption | omega) (show (vx3).toInt ≤ (x3).toInt + 1 by first | assumption | omega) (show (x3).toInt + 1 - (vx3).toInt < _ by omega)) (fun r9 hr10 => ?_)
  obtain ⟨i11, p12⟩ := hr10
  have f13 := bo_l p12
  have f14 := ti_b r9.1
  exact ⟨by assumption, by first | assumption | omega⟩
set_option maxHeartbeats 4000000 in
theorem kl_X12_lays_7 {ad : List Nat} {h : hp} (L : Lay TLx ad h) {δ0 : dp} {N : Nat} (hN : 10000000 ≤ N) {a0 : Nat} {x1 : Int32} (k_a0 : q_K h.1 a0 = 12) : ∀ (n : Nat) (x2v : Int32) (δ : dp), RI ad h.1 δ0 δ → 0 ≤ (x1).toInt → (x1).toInt ≤ 3 → 0 ≤ (x2v).toInt → (x2v).toInt ≤ 2000 → (q_I δ 12 36 a0).toInt = (x2v).toInt → 2000 - (x2v).toInt < (n : Int) → ok (L_X12_lays_7 N h.1 a0 x1 n x2v δ) (fun r => RI ad h.1 δ0 r ∧ (kp [(12, 36)] δ r ∧ q_V r = q_V δ ∧ kr ad [119] δ r) ∧ (q_I r 12 36 a0).toInt ≤ 2000) := by
  intro n
  induction n with
  | zero =>
    intro x2v δ I j0 j1 j2 j3 j4 hm
    have f1 := ti_b x1
    have f2 := ti_b x2v
    have f3 := cb_12_36 I k_a0
    exfalso; omega
  | succ n ih =>
    intro x2v δ I j0 j1 j2 j3 j4 hm
    unfold L_X12_lays_7
    have f1 := ti_b x1
    have f2 := ti_b x2v
    have f3 := cb_12_36 I k_a0
    obtain ⟨b4, o5, k6, n7⟩ := gO_12_14 L k_a0
    obtain rfl := gS_12_14 L k_a0 o5
    refine ok_at o5 ?_
    have t8 := ti_tn x1
    refine ok_gd (fun hc9 => ?_) ?_
    · rcases hc9 with hc9 | hc9
      · have c10 : x1.toInt < (0 : Int) := o_lt hc9
        omega
      · omega
    have f11 := rb_103 L I x1.toNatClampNeg
    refine ok_ite (fun h12 => ?_) (fun h12 => ?_)
    · have c13 : (q_R δ (Ad ad 103) x1.toNatClampNeg).toInt ≤ x2v.toInt := o_le h12
      exact ok_some (show RI ad h.1 δ0 δ ∧ (kp [(12, 36)] δ δ ∧ q_V δ = q_V δ ∧ kr ad [119] δ δ) ∧ (q_I δ 12 36 a0).toInt ≤ 2000 from ⟨I, ⟨kp_w (by decide) kp_r, rfl, kr_w (by decide) (kr_r (ad := ad))⟩, by first | assumption | omega⟩)
    · have c14 : x2v.toInt < (q_R δ (Ad ad 103) x1.toNatClampNeg).toInt := o_nle h12
      obtain ⟨b15, o16, k17, n18, w19⟩ := gO_12_35 L k_a0
      obtain rfl := gS_12_35 L k_a0 o16
      refine ok_at o16 ?_
      obtain ⟨b20, o21, k22, n23, w24⟩ := gO_12_13 L k_a0
      obtain rfl := gS_12_13 L k_a0 o21
      refine ok_at o21 ?_
      first | (have q26 := te_mulc (c := 2000) (n := 2000) rfl x1 (by omega) (by omega); obtain ⟨f27, f28, f29⟩ := q26) | (obtain ⟨q26, f27, f28, f29⟩ := ti_mulc (c := 2000) (n := 2000) rfl x1)
      first | (have q31 := te_add ((2000 : Int32) * x1) x2v (by omega) (by omega); obtain ⟨f32, f33, f34⟩ := q31) | (obtain ⟨q31, f32, f33, f34⟩ := ti_add ((2000 : Int32) * x1) x2v)
      have t35 := ti_tn (((2000 : Int32) * x1) + x2v)
      refine ok_gd (fun hc36 => ?_) ?_
      · rcases hc36 with hc36 | hc36
        · have c37 : (((2000 : Int32) * x1) + x2v).toInt < (0 : Int) := o_lt hc36
          omega
        · omega
      have t38 := ti_tn (q_I δ 12 36 a0)
      refine ok_gd (fun hc39 => ?_) ?_
      · rcases hc39 with hc39 | hc39
        · have c40 : (q_I δ 12 36 a0).toInt < (0 : Int) := o_lt hc39
          omega
        · omega
      refine ok_bdv (fun d41 e42 => ?_)
      have i43 : RI ad h.1 δ0 d41 := by rw [e42]; exact RI.sR L I w19
      have u44 := kp_N kp_r (show q_I d41 = q_I δ by rw [e42]; rfl)
      have v45 : q_V d41 = q_V δ := ((show q_V d41 = q_V δ by rw [e42]; rfl)).trans rfl
      have v46 := kr_s L (by decide) (kr_r (ad := ad)) e42
      have f50 := cb_12_36 i43 k_a0
      have f51 : (q_I d41 12 36 a0).toInt = (q_I δ 12 36 a0).toInt := congrArg Int32.toInt (by rw [e42]; rfl)
      first | (have q53 := te_addc (c := 1) (n := 1) rfl (q_I d41 12 36 a0) (by omega) (by omega); obtain ⟨f54, f55, f56⟩ := q53) | (obtain ⟨q53, f54, f55, f56⟩ := ti_addc (c := 1) (n := 1) rfl (q_I d41 12 36 a0))
      refine ok_bdv (fun d47 e48 => ?_)
      have i49 : RI ad h.1 δ0 d47 := by rw [e48]; exact cs_12_36 L i43 k_a0 (show 0 ≤ ((q_I d41 12 36 a0) + (1 : Int32)).toInt by omega) (show ((q_I d41 12 36 a0) + (1 : Int32)).toInt ≤ 14000 by omega)
      have u57 := kp_I u44 e48
      have v58 : q_V d47 = q_V δ := ((show q_V d47 = q_V d41 by rw [e48]; rfl)).trans v45
      have v59 := kr_N v46 (show q_R d47 = q_R d41 by rw [e48]; rfl)
      refine ok_biv (fun vx60 e61 => ?_)
      first | (have q62 := te_addc (c := 1) (n := 1) rfl x2v (by omega) (by omega); rw [← e61] at q62; obtain ⟨f63, f64, f65⟩ := q62) | (obtain ⟨q62, f63, f64, f65⟩ : ∃ q : Int, vx60.toInt = x2v.toInt + (1 : Int) + 4294967296 * q ∧ -2147483648 ≤ vx60.toInt ∧ vx60.toInt ≤ 2147483647 := by rw [e61]; exact ti_addc (c := 1) (n := 1) rfl x2v)
      have f66 := cb_12_36 i49 k_a0
      have f67 : (q_I d47 12 36 a0).toInt = ((q_I d41 12 36 a0) + (1 : Int32)).toInt := congrArg Int32.toInt (show q_I d47 12 36 a0 = ((q_I d41 12 36 a0) + (1 : Int32)) by rw [e48]; exact rI_s)
      refine ok_mono (ih vx60 d47 i49 (show 0 ≤ (x1).toInt by first | assumption | omega) (show (x1).toInt ≤ 3 by first | assumption | omega) (show 0 ≤ (vx60).toInt by first | assumption | omega) (show (vx60).toInt ≤ 2000 by first | assumption | omega) (show (q_I d47 12 36 a0).toInt = (vx60).toInt by first | assumption | omega) (show 2000 - (vx60).toInt < _ by omega)) (fun r68 hr69 => ?_)
      obtain ⟨i70, ⟨u72, u73, u74⟩, p71⟩ := hr69
      have u75 := kp_t u57 u72
      have v76 : q_V r68 = q_V δ := (u73).trans v58
      have v77 := kr_t v59 u74
      have f78 := cb_12_36 i70 k_a0
      exact ⟨by assumption, ⟨kp_w (by decide) u75, v76, kr_w (by decide) v77⟩, by first | assumption | omega⟩
set_option maxHeartbeats 4000000 in
theorem k_X12_lays {ad : List Nat} {h : hp} (L : Lay TLx ad h) {δ0 : dp} {N : Nat} (hN : 10000000 ≤ N) {a0 : Nat} {x1 : Int32} (k_a0 : q_K h.1 a0 = 12) {δ : dp} (z0 : 0 ≤ (x1).toInt) (z1 : (x1).toInt ≤ 3) (I : RI ad h.1 δ0 δ) : ok (D_X12_lays N h.1 a0 x1 δ) (fun r => RI ad h.1 δ0 r ∧ (kp [(12, 36)] δ r ∧ q_V r = q_V δ ∧ kr ad [119] δ r) ∧ (q_I r 12 36 a0).toInt ≤ 2000) := by
  unfold D_X12_lays
  have f1 := ti_b x1
  refine ok_bdv (fun d2 e3 => ?_)
  have i4 : RI ad h.1 δ0 d2 := by rw [e3]; exact cs_12_36 L I k_a0 (show 0 ≤ (0 : Int) by omega) (show (0 : Int) ≤ 14000 by omega)
  have u5 := kp_I kp_r e3
  have v6 : q_V d2 = q_V δ := ((show q_V d2 = q_V δ by rw [e3]; rfl)).trans rfl
  have v7 := kr_N (kr_r (ad := ad)) (show q_R d2 = q_R δ by rw [e3]; rfl)
  have f8 := cb_12_36 i4 k_a0
  have f9 : (q_I d2 12 36 a0).toInt = (0 : Int) := congrArg Int32.toInt (show q_I d2 12 36 a0 = (0 : Int32) by rw [e3]; exact rI_s)
  refine ok_mono (kl_X12_lays_7 L hN   k_a0 _ (0 : Int32) d2 i4 (show 0 ≤ (x1).toInt by first | assumption | omega) (show (x1).toInt ≤ 3 by first | assumption | omega) (show 0 ≤ (0 : Int) by first | assumption | omega) (show (0 : Int) ≤ 2000 by first | assumption | omega) (show (q_I d2 12 36 a0).toInt = (0 : Int) by first | assumption | omega) (show 2000 - (0 : Int) < _ by omega)) (fun r10 hr11 => ?_)
  obtain ⟨i12, ⟨u14, u15, u16⟩, p13⟩ := hr11
  have u17 := kp_t u5 u14
  have v18 : q_V r10 = q_V δ := (u15).trans v6
  have v19 := kr_t v7 u16
  have f20 := cb_12_36 i12 k_a0
  exact ⟨by assumption, ⟨kp_w (by decide) u17, v18, kr_w (by decide) v19⟩, by first | assumption | omega⟩
set_option maxHeartbeats 4000000 in
theorem k_bX12_inList {ad : List Nat} {h : hp} (L : Lay TLx ad h) {δ0 : dp} {N : Nat} (hN : 10000000 ≤ N) {T : Nat → Int32 → Int32 → Int32 → Int32 → Int32 → dp → Option (Int32 × dp)} {K : Int} (hT : ∀ (a0 : Nat) (x1 : Int32) (x2 : Int32) (x3 : Int32) (x4 : Int32) (x5 : Int32) (δ : dp), q_K h.1 a0 = 12 → 1 ≤ (x3).toInt → (x3).toInt ≤ 16 → 0 ≤ (x4).toInt → (x4).toInt ≤ (x5).toInt → (x5).toInt ≤ (x4).toInt + 2000 → (x5).toInt ≤ (q_I δ 12 36 a0).toInt → (q_I δ 12 36 a0).toInt ≤ 12000 → (1 < (x3).toInt → (q_I δ 12 36 a0).toInt ≤ 10000) → (2 < (x3).toInt → (q_I δ 12 36 a0).toInt ≤ 8000) → (4 < (x3).toInt → (q_I δ 12 36 a0).toInt ≤ 6000) → (8 < (x3).toInt → (q_I δ 12 36 a0).toInt ≤ 4000) → (x3).toInt < K → RI ad h.1 δ0 δ → ok (T a0 x1 x2 x3 x4 x5 δ) (fun r => RI ad h.1 δ0 r.2 ∧ (kp [(12, 36)] δ r.2 ∧ q_V r.2 = q_V δ ∧ kr ad [119] δ r.2) ∧ (q_I r.2 12 36 a0).toInt = (q_I δ 12 36 a0).toInt ∧ 1 ≤ (r.1).toInt ∧ (r.1).toInt ≤ 4 * (x3).toInt - 3)) {a0 : Nat} {x1 : Int32} {x2 : Int32} {x3 : Int32} {x4 : Int32} {x5 : Int32} (k_a0 : q_K h.1 a0 = 12) {δ : dp} (z0 : 2 ≤ (x3).toInt) (z1 : (x3).toInt ≤ 16) (z2 : 0 ≤ (x4).toInt) (z3 : (x4).toInt ≤ (x5).toInt) (z4 : (x5).toInt ≤ (x4).toInt + 2000) (z5 : (x5).toInt ≤ (q_I δ 12 36 a0).toInt) (z6 : (q_I δ 12 36 a0).toInt ≤ 12000) (z7 : 1 < (x3).toInt → (q_I δ 12 36 a0).toInt ≤ 10000) (z8 : 2 < (x3).toInt → (q_I δ 12 36 a0).toInt ≤ 8000) (z9 : 4 < (x3).toInt → (q_I δ 12 36 a0).toInt ≤ 6000) (z10 : 8 < (x3).toInt → (q_I δ 12 36 a0).toInt ≤ 4000) (z11 : (x3).toInt ≤ K) (I : RI ad h.1 δ0 δ) : ok (B_X12_inList N h.1 T a0 x1 x2 x3 x4 x5 δ) (fun r => RI ad h.1 δ0 r.2 ∧ (kp [(12, 36)] δ r.2 ∧ q_V r.2 = q_V δ ∧ kr ad [119] δ r.2) ∧ (q_I r.2 12 36 a0).toInt = (q_I δ 12 36 a0).toInt ∧ 1 ≤ (r.1).toInt ∧ ((x3).toInt % 2 = 0 ∨ (q_I δ 12 12 a0).toInt = 1 → (r.1).toInt ≤ 4 * ((x3).toInt - (x3).toInt / 2) - 3) ∧ ((x3).toInt % 2 = 1 → (q_I δ 12 12 a0).toInt = 0 → (r.1).toInt ≤ 4 * ((x3).toInt - (x3).toInt / 2) - 7)) := by
  unfold B_X12_inList
  have f1 := ti_b x3
  have f2 := ti_b x4
  have f3 := ti_b x5
  have f4 := cb_12_36 I k_a0
  refine ok_bind (k_X12_lowerBits L hN (a0 := a0) (x1 := x3) k_a0 I) (fun r5 hr6 => ?_)
  obtain ⟨i7, p8, p9, p10⟩ := hr6
  try rw [i7]
  have f11 := cb_12_12 I k_a0
  have f12 := ti_b r5.1
  have f13 := ti_b r5.1
  refine ok_bind (k_X12_lists L hN (a0 := a0) (x1 := x4) (x2 := x5) (x3 := r5.1) k_a0 (show 0 ≤ (x4).toInt by first | assumption | omega) (show (x4).toInt ≤ (x5).toInt by first | assumption | omega) (show (x5).toInt ≤ (x4).toInt + 2000 by first | assumption | omega) (show (x5).toInt ≤ (q_I δ 12 36 a0).toInt by first | assumption | omega) (show (q_I δ 12 36 a0).toInt ≤ 12000 by first | assumption | omega) I) (fun r14 hr15 => ?_)
  obtain ⟨i16, ⟨u20, u21, u22⟩, p17, p18, p19⟩ := hr15
  have u23 := kp_t kp_r u20
  have v24 : q_V r14.2 = q_V δ := (u21).trans rfl
  have v25 := kr_t (kr_r (ad := ad)) u22
  have f26 := ti_b r14.1
  have f27 := cb_12_36 i16 k_a0
  have f28 := ti_b r14.1
  first | (have q32 := te_sub x3 r5.1 (by omega) (by omega); obtain ⟨f33, f34, f35⟩ := q32) | (obtain ⟨q32, f33, f34, f35⟩ := ti_sub x3 r5.1)
  refine ok_bind (hT a0 x1 (x2 >>> (r5.1 &&& 31)) (x3 - r5.1) r14.1 (q_I r14.2 12 36 a0) r14.2 k_a0 (show 1 ≤ ((x3 - r5.1)).toInt by first | assumption | omega) (show ((x3 - r5.1)).toInt ≤ 16 by first | assumption | omega) (show 0 ≤ (r14.1).toInt by first | assumption | omega) (show (r14.1).toInt ≤ ((q_I r14.2 12 36 a0)).toInt by first | assumption | omega) (show ((q_I r14.2 12 36 a0)).toInt ≤ (r14.1).toInt + 2000 by first | assumption | omega) (show ((q_I r14.2 12 36 a0)).toInt ≤ (q_I r14.2 12 36 a0).toInt by first | assumption | omega) (show (q_I r14.2 12 36 a0).toInt ≤ 12000 by first | assumption | omega) (show 1 < ((x3 - r5.1)).toInt → (q_I r14.2 12 36 a0).toInt ≤ 10000 by first | assumption | omega) (show 2 < ((x3 - r5.1)).toInt → (q_I r14.2 12 36 a0).toInt ≤ 8000 by first | assumption | omega) (show 4 < ((x3 - r5.1)).toInt → (q_I r14.2 12 36 a0).toInt ≤ 6000 by first | assumption | omega) (show 8 < ((x3 - r5.1)).toInt → (q_I r14.2 12 36 a0).toInt ≤ 4000 by first | assumption | omega) (show ((x3 - r5.1)).toInt < _ by first | assumption | omega) i16) (fun r29 hr30 => ?_)
  obtain ⟨i36, ⟨u40, u41, u42⟩, p37, p38, p39⟩ := hr30
  have u43 := kp_t u23 u40
  have v44 : q_V r29.2 = q_V δ := (u41).trans v24
  have v45 := kr_t v25 u42
  have f46 := cb_12_36 i36 k_a0
  have f47 := ti_b r29.1
  have f48 := ti_b r29.1
  refine ok_bdv (fun d49 e50 => ?_)
  have i51 : RI ad h.1 δ0 d49 := by rw [e50]; exact cs_12_36 L i36 k_a0 (show 0 ≤ r14.1.toInt by omega) (show r14.1.toInt ≤ 14000 by omega)
  have u52 := kp_I u43 e50
  have v53 : q_V d49 = q_V δ := ((show q_V d49 = q_V r29.2 by rw [e50]; rfl)).trans v44
  have v54 := kr_N v45 (show q_R d49 = q_R r29.2 by rw [e50]; rfl)
  have f55 := cb_12_36 i51 k_a0
  have f56 : (q_I d49 12 36 a0).toInt = r14.1.toInt := congrArg Int32.toInt (show q_I d49 12 36 a0 = r14.1 by rw [e50]; exact rI_s)
  exact ok_some (show RI ad h.1 δ0 d49 ∧ (kp [(12, 36)] δ d49 ∧ q_V d49 = q_V δ ∧ kr ad [119] δ d49) ∧ (q_I d49 12 36 a0).toInt = (q_I δ 12 36 a0).toInt ∧ 1 ≤ (r29.1).toInt ∧ ((x3).toInt % 2 = 0 ∨ (q_I δ 12 12 a0).toInt = 1 → (r29.1).toInt ≤ 4 * ((x3).toInt - (x3).toInt / 2) - 3) ∧ ((x3).toInt % 2 = 1 → (q_I δ 12 12 a0).toInt = 0 → (r29.1).toInt ≤ 4 * ((x3).toInt - (x3).toInt / 2) - 7) from ⟨i51, ⟨kp_w (by decide) u52, v53, kr_w (by decide) v54⟩, by first | assumption | omega, by first | assumption | omega, by first | assumption | omega, by first | assumption | omega⟩)
set_option maxHeartbeats 4000000 in
theorem k_bX12_inRoom {ad : List Nat} {h : hp} (L : Lay TLx ad h) {δ0 : dp} {N : Nat} (hN : 10000000 ≤ N) {T : Nat → Int32 → Int32 → Int32 → Int32 → Int32 → dp → Option (Int32 × dp)} {K : Int} (hT : ∀ (a0 : Nat) (x1 : Int32) (x2 : Int32) (x3 : Int32) (x4 : Int32) (x5 : Int32) (δ : dp), q_K h.1 a0 = 12 → 1 ≤ (x3).toInt → (x3).toInt ≤ 16 → 0 ≤ (x4).toInt → (x4).toInt ≤ (x5).toInt → (x5).toInt ≤ (x4).toInt + 2000 → (x5).toInt ≤ (q_I δ 12 36 a0).toInt → (q_I δ 12 36 a0).toInt ≤ 12000 → (1 < (x3).toInt → (q_I δ 12 36 a0).toInt ≤ 10000) → (2 < (x3).toInt → (q_I δ 12 36 a0).toInt ≤ 8000) → (4 < (x3).toInt → (q_I δ 12 36 a0).toInt ≤ 6000) → (8 < (x3).toInt → (q_I δ 12 36 a0).toInt ≤ 4000) → (x3).toInt < K → RI ad h.1 δ0 δ → ok (T a0 x1 x2 x3 x4 x5 δ) (fun r => RI ad h.1 δ0 r.2 ∧ (kp [(12, 36)] δ r.2 ∧ q_V r.2 = q_V δ ∧ kr ad [119] δ r.2) ∧ (q_I r.2 12 36 a0).toInt = (q_I δ 12 36 a0).toInt ∧ 1 ≤ (r.1).toInt ∧ (r.1).toInt ≤ 4 * (x3).toInt - 3)) {a0 : Nat} {x1 : Int32} {x2 : Int32} {x3 : Int32} {x4 : Int32} {x5 : Int32} (k_a0 : q_K h.1 a0 = 12) {δ : dp} (z0 : 2 ≤ (x3).toInt) (z1 : (x3).toInt ≤ 16) (z2 : 0 ≤ (x4).toInt) (z3 : (x4).toInt ≤ (x5).toInt) (z4 : (x5).toInt ≤ (x4).toInt + 2000) (z5 : (x5).toInt ≤ (q_I δ 12 36 a0).toInt) (z6 : (q_I δ 12 36 a0).toInt ≤ 12000) (z7 : 1 < (x3).toInt → (q_I δ 12 36 a0).toInt ≤ 10000) (z8 : 2 < (x3).toInt → (q_I δ 12 36 a0).toInt ≤ 8000) (z9 : 4 < (x3).toInt → (q_I δ 12 36 a0).toInt ≤ 6000) (z10 : 8 < (x3).toInt → (q_I δ 12 36 a0).toInt ≤ 4000) (z11 : (x3).toInt ≤ K) (I : RI ad h.1 δ0 δ) : ok (B_X12_inRoom N h.1 T a0 x1 x2 x3 x4 x5 δ) (fun r => RI ad h.1 δ0 r.2 ∧ (kp [(12, 36)] δ r.2 ∧ q_V r.2 = q_V δ ∧ kr ad [119] δ r.2) ∧ (q_I r.2 12 36 a0).toInt = (q_I δ 12 36 a0).toInt ∧ 1 ≤ (r.1).toInt ∧ ((x3).toInt % 2 = 0 ∨ (q_I δ 12 12 a0).toInt = 1 → (r.1).toInt ≤ 4 * ((x3).toInt / 2) - 3) ∧ ((x3).toInt % 2 = 1 → (q_I δ 12 12 a0).toInt = 0 → (r.1).toInt ≤ 4 * ((x3).toInt / 2) + 1)) := by
  unfold B_X12_inRoom
  have f1 := ti_b x3
  have f2 := ti_b x4
  have f3 := ti_b x5
  have f4 := cb_12_36 I k_a0
  refine ok_bind (k_X12_lowerBits L hN (a0 := a0) (x1 := x3) k_a0 I) (fun r5 hr6 => ?_)
  obtain ⟨i7, p8, p9, p10⟩ := hr6
  try rw [i7]
  have f11 := cb_12_12 I k_a0
  have f12 := ti_b r5.1
  have f13 := ti_b r5.1
  refine ok_bind (k_X12_rooms L hN (a0 := a0) (x1 := x4) (x2 := x5) (x3 := r5.1) (x4 := (x2 >>> (r5.1 &&& 31))) k_a0 (show 0 ≤ (x4).toInt by first | assumption | omega) (show (x4).toInt ≤ (x5).toInt by first | assumption | omega) (show (x5).toInt ≤ (x4).toInt + 2000 by first | assumption | omega) (show (x5).toInt ≤ (q_I δ 12 36 a0).toInt by first | assumption | omega) (show (q_I δ 12 36 a0).toInt ≤ 12000 by first | assumption | omega) I) (fun r14 hr15 => ?_)
  obtain ⟨i16, ⟨u20, u21, u22⟩, p17, p18, p19⟩ := hr15
  have u23 := kp_t kp_r u20
  have v24 : q_V r14.2 = q_V δ := (u21).trans rfl
  have v25 := kr_t (kr_r (ad := ad)) u22
  have f26 := ti_b r14.1
  have f27 := cb_12_36 i16 k_a0
  have f28 := ti_b r14.1
  refine ok_bind (hT a0 x1 (x2 &&& (((1 : Int32) <<< (r5.1 &&& 31)) - (1 : Int32))) r5.1 r14.1 (q_I r14.2 12 36 a0) r14.2 k_a0 (show 1 ≤ (r5.1).toInt by first | assumption | omega) (show (r5.1).toInt ≤ 16 by first | assumption | omega) (show 0 ≤ (r14.1).toInt by first | assumption | omega) (show (r14.1).toInt ≤ ((q_I r14.2 12 36 a0)).toInt by first | assumption | omega) (show ((q_I r14.2 12 36 a0)).toInt ≤ (r14.1).toInt + 2000 by first | assumption | omega) (show ((q_I r14.2 12 36 a0)).toInt ≤ (q_I r14.2 12 36 a0).toInt by first | assumption | omega) (show (q_I r14.2 12 36 a0).toInt ≤ 12000 by first | assumption | omega) (show 1 < (r5.1).toInt → (q_I r14.2 12 36 a0).toInt ≤ 10000 by first | assumption | omega) (show 2 < (r5.1).toInt → (q_I r14.2 12 36 a0).toInt ≤ 8000 by first | assumption | omega) (show 4 < (r5.1).toInt → (q_I r14.2 12 36 a0).toInt ≤ 6000 by first | assumption | omega) (show 8 < (r5.1).toInt → (q_I r14.2 12 36 a0).toInt ≤ 4000 by first | assumption | omega) (show (r5.1).toInt < _ by first | assumption | omega) i16) (fun r29 hr30 => ?_)
  obtain ⟨i31, ⟨u35, u36, u37⟩, p32, p33, p34⟩ := hr30
  have u38 := kp_t u23 u35
  have v39 : q_V r29.2 = q_V δ := (u36).trans v24
  have v40 := kr_t v25 u37
  have f41 := cb_12_36 i31 k_a0
  have f42 := ti_b r29.1
  have f43 := ti_b r29.1
  refine ok_bdv (fun d44 e45 => ?_)
  have i46 : RI ad h.1 δ0 d44 := by rw [e45]; exact cs_12_36 L i31 k_a0 (show 0 ≤ r14.1.toInt by omega) (show r14.1.toInt ≤ 14000 by omega)
  have u47 := kp_I u38 e45
  have v48 : q_V d44 = q_V δ := ((show q_V d44 = q_V r29.2 by rw [e45]; rfl)).trans v39
  have v49 := kr_N v40 (show q_R d44 = q_R r29.2 by rw [e45]; rfl)
  have f50 := cb_12_36 i46 k_a0
  have f51 : (q_I d44 12 36 a0).toInt = r14.1.toInt := congrArg Int32.toInt (show q_I d44 12 36 a0 = r14.1 by rw [e45]; exact rI_s)
  exact ok_some (show RI ad h.1 δ0 d44 ∧ (kp [(12, 36)] δ d44 ∧ q_V d44 = q_V δ ∧ kr ad [119] δ d44) ∧ (q_I d44 12 36 a0).toInt = (q_I δ 12 36 a0).toInt ∧ 1 ≤ (r29.1).toInt ∧ ((x3).toInt % 2 = 0 ∨ (q_I δ 12 12 a0).toInt = 1 → (r29.1).toInt ≤ 4 * ((x3).toInt / 2) - 3) ∧ ((x3).toInt % 2 = 1 → (q_I δ 12 12 a0).toInt = 0 → (r29.1).toInt ≤ 4 * ((x3).toInt / 2) + 1) from ⟨i46, ⟨kp_w (by decide) u47, v48, kr_w (by decide) v49⟩, by first | assumption | omega, by first | assumption | omega, by first | assumption | omega, by first | assumption | omega⟩)
set_option maxHeartbeats 4000000 in
theorem kj_X12_touchPut_64 {ad : List Nat} {h : hp} (L : Lay TLx ad h) {δ0 : dp} {N : Nat} (hN : 10000000 ≤ N) {T : Nat → Int32 → Int32 → Int32 → Int32 → Int32 → dp → Option (Int32 × dp)} {K : Int} (hT : ∀ (a0 : Nat) (x1 : Int32) (x2 : Int32) (x3 : Int32) (x4 : Int32) (x5 : Int32) (δ : dp), q_K h.1 a0 = 12 → 1 ≤ (x3).toInt → (x3).toInt ≤ 16 → 0 ≤ (x4).toInt → (x4).toInt ≤ (x5).toInt → (x5).toInt ≤ (x4).toInt + 2000 → (x5).toInt ≤ (q_I δ 12 36 a0).toInt → (q_I δ 12 36 a0).toInt ≤ 12000 → (1 < (x3).toInt → (q_I δ 12 36 a0).toInt ≤ 10000) → (2 < (x3).toInt → (q_I δ 12 36 a0).toInt ≤ 8000) → (4 < (x3).toInt → (q_I δ 12 36 a0).toInt ≤ 6000) → (8 < (x3).toInt → (q_I δ 12 36 a0).toInt ≤ 4000) → (x3).toInt < K → RI ad h.1 δ0 δ → ok (T a0 x1 x2 x3 x4 x5 δ) (fun r => RI ad h.1 δ0 r.2 ∧ (kp [(12, 36)] δ r.2 ∧ q_V r.2 = q_V δ ∧ kr ad [119] δ r.2) ∧ (q_I r.2 12 36 a0).toInt = (q_I δ 12 36 a0).toInt ∧ 1 ≤ (r.1).toInt ∧ (r.1).toInt ≤ 4 * (x3).toInt - 3)) {a0 : Nat} {x1 : Int32} {x2 : Int32} {x3 : Int32} {x4 : Int32} {xs0 : Int32} (k_a0 : q_K h.1 a0 = 12) {δ : dp} (z0 : 2 ≤ (x2).toInt) (z1 : (x2).toInt ≤ 16) (z2 : 0 ≤ (x3).toInt) (z3 : (x3).toInt ≤ (x4).toInt) (z4 : (x4).toInt ≤ (x3).toInt + 2000) (z5 : (x4).toInt ≤ (q_I δ 12 36 a0).toInt) (z6 : (q_I δ 12 36 a0).toInt ≤ 12000) (z7 : 1 < (x2).toInt → (q_I δ 12 36 a0).toInt ≤ 10000) (z8 : 2 < (x2).toInt → (q_I δ 12 36 a0).toInt ≤ 8000) (z9 : 4 < (x2).toInt → (q_I δ 12 36 a0).toInt ≤ 6000) (z10 : 8 < (x2).toInt → (q_I δ 12 36 a0).toInt ≤ 4000) (z11 : (x2).toInt ≤ K) (z12 : (x3).toInt < (x4).toInt) (I : RI ad h.1 δ0 δ) : ok (J_X12_touchPut_64 N h.1 T a0 x1 x2 x3 x4 xs0 δ) (fun r => RI ad h.1 δ0 r.2 ∧ (kp [(12, 36)] δ r.2 ∧ q_V r.2 = q_V δ ∧ kr ad [119] δ r.2) ∧ (q_I r.2 12 36 a0).toInt = (q_I δ 12 36 a0).toInt ∧ 1 ≤ (r.1).toInt ∧ (r.1).toInt ≤ 4 * (x2).toInt - 3) := by
  unfold J_X12_touchPut_64
  have f1 := ti_b x2
  have f2 := ti_b x3
  have f3 := ti_b x4
  have f4 := cb_12_36 I k_a0
  refine ok_bind (k_X12_roomMany L hN (a0 := a0) (x1 := xs0) (x2 := x2) (x3 := x3) (x4 := x4) k_a0 (show 0 ≤ (x3).toInt by first | assumption | omega) (show (x3).toInt ≤ (x4).toInt by first | assumption | omega) (show (x4).toInt ≤ 14000 by first | assumption | omega) I) (fun r5 hr6 => ?_)
  have i7 := hr6
  try rw [i7]
  have f8 := ti_b r5.1
  refine ok_ite (fun h9 => ?_) (fun h9 => ?_)
  · have c10 : r5.1.toInt = (0 : Int) := o_eq h9
    refine ok_bind (k_bX12_inList L hN (a0 := a0) (x1 := (0 : Int32)) (x2 := xs0) (x3 := x2) (x4 := x3) (x5 := x4) hT k_a0 (show 2 ≤ (x2).toInt by first | assumption | omega) (show (x2).toInt ≤ 16 by first | assumption | omega) (show 0 ≤ (x3).toInt by first | assumption | omega) (show (x3).toInt ≤ (x4).toInt by first | assumption | omega) (show (x4).toInt ≤ (x3).toInt + 2000 by first | assumption | omega) (show (x4).toInt ≤ (q_I δ 12 36 a0).toInt by first | assumption | omega) (show (q_I δ 12 36 a0).toInt ≤ 12000 by first | assumption | omega) (show 1 < (x2).toInt → (q_I δ 12 36 a0).toInt ≤ 10000 by first | assumption | omega) (show 2 < (x2).toInt → (q_I δ 12 36 a0).toInt ≤ 8000 by first | assumption | omega) (show 4 < (x2).toInt → (q_I δ 12 36 a0).toInt ≤ 6000 by first | assumption | omega) (show 8 < (x2).toInt → (q_I δ 12 36 a0).toInt ≤ 4000 by first | assumption | omega) (show (x2).toInt ≤ K by first | assumption | omega) I) (fun r11 hr12 => ?_)
    obtain ⟨i13, ⟨u18, u19, u20⟩, p14, p15, p16, p17⟩ := hr12
    have u21 := kp_t kp_r u18
    have v22 : q_V r11.2 = q_V δ := (u19).trans rfl
    have v23 := kr_t (kr_r (ad := ad)) u20
    have f24 := cb_12_36 i13 k_a0
    have f25 := ti_b r11.1
    have f26 := cb_12_12 I k_a0
    have f27 := ti_b r11.1
    unfold J_X12_touchPut_108
    first | (have q29 := te_cadd (c := 2) (n := 2) rfl r11.1 (by omega) (by omega); obtain ⟨f30, f31, f32⟩ := q29) | (obtain ⟨q29, f30, f31, f32⟩ := ti_cadd (c := 2) (n := 2) rfl r11.1)
    exact ok_some (show RI ad h.1 δ0 r11.2 ∧ (kp [(12, 36)] δ r11.2 ∧ q_V r11.2 = q_V δ ∧ kr ad [119] δ r11.2) ∧ (q_I r11.2 12 36 a0).toInt = (q_I δ 12 36 a0).toInt ∧ 1 ≤ (((2 : Int32) + r11.1)).toInt ∧ (((2 : Int32) + r11.1)).toInt ≤ 4 * (x2).toInt - 3 from ⟨i13, ⟨kp_w (by decide) u21, v22, kr_w (by decide) v23⟩, by first | assumption | omega, by first | assumption | omega, by first | assumption | omega⟩)
  · have c33 : r5.1.toInt ≠ (0 : Int) := o_ne h9
    refine ok_bind (k_bX12_inRoom L hN (a0 := a0) (x1 := (0 : Int32)) (x2 := xs0) (x3 := x2) (x4 := x3) (x5 := x4) hT k_a0 (show 2 ≤ (x2).toInt by first | assumption | omega) (show (x2).toInt ≤ 16 by first | assumption | omega) (show 0 ≤ (x3).toInt by first | assumption | omega) (show (x3).toInt ≤ (x4).toInt by first | assumption | omega) (show (x4).toInt ≤ (x3).toInt + 2000 by first | assumption | omega) (show (x4).toInt ≤ (q_I δ 12 36 a0).toInt by first | assumption | omega) (show (q_I δ 12 36 a0).toInt ≤ 12000 by first | assumption | omega) (show 1 < (x2).toInt → (q_I δ 12 36 a0).toInt ≤ 10000 by first | assumption | omega) (show 2 < (x2).toInt → (q_I δ 12 36 a0).toInt ≤ 8000 by first | assumption | omega) (show 4 < (x2).toInt → (q_I δ 12 36 a0).toInt ≤ 6000 by first | assumption | omega) (show 8 < (x2).toInt → (q_I δ 12 36 a0).toInt ≤ 4000 by first | assumption | omega) (show (x2).toInt ≤ K by first | assumption | omega) I) (fun r34 hr35 => ?_)
    obtain ⟨i36, ⟨u41, u42, u43⟩, p37, p38, p39, p40⟩ := hr35
    have u44 := kp_t kp_r u41
    have v45 : q_V r34.2 = q_V δ := (u42).trans rfl
    have v46 := kr_t (kr_r (ad := ad)) u43
    have f47 := cb_12_36 i36 k_a0
    have f48 := ti_b r34.1
    have f49 := cb_12_12 I k_a0
    have f50 := ti_b r34.1
    unfold J_X12_touchPut_108
    first | (have q52 := te_cadd (c := 1) (n := 1) rfl r34.1 (by omega) (by omega); obtain ⟨f53, f54, f55⟩ := q52) | (obtain ⟨q52, f53, f54, f55⟩ := ti_cadd (c := 1) (n := 1) rfl r34.1)
    exact ok_some (show RI ad h.1 δ0 r34.2 ∧ (kp [(12, 36)] δ r34.2 ∧ q_V r34.2 = q_V δ ∧ kr ad [119] δ r34.2) ∧ (q_I r34.2 12 36 a0).toInt = (q_I δ 12 36 a0).toInt ∧ 1 ≤ (((1 : Int32) + r34.1)).toInt ∧ (((1 : Int32) + r34.1)).toInt ≤ 4 * (x2).toInt - 3 from ⟨i36, ⟨kp_w (by decide) u44, v45, kr_w (by decide) v46⟩, by first | assumption | omega, by first | assumption | omega, by first | assumption | omega⟩)
set_option maxHeartbeats 4000000 in
theorem k_bX12_touchPut {ad : List Nat} {h : hp} (L : Lay TLx ad h) {δ0 : dp} {N : Nat} (hN : 10000000 ≤ N) {T : Nat → Int32 → Int32 → Int32 → Int32 → Int32 → dp → Option (Int32 × dp)} {K : Int} (hT : ∀ (a0 : Nat) (x1 : Int32) (x2 : Int32) (x3 : Int32) (x4 : Int32) (x5 : Int32) (δ : dp), q_K h.1 a0 = 12 → 1 ≤ (x3).toInt → (x3).toInt ≤ 16 → 0 ≤ (x4).toInt → (x4).toInt ≤ (x5).toInt → (x5).toInt ≤ (x4).toInt + 2000 → (x5).toInt ≤ (q_I δ 12 36 a0).toInt → (q_I δ 12 36 a0).toInt ≤ 12000 → (1 < (x3).toInt → (q_I δ 12 36 a0).toInt ≤ 10000) → (2 < (x3).toInt → (q_I δ 12 36 a0).toInt ≤ 8000) → (4 < (x3).toInt → (q_I δ 12 36 a0).toInt ≤ 6000) → (8 < (x3).toInt → (q_I δ 12 36 a0).toInt ≤ 4000) → (x3).toInt < K → RI ad h.1 δ0 δ → ok (T a0 x1 x2 x3 x4 x5 δ) (fun r => RI ad h.1 δ0 r.2 ∧ (kp [(12, 36)] δ r.2 ∧ q_V r.2 = q_V δ ∧ kr ad [119] δ r.2) ∧ (q_I r.2 12 36 a0).toInt = (q_I δ 12 36 a0).toInt ∧ 1 ≤ (r.1).toInt ∧ (r.1).toInt ≤ 4 * (x3).toInt - 3)) {a0 : Nat} {x1 : Int32} {x2 : Int32} {x3 : Int32} {x4 : Int32} (k_a0 : q_K h.1 a0 = 12) {δ : dp} (z0 : 2 ≤ (x2).toInt) (z1 : (x2).toInt ≤ 16) (z2 : 0 ≤ (x3).toInt) (z3 : (x3).toInt ≤ (x4).toInt) (z4 : (x4).toInt ≤ (x3).toInt + 2000) (z5 : (x4).toInt ≤ (q_I δ 12 36 a0).toInt) (z6 : (q_I δ 12 36 a0).toInt ≤ 12000) (z7 : 1 < (x2).toInt → (q_I δ 12 36 a0).toInt ≤ 10000) (z8 : 2 < (x2).toInt → (q_I δ 12 36 a0).toInt ≤ 8000) (z9 : 4 < (x2).toInt → (q_I δ 12 36 a0).toInt ≤ 6000) (z10 : 8 < (x2).toInt → (q_I δ 12 36 a0).toInt ≤ 4000) (z11 : (x2).toInt ≤ K) (z12 : (x3).toInt < (x4).toInt) (I : RI ad h.1 δ0 δ) : ok (B_X12_touchPut N h.1 T a0 x1 x2 x3 x4 δ) (fun r => RI ad h.1 δ0 r.2 ∧ (kp [(12, 36)] δ r.2 ∧ q_V r.2 = q_V δ ∧ kr ad [119] δ r.2) ∧ (q_I r.2 12 36 a0).toInt = (q_I δ 12 36 a0).toInt ∧ 1 ≤ (r.1).toInt ∧ (r.1).toInt ≤ 4 * (x2).toInt - 3) := by
  unfold B_X12_touchPut
  have f1 := ti_b x2
  have f2 := ti_b x3
  have f3 := ti_b x4
  have f4 := cb_12_36 I k_a0
  obtain ⟨b5, o6, k7, n8, w9⟩ := gO_12_35 L k_a0
  obtain rfl := gS_12_35 L k_a0 o6
  refine ok_at o6 ?_
  have t10 := ti_tn x3
  refine ok_gd (fun hc11 => ?_) ?_
  · rcases hc11 with hc11 | hc11
    · have c12 : x3.toInt < (0 : Int) := o_lt hc11
      omega
    · omega
  have f15 := ti_b (q_R δ (Ad ad 119) x3.toNatClampNeg)
  refine ok_biv (fun vx13 e14 => ?_)
  have f16 : vx13.toInt = (q_R δ (Ad ad 119) x3.toNatClampNeg).toInt := congrArg Int32.toInt e14
  refine ok_at o6 ?_
  first | (have q18 := te_subc (c := 1) (n := 1) rfl x4 (by omega) (by omega); obtain ⟨f19, f20, f21⟩ := q18) | (obtain ⟨q18, f19, f20, f21⟩ := ti_subc (c := 1) (n := 1) rfl x4)
  have t22 := ti_tn (x4 - (1 : Int32))
  refine ok_gd (fun hc23 => ?_) ?_
  · rcases hc23 with hc23 | hc23
    · have c24 : (x4 - (1 : Int32)).toInt < (0 : Int) := o_lt hc23
      omega
    · omega
  have f27 := ti_b (q_R δ (Ad ad 119) (x4 - (1 : Int32)).toNatClampNeg)
  refine ok_biv (fun vx25 e26 => ?_)
  have f28 : vx25.toInt = (q_R δ (Ad ad 119) (x4 - (1 : Int32)).toNatClampNeg).toInt := congrArg Int32.toInt e26
  have f29 := ti_b x1
  refine ok_ite (fun h30 => ?_) (fun h30 => ?_)
  · have c31 : x1.toInt = vx13.toInt := o_eq h30
    unfold J_X12_touchPut_39
    exact ok_some (show RI ad h.1 δ0 δ ∧ (kp [(12, 36)] δ δ ∧ q_V δ = q_V δ ∧ kr ad [119] δ δ) ∧ (q_I δ 12 36 a0).toInt = (q_I δ 12 36 a0).toInt ∧ 1 ≤ (1 : Int) ∧ (1 : Int) ≤ 4 * (x2).toInt - 3 from ⟨I, ⟨kp_w (by decide) kp_r, rfl, kr_w (by decide) (kr_r (ad := ad))⟩, by first | assumption | omega, by first | assumption | omega, by first | assumption | omega⟩)
  · have c32 : x1.toInt ≠ vx13.toInt := o_ne h30
    refine ok_ite (fun h33 => ?_) (fun h33 => ?_)
    · have c34 : x1.toInt = vx25.toInt := o_eq h33
      unfold J_X12_touchPut_39
      exact ok_some (show RI ad h.1 δ0 δ ∧ (kp [(12, 36)] δ δ ∧ q_V δ = q_V δ ∧ kr ad [119] δ δ) ∧ (q_I δ 12 36 a0).toInt = (q_I δ 12 36 a0).toInt ∧ 1 ≤ (1 : Int) ∧ (1 : Int) ≤ 4 * (x2).toInt - 3 from ⟨I, ⟨kp_w (by decide) kp_r, rfl, kr_w (by decide) (kr_r (ad := ad))⟩, by first | assumption | omega, by first | assumption | omega, by first | assumption | omega⟩)
    · have c35 : x1.toInt ≠ vx25.toInt := o_ne h33
      first | (have q37 := te_sub x4 x3 (by omega) (by omega); obtain ⟨f38, f39, f40⟩ := q37) | (obtain ⟨q37, f38, f39, f40⟩ := ti_sub x4 x3)
      refine ok_ite (fun h41 => ?_) (fun h41 => ?_)
      · have c42 : (x4 - x3).toInt = (1 : Int) := o_eq h41
        unfold J_X12_touchPut_39
        exact ok_some (show RI ad h.1 δ0 δ ∧ (kp [(12, 36)] δ δ ∧ q_V δ = q_V δ ∧ kr ad [119] δ δ) ∧ (q_I δ 12 36 a0).toInt = (q_I δ 12 36 a0).toInt ∧ 1 ≤ (1 : Int) ∧ (1 : Int) ≤ 4 * (x2).toInt - 3 from ⟨I, ⟨kp_w (by decide) kp_r, rfl, kr_w (by decide) (kr_r (ad := ad))⟩, by first | assumption | omega, by first | assumption | omega, by first | assumption | omega⟩)
      · have c43 : (x4 - x3).toInt ≠ (1 : Int) := o_ne h41
        refine ok_ite (fun h44 => ?_) (fun h44 => ?_)
        · have c45 : vx13.toInt ≤ x1.toInt := o_le h44
          refine ok_ite (fun h46 => ?_) (fun h46 => ?_)
          · have c47 : x1.toInt ≤ vx25.toInt := o_le h46
            refine ok_mono (kj_X12_touchPut_64 L hN (a0 := a0) (x1 := x1) (x2 := x2) (x3 := x3) (x4 := x4) (xs0 := x1) hT k_a0 (show 2 ≤ (x2).toInt by first | assumption | omega) (show (x2).toInt ≤ 16 by first | assumption | omega) (show 0 ≤ (x3).toInt by first | assumption | omega) (show (x3).toInt ≤ (x4).toInt by first | assumption | omega) (show (x4).toInt ≤ (x3).toInt + 2000 by first | assumption | omega) (show (x4).toInt ≤ (q_I δ 12 36 a0).toInt by first | assumption | omega) (show (q_I δ 12 36 a0).toInt ≤ 12000 by first | assumption | omega) (show 1 < (x2).toInt → (q_I δ 12 36 a0).toInt ≤ 10000 by first | assumption | omega) (show 2 < (x2).toInt → (q_I δ 12 36 a0).toInt ≤ 8000 by first | assumption | omega) (show 4 < (x2).toInt → (q_I δ 12 36 a0).toInt ≤ 6000 by first | assumption | omega) (show 8 < (x2).toInt → (q_I δ 12 36 a0).toInt ≤ 4000 by first | assumption | omega) (show (x2).toInt ≤ K by first | assumption | omega) (show (x3).toInt < (x4).toInt by first | assumption | omega) I) (fun r48 hr49 => ?_)
            obtain ⟨i50, ⟨u54, u55, u56⟩, p51, p52, p53⟩ := hr49
            have u57 := kp_t kp_r u54
            have v58 : q_V r48.2 = q_V δ := (u55).trans rfl
            have v59 := kr_t (kr_r (ad := ad)) u56
            have f60 := cb_12_36 i50 k_a0
            have f61 := ti_b r48.1
            have f62 := ti_b r48.1
            exact ⟨by assumption, ⟨kp_w (by decide) u57, v58, kr_w (by decide) v59⟩, by first | assumption | omega, by first | assumption | omega, by first | assumption | omega⟩
          · have c63 : vx25.toInt < x1.toInt := o_nle h46
            refine ok_mono (kj_X12_touchPut_64 L hN (a0 := a0) (x1 := x1) (x2 := x2) (x3 := x3) (x4 := x4) (xs0 := vx25) hT k_a0 (show 2 ≤ (x2).toInt by first | assumption | omega) (show (x2).toInt ≤ 16 by first | assumption | omega) (show 0 ≤ (x3).toInt by first | assumption | omega) (show (x3).toInt ≤ (x4).toInt by first | assumption | omega) (show (x4).toInt ≤ (x3).toInt + 2000 by first | assumption | omega) (show (x4).toInt ≤ (q_I δ 12 36 a0).toInt by first | assumption | omega) (show (q_I δ 12 36 a0).toInt ≤ 12000 by first | assumption | omega) (show 1 < (x2).toInt → (q_I δ 12 36 a0).toInt ≤ 10000 by first | assumption | omega) (show 2 < (x2).toInt → (q_I δ 12 36 a0).toInt ≤ 8000 by first | assumption | omega) (show 4 < (x2).toInt → (q_I δ 12 36 a0).toInt ≤ 6000 by first | assumption | omega) (show 8 < (x2).toInt → (q_I δ 12 36 a0).toInt ≤ 4000 by first | assumption | omega) (show (x2).toInt ≤ K by first | assumption | omega) (show (x3).toInt < (x4).toInt by first | assumption | omega) I) (fun r64 hr65 => ?_)
            obtain ⟨i66, ⟨u70, u71, u72⟩, p67, p68, p69⟩ := hr65
            have u73 := kp_t kp_r u70
            have v74 : q_V r64.2 = q_V δ := (u71).trans rfl
            have v75 := kr_t (kr_r (ad := ad)) u72
            have f76 := cb_12_36 i66 k_a0
            have f77 := ti_b r64.1
            have f78 := ti_b r64.1
            exact ⟨by assumption, ⟨kp_w (by decide) u73, v74, kr_w (by decide) v75⟩, by first | assumption | omega, by first | assumption | omega, by first | assumption | omega⟩
        · have c79 : x1.toInt < vx13.toInt := o_nle h44
          refine ok_mono (kj_X12_touchPut_64 L hN (a0 := a0) (x1 := x1) (x2 := x2) (x3 := x3) (x4 := x4) (xs0 := vx13) hT k_a0 (show 2 ≤ (x2).toInt by first | assumption | omega) (show (x2).toInt ≤ 16 by first | assumption | omega) (show 0 ≤ (x3).toInt by first | assumption | omega) (show (x3).toInt ≤ (x4).toInt by first | assumption | omega) (show (x4).toInt ≤ (x3).toInt + 2000 by first | assumption | omega) (show (x4).toInt ≤ (q_I δ 12 36 a0).toInt by first | assumption | omega) (show (q_I δ 12 36 a0).toInt ≤ 12000 by first | assumption | omega) (show 1 < (x2).toInt → (q_I δ 12 36 a0).toInt ≤ 10000 by first | assumption | omega) (show 2 < (x2).toInt → (q_I δ 12 36 a0).toInt ≤ 8000 by first | assumption | omega) (show 4 < (x2).toInt → (q_I δ 12 36 a0).toInt ≤ 6000 by first | assumption | omega) (show 8 < (x2).toInt → (q_I δ 12 36 a0).toInt ≤ 4000 by first | assumption | omega) (show (x2).toInt ≤ K by first | assumption | omega) (show (x3).toInt < (x4).toInt by first | assumption | omega) I) (fun r80 hr81 => ?_)
          obtain ⟨i82, ⟨u86, u87, u88⟩, p83, p84, p85⟩ := hr81
          have u89 := kp_t kp_r u86
          have v90 : q_V r80.2 = q_V δ := (u87).trans rfl
          have v91 := kr_t (kr_r (ad := ad)) u88
          have f92 := cb_12_36 i82 k_a0
          have f93 := ti_b r80.1
          have f94 := ti_b r80.1
          exact ⟨by assumption, ⟨kp_w (by decide) u89, v90, kr_w (by decide) v91⟩, by first | assumption | omega, by first | assumption | omega, by first | assumption | omega⟩
set_option maxHeartbeats 4000000 in
theorem kj_X12_touchDrop_121 {ad : List Nat} {h : hp} (L : Lay TLx ad h) {δ0 : dp} {N : Nat} (hN : 10000000 ≤ N) {T : Nat → Int32 → Int32 → Int32 → Int32 → Int32 → dp → Option (Int32 × dp)} {K : Int} (hT : ∀ (a0 : Nat) (x1 : Int32) (x2 : Int32) (x3 : Int32) (x4 : Int32) (x5 : Int32) (δ : dp), q_K h.1 a0 = 12 → 1 ≤ (x3).toInt → (x3).toInt ≤ 16 → 0 ≤ (x4).toInt → (x4).toInt ≤ (x5).toInt → (x5).toInt ≤ (x4).toInt + 2000 → (x5).toInt ≤ (q_I δ 12 36 a0).toInt → (q_I δ 12 36 a0).toInt ≤ 12000 → (1 < (x3).toInt → (q_I δ 12 36 a0).toInt ≤ 10000) → (2 < (x3).toInt → (q_I δ 12 36 a0).toInt ≤ 8000) → (4 < (x3).toInt → (q_I δ 12 36 a0).toInt ≤ 6000) → (8 < (x3).toInt → (q_I δ 12 36 a0).toInt ≤ 4000) → (x3).toInt < K → RI ad h.1 δ0 δ → ok (T a0 x1 x2 x3 x4 x5 δ) (fun r => RI ad h.1 δ0 r.2 ∧ (kp [(12, 36)] δ r.2 ∧ q_V r.2 = q_V δ ∧ kr ad [119] δ r.2) ∧ (q_I r.2 12 36 a0).toInt = (q_I δ 12 36 a0).toInt ∧ 1 ≤ (r.1).toInt ∧ (r.1).toInt ≤ 4 * (x3).toInt - 3)) {a0 : Nat} {x1 : Int32} {x2 : Int32} {x3 : Int32} {x4 : Int32} {xs0 : Int32} {x8v : Int32} (k_a0 : q_K h.1 a0 = 12) {δ : dp} (z0 : 2 ≤ (x2).toInt) (z1 : (x2).toInt ≤ 16) (z2 : 0 ≤ (x3).toInt) (z3 : (x3).toInt ≤ (x4).toInt) (z4 : (x4).toInt ≤ (x3).toInt + 2000) (z5 : (x4).toInt ≤ (q_I δ 12 36 a0).toInt) (z6 : (q_I δ 12 36 a0).toInt ≤ 12000) (z7 : 1 < (x2).toInt → (q_I δ 12 36 a0).toInt ≤ 10000) (z8 : 2 < (x2).toInt → (q_I δ 12 36 a0).toInt ≤ 8000) (z9 : 4 < (x2).toInt → (q_I δ 12 36 a0).toInt ≤ 6000) (z10 : 8 < (x2).toInt → (q_I δ 12 36 a0).toInt ≤ 4000) (z11 : (x2).toInt ≤ K) (z12 : (x3).toInt < (x4).toInt) (z13 : (x8v).toInt = 1 ∨ (x8v).toInt = 3) (I : RI ad h.1 δ0 δ) : ok (J_X12_touchDrop_121 N h.1 T a0 x1 x2 x3 x4 xs0 x8v δ) (fun r => RI ad h.1 δ0 r.2 ∧ (kp [(12, 36)] δ r.2 ∧ q_V r.2 = q_V δ ∧ kr ad [119] δ r.2) ∧ (q_I r.2 12 36 a0).toInt = (q_I δ 12 36 a0).toInt ∧ 1 ≤ (r.1).toInt ∧ (r.1).toInt ≤ 4 * (x2).toInt - 3) := by
  unfold J_X12_touchDrop_121
  have f1 := ti_b x2
  have f2 := ti_b x3
  have f3 := ti_b x4
  have f4 := cb_12_36 I k_a0
  have f5 := ti_b x8v
  refine ok_bind (k_X12_roomMany L hN (a0 := a0) (x1 := xs0) (x2 := x2) (x3 := x3) (x4 := x4) k_a0 (show 0 ≤ (x3).toInt by first | assumption | omega) (show (x3).toInt ≤ (x4).toInt by first | assumption | omega) (show (x4).toInt ≤ 14000 by first | assumption | omega) I) (fun r6 hr7 => ?_)
  have i8 := hr7
  try rw [i8]
  have f9 := ti_b r6.1
  refine ok_ite (fun h10 => ?_) (fun h10 => ?_)
  · have c11 : r6.1.toInt = (0 : Int) := o_eq h10
    exact ok_some (show RI ad h.1 δ0 δ ∧ (kp [(12, 36)] δ δ ∧ q_V δ = q_V δ ∧ kr ad [119] δ δ) ∧ (q_I δ 12 36 a0).toInt = (q_I δ 12 36 a0).toInt ∧ 1 ≤ (x8v).toInt ∧ (x8v).toInt ≤ 4 * (x2).toInt - 3 from ⟨I, ⟨kp_w (by decide) kp_r, rfl, kr_w (by decide) (kr_r (ad := ad))⟩, by first | assumption | omega, by first | assumption | omega, by first | assumption | omega⟩)
  · have c12 : r6.1.toInt ≠ (0 : Int) := o_ne h10
    refine ok_ite (fun h13 => ?_) (fun h13 => ?_)
    · have c14 : r6.1.toInt = (1 : Int) := o_eq h13
      refine ok_bind (k_X12_isInside L hN (a0 := a0) (x1 := xs0) (x2 := x3) (x3 := x4) k_a0 (show 0 ≤ (x3).toInt by first | assumption | omega) (show (x3).toInt ≤ (x4).toInt by first | assumption | omega) (show (x4).toInt ≤ 14000 by first | assumption | omega) I) (fun r15 hr16 => ?_)
      obtain ⟨i17, p18⟩ := hr16
      try rw [i17]
      have f19 := bo_l p18
      have f20 := ti_b r15.1
      refine ok_ite (fun h21 => ?_) (fun h21 => ?_)
      · have c22 : r15.1.toInt = (0 : Int) := o_eq h21
        unfold J_X12_touchDrop_165
        unfold J_X12_touchDrop_166
        refine ok_bind (k_bX12_inRoom L hN (a0 := a0) (x1 := (1 : Int32)) (x2 := xs0) (x3 := x2) (x4 := x3) (x5 := x4) hT k_a0 (show 2 ≤ (x2).toInt by first | assumption | omega) (show (x2).toInt ≤ 16 by first | assumption | omega) (show 0 ≤ (x3).toInt by first | assumption | omega) (show (x3).toInt ≤ (x4).toInt by first | assumption | omega) (show (x4).toInt ≤ (x3).toInt + 2000 by first | assumption | omega) (show (x4).toInt ≤ (q_I δ 12 36 a0).toInt by first | assumption | omega) (show (q_I δ 12 36 a0).toInt ≤ 12000 by first | assumption | omega) (show 1 < (x2).toInt → (q_I δ 12 36 a0).toInt ≤ 10000 by first | assumption | omega) (show 2 < (x2).toInt → (q_I δ 12 36 a0).toInt ≤ 8000 by first | assumption | omega) (show 4 < (x2).toInt → (q_I δ 12 36 a0).toInt ≤ 6000 by first | assumption | omega) (show 8 < (x2).toInt → (q_I δ 12 36 a0).toInt ≤ 4000 by first | assumption | omega) (show (x2).toInt ≤ K by first | assumption | omega) I) (fun r23 hr24 => ?_)
        obtain ⟨i25, ⟨u30, u31, u32⟩, p26, p27, p28, p29⟩ := hr24
        have u33 := kp_t kp_r u30
        have v34 : q_V r23.2 = q_V δ := (u31).trans rfl
        have v35 := kr_t (kr_r (ad := ad)) u32
        have f36 := cb_12_36 i25 k_a0
        have f37 := ti_b r23.1
        have f38 := cb_12_12 I k_a0
        have f39 := ti_b r23.1
        refine ok_ite (fun h40 => ?_) (fun h40 => ?_)
        · have c41 : (0 : Int) = (0 : Int) := o_eq h40
          unfold J_X12_touchDrop_202
          first | (have q43 := te_add x8v r23.1 (by omega) (by omega); obtain ⟨f44, f45, f46⟩ := q43) | (obtain ⟨q43, f44, f45, f46⟩ := ti_add x8v r23.1)
          first | (have q48 := te_addc (c := 0) (n := 0) rfl (x8v + r23.1) (by omega) (by omega); obtain ⟨f49, f50, f51⟩ := q48) | (obtain ⟨q48, f49, f50, f51⟩ := ti_addc (c := 0) (n := 0) rfl (x8v + r23.1))
          exact ok_some (show RI ad h.1 δ0 r23.2 ∧ (kp [(12, 36)] δ r23.2 ∧ q_V r23.2 = q_V δ ∧ kr ad [119] δ r23.2) ∧ (q_I r23.2 12 36 a0).toInt = (q_I δ 12 36 a0).toInt ∧ 1 ≤ (((x8v + r23.1) + (0 : Int32))).toInt ∧ (((x8v + r23.1) + (0 : Int32))).toInt ≤ 4 * (x2).toInt - 3 from ⟨i25, ⟨kp_w (by decide) u33, v34, kr_w (by decide) v35⟩, by first | assumption | omega, by first | assumption | omega, by first | assumption | omega⟩)
        · have c52 : (0 : Int) ≠ (0 : Int) := o_ne h40
          refine ok_bind (k_bX12_inList L hN (a0 := a0) (x1 := (1 : Int32)) (x2 := xs0) (x3 := x2) (x4 := x3) (x5 := x4) hT k_a0 (show 2 ≤ (x2).toInt by first | assumption | omega) (show (x2).toInt ≤ 16 by first | assumption | omega) (show 0 ≤ (x3).toInt by first | assumption | omega) (show (x3).toInt ≤ (x4).toInt by first | assumption | omega) (show (x4).toInt ≤ (x3).toInt + 2000 by first | assumption | omega) (show (x4).toInt ≤ (q_I r23.2 12 36 a0).toInt by first | assumption | omega) (show (q_I r23.2 12 36 a0).toInt ≤ 12000 by first | assumption | omega) (show 1 < (x2).toInt → (q_I r23.2 12 36 a0).toInt ≤ 10000 by first | assumption | omega) (show 2 < (x2).toInt → (q_I r23.2 12 36 a0).toInt ≤ 8000 by first | assumption | omega) (show 4 < (x2).toInt → (q_I r23.2 12 36 a0).toInt ≤ 6000 by first | assumption | omega) (show 8 < (x2).toInt → (q_I r23.2 12 36 a0).toInt ≤ 4000 by first | assumption | omega) (show (x2).toInt ≤ K by first | assumption | omega) i25) (fun r53 hr54 => ?_)
          obtain ⟨i55, ⟨u60, u61, u62⟩, p56, p57, p58, p59⟩ := hr54
          have u63 := kp_t u33 u60
          have v64 : q_V r53.2 = q_V δ := (u61).trans v34
          have v65 := kr_t v35 u62
          have f66 := cb_12_36 i55 k_a0
          have f67 := ti_b r53.1
          have f68 := cb_12_12 i25 k_a0
          have f69 : (q_I r23.2 12 12 a0).toInt = (q_I δ 12 12 a0).toInt := congrArg Int32.toInt (u30 12 12 a0 (by decide))
          have f70 := ti_b r53.1
          unfold J_X12_touchDrop_202
          first | (have q72 := te_add x8v r23.1 (by omega) (by omega); obtain ⟨f73, f74, f75⟩ := q72) | (obtain ⟨q72, f73, f74, f75⟩ := ti_add x8v r23.1)
          first | (have q77 := te_add (x8v + r23.1) r53.1 (by omega) (by omega); obtain ⟨f78, f79, f80⟩ := q77) | (obtain ⟨q77, f78, f79, f80⟩ := ti_add (x8v + r23.1) r53.1)
          exact ok_some (show RI ad h.1 δ0 r53.2 ∧ (kp [(12, 36)] δ r53.2 ∧ q_V r53.2 = q_V δ ∧ kr ad [119] δ r53.2) ∧ (q_I r53.2 12 36 a0).toInt = (q_I δ 12 36 a0).toInt ∧ 1 ≤ (((x8v + r23.1) + r53.1)).toInt ∧ (((x8v + r23.1) + r53.1)).toInt ≤ 4 * (x2).toInt - 3 from ⟨i55, ⟨kp_w (by decide) u63, v64, kr_w (by decide) v65⟩, by first | assumption | omega, by first | assumption | omega, by first | assumption | omega⟩)
      · have c81 : r15.1.toInt ≠ (0 : Int) := o_ne h21
        unfold J_X12_touchDrop_166
        refine ok_bind (k_bX12_inRoom L hN (a0 := a0) (x1 := (1 : Int32)) (x2 := xs0) (x3 := x2) (x4 := x3) (x5 := x4) hT k_a0 (show 2 ≤ (x2).toInt by first | assumption | omega) (show (x2).toInt ≤ 16 by first | assumption | omega) (show 0 ≤ (x3).toInt by first | assumption | omega) (show (x3).toInt ≤ (x4).toInt by first | assumption | omega) (show (x4).toInt ≤ (x3).toInt + 2000 by first | assumption | omega) (show (x4).toInt ≤ (q_I δ 12 36 a0).toInt by first | assumption | omega) (show (q_I δ 12 36 a0).toInt ≤ 12000 by first | assumption | omega) (show 1 < (x2).toInt → (q_I δ 12 36 a0).toInt ≤ 10000 by first | assumption | omega) (show 2 < (x2).toInt → (q_I δ 12 36 a0).toInt ≤ 8000 by first | assumption | omega) (show 4 < (x2).toInt → (q_I δ 12 36 a0).toInt ≤ 6000 by first | assumption | omega) (show 8 < (x2).toInt → (q_I δ 12 36 a0).toInt ≤ 4000 by first | assumption | omega) (show (x2).toInt ≤ K by first | assumption | omega) I) (fun r82 hr83 => ?_)
        obtain ⟨i84, ⟨u89, u90, u91⟩, p85, p86, p87, p88⟩ := hr83
        have u92 := kp_t kp_r u89
        have v93 : q_V r82.2 = q_V δ := (u90).trans rfl
        have v94 := kr_t (kr_r (ad := ad)) u91
        have f95 := cb_12_36 i84 k_a0
        have f96 := ti_b r82.1
        have f97 := cb_12_12 I k_a0
        have f98 := ti_b r82.1
        refine ok_ite (fun h99 => ?_) (fun h99 => ?_)
        · have c100 : (1 : Int) = (0 : Int) := o_eq h99
          unfold J_X12_touchDrop_202
          first | (have q102 := te_add x8v r82.1 (by omega) (by omega); obtain ⟨f103, f104, f105⟩ := q102) | (obtain ⟨q102, f103, f104, f105⟩ := ti_add x8v r82.1)
          first | (have q107 := te_addc (c := 0) (n := 0) rfl (x8v + r82.1) (by omega) (by omega); obtain ⟨f108, f109, f110⟩ := q107) | (obtain ⟨q107, f108, f109, f110⟩ := ti_addc (c := 0) (n := 0) rfl (x8v + r82.1))
          exact ok_some (show RI ad h.1 δ0 r82.2 ∧ (kp [(12, 36)] δ r82.2 ∧ q_V r82.2 = q_V δ ∧ kr ad [119] δ r82.2) ∧ (q_I r82.2 12 36 a0).toInt = (q_I δ 12 36 a0).toInt ∧ 1 ≤ (((x8v + r82.1) + (0 : Int32))).toInt ∧ (((x8v + r82.1) + (0 : Int32))).toInt ≤ 4 * (x2).toInt - 3 from ⟨i84, ⟨kp_w (by decide) u92, v93, kr_w (by decide) v94⟩, by first | assumption | omega, by first | assumption | omega, by first | assumption | omega⟩)
        · have c111 : (1 : Int) ≠ (0 : Int) := o_ne h99
          refine ok_bind (k_bX12_inList L hN (a0 := a0) (x1 := (1 : Int32)) (x2 := xs0) (x3 := x2) (x4 := x3) (x5 := x4) hT k_a0 (show 2 ≤ (x2).toInt by first | assumption | omega) (show (x2).toInt ≤ 16 by first | assumption | omega) (show 0 ≤ (x3).toInt by first | assumption | omega) (show (x3).toInt ≤ (x4).toInt by first | assumption | omega) (show (x4).toInt ≤ (x3).toInt + 2000 by first | assumption | omega) (show (x4).toInt ≤ (q_I r82.2 12 36 a0).toInt by first | assumption | omega) (show (q_I r82.2 12 36 a0).toInt ≤ 12000 by first | assumption | omega) (show 1 < (x2).toInt → (q_I r82.2 12 36 a0).toInt ≤ 10000 by first | assumption | omega) (show 2 < (x2).toInt → (q_I r82.2 12 36 a0).toInt ≤ 8000 by first | assumption | omega) (show 4 < (x2).toInt → (q_I r82.2 12 36 a0).toInt ≤ 6000 by first | assumption | omega) (show 8 < (x2).toInt → (q_I r82.2 12 36 a0).toInt ≤ 4000 by first | assumption | omega) (show (x2).toInt ≤ K by first | assumption | omega) i84) (fun r112 hr113 => ?_)
          obtain ⟨i114, ⟨u119, u120, u121⟩, p115, p116, p117, p118⟩ := hr113
          have u122 := kp_t u92 u119
          have v123 : q_V r112.2 = q_V δ := (u120).trans v93
          have v124 := kr_t v94 u121
          have f125 := cb_12_36 i114 k_a0
          have f126 := ti_b r112.1
          have f127 := cb_12_12 i84 k_a0
          have f128 : (q_I r82.2 12 12 a0).toInt = (q_I δ 12 12 a0).toInt := congrArg Int32.toInt (u89 12 12 a0 (by decide))
          have f129 := ti_b r112.1
          unfold J_X12_touchDrop_202
          first | (have q131 := te_add x8v r82.1 (by omega) (by omega); obtain ⟨f132, f133, f134⟩ := q131) | (obtain ⟨q131, f132, f133, f134⟩ := ti_add x8v r82.1)
          first | (have q136 := te_add (x8v + r82.1) r112.1 (by omega) (by omega); obtain ⟨f137, f138, f139⟩ := q136) | (obtain ⟨q136, f137, f138, f139⟩ := ti_add (x8v + r82.1) r112.1)
          exact ok_some (show RI ad h.1 δ0 r112.2 ∧ (kp [(12, 36)] δ r112.2 ∧ q_V r112.2 = q_V δ ∧ kr ad [119] δ r112.2) ∧ (q_I r112.2 12 36 a0).toInt = (q_I δ 12 36 a0).toInt ∧ 1 ≤ (((x8v + r82.1) + r112.1)).toInt ∧ (((x8v + r82.1) + r112.1)).toInt ≤ 4 * (x2).toInt - 3 from ⟨i114, ⟨kp_w (by decide) u122, v123, kr_w (by decide) v124⟩, by first | assumption | omega, by first | assumption | omega, by first | assumption | omega⟩)
    · have c140 : r6.1.toInt ≠ (1 : Int) := o_ne h13
      unfold J_X12_touchDrop_165
      unfold J_X12_touchDrop_166
      refine ok_bind (k_bX12_inRoom L hN (a0 := a0) (x1 := (1 : Int32)) (x2 := xs0) (x3 := x2) (x4 := x3) (x5 := x4) hT k_a0 (show 2 ≤ (x2).toInt by first | assumption | omega) (show (x2).toInt ≤ 16 by first | assumption | omega) (show 0 ≤ (x3).toInt by first | assumption | omega) (show (x3).toInt ≤ (x4).toInt by first | assumption | omega) (show (x4).toInt ≤ (x3).toInt + 2000 by first | assumption | omega) (show (x4).toInt ≤ (q_I δ 12 36 a0).toInt by first | assumption | omega) (show (q_I δ 12 36 a0).toInt ≤ 12000 by first | assumption | omega) (show 1 < (x2).toInt → (q_I δ 12 36 a0).toInt ≤ 10000 by first | assumption | omega) (show 2 < (x2).toInt → (q_I δ 12 36 a0).toInt ≤ 8000 by first | assumption | omega) (show 4 < (x2).toInt → (q_I δ 12 36 a0).toInt ≤ 6000 by first | assumption | omega) (show 8 < (x2).toInt → (q_I δ 12 36 a0).toInt ≤ 4000 by first | assumption | omega) (show (x2).toInt ≤ K by first | assumption | omega) I) (fun r141 hr142 => ?_)
      obtain ⟨i143, ⟨u148, u149, u150⟩, p144, p145, p146, p147⟩ := hr142
      have u151 := kp_t kp_r u148
      have v152 : q_V r141.2 = q_V δ := (u149).trans rfl
      have v153 := kr_t (kr_r (ad := ad)) u150
      have f154 := cb_12_36 i143 k_a0
      have f155 := ti_b r141.1
      have f156 := cb_12_12 I k_a0
      have f157 := ti_b r141.1
      refine ok_ite (fun h158 => ?_) (fun h158 => ?_)
      · have c159 : (0 : Int) = (0 : Int) := o_eq h158
        unfold J_X12_touchDrop_202
        first | (have q161 := te_add x8v r141.1 (by omega) (by omega); obtain ⟨f162, f163, f164⟩ := q161) | (obtain ⟨q161, f162, f163, f164⟩ := ti_add x8v r141.1)
        first | (have q166 := te_addc (c := 0) (n := 0) rfl (x8v + r141.1) (by omega) (by omega); obtain ⟨f167, f168, f169⟩ := q166) | (obtain ⟨q166, f167, f168, f169⟩ := ti_addc (c := 0) (n := 0) rfl (x8v + r141.1))
        exact ok_some (show RI ad h.1 δ0 r141.2 ∧ (kp [(12, 36)] δ r141.2 ∧ q_V r141.2 = q_V δ ∧ kr ad [119] δ r141.2) ∧ (q_I r141.2 12 36 a0).toInt = (q_I δ 12 36 a0).toInt ∧ 1 ≤ (((x8v + r141.1) + (0 : Int32))).toInt ∧ (((x8v + r141.1) + (0 : Int32))).toInt ≤ 4 * (x2).toInt - 3 from ⟨i143, ⟨kp_w (by decide) u151, v152, kr_w (by decide) v153⟩, by first | assumption | omega, by first | assumption | omega, by first | assumption | omega⟩)
      · have c170 : (0 : Int) ≠ (0 : Int) := o_ne h158
        refine ok_bind (k_bX12_inList L hN (a0 := a0) (x1 := (1 : Int32)) (x2 := xs0) (x3 := x2) (x4 := x3) (x5 := x4) hT k_a0 (show 2 ≤ (x2).toInt by first | assumption | omega) (show (x2).toInt ≤ 16 by first | assumption | omega) (show 0 ≤ (x3).toInt by first | assumption | omega) (show (x3).toInt ≤ (x4).toInt by first | assumption | omega) (show (x4).toInt ≤ (x3).toInt + 2000 by first | assumption | omega) (show (x4).toInt ≤ (q_I r141.2 12 36 a0).toInt by first | assumption | omega) (show (q_I r141.2 12 36 a0).toInt ≤ 12000 by first | assumption | omega) (show 1 < (x2).toInt → (q_I r141.2 12 36 a0).toInt ≤ 10000 by first | assumption | omega) (show 2 < (x2).toInt → (q_I r141.2 12 36 a0).toInt ≤ 8000 by first | assumption | omega) (show 4 < (x2).toInt → (q_I r141.2 12 36 a0).toInt ≤ 6000 by first | assumption | omega) (show 8 < (x2).toInt → (q_I r141.2 12 36 a0).toInt ≤ 4000 by first | assumption | omega) (show (x2).toInt ≤ K by first | assumption | omega) i143) (fun r171 hr172 => ?_)
        obtain ⟨i173, ⟨u178, u179, u180⟩, p174, p175, p176, p177⟩ := hr172
        have u181 := kp_t u151 u178
        have v182 : q_V r171.2 = q_V δ := (u179).trans v152
        have v183 := kr_t v153 u180
        have f184 := cb_12_36 i173 k_a0
        have f185 := ti_b r171.1
        have f186 := cb_12_12 i143 k_a0
        have f187 : (q_I r141.2 12 12 a0).toInt = (q_I δ 12 12 a0).toInt := congrArg Int32.toInt (u148 12 12 a0 (by decide))
        have f188 := ti_b r171.1
        unfold J_X12_touchDrop_202
        first | (have q190 := te_add x8v r141.1 (by omega) (by omega); obtain ⟨f191, f192, f193⟩ := q190) | (obtain ⟨q190, f191, f192, f193⟩ := ti_add x8v r141.1)
        first | (have q195 := te_add (x8v + r141.1) r171.1 (by omega) (by omega); obtain ⟨f196, f197, f198⟩ := q195) | (obtain ⟨q195, f196, f197, f198⟩ := ti_add (x8v + r141.1) r171.1)
        exact ok_some (show RI ad h.1 δ0 r171.2 ∧ (kp [(12, 36)] δ r171.2 ∧ q_V r171.2 = q_V δ ∧ kr ad [119] δ r171.2) ∧ (q_I r171.2 12 36 a0).toInt = (q_I δ 12 36 a0).toInt ∧ 1 ≤ (((x8v + r141.1) + r171.1)).toInt ∧ (((x8v + r141.1) + r171.1)).toInt ≤ 4 * (x2).toInt - 3 from ⟨i173, ⟨kp_w (by decide) u181, v182, kr_w (by decide) v183⟩, by first | assumption | omega, by first | assumption | omega, by first | assumption | omega⟩)
set_option maxHeartbeats 4000000 in
theorem kj_X12_touchDrop_36 {ad : List Nat} {h : hp} (L : Lay TLx ad h) {δ0 : dp} {N : Nat} (hN : 10000000 ≤ N) {T : Nat → Int32 → Int32 → Int32 → Int32 → Int32 → dp → Option (Int32 × dp)} {K : Int} (hT : ∀ (a0 : Nat) (x1 : Int32) (x2 : Int32) (x3 : Int32) (x4 : Int32) (x5 : Int32) (δ : dp), q_K h.1 a0 = 12 → 1 ≤ (x3).toInt → (x3).toInt ≤ 16 → 0 ≤ (x4).toInt → (x4).toInt ≤ (x5).toInt → (x5).toInt ≤ (x4).toInt + 2000 → (x5).toInt ≤ (q_I δ 12 36 a0).toInt → (q_I δ 12 36 a0).toInt ≤ 12000 → (1 < (x3).toInt → (q_I δ 12 36 a0).toInt ≤ 10000) → (2 < (x3).toInt → (q_I δ 12 36 a0).toInt ≤ 8000) → (4 < (x3).toInt → (q_I δ 12 36 a0).toInt ≤ 6000) → (8 < (x3).toInt → (q_I δ 12 36 a0).toInt ≤ 4000) → (x3).toInt < K → RI ad h.1 δ0 δ → ok (T a0 x1 x2 x3 x4 x5 δ) (fun r => RI ad h.1 δ0 r.2 ∧ (kp [(12, 36)] δ r.2 ∧ q_V r.2 = q_V δ ∧ kr ad [119] δ r.2) ∧ (q_I r.2 12 36 a0).toInt = (q_I δ 12 36 a0).toInt ∧ 1 ≤ (r.1).toInt ∧ (r.1).toInt ≤ 4 * (x3).toInt - 3)) {a0 : Nat} {x1 : Int32} {x2 : Int32} {x3 : Int32} {x4 : Int32} {xs0 : Int32} {x5v : Int32} {x6v : Int32} (k_a0 : q_K h.1 a0 = 12) {δ : dp} (z0 : 2 ≤ (x2).toInt) (z1 : (x2).toInt ≤ 16) (z2 : 0 ≤ (x3).toInt) (z3 : (x3).toInt ≤ (x4).toInt) (z4 : (x4).toInt ≤ (x3).toInt + 2000) (z5 : (x4).toInt ≤ (q_I δ 12 36 a0).toInt) (z6 : (q_I δ 12 36 a0).toInt ≤ 12000) (z7 : 1 < (x2).toInt → (q_I δ 12 36 a0).toInt ≤ 10000) (z8 : 2 < (x2).toInt → (q_I δ 12 36 a0).toInt ≤ 8000) (z9 : 4 < (x2).toInt → (q_I δ 12 36 a0).toInt ≤ 6000) (z10 : 8 < (x2).toInt → (q_I δ 12 36 a0).toInt ≤ 4000) (z11 : (x2).toInt ≤ K) (z12 : (x3).toInt < (x4).toInt) (z13 : (xs0).toInt = 0 ∨ (xs0).toInt = 1) (I : RI ad h.1 δ0 δ) : ok (J_X12_touchDrop_36 N h.1 T a0 x1 x2 x3 x4 xs0 x5v x6v δ) (fun r => RI ad h.1 δ0 r.2 ∧ (kp [(12, 36)] δ r.2 ∧ q_V r.2 = q_V δ ∧ kr ad [119] δ r.2) ∧ (q_I r.2 12 36 a0).toInt = (q_I δ 12 36 a0).toInt ∧ 1 ≤ (r.1).toInt ∧ (r.1).toInt ≤ 4 * (x2).toInt - 3) := by
  unfold J_X12_touchDrop_36
  have f1 := ti_b x2
  have f2 := ti_b x3
  have f3 := ti_b x4
  have f4 := cb_12_36 I k_a0
  have f5 := ti_b xs0
  have f6 := ti_b x1
  have f7 := ti_b x5v
  refine ok_ite (fun h8 => ?_) (fun h8 => ?_)
  · have c9 : x1.toInt < x5v.toInt := o_lt h8
    unfold J_X12_touchDrop_71
    exact ok_some (show RI ad h.1 δ0 δ ∧ (kp [(12, 36)] δ δ ∧ q_V δ = q_V δ ∧ kr ad [119] δ δ) ∧ (q_I δ 12 36 a0).toInt = (q_I δ 12 36 a0).toInt ∧ 1 ≤ (1 : Int) ∧ (1 : Int) ≤ 4 * (x2).toInt - 3 from ⟨I, ⟨kp_w (by decide) kp_r, rfl, kr_w (by decide) (kr_r (ad := ad))⟩, by first | assumption | omega, by first | assumption | omega, by first | assumption | omega⟩)
  · have c10 : x5v.toInt ≤ x1.toInt := o_nlt h8
    have f11 := ti_b x6v
    refine ok_ite (fun h12 => ?_) (fun h12 => ?_)
    · have c13 : x6v.toInt < x1.toInt := o_lt h12
      unfold J_X12_touchDrop_71
      exact ok_some (show RI ad h.1 δ0 δ ∧ (kp [(12, 36)] δ δ ∧ q_V δ = q_V δ ∧ kr ad [119] δ δ) ∧ (q_I δ 12 36 a0).toInt = (q_I δ 12 36 a0).toInt ∧ 1 ≤ (1 : Int) ∧ (1 : Int) ≤ 4 * (x2).toInt - 3 from ⟨I, ⟨kp_w (by decide) kp_r, rfl, kr_w (by decide) (kr_r (ad := ad))⟩, by first | assumption | omega, by first | assumption | omega, by first | assumption | omega⟩)
    · have c14 : x1.toInt ≤ x6v.toInt := o_nlt h12
      first | (have q16 := te_sub x4 x3 (by omega) (by omega); obtain ⟨f17, f18, f19⟩ := q16) | (obtain ⟨q16, f17, f18, f19⟩ := ti_sub x4 x3)
      refine ok_ite (fun h20 => ?_) (fun h20 => ?_)
      · have c21 : (x4 - x3).toInt = (1 : Int) := o_eq h20
        unfold J_X12_touchDrop_71
        exact ok_some (show RI ad h.1 δ0 δ ∧ (kp [(12, 36)] δ δ ∧ q_V δ = q_V δ ∧ kr ad [119] δ δ) ∧ (q_I δ 12 36 a0).toInt = (q_I δ 12 36 a0).toInt ∧ 1 ≤ (1 : Int) ∧ (1 : Int) ≤ 4 * (x2).toInt - 3 from ⟨I, ⟨kp_w (by decide) kp_r, rfl, kr_w (by decide) (kr_r (ad := ad))⟩, by first | assumption | omega, by first | assumption | omega, by first | assumption | omega⟩)
      · have c22 : (x4 - x3).toInt ≠ (1 : Int) := o_ne h20
        refine ok_ite (fun h23 => ?_) (fun h23 => ?_)
        · have c24 : xs0.toInt = (0 : Int) := o_eq h23
          unfold J_X12_touchDrop_73
          refine ok_ite (fun h25 => ?_) (fun h25 => ?_)
          · have c26 : xs0.toInt = (0 : Int) := o_eq h25
            unfold J_X12_touchDrop_83
            refine ok_ite (fun h27 => ?_) (fun h27 => ?_)
            · have c28 : x1.toInt = x5v.toInt := o_eq h27
              obtain ⟨b29, o30, k31, n32, w33⟩ := gO_12_35 L k_a0
              obtain rfl := gS_12_35 L k_a0 o30
              refine ok_at o30 ?_
              first | (have q35 := te_addc (c := 1) (n := 1) rfl x3 (by omega) (by omega); obtain ⟨f36, f37, f38⟩ := q35) | (obtain ⟨q35, f36, f37, f38⟩ := ti_addc (c := 1) (n := 1) rfl x3)
              have t39 := ti_tn (x3 + (1 : Int32))
              refine ok_gd (fun hc40 => ?_) ?_
              · rcases hc40 with hc40 | hc40
                · have c41 : (x3 + (1 : Int32)).toInt < (0 : Int) := o_lt hc40
                  omega
                · omega
              refine ok_mono (kj_X12_touchDrop_121 L hN (a0 := a0) (x1 := x1) (x2 := x2) (x3 := x3) (x4 := x4) (xs0 := (q_R δ (Ad ad 119) (x3 + (1 : Int32)).toNatClampNeg)) (x8v := (1 : Int32)) hT k_a0 (show 2 ≤ (x2).toInt by first | assumption | omega) (show (x2).toInt ≤ 16 by first | assumption | omega) (show 0 ≤ (x3).toInt by first | assumption | omega) (show (x3).toInt ≤ (x4).toInt by first | assumption | omega) (show (x4).toInt ≤ (x3).toInt + 2000 by first | assumption | omega) (show (x4).toInt ≤ (q_I δ 12 36 a0).toInt by first | assumption | omega) (show (q_I δ 12 36 a0).toInt ≤ 12000 by first | assumption | omega) (show 1 < (x2).toInt → (q_I δ 12 36 a0).toInt ≤ 10000 by first | assumption | omega) (show 2 < (x2).toInt → (q_I δ 12 36 a0).toInt ≤ 8000 by first | assumption | omega) (show 4 < (x2).toInt → (q_I δ 12 36 a0).toInt ≤ 6000 by first | assumption | omega) (show 8 < (x2).toInt → (q_I δ 12 36 a0).toInt ≤ 4000 by first | assumption | omega) (show (x2).toInt ≤ K by first | assumption | omega) (show (x3).toInt < (x4).toInt by first | assumption | omega) (show (1 : Int) = 1 ∨ (1 : Int) = 3 by first | assumption | omega) I) (fun r42 hr43 => ?_)
              obtain ⟨i44, ⟨u48, u49, u50⟩, p45, p46, p47⟩ := hr43
              have u51 := kp_t kp_r u48
              have v52 : q_V r42.2 = q_V δ := (u49).trans rfl
              have v53 := kr_t (kr_r (ad := ad)) u50
              have f54 := cb_12_36 i44 k_a0
              have f55 := ti_b r42.1
              have f56 := ti_b r42.1
              exact ⟨by assumption, ⟨kp_w (by decide) u51, v52, kr_w (by decide) v53⟩, by first | assumption | omega, by first | assumption | omega, by first | assumption | omega⟩
            · have c57 : x1.toInt ≠ x5v.toInt := o_ne h27
              refine ok_ite (fun h58 => ?_) (fun h58 => ?_)
              · have c59 : x1.toInt = x6v.toInt := o_eq h58
                obtain ⟨b60, o61, k62, n63, w64⟩ := gO_12_35 L k_a0
                obtain rfl := gS_12_35 L k_a0 o61
                refine ok_at o61 ?_
                first | (have q66 := te_subc (c := 2) (n := 2) rfl x4 (by omega) (by omega); obtain ⟨f67, f68, f69⟩ := q66) | (obtain ⟨q66, f67, f68, f69⟩ := ti_subc (c := 2) (n := 2) rfl x4)
                have t70 := ti_tn (x4 - (2 : Int32))
                refine ok_gd (fun hc71 => ?_) ?_
                · rcases hc71 with hc71 | hc71
                  · have c72 : (x4 - (2 : Int32)).toInt < (0 : Int) := o_lt hc71
                    omega
                  · omega
                refine ok_mono (kj_X12_touchDrop_121 L hN (a0 := a0) (x1 := x1) (x2 := x2) (x3 := x3) (x4 := x4) (xs0 := (q_R δ (Ad ad 119) (x4 - (2 : Int32)).toNatClampNeg)) (x8v := (1 : Int32)) hT k_a0 (show 2 ≤ (x2).toInt by first | assumption | omega) (show (x2).toInt ≤ 16 by first | assumption | omega) (show 0 ≤ (x3).toInt by first | assumption | omega) (show (x3).toInt ≤ (x4).toInt by first | assumption | omega) (show (x4).toInt ≤ (x3).toInt + 2000 by first | assumption | omega) (show (x4).toInt ≤ (q_I δ 12 36 a0).toInt by first | assumption | omega) (show (q_I δ 12 36 a0).toInt ≤ 12000 by first | assumption | omega) (show 1 < (x2).toInt → (q_I δ 12 36 a0).toInt ≤ 10000 by first | assumption | omega) (show 2 < (x2).toInt → (q_I δ 12 36 a0).toInt ≤ 8000 by first | assumption | omega) (show 4 < (x2).toInt → (q_I δ 12 36 a0).toInt ≤ 6000 by first | assumption | omega) (show 8 < (x2).toInt → (q_I δ 12 36 a0).toInt ≤ 4000 by first | assumption | omega) (show (x2).toInt ≤ K by first | assumption | omega) (show (x3).toInt < (x4).toInt by first | assumption | omega) (show (1 : Int) = 1 ∨ (1 : Int) = 3 by first | assumption | omega) I) (fun r73 hr74 => ?_)
                obtain ⟨i75, ⟨u79, u80, u81⟩, p76, p77, p78⟩ := hr74
                have u82 := kp_t kp_r u79
                have v83 : q_V r73.2 = q_V δ := (u80).trans rfl
                have v84 := kr_t (kr_r (ad := ad)) u81
                have f85 := cb_12_36 i75 k_a0
                have f86 := ti_b r73.1
                have f87 := ti_b r73.1
                exact ⟨by assumption, ⟨kp_w (by decide) u82, v83, kr_w (by decide) v84⟩, by first | assumption | omega, by first | assumption | omega, by first | assumption | omega⟩
              · have c88 : x1.toInt ≠ x6v.toInt := o_ne h58
                refine ok_mono (kj_X12_touchDrop_121 L hN (a0 := a0) (x1 := x1) (x2 := x2) (x3 := x3) (x4 := x4) (xs0 := x1) (x8v := (1 : Int32)) hT k_a0 (show 2 ≤ (x2).toInt by first | assumption | omega) (show (x2).toInt ≤ 16 by first | assumption | omega) (show 0 ≤ (x3).toInt by first | assumption | omega) (show (x3).toInt ≤ (x4).toInt by first | assumption | omega) (show (x4).toInt ≤ (x3).toInt + 2000 by first | assumption | omega) (show (x4).toInt ≤ (q_I δ 12 36 a0).toInt by first | assumption | omega) (show (q_I δ 12 36 a0).toInt ≤ 12000 by first | assumption | omega) (show 1 < (x2).toInt → (q_I δ 12 36 a0).toInt ≤ 10000 by first | assumption | omega) (show 2 < (x2).toInt → (q_I δ 12 36 a0).toInt ≤ 8000 by first | assumption | omega) (show 4 < (x2).toInt → (q_I δ 12 36 a0).toInt ≤ 6000 by first | assumption | omega) (show 8 < (x2).toInt → (q_I δ 12 36 a0).toInt ≤ 4000 by first | assumption | omega) (show (x2).toInt ≤ K by first | assumption | omega) (show (x3).toInt < (x4).toInt by first | assumption | omega) (show (1 : Int) = 1 ∨ (1 : Int) = 3 by first | assumption | omega) I) (fun r89 hr90 => ?_)
                obtain ⟨i91, ⟨u95, u96, u97⟩, p92, p93, p94⟩ := hr90
                have u98 := kp_t kp_r u95
                have v99 : q_V r89.2 = q_V δ := (u96).trans rfl
                have v100 := kr_t (kr_r (ad := ad)) u97
                have f101 := cb_12_36 i91 k_a0
                have f102 := ti_b r89.1
                have f103 := ti_b r89.1
                exact ⟨by assumption, ⟨kp_w (by decide) u98, v99, kr_w (by decide) v100⟩, by first | assumption | omega, by first | assumption | omega, by first | assumption | omega⟩
          · have c104 : xs0.toInt ≠ (0 : Int) := o_ne h25
            unfold J_X12_touchDrop_83
            refine ok_ite (fun h105 => ?_) (fun h105 => ?_)
            · have c106 : x1.toInt = x5v.toInt := o_eq h105
              obtain ⟨b107, o108, k109, n110, w111⟩ := gO_12_35 L k_a0
              obtain rfl := gS_12_35 L k_a0 o108
              refine ok_at o108 ?_
              first | (have q113 := te_addc (c := 1) (n := 1) rfl x3 (by omega) (by omega); obtain ⟨f114, f115, f116⟩ := q113) | (obtain ⟨q113, f114, f115, f116⟩ := ti_addc (c := 1) (n := 1) rfl x3)
              have t117 := ti_tn (x3 + (1 : Int32))
              refine ok_gd (fun hc118 => ?_) ?_
              · rcases hc118 with hc118 | hc118
                · have c119 : (x3 + (1 : Int32)).toInt < (0 : Int) := o_lt hc118
                  omega
                · omega
              refine ok_mono (kj_X12_touchDrop_121 L hN (a0 := a0) (x1 := x1) (x2 := x2) (x3 := x3) (x4 := x4) (xs0 := (q_R δ (Ad ad 119) (x3 + (1 : Int32)).toNatClampNeg)) (x8v := (3 : Int32)) hT k_a0 (show 2 ≤ (x2).toInt by first | assumption | omega) (show (x2).toInt ≤ 16 by first | assumption | omega) (show 0 ≤ (x3).toInt by first | assumption | omega) (show (x3).toInt ≤ (x4).toInt by first | assumption | omega) (show (x4).toInt ≤ (x3).toInt + 2000 by first | assumption | omega) (show (x4).toInt ≤ (q_I δ 12 36 a0).toInt by first | assumption | omega) (show (q_I δ 12 36 a0).toInt ≤ 12000 by first | assumption | omega) (show 1 < (x2).toInt → (q_I δ 12 36 a0).toInt ≤ 10000 by first | assumption | omega) (show 2 < (x2).toInt → (q_I δ 12 36 a0).toInt ≤ 8000 by first | assumption | omega) (show 4 < (x2).toInt → (q_I δ 12 36 a0).toInt ≤ 6000 by first | assumption | omega) (show 8 < (x2).toInt → (q_I δ 12 36 a0).toInt ≤ 4000 by first | assumption | omega) (show (x2).toInt ≤ K by first | assumption | omega) (show (x3).toInt < (x4).toInt by first | assumption | omega) (show (3 : Int) = 1 ∨ (3 : Int) = 3 by first | assumption | omega) I) (fun r120 hr121 => ?_)
              obtain ⟨i122, ⟨u126, u127, u128⟩, p123, p124, p125⟩ := hr121
              have u129 := kp_t kp_r u126
              have v130 : q_V r120.2 = q_V δ := (u127).trans rfl
              have v131 := kr_t (kr_r (ad := ad)) u128
              have f132 := cb_12_36 i122 k_a0
              have f133 := ti_b r120.1
              have f134 := ti_b r120.1
              exact ⟨by assumption, ⟨kp_w (by decide) u129, v130, kr_w (by decide) v131⟩, by first | assumption | omega, by first | assumption | omega, by first | assumption | omega⟩
            · have c135 : x1.toInt ≠ x5v.toInt := o_ne h105
              refine ok_ite (fun h136 => ?_) (fun h136 => ?_)
              · have c137 : x1.toInt = x6v.toInt := o_eq h136
                obtain ⟨b138, o139, k140, n141, w142⟩ := gO_12_35 L k_a0
                obtain rfl := gS_12_35 L k_a0 o139
                refine ok_at o139 ?_
                first | (have q144 := te_subc (c := 2) (n := 2) rfl x4 (by omega) (by omega); obtain ⟨f145, f146, f147⟩ := q144) | (obtain ⟨q144, f145, f146, f147⟩ := ti_subc (c := 2) (n := 2) rfl x4)
                have t148 := ti_tn (x4 - (2 : Int32))
                refine ok_gd (fun hc149 => ?_) ?_
                · rcases hc149 with hc149 | hc149
                  · have c150 : (x4 - (2 : Int32)).toInt < (0 : Int) := o_lt hc149
                    omega
                  · omega
                refine ok_mono (kj_X12_touchDrop_121 L hN (a0 := a0) (x1 := x1) (x2 := x2) (x3 := x3) (x4 := x4) (xs0 := (q_R δ (Ad ad 119) (x4 - (2 : Int32)).toNatClampNeg)) (x8v := (3 : Int32)) hT k_a0 (show 2 ≤ (x2).toInt by first | assumption | omega) (show (x2).toInt ≤ 16 by first | assumption | omega) (show 0 ≤ (x3).toInt by first | assumption | omega) (show (x3).toInt ≤ (x4).toInt by first | assumption | omega) (show (x4).toInt ≤ (x3).toInt + 2000 by first | assumption | omega) (show (x4).toInt ≤ (q_I δ 12 36 a0).toInt by first | assumption | omega) (show (q_I δ 12 36 a0).toInt ≤ 12000 by first | assumption | omega) (show 1 < (x2).toInt → (q_I δ 12 36 a0).toInt ≤ 10000 by first | assumption | omega) (show 2 < (x2).toInt → (q_I δ 12 36 a0).toInt ≤ 8000 by first | assumption | omega) (show 4 < (x2).toInt → (q_I δ 12 36 a0).toInt ≤ 6000 by first | assumption | omega) (show 8 < (x2).toInt → (q_I δ 12 36 a0).toInt ≤ 4000 by first | assumption | omega) (show (x2).toInt ≤ K by first | assumption | omega) (show (x3).toInt < (x4).toInt by first | assumption | omega) (show (3 : Int) = 1 ∨ (3 : Int) = 3 by first | assumption | omega) I) (fun r151 hr152 => ?_)
                obtain ⟨i153, ⟨u157, u158, u159⟩, p154, p155, p156⟩ := hr152
                have u160 := kp_t kp_r u157
                have v161 : q_V r151.2 = q_V δ := (u158).trans rfl
                have v162 := kr_t (kr_r (ad := ad)) u159
                have f163 := cb_12_36 i153 k_a0
                have f164 := ti_b r151.1
                have f165 := ti_b r151.1
                exact ⟨by assumption, ⟨kp_w (by decide) u160, v161, kr_w (by decide) v162⟩, by first | assumption | omega, by first | assumption | omega, by first | assumption | omega⟩
              · have c166 : x1.toInt ≠ x6v.toInt := o_ne h136
                refine ok_mono (kj_X12_touchDrop_121 L hN (a0 := a0) (x1 := x1) (x2 := x2) (x3 := x3) (x4 := x4) (xs0 := x1) (x8v := (3 : Int32)) hT k_a0 (show 2 ≤ (x2).toInt by first | assumption | omega) (show (x2).toInt ≤ 16 by first | assumption | omega) (show 0 ≤ (x3).toInt by first | assumption | omega) (show (x3).toInt ≤ (x4).toInt by first | assumption | omega) (show (x4).toInt ≤ (x3).toInt + 2000 by first | assumption | omega) (show (x4).toInt ≤ (q_I δ 12 36 a0).toInt by first | assumption | omega) (show (q_I δ 12 36 a0).toInt ≤ 12000 by first | assumption | omega) (show 1 < (x2).toInt → (q_I δ 12 36 a0).toInt ≤ 10000 by first | assumption | omega) (show 2 < (x2).toInt → (q_I δ 12 36 a0).toInt ≤ 8000 by first | assumption | omega) (show 4 < (x2).toInt → (q_I δ 12 36 a0).toInt ≤ 6000 by first | assumption | omega) (show 8 < (x2).toInt → (q_I δ 12 36 a0).toInt ≤ 4000 by first | assumption | omega) (show (x2).toInt ≤ K by first | assumption | omega) (show (x3).toInt < (x4).toInt by first | assumption | omega) (show (3 : Int) = 1 ∨ (3 : Int) = 3 by first | assumption | omega) I) (fun r167 hr168 => ?_)
                obtain ⟨i169, ⟨u173, u174, u175⟩, p170, p171, p172⟩ := hr168
                have u176 := kp_t kp_r u173
                have v177 : q_V r167.2 = q_V δ := (u174).trans rfl
                have v178 := kr_t (kr_r (ad := ad)) u175
                have f179 := cb_12_36 i169 k_a0
                have f180 := ti_b r167.1
                have f181 := ti_b r167.1
                exact ⟨by assumption, ⟨kp_w (by decide) u176, v177, kr_w (by decide) v178⟩, by first | assumption | omega, by first | assumption | omega, by first | assumption | omega⟩
        · have c182 : xs0.toInt ≠ (0 : Int) := o_ne h23
          refine ok_ite (fun h183 => ?_) (fun h183 => ?_)
          · have c184 : (x4 - x3).toInt = (2 : Int) := o_eq h183
            unfold J_X12_touchDrop_71
            exact ok_some (show RI ad h.1 δ0 δ ∧ (kp [(12, 36)] δ δ ∧ q_V δ = q_V δ ∧ kr ad [119] δ δ) ∧ (q_I δ 12 36 a0).toInt = (q_I δ 12 36 a0).toInt ∧ 1 ≤ (1 : Int) ∧ (1 : Int) ≤ 4 * (x2).toInt - 3 from ⟨I, ⟨kp_w (by decide) kp_r, rfl, kr_w (by decide) (kr_r (ad := ad))⟩, by first | assumption | omega, by first | assumption | omega, by first | assumption | omega⟩)
          · have c185 : (x4 - x3).toInt ≠ (2 : Int) := o_ne h183
            unfold J_X12_touchDrop_73
            refine ok_ite (fun h186 => ?_) (fun h186 => ?_)
            · have c187 : xs0.toInt = (0 : Int) := o_eq h186
              unfold J_X12_touchDrop_83
              refine ok_ite (fun h188 => ?_) (fun h188 => ?_)
              · have c189 : x1.toInt = x5v.toInt := o_eq h188
                obtain ⟨b190, o191, k192, n193, w194⟩ := gO_12_35 L k_a0
                obtain rfl := gS_12_35 L k_a0 o191
                refine ok_at o191 ?_
                first | (have q196 := te_addc (c := 1) (n := 1) rfl x3 (by omega) (by omega); obtain ⟨f197, f198, f199⟩ := q196) | (obtain ⟨q196, f197, f198, f199⟩ := ti_addc (c := 1) (n := 1) rfl x3)
                have t200 := ti_tn (x3 + (1 : Int32))
                refine ok_gd (fun hc201 => ?_) ?_
                · rcases hc201 with hc201 | hc201
                  · have c202 : (x3 + (1 : Int32)).toInt < (0 : Int) := o_lt hc201
                    omega
                  · omega
                refine ok_mono (kj_X12_touchDrop_121 L hN (a0 := a0) (x1 := x1) (x2 := x2) (x3 := x3) (x4 := x4) (xs0 := (q_R δ (Ad ad 119) (x3 + (1 : Int32)).toNatClampNeg)) (x8v := (1 : Int32)) hT k_a0 (show 2 ≤ (x2).toInt by first | assumption | omega) (show (x2).toInt ≤ 16 by first | assumption | omega) (show 0 ≤ (x3).toInt by first | assumption | omega) (show (x3).toInt ≤ (x4).toInt by first | assumption | omega) (show (x4).toInt ≤ (x3).toInt + 2000 by first | assumption | omega) (show (x4).toInt ≤ (q_I δ 12 36 a0).toInt by first | assumption | omega) (show (q_I δ 12 36 a0).toInt ≤ 12000 by first | assumption | omega) (show 1 < (x2).toInt → (q_I δ 12 36 a0).toInt ≤ 10000 by first | assumption | omega) (show 2 < (x2).toInt → (q_I δ 12 36 a0).toInt ≤ 8000 by first | assumption | omega) (show 4 < (x2).toInt → (q_I δ 12 36 a0).toInt ≤ 6000 by first | assumption | omega) (show 8 < (x2).toInt → (q_I δ 12 36 a0).toInt ≤ 4000 by first | assumption | omega) (show (x2).toInt ≤ K by first | assumption | omega) (show (x3).toInt < (x4).toInt by first | assumption | omega) (show (1 : Int) = 1 ∨ (1 : Int) = 3 by first | assumption | omega) I) (fun r203 hr204 => ?_)
                obtain ⟨i205, ⟨u209, u210, u211⟩, p206, p207, p208⟩ := hr204
                have u212 := kp_t kp_r u209
                have v213 : q_V r203.2 = q_V δ := (u210).trans rfl
                have v214 := kr_t (kr_r (ad := ad)) u211
                have f215 := cb_12_36 i205 k_a0
                have f216 := ti_b r203.1
                have f217 := ti_b r203.1
                exact ⟨by assumption, ⟨kp_w (by decide) u212, v213, kr_w (by decide) v214⟩, by first | assumption | omega, by first | assumption | omega, by first | assumption | omega⟩
              · have c218 : x1.toInt ≠ x5v.toInt := o_ne h188
                refine ok_ite (fun h219 => ?_) (fun h219 => ?_)
                · have c220 : x1.toInt = x6v.toInt := o_eq h219
                  obtain ⟨b221, o222, k223, n224, w225⟩ := gO_12_35 L k_a0
                  obtain rfl := gS_12_35 L k_a0 o222
                  refine ok_at o222 ?_
                  first | (have q227 := te_subc (c := 2) (n := 2) rfl x4 (by omega) (by omega); obtain ⟨f228, f229, f230⟩ := q227) | (obtain ⟨q227, f228, f229, f230⟩ := ti_subc (c := 2) (n := 2) rfl x4)
                  have t231 := ti_tn (x4 - (2 : Int32))
                  refine ok_gd (fun hc232 => ?_) ?_
                  · rcases hc232 with hc232 | hc232
                    · have c233 : (x4 - (2 : Int32)).toInt < (0 : Int) := o_lt hc232
                      omega
                    · omega
                  refine ok_mono (kj_X12_touchDrop_121 L hN (a0 := a0) (x1 := x1) (x2 := x2) (x3 := x3) (x4 := x4) (xs0 := (q_R δ (Ad ad 119) (x4 - (2 : Int32)).toNatClampNeg)) (x8v := (1 : Int32)) hT k_a0 (show 2 ≤ (x2).toInt by first | assumption | omega) (show (x2).toInt ≤ 16 by first | assumption | omega) (show 0 ≤ (x3).toInt by first | assumption | omega) (show (x3).toInt ≤ (x4).toInt by first | assumption | omega) (show (x4).toInt ≤ (x3).toInt + 2000 by first | assumption | omega) (show (x4).toInt ≤ (q_I δ 12 36 a0).toInt by first | assumption | omega) (show (q_I δ 12 36 a0).toInt ≤ 12000 by first | assumption | omega) (show 1 < (x2).toInt → (q_I δ 12 36 a0).toInt ≤ 10000 by first | assumption | omega) (show 2 < (x2).toInt → (q_I δ 12 36 a0).toInt ≤ 8000 by first | assumption | omega) (show 4 < (x2).toInt → (q_I δ 12 36 a0).toInt ≤ 6000 by first | assumption | omega) (show 8 < (x2).toInt → (q_I δ 12 36 a0).toInt ≤ 4000 by first | assumption | omega) (show (x2).toInt ≤ K by first | assumption | omega) (show (x3).toInt < (x4).toInt by first | assumption | omega) (show (1 : Int) = 1 ∨ (1 : Int) = 3 by first | assumption | omega) I) (fun r234 hr235 => ?_)
                  obtain ⟨i236, ⟨u240, u241, u242⟩, p237, p238, p239⟩ := hr235
                  have u243 := kp_t kp_r u240
                  have v244 : q_V r234.2 = q_V δ := (u241).trans rfl
                  have v245 := kr_t (kr_r (ad := ad)) u242
                  have f246 := cb_12_36 i236 k_a0
                  have f247 := ti_b r234.1
                  have f248 := ti_b r234.1
                  exact ⟨by assumption, ⟨kp_w (by decide) u243, v244, kr_w (by decide) v245⟩, by first | assumption | omega, by first | assumption | omega, by first | assumption | omega⟩
                · have c249 : x1.toInt ≠ x6v.toInt := o_ne h219
                  refine ok_mono (kj_X12_touchDrop_121 L hN (a0 := a0) (x1 := x1) (x2 := x2) (x3 := x3) (x4 := x4) (xs0 := x1) (x8v := (1 : Int32)) hT k_a0 (show 2 ≤ (x2).toInt by first | assumption | omega) (show (x2).toInt ≤ 16 by first | assumption | omega) (show 0 ≤ (x3).toInt by first | assumption | omega) (show (x3).toInt ≤ (x4).toInt by first | assumption | omega) (show (x4).toInt ≤ (x3).toInt + 2000 by first | assumption | omega) (show (x4).toInt ≤ (q_I δ 12 36 a0).toInt by first | assumption | omega) (show (q_I δ 12 36 a0).toInt ≤ 12000 by first | assumption | omega) (show 1 < (x2).toInt → (q_I δ 12 36 a0).toInt ≤ 10000 by first | assumption | omega) (show 2 < (x2).toInt → (q_I δ 12 36 a0).toInt ≤ 8000 by first | assumption | omega) (show 4 < (x2).toInt → (q_I δ 12 36 a0).toInt ≤ 6000 by first | assumption | omega) (show 8 < (x2).toInt → (q_I δ 12 36 a0).toInt ≤ 4000 by first | assumption | omega) (show (x2).toInt ≤ K by first | assumption | omega) (show (x3).toInt < (x4).toInt by first | assumption | omega) (show (1 : Int) = 1 ∨ (1 : Int) = 3 by first | assumption | omega) I) (fun r250 hr251 => ?_)
                  obtain ⟨i252, ⟨u256, u257, u258⟩, p253, p254, p255⟩ := hr251
                  have u259 := kp_t kp_r u256
                  have v260 : q_V r250.2 = q_V δ := (u257).trans rfl
                  have v261 := kr_t (kr_r (ad := ad)) u258
                  have f262 := cb_12_36 i252 k_a0
                  have f263 := ti_b r250.1
                  have f264 := ti_b r250.1
                  exact ⟨by assumption, ⟨kp_w (by decide) u259, v260, kr_w (by decide) v261⟩, by first | assumption | omega, by first | assumption | omega, by first | assumption | omega⟩
            · have c265 : xs0.toInt ≠ (0 : Int) := o_ne h186
              unfold J_X12_touchDrop_83
              refine ok_ite (fun h266 => ?_) (fun h266 => ?_)
              · have c267 : x1.toInt = x5v.toInt := o_eq h266
                obtain ⟨b268, o269, k270, n271, w272⟩ := gO_12_35 L k_a0
                obtain rfl := gS_12_35 L k_a0 o269
                refine ok_at o269 ?_
                first | (have q274 := te_addc (c := 1) (n := 1) rfl x3 (by omega) (by omega); obtain ⟨f275, f276, f277⟩ := q274) | (obtain ⟨q274, f275, f276, f277⟩ := ti_addc (c := 1) (n := 1) rfl x3)
                have t278 := ti_tn (x3 + (1 : Int32))
                refine ok_gd (fun hc279 => ?_) ?_
                · rcases hc279 with hc279 | hc279
                  · have c280 : (x3 + (1 : Int32)).toInt < (0 : Int) := o_lt hc279
                    omega
                  · omega
                refine ok_mono (kj_X12_touchDrop_121 L hN (a0 := a0) (x1 := x1) (x2 := x2) (x3 := x3) (x4 := x4) (xs0 := (q_R δ (Ad ad 119) (x3 + (1 : Int32)).toNatClampNeg)) (x8v := (3 : Int32)) hT k_a0 (show 2 ≤ (x2).toInt by first | assumption | omega) (show (x2).toInt ≤ 16 by first | assumption | omega) (show 0 ≤ (x3).toInt by first | assumption | omega) (show (x3).toInt ≤ (x4).toInt by first | assumption | omega) (show (x4).toInt ≤ (x3).toInt + 2000 by first | assumption | omega) (show (x4).toInt ≤ (q_I δ 12 36 a0).toInt by first | assumption | omega) (show (q_I δ 12 36 a0).toInt ≤ 12000 by first | assumption | omega) (show 1 < (x2).toInt → (q_I δ 12 36 a0).toInt ≤ 10000 by first | assumption | omega) (show 2 < (x2).toInt → (q_I δ 12 36 a0).toInt ≤ 8000 by first | assumption | omega) (show 4 < (x2).toInt → (q_I δ 12 36 a0).toInt ≤ 6000 by first | assumption | omega) (show 8 < (x2).toInt → (q_I δ 12 36 a0).toInt ≤ 4000 by first | assumption | omega) (show (x2).toInt ≤ K by first | assumption | omega) (show (x3).toInt < (x4).toInt by first | assumption | omega) (show (3 : Int) = 1 ∨ (3 : Int) = 3 by first | assumption | omega) I) (fun r281 hr282 => ?_)
                obtain ⟨i283, ⟨u287, u288, u289⟩, p284, p285, p286⟩ := hr282
                have u290 := kp_t kp_r u287
                have v291 : q_V r281.2 = q_V δ := (u288).trans rfl
                have v292 := kr_t (kr_r (ad := ad)) u289
                have f293 := cb_12_36 i283 k_a0
                have f294 := ti_b r281.1
                have f295 := ti_b r281.1
                exact ⟨by assumption, ⟨kp_w (by decide) u290, v291, kr_w (by decide) v292⟩, by first | assumption | omega, by first | assumption | omega, by first | assumption | omega⟩
              · have c296 : x1.toInt ≠ x5v.toInt := o_ne h266
                refine ok_ite (fun h297 => ?_) (fun h297 => ?_)
                · have c298 : x1.toInt = x6v.toInt := o_eq h297
                  obtain ⟨b299, o300, k301, n302, w303⟩ := gO_12_35 L k_a0
                  obtain rfl := gS_12_35 L k_a0 o300
                  refine ok_at o300 ?_
                  first | (have q305 := te_subc (c := 2) (n := 2) rfl x4 (by omega) (by omega); obtain ⟨f306, f307, f308⟩ := q305) | (obtain ⟨q305, f306, f307, f308⟩ := ti_subc (c := 2) (n := 2) rfl x4)
                  have t309 := ti_tn (x4 - (2 : Int32))
                  refine ok_gd (fun hc310 => ?_) ?_
                  · rcases hc310 with hc310 | hc310
                    · have c311 : (x4 - (2 : Int32)).toInt < (0 : Int) := o_lt hc310
                      omega
                    · omega
                  refine ok_mono (kj_X12_touchDrop_121 L hN (a0 := a0) (x1 := x1) (x2 := x2) (x3 := x3) (x4 := x4) (xs0 := (q_R δ (Ad ad 119) (x4 - (2 : Int32)).toNatClampNeg)) (x8v := (3 : Int32)) hT k_a0 (show 2 ≤ (x2).toInt by first | assumption | omega) (show (x2).toInt ≤ 16 by first | assumption | omega) (show 0 ≤ (x3).toInt by first | assumption | omega) (show (x3).toInt ≤ (x4).toInt by first | assumption | omega) (show (x4).toInt ≤ (x3).toInt + 2000 by first | assumption | omega) (show (x4).toInt ≤ (q_I δ 12 36 a0).toInt by first | assumption | omega) (show (q_I δ 12 36 a0).toInt ≤ 12000 by first | assumption | omega) (show 1 < (x2).toInt → (q_I δ 12 36 a0).toInt ≤ 10000 by first | assumption | omega) (show 2 < (x2).toInt → (q_I δ 12 36 a0).toInt ≤ 8000 by first | assumption | omega) (show 4 < (x2).toInt → (q_I δ 12 36 a0).toInt ≤ 6000 by first | assumption | omega) (show 8 < (x2).toInt → (q_I δ 12 36 a0).toInt ≤ 4000 by first | assumption | omega) (show (x2).toInt ≤ K by first | assumption | omega) (show (x3).toInt < (x4).toInt by first | assumption | omega) (show (3 : Int) = 1 ∨ (3 : Int) = 3 by first | assumption | omega) I) (fun r312 hr313 => ?_)
                  obtain ⟨i314, ⟨u318, u319, u320⟩, p315, p316, p317⟩ := hr313
                  have u321 := kp_t kp_r u318
                  have v322 : q_V r312.2 = q_V δ := (u319).trans rfl
                  have v323 := kr_t (kr_r (ad := ad)) u320
                  have f324 := cb_12_36 i314 k_a0
                  have f325 := ti_b r312.1
                  have f326 := ti_b r312.1
                  exact ⟨by assumption, ⟨kp_w (by decide) u321, v322, kr_w (by decide) v323⟩, by first | assumption | omega, by first | assumption | omega, by first | assumption | omega⟩
                · have c327 : x1.toInt ≠ x6v.toInt := o_ne h297
                  refine ok_mono (kj_X12_touchDrop_121 L hN (a0 := a0) (x1 := x1) (x2 := x2) (x3 := x3) (x4 := x4) (xs0 := x1) (x8v := (3 : Int32)) hT k_a0 (show 2 ≤ (x2).toInt by first | assumption | omega) (show (x2).toInt ≤ 16 by first | assumption | omega) (show 0 ≤ (x3).toInt by first | assumption | omega) (show (x3).toInt ≤ (x4).toInt by first | assumption | omega) (show (x4).toInt ≤ (x3).toInt + 2000 by first | assumption | omega) (show (x4).toInt ≤ (q_I δ 12 36 a0).toInt by first | assumption | omega) (show (q_I δ 12 36 a0).toInt ≤ 12000 by first | assumption | omega) (show 1 < (x2).toInt → (q_I δ 12 36 a0).toInt ≤ 10000 by first | assumption | omega) (show 2 < (x2).toInt → (q_I δ 12 36 a0).toInt ≤ 8000 by first | assumption | omega) (show 4 < (x2).toInt → (q_I δ 12 36 a0).toInt ≤ 6000 by first | assumption | omega) (show 8 < (x2).toInt → (q_I δ 12 36 a0).toInt ≤ 4000 by first | assumption | omega) (show (x2).toInt ≤ K by first | assumption | omega) (show (x3).toInt < (x4).toInt by first | assumption | omega) (show (3 : Int) = 1 ∨ (3 : Int) = 3 by first | assumption | omega) I) (fun r328 hr329 => ?_)
                  obtain ⟨i330, ⟨u334, u335, u336⟩, p331, p332, p333⟩ := hr329
                  have u337 := kp_t kp_r u334
                  have v338 : q_V r328.2 = q_V δ := (u335).trans rfl
                  have v339 := kr_t (kr_r (ad := ad)) u336
                  have f340 := cb_12_36 i330 k_a0
                  have f341 := ti_b r328.1
                  have f342 := ti_b r328.1
                  exact ⟨by assumption, ⟨kp_w (by decide) u337, v338, kr_w (by decide) v339⟩, by first | assumption | omega, by first | assumption | omega, by first | assumption | omega⟩
set_option maxHeartbeats 4000000 in
theorem k_bX12_touchDrop {ad : List Nat} {h : hp} (L : Lay TLx ad h) {δ0 : dp} {N : Nat} (hN : 10000000 ≤ N) {T : Nat → Int32 → Int32 → Int32 → Int32 → Int32 → dp → Option (Int32 × dp)} {K : Int} (hT : ∀ (a0 : Nat) (x1 : Int32) (x2 : Int32) (x3 : Int32) (x4 : Int32) (x5 : Int32) (δ : dp), q_K h.1 a0 = 12 → 1 ≤ (x3).toInt → (x3).toInt ≤ 16 → 0 ≤ (x4).toInt → (x4).toInt ≤ (x5).toInt → (x5).toInt ≤ (x4).toInt + 2000 → (x5).toInt ≤ (q_I δ 12 36 a0).toInt → (q_I δ 12 36 a0).toInt ≤ 12000 → (1 < (x3).toInt → (q_I δ 12 36 a0).toInt ≤ 10000) → (2 < (x3).toInt → (q_I δ 12 36 a0).toInt ≤ 8000) → (4 < (x3).toInt → (q_I δ 12 36 a0).toInt ≤ 6000) → (8 < (x3).toInt → (q_I δ 12 36 a0).toInt ≤ 4000) → (x3).toInt < K → RI ad h.1 δ0 δ → ok (T a0 x1 x2 x3 x4 x5 δ) (fun r => RI ad h.1 δ0 r.2 ∧ (kp [(12, 36)] δ r.2 ∧ q_V r.2 = q_V δ ∧ kr ad [119] δ r.2) ∧ (q_I r.2 12 36 a0).toInt = (q_I δ 12 36 a0).toInt ∧ 1 ≤ (r.1).toInt ∧ (r.1).toInt ≤ 4 * (x3).toInt - 3)) {a0 : Nat} {x1 : Int32} {x2 : Int32} {x3 : Int32} {x4 : Int32} (k_a0 : q_K h.1 a0 = 12) {δ : dp} (z0 : 2 ≤ (x2).toInt) (z1 : (x2).toInt ≤ 16) (z2 : 0 ≤ (x3).toInt) (z3 : (x3).toInt ≤ (x4).toInt) (z4 : (x4).toInt ≤ (x3).toInt + 2000) (z5 : (x4).toInt ≤ (q_I δ 12 36 a0).toInt) (z6 : (q_I δ 12 36 a0).toInt ≤ 12000) (z7 : 1 < (x2).toInt → (q_I δ 12 36 a0).toInt ≤ 10000) (z8 : 2 < (x2).toInt → (q_I δ 12 36 a0).toInt ≤ 8000) (z9 : 4 < (x2).toInt → (q_I δ 12 36 a0).toInt ≤ 6000) (z10 : 8 < (x2).toInt → (q_I δ 12 36 a0).toInt ≤ 4000) (z11 : (x2).toInt ≤ K) (z12 : (x3).toInt < (x4).toInt) (I : RI ad h.1 δ0 δ) : ok (B_X12_touchDrop N h.1 T a0 x1 x2 x3 x4 δ) (fun r => RI ad h.1 δ0 r.2 ∧ (kp [(12, 36)] δ r.2 ∧ q_V r.2 = q_V δ ∧ kr ad [119] δ r.2) ∧ (q_I r.2 12 36 a0).toInt = (q_I δ 12 36 a0).toInt ∧ 1 ≤ (r.1).toInt ∧ (r.1).toInt ≤ 4 * (x2).toInt - 3) := by
  unfold B_X12_touchDrop
  have f1 := ti_b x2
  have f2 := ti_b x3
  have f3 := ti_b x4
  have f4 := cb_12_36 I k_a0
  obtain ⟨b5, o6, k7, n8, w9⟩ := gO_12_35 L k_a0
  obtain rfl := gS_12_35 L k_a0 o6
  refine ok_at o6 ?_
  have t10 := ti_tn x3
  refine ok_gd (fun hc11 => ?_) ?_
  · rcases hc11 with hc11 | hc11
    · have c12 : x3.toInt < (0 : Int) := o_lt hc11
      omega
    · omega
  have f15 := ti_b (q_R δ (Ad ad 119) x3.toNatClampNeg)
  refine ok_biv (fun vx13 e14 => ?_)
  have f16 : vx13.toInt = (q_R δ (Ad ad 119) x3.toNatClampNeg).toInt := congrArg Int32.toInt e14
  refine ok_at o6 ?_
  first | (have q18 := te_subc (c := 1) (n := 1) rfl x4 (by omega) (by omega); obtain ⟨f19, f20, f21⟩ := q18) | (obtain ⟨q18, f19, f20, f21⟩ := ti_subc (c := 1) (n := 1) rfl x4)
  have t22 := ti_tn (x4 - (1 : Int32))
  refine ok_gd (fun hc23 => ?_) ?_
  · rcases hc23 with hc23 | hc23
    · have c24 : (x4 - (1 : Int32)).toInt < (0 : Int) := o_lt hc23
      omega
    · omega
  have f27 := ti_b (q_R δ (Ad ad 119) (x4 - (1 : Int32)).toNatClampNeg)
  refine ok_biv (fun vx25 e26 => ?_)
  have f28 : vx25.toInt = (q_R δ (Ad ad 119) (x4 - (1 : Int32)).toNatClampNeg).toInt := congrArg Int32.toInt e26
  have f29 := ti_b x1
  refine ok_ite (fun h30 => ?_) (fun h30 => ?_)
  · have c31 : x1.toInt = vx13.toInt := o_eq h30
    unfold J_X12_touchDrop_31
    refine ok_mono (kj_X12_touchDrop_36 L hN (a0 := a0) (x1 := x1) (x2 := x2) (x3 := x3) (x4 := x4) (xs0 := (1 : Int32)) (x5v := vx13) (x6v := vx25) hT k_a0 (show 2 ≤ (x2).toInt by first | assumption | omega) (show (x2).toInt ≤ 16 by first | assumption | omega) (show 0 ≤ (x3).toInt by first | assumption | omega) (show (x3).toInt ≤ (x4).toInt by first | assumption | omega) (show (x4).toInt ≤ (x3).toInt + 2000 by first | assumption | omega) (show (x4).toInt ≤ (q_I δ 12 36 a0).toInt by first | assumption | omega) (show (q_I δ 12 36 a0).toInt ≤ 12000 by first | assumption | omega) (show 1 < (x2).toInt → (q_I δ 12 36 a0).toInt ≤ 10000 by first | assumption | omega) (show 2 < (x2).toInt → (q_I δ 12 36 a0).toInt ≤ 8000 by first | assumption | omega) (show 4 < (x2).toInt → (q_I δ 12 36 a0).toInt ≤ 6000 by first | assumption | omega) (show 8 < (x2).toInt → (q_I δ 12 36 a0).toInt ≤ 4000 by first | assumption | omega) (show (x2).toInt ≤ K by first | assumption | omega) (show (x3).toInt < (x4).toInt by first | assumption | omega) (show (1 : Int) = 0 ∨ (1 : Int) = 1 by first | assumption | omega) I) (fun r32 hr33 => ?_)
    obtain ⟨i34, ⟨u38, u39, u40⟩, p35, p36, p37⟩ := hr33
    have u41 := kp_t kp_r u38
    have v42 : q_V r32.2 = q_V δ := (u39).trans rfl
    have v43 := kr_t (kr_r (ad := ad)) u40
    have f44 := cb_12_36 i34 k_a0
    have f45 := ti_b r32.1
    have f46 := ti_b r32.1
    exact ⟨by assumption, ⟨kp_w (by decide) u41, v42, kr_w (by decide) v43⟩, by first | assumption | omega, by first | assumption | omega, by first | assumption | omega⟩
  · have c47 : x1.toInt ≠ vx13.toInt := o_ne h30
    refine ok_ite (fun h48 => ?_) (fun h48 => ?_)
    · have c49 : x1.toInt = vx25.toInt := o_eq h48
      unfold J_X12_touchDrop_31
      refine ok_mono (kj_X12_touchDrop_36 L hN (a0 := a0) (x1 := x1) (x2 := x2) (x3 := x3) (x4 := x4) (xs0 := (1 : Int32)) (x5v := vx13) (x6v := vx25) hT k_a0 (show 2 ≤ (x2).toInt by first | assumption | omega) (show (x2).toInt ≤ 16 by first | assumption | omega) (show 0 ≤ (x3).toInt by first | assumption | omega) (show (x3).toInt ≤ (x4).toInt by first | assumption | omega) (show (x4).toInt ≤ (x3).toInt + 2000 by first | assumption | omega) (show (x4).toInt ≤ (q_I δ 12 36 a0).toInt by first | assumption | omega) (show (q_I δ 12 36 a0).toInt ≤ 12000 by first | assumption | omega) (show 1 < (x2).toInt → (q_I δ 12 36 a0).toInt ≤ 10000 by first | assumption | omega) (show 2 < (x2).toInt → (q_I δ 12 36 a0).toInt ≤ 8000 by first | assumption | omega) (show 4 < (x2).toInt → (q_I δ 12 36 a0).toInt ≤ 6000 by first | assumption | omega) (show 8 < (x2).toInt → (q_I δ 12 36 a0).toInt ≤ 4000 by first | assumption | omega) (show (x2).toInt ≤ K by first | assumption | omega) (show (x3).toInt < (x4).toInt by first | assumption | omega) (show (1 : Int) = 0 ∨ (1 : Int) = 1 by first | assumption | omega) I) (fun r50 hr51 => ?_)
      obtain ⟨i52, ⟨u56, u57, u58⟩, p53, p54, p55⟩ := hr51
      have u59 := kp_t kp_r u56
      have v60 : q_V r50.2 = q_V δ := (u57).trans rfl
      have v61 := kr_t (kr_r (ad := ad)) u58
      have f62 := cb_12_36 i52 k_a0
      have f63 := ti_b r50.1
      have f64 := ti_b r50.1
      exact ⟨by assumption, ⟨kp_w (by decide) u59, v60, kr_w (by decide) v61⟩, by first | assumption | omega, by first | assumption | omega, by first | assumption | omega⟩
    · have c65 : x1.toInt ≠ vx25.toInt := o_ne h48
      refine ok_mono (kj_X12_touchDrop_36 L hN (a0 := a0) (x1 := x1) (x2 := x2) (x3 := x3) (x4 := x4) (xs0 := (0 : Int32)) (x5v := vx13) (x6v := vx25) hT k_a0 (show 2 ≤ (x2).toInt by first | assumption | omega) (show (x2).toInt ≤ 16 by first | assumption | omega) (show 0 ≤ (x3).toInt by first | assumption | omega) (show (x3).toInt ≤ (x4).toInt by first | assumption | omega) (show (x4).toInt ≤ (x3).toInt + 2000 by first | assumption | omega) (show (x4).toInt ≤ (q_I δ 12 36 a0).toInt by first | assumption | omega) (show (q_I δ 12 36 a0).toInt ≤ 12000 by first | assumption | omega) (show 1 < (x2).toInt → (q_I δ 12 36 a0).toInt ≤ 10000 by first | assumption | omega) (show 2 < (x2).toInt → (q_I δ 12 36 a0).toInt ≤ 8000 by first | assumption | omega) (show 4 < (x2).toInt → (q_I δ 12 36 a0).toInt ≤ 6000 by first | assumption | omega) (show 8 < (x2).toInt → (q_I δ 12 36 a0).toInt ≤ 4000 by first | assumption | omega) (show (x2).toInt ≤ K by first | assumption | omega) (show (x3).toInt < (x4).toInt by first | assumption | omega) (show (0 : Int) = 0 ∨ (0 : Int) = 1 by first | assumption | omega) I) (fun r66 hr67 => ?_)
      obtain ⟨i68, ⟨u72, u73, u74⟩, p69, p70, p71⟩ := hr67
      have u75 := kp_t kp_r u72
      have v76 : q_V r66.2 = q_V δ := (u73).trans rfl
      have v77 := kr_t (kr_r (ad := ad)) u74
      have f78 := cb_12_36 i68 k_a0
      have f79 := ti_b r66.1
      have f80 := ti_b r66.1
      exact ⟨by assumption, ⟨kp_w (by decide) u75, v76, kr_w (by decide) v77⟩, by first | assumption | omega, by first | assumption | omega, by first | assumption | omega⟩
set_option maxHeartbeats 4000000 in
theorem kj_X12_touch_267 {ad : List Nat} {h : hp} (L : Lay TLx ad h) {δ0 : dp} {N : Nat} (hN : 10000000 ≤ N) {T : Nat → Int32 → Int32 → Int32 → Int32 → Int32 → dp → Option (Int32 × dp)} {K : Int} (hT : ∀ (a0 : Nat) (x1 : Int32) (x2 : Int32) (x3 : Int32) (x4 : Int32) (x5 : Int32) (δ : dp), q_K h.1 a0 = 12 → 1 ≤ (x3).toInt → (x3).toInt ≤ 16 → 0 ≤ (x4).toInt → (x4).toInt ≤ (x5).toInt → (x5).toInt ≤ (x4).toInt + 2000 → (x5).toInt ≤ (q_I δ 12 36 a0).toInt → (q_I δ 12 36 a0).toInt ≤ 12000 → (1 < (x3).toInt → (q_I δ 12 36 a0).toInt ≤ 10000) → (2 < (x3).toInt → (q_I δ 12 36 a0).toInt ≤ 8000) → (4 < (x3).toInt → (q_I δ 12 36 a0).toInt ≤ 6000) → (8 < (x3).toInt → (q_I δ 12 36 a0).toInt ≤ 4000) → (x3).toInt < K → RI ad h.1 δ0 δ → ok (T a0 x1 x2 x3 x4 x5 δ) (fun r => RI ad h.1 δ0 r.2 ∧ (kp [(12, 36)] δ r.2 ∧ q_V r.2 = q_V δ ∧ kr ad [119] δ r.2) ∧ (q_I r.2 12 36 a0).toInt = (q_I δ 12 36 a0).toInt ∧ 1 ≤ (r.1).toInt ∧ (r.1).toInt ≤ 4 * (x3).toInt - 3)) {a0 : Nat} {x1 : Int32} {x2 : Int32} {x3 : Int32} {x4 : Int32} {x5 : Int32} {x9v : Int32} {x10v : Int32} (k_a0 : q_K h.1 a0 = 12) {δ : dp} (z0 : 2 ≤ (x3).toInt) (z1 : (x3).toInt ≤ 16) (z2 : 0 ≤ (x4).toInt) (z3 : (x4).toInt ≤ (x5).toInt) (z4 : (x5).toInt ≤ (x4).toInt + 2000) (z5 : (x5).toInt ≤ (q_I δ 12 36 a0).toInt) (z6 : (q_I δ 12 36 a0).toInt ≤ 12000) (z7 : 1 < (x3).toInt → (q_I δ 12 36 a0).toInt ≤ 10000) (z8 : 2 < (x3).toInt → (q_I δ 12 36 a0).toInt ≤ 8000) (z9 : 4 < (x3).toInt → (q_I δ 12 36 a0).toInt ≤ 6000) (z10 : 8 < (x3).toInt → (q_I δ 12 36 a0).toInt ≤ 4000) (z11 : (x3).toInt ≤ K) (z12 : (x4).toInt < (x5).toInt) (z13 : (x4).toInt + 3 ≤ (x5).toInt) (z14 : 1 ≤ (x9v).toInt) (z15 : (x9v).toInt ≤ 2) (I : RI ad h.1 δ0 δ) : ok (J_X12_touch_267 N h.1 T a0 x1 x2 x3 x4 x5 x9v x10v δ) (fun r => RI ad h.1 δ0 r.2 ∧ (kp [(12, 36)] δ r.2 ∧ q_V r.2 = q_V δ ∧ kr ad [119] δ r.2) ∧ (q_I r.2 12 36 a0).toInt = (q_I δ 12 36 a0).toInt ∧ 1 ≤ (r.1).toInt ∧ (r.1).toInt ≤ 4 * (x3).toInt - 3) := by
  unfold J_X12_touch_267
  have f1 := ti_b x3
  have f2 := ti_b x4
  have f3 := ti_b x5
  have f4 := cb_12_36 I k_a0
  have f5 := ti_b x9v
  have f6 := ti_b x1
  refine ok_ite (fun h7 => ?_) (fun h7 => ?_)
  · have c8 : x1.toInt = (3 : Int) := o_eq h7
    obtain ⟨b9, o10, k11, n12, w13⟩ := gO_12_35 L k_a0
    obtain rfl := gS_12_35 L k_a0 o10
    refine ok_at o10 ?_
    first | (have q15 := te_subc (c := 2) (n := 2) rfl x5 (by omega) (by omega); obtain ⟨f16, f17, f18⟩ := q15) | (obtain ⟨q15, f16, f17, f18⟩ := ti_subc (c := 2) (n := 2) rfl x5)
    have t19 := ti_tn (x5 - (2 : Int32))
    refine ok_gd (fun hc20 => ?_) ?_
    · rcases hc20 with hc20 | hc20
      · have c21 : (x5 - (2 : Int32)).toInt < (0 : Int) := o_lt hc20
        omega
      · omega
    have f22 := ti_b ((q_R δ (Ad ad 119) (x5 - (2 : Int32)).toNatClampNeg) >>> (x10v &&& 31))
    have f23 := ti_b (x2 >>> (x10v &&& 31))
    refine ok_ite (fun h24 => ?_) (fun h24 => ?_)
    · have c25 : ((q_R δ (Ad ad 119) (x5 - (2 : Int32)).toNatClampNeg) >>> (x10v &&& 31)).toInt ≤ (x2 >>> (x10v &&& 31)).toInt := o_le h24
      unfold J_X12_touch_323
      refine ok_bind (k_bX12_inList L hN (a0 := a0) (x1 := x1) (x2 := x2) (x3 := x3) (x4 := x4) (x5 := x5) hT k_a0 (show 2 ≤ (x3).toInt by first | assumption | omega) (show (x3).toInt ≤ 16 by first | assumption | omega) (show 0 ≤ (x4).toInt by first | assumption | omega) (show (x4).toInt ≤ (x5).toInt by first | assumption | omega) (show (x5).toInt ≤ (x4).toInt + 2000 by first | assumption | omega) (show (x5).toInt ≤ (q_I δ 12 36 a0).toInt by first | assumption | omega) (show (q_I δ 12 36 a0).toInt ≤ 12000 by first | assumption | omega) (show 1 < (x3).toInt → (q_I δ 12 36 a0).toInt ≤ 10000 by first | assumption | omega) (show 2 < (x3).toInt → (q_I δ 12 36 a0).toInt ≤ 8000 by first | assumption | omega) (show 4 < (x3).toInt → (q_I δ 12 36 a0).toInt ≤ 6000 by first | assumption | omega) (show 8 < (x3).toInt → (q_I δ 12 36 a0).toInt ≤ 4000 by first | assumption | omega) (show (x3).toInt ≤ K by first | assumption | omega) I) (fun r26 hr27 => ?_)
      obtain ⟨i28, ⟨u33, u34, u35⟩, p29, p30, p31, p32⟩ := hr27
      have u36 := kp_t kp_r u33
      have v37 : q_V r26.2 = q_V δ := (u34).trans rfl
      have v38 := kr_t (kr_r (ad := ad)) u35
      have f39 := cb_12_36 i28 k_a0
      have f40 := ti_b r26.1
      have f41 := cb_12_12 I k_a0
      have f42 := ti_b r26.1
      refine ok_ite (fun h43 => ?_) (fun h43 => ?_)
      · have c44 : (0 : Int) = (0 : Int) := o_eq h43
        unfold J_X12_touch_349
        first | (have q46 := te_add x9v r26.1 (by omega) (by omega); obtain ⟨f47, f48, f49⟩ := q46) | (obtain ⟨q46, f47, f48, f49⟩ := ti_add x9v r26.1)
        first | (have q51 := te_addc (c := 0) (n := 0) rfl (x9v + r26.1) (by omega) (by omega); obtain ⟨f52, f53, f54⟩ := q51) | (obtain ⟨q51, f52, f53, f54⟩ := ti_addc (c := 0) (n := 0) rfl (x9v + r26.1))
        exact ok_some (show RI ad h.1 δ0 r26.2 ∧ (kp [(12, 36)] δ r26.2 ∧ q_V r26.2 = q_V δ ∧ kr ad [119] δ r26.2) ∧ (q_I r26.2 12 36 a0).toInt = (q_I δ 12 36 a0).toInt ∧ 1 ≤ (((x9v + r26.1) + (0 : Int32))).toInt ∧ (((x9v + r26.1) + (0 : Int32))).toInt ≤ 4 * (x3).toInt - 3 from ⟨i28, ⟨kp_w (by decide) u36, v37, kr_w (by decide) v38⟩, by first | assumption | omega, by first | assumption | omega, by first | assumption | omega⟩)
      · have c55 : (0 : Int) ≠ (0 : Int) := o_ne h43
        unfold J_X12_touch_349
        first | (have q57 := te_add x9v r26.1 (by omega) (by omega); obtain ⟨f58, f59, f60⟩ := q57) | (obtain ⟨q57, f58, f59, f60⟩ := ti_add x9v r26.1)
        first | (have q62 := te_addc (c := 1) (n := 1) rfl (x9v + r26.1) (by omega) (by omega); obtain ⟨f63, f64, f65⟩ := q62) | (obtain ⟨q62, f63, f64, f65⟩ := ti_addc (c := 1) (n := 1) rfl (x9v + r26.1))
        exact ok_some (show RI ad h.1 δ0 r26.2 ∧ (kp [(12, 36)] δ r26.2 ∧ q_V r26.2 = q_V δ ∧ kr ad [119] δ r26.2) ∧ (q_I r26.2 12 36 a0).toInt = (q_I δ 12 36 a0).toInt ∧ 1 ≤ (((x9v + r26.1) + (1 : Int32))).toInt ∧ (((x9v + r26.1) + (1 : Int32))).toInt ≤ 4 * (x3).toInt - 3 from ⟨i28, ⟨kp_w (by decide) u36, v37, kr_w (by decide) v38⟩, by first | assumption | omega, by first | assumption | omega, by first | assumption | omega⟩)
    · have c66 : (x2 >>> (x10v &&& 31)).toInt < ((q_R δ (Ad ad 119) (x5 - (2 : Int32)).toNatClampNeg) >>> (x10v &&& 31)).toInt := o_nle h24
      unfold J_X12_touch_323
      refine ok_bind (k_bX12_inList L hN (a0 := a0) (x1 := x1) (x2 := x2) (x3 := x3) (x4 := x4) (x5 := x5) hT k_a0 (show 2 ≤ (x3).toInt by first | assumption | omega) (show (x3).toInt ≤ 16 by first | assumption | omega) (show 0 ≤ (x4).toInt by first | assumption | omega) (show (x4).toInt ≤ (x5).toInt by first | assumption | omega) (show (x5).toInt ≤ (x4).toInt + 2000 by first | assumption | omega) (show (x5).toInt ≤ (q_I δ 12 36 a0).toInt by first | assumption | omega) (show (q_I δ 12 36 a0).toInt ≤ 12000 by first | assumption | omega) (show 1 < (x3).toInt → (q_I δ 12 36 a0).toInt ≤ 10000 by first | assumption | omega) (show 2 < (x3).toInt → (q_I δ 12 36 a0).toInt ≤ 8000 by first | assumption | omega) (show 4 < (x3).toInt → (q_I δ 12 36 a0).toInt ≤ 6000 by first | assumption | omega) (show 8 < (x3).toInt → (q_I δ 12 36 a0).toInt ≤ 4000 by first | assumption | omega) (show (x3).toInt ≤ K by first | assumption | omega) I) (fun r67 hr68 => ?_)
      obtain ⟨i69, ⟨u74, u75, u76⟩, p70, p71, p72, p73⟩ := hr68
      have u77 := kp_t kp_r u74
      have v78 : q_V r67.2 = q_V δ := (u75).trans rfl
      have v79 := kr_t (kr_r (ad := ad)) u76
      have f80 := cb_12_36 i69 k_a0
      have f81 := ti_b r67.1
      have f82 := cb_12_12 I k_a0
      have f83 := ti_b r67.1
      refine ok_ite (fun h84 => ?_) (fun h84 => ?_)
      · have c85 : (1 : Int) = (0 : Int) := o_eq h84
        unfold J_X12_touch_349
        first | (have q87 := te_add x9v r67.1 (by omega) (by omega); obtain ⟨f88, f89, f90⟩ := q87) | (obtain ⟨q87, f88, f89, f90⟩ := ti_add x9v r67.1)
        first | (have q92 := te_addc (c := 0) (n := 0) rfl (x9v + r67.1) (by omega) (by omega); obtain ⟨f93, f94, f95⟩ := q92) | (obtain ⟨q92, f93, f94, f95⟩ := ti_addc (c := 0) (n := 0) rfl (x9v + r67.1))
        exact ok_some (show RI ad h.1 δ0 r67.2 ∧ (kp [(12, 36)] δ r67.2 ∧ q_V r67.2 = q_V δ ∧ kr ad [119] δ r67.2) ∧ (q_I r67.2 12 36 a0).toInt = (q_I δ 12 36 a0).toInt ∧ 1 ≤ (((x9v + r67.1) + (0 : Int32))).toInt ∧ (((x9v + r67.1) + (0 : Int32))).toInt ≤ 4 * (x3).toInt - 3 from ⟨i69, ⟨kp_w (by decide) u77, v78, kr_w (by decide) v79⟩, by first | assumption | omega, by first | assumption | omega, by first | assumption | omega⟩)
      · have c96 : (1 : Int) ≠ (0 : Int) := o_ne h84
        unfold J_X12_touch_349
        first | (have q98 := te_add x9v r67.1 (by omega) (by omega); obtain ⟨f99, f100, f101⟩ := q98) | (obtain ⟨q98, f99, f100, f101⟩ := ti_add x9v r67.1)
        first | (have q103 := te_addc (c := 1) (n := 1) rfl (x9v + r67.1) (by omega) (by omega); obtain ⟨f104, f105, f106⟩ := q103) | (obtain ⟨q103, f104, f105, f106⟩ := ti_addc (c := 1) (n := 1) rfl (x9v + r67.1))
        exact ok_some (show RI ad h.1 δ0 r67.2 ∧ (kp [(12, 36)] δ r67.2 ∧ q_V r67.2 = q_V δ ∧ kr ad [119] δ r67.2) ∧ (q_I r67.2 12 36 a0).toInt = (q_I δ 12 36 a0).toInt ∧ 1 ≤ (((x9v + r67.1) + (1 : Int32))).toInt ∧ (((x9v + r67.1) + (1 : Int32))).toInt ≤ 4 * (x3).toInt - 3 from ⟨i69, ⟨kp_w (by decide) u77, v78, kr_w (by decide) v79⟩, by first | assumption | omega, by first | assumption | omega, by first | assumption | omega⟩)
  · have c107 : x1.toInt ≠ (3 : Int) := o_ne h7
    obtain ⟨b108, o109, k110, n111, w112⟩ := gO_12_35 L k_a0
    obtain rfl := gS_12_35 L k_a0 o109
    refine ok_at o109 ?_
    first | (have q114 := te_addc (c := 1) (n := 1) rfl x4 (by omega) (by omega); obtain ⟨f115, f116, f117⟩ := q114) | (obtain ⟨q114, f115, f116, f117⟩ := ti_addc (c := 1) (n := 1) rfl x4)
    have t118 := ti_tn (x4 + (1 : Int32))
    refine ok_gd (fun hc119 => ?_) ?_
    · rcases hc119 with hc119 | hc119
      · have c120 : (x4 + (1 : Int32)).toInt < (0 : Int) := o_lt hc119
        omega
      · omega
    have f121 := ti_b (x2 >>> (x10v &&& 31))
    have f122 := ti_b ((q_R δ (Ad ad 119) (x4 + (1 : Int32)).toNatClampNeg) >>> (x10v &&& 31))
    refine ok_ite (fun h123 => ?_) (fun h123 => ?_)
    · have c124 : (x2 >>> (x10v &&& 31)).toInt ≤ ((q_R δ (Ad ad 119) (x4 + (1 : Int32)).toNatClampNeg) >>> (x10v &&& 31)).toInt := o_le h123
      unfold J_X12_touch_323
      refine ok_bind (k_bX12_inList L hN (a0 := a0) (x1 := x1) (x2 := x2) (x3 := x3) (x4 := x4) (x5 := x5) hT k_a0 (show 2 ≤ (x3).toInt by first | assumption | omega) (show (x3).toInt ≤ 16 by first | assumption | omega) (show 0 ≤ (x4).toInt by first | assumption | omega) (show (x4).toInt ≤ (x5).toInt by first | assumption | omega) (show (x5).toInt ≤ (x4).toInt + 2000 by first | assumption | omega) (show (x5).toInt ≤ (q_I δ 12 36 a0).toInt by first | assumption | omega) (show (q_I δ 12 36 a0).toInt ≤ 12000 by first | assumption | omega) (show 1 < (x3).toInt → (q_I δ 12 36 a0).toInt ≤ 10000 by first | assumption | omega) (show 2 < (x3).toInt → (q_I δ 12 36 a0).toInt ≤ 8000 by first | assumption | omega) (show 4 < (x3).toInt → (q_I δ 12 36 a0).toInt ≤ 6000 by first | assumption | omega) (show 8 < (x3).toInt → (q_I δ 12 36 a0).toInt ≤ 4000 by first | assumption | omega) (show (x3).toInt ≤ K by first | assumption | omega) I) (fun r125 hr126 => ?_)
      obtain ⟨i127, ⟨u132, u133, u134⟩, p128, p129, p130, p131⟩ := hr126
      have u135 := kp_t kp_r u132
      have v136 : q_V r125.2 = q_V δ := (u133).trans rfl
      have v137 := kr_t (kr_r (ad := ad)) u134
      have f138 := cb_12_36 i127 k_a0
      have f139 := ti_b r125.1
      have f140 := cb_12_12 I k_a0
      have f141 := ti_b r125.1
      refine ok_ite (fun h142 => ?_) (fun h142 => ?_)
      · have c143 : (0 : Int) = (0 : Int) := o_eq h142
        unfold J_X12_touch_349
        first | (have q145 := te_add x9v r125.1 (by omega) (by omega); obtain ⟨f146, f147, f148⟩ := q145) | (obtain ⟨q145, f146, f147, f148⟩ := ti_add x9v r125.1)
        first | (have q150 := te_addc (c := 0) (n := 0) rfl (x9v + r125.1) (by omega) (by omega); obtain ⟨f151, f152, f153⟩ := q150) | (obtain ⟨q150, f151, f152, f153⟩ := ti_addc (c := 0) (n := 0) rfl (x9v + r125.1))
        exact ok_some (show RI ad h.1 δ0 r125.2 ∧ (kp [(12, 36)] δ r125.2 ∧ q_V r125.2 = q_V δ ∧ kr ad [119] δ r125.2) ∧ (q_I r125.2 12 36 a0).toInt = (q_I δ 12 36 a0).toInt ∧ 1 ≤ (((x9v + r125.1) + (0 : Int32))).toInt ∧ (((x9v + r125.1) + (0 : Int32))).toInt ≤ 4 * (x3).toInt - 3 from ⟨i127, ⟨kp_w (by decide) u135, v136, kr_w (by decide) v137⟩, by first | assumption | omega, by first | assumption | omega, by first | assumption | omega⟩)
      · have c154 : (0 : Int) ≠ (0 : Int) := o_ne h142
        unfold J_X12_touch_349
        first | (have q156 := te_add x9v r125.1 (by omega) (by omega); obtain ⟨f157, f158, f159⟩ := q156) | (obtain ⟨q156, f157, f158, f159⟩ := ti_add x9v r125.1)
        first | (have q161 := te_addc (c := 1) (n := 1) rfl (x9v + r125.1) (by omega) (by omega); obtain ⟨f162, f163, f164⟩ := q161) | (obtain ⟨q161, f162, f163, f164⟩ := ti_addc (c := 1) (n := 1) rfl (x9v + r125.1))
        exact ok_some (show RI ad h.1 δ0 r125.2 ∧ (kp [(12, 36)] δ r125.2 ∧ q_V r125.2 = q_V δ ∧ kr ad [119] δ r125.2) ∧ (q_I r125.2 12 36 a0).toInt = (q_I δ 12 36 a0).toInt ∧ 1 ≤ (((x9v + r125.1) + (1 : Int32))).toInt ∧ (((x9v + r125.1) + (1 : Int32))).toInt ≤ 4 * (x3).toInt - 3 from ⟨i127, ⟨kp_w (by decide) u135, v136, kr_w (by decide) v137⟩, by first | assumption | omega, by first | assumption | omega, by first | assumption | omega⟩)
    · have c165 : ((q_R δ (Ad ad 119) (x4 + (1 : Int32)).toNatClampNeg) >>> (x10v &&& 31)).toInt < (x2 >>> (x10v &&& 31)).toInt := o_nle h123
      unfold J_X12_touch_323
      refine ok_bind (k_bX12_inList L hN (a0 := a0) (x1 := x1) (x2 := x2) (x3 := x3) (x4 := x4) (x5 := x5) hT k_a0 (show 2 ≤ (x3).toInt by first | assumption | omega) (show (x3).toInt ≤ 16 by first | assumption | omega) (show 0 ≤ (x4).toInt by first | assumption | omega) (show (x4).toInt ≤ (x5).toInt by first | assumption | omega) (show (x5).toInt ≤ (x4).toInt + 2000 by first | assumption | omega) (show (x5).toInt ≤ (q_I δ 12 36 a0).toInt by first | assumption | omega) (show (q_I δ 12 36 a0).toInt ≤ 12000 by first | assumption | omega) (show 1 < (x3).toInt → (q_I δ 12 36 a0).toInt ≤ 10000 by first | assumption | omega) (show 2 < (x3).toInt → (q_I δ 12 36 a0).toInt ≤ 8000 by first | assumption | omega) (show 4 < (x3).toInt → (q_I δ 12 36 a0).toInt ≤ 6000 by first | assumption | omega) (show 8 < (x3).toInt → (q_I δ 12 36 a0).toInt ≤ 4000 by first | assumption | omega) (show (x3).toInt ≤ K by first | assumption | omega) I) (fun r166 hr167 => ?_)
      obtain ⟨i168, ⟨u173, u174, u175⟩, p169, p170, p171, p172⟩ := hr167
      have u176 := kp_t kp_r u173
      have v177 : q_V r166.2 = q_V δ := (u174).trans rfl
      have v178 := kr_t (kr_r (ad := ad)) u175
      have f179 := cb_12_36 i168 k_a0
      have f180 := ti_b r166.1
      have f181 := cb_12_12 I k_a0
      have f182 := ti_b r166.1
      refine ok_ite (fun h183 => ?_) (fun h183 => ?_)
      · have c184 : (1 : Int) = (0 : Int) := o_eq h183
        unfold J_X12_touch_349
        first | (have q186 := te_add x9v r166.1 (by omega) (by omega); obtain ⟨f187, f188, f189⟩ := q186) | (obtain ⟨q186, f187, f188, f189⟩ := ti_add x9v r166.1)
        first | (have q191 := te_addc (c := 0) (n := 0) rfl (x9v + r166.1) (by omega) (by omega); obtain ⟨f192, f193, f194⟩ := q191) | (obtain ⟨q191, f192, f193, f194⟩ := ti_addc (c := 0) (n := 0) rfl (x9v + r166.1))
        exact ok_some (show RI ad h.1 δ0 r166.2 ∧ (kp [(12, 36)] δ r166.2 ∧ q_V r166.2 = q_V δ ∧ kr ad [119] δ r166.2) ∧ (q_I r166.2 12 36 a0).toInt = (q_I δ 12 36 a0).toInt ∧ 1 ≤ (((x9v + r166.1) + (0 : Int32))).toInt ∧ (((x9v + r166.1) + (0 : Int32))).toInt ≤ 4 * (x3).toInt - 3 from ⟨i168, ⟨kp_w (by decide) u176, v177, kr_w (by decide) v178⟩, by first | assumption | omega, by first | assumption | omega, by first | assumption | omega⟩)
      · have c195 : (1 : Int) ≠ (0 : Int) := o_ne h183
        unfold J_X12_touch_349
        first | (have q197 := te_add x9v r166.1 (by omega) (by omega); obtain ⟨f198, f199, f200⟩ := q197) | (obtain ⟨q197, f198, f199, f200⟩ := ti_add x9v r166.1)
        first | (have q202 := te_addc (c := 1) (n := 1) rfl (x9v + r166.1) (by omega) (by omega); obtain ⟨f203, f204, f205⟩ := q202) | (obtain ⟨q202, f203, f204, f205⟩ := ti_addc (c := 1) (n := 1) rfl (x9v + r166.1))
        exact ok_some (show RI ad h.1 δ0 r166.2 ∧ (kp [(12, 36)] δ r166.2 ∧ q_V r166.2 = q_V δ ∧ kr ad [119] δ r166.2) ∧ (q_I r166.2 12 36 a0).toInt = (q_I δ 12 36 a0).toInt ∧ 1 ≤ (((x9v + r166.1) + (1 : Int32))).toInt ∧ (((x9v + r166.1) + (1 : Int32))).toInt ≤ 4 * (x3).toInt - 3 from ⟨i168, ⟨kp_w (by decide) u176, v177, kr_w (by decide) v178⟩, by first | assumption | omega, by first | assumption | omega, by first | assumption | omega⟩)
set_option maxHeartbeats 4000000 in
theorem kj_X12_touch_158 {ad : List Nat} {h : hp} (L : Lay TLx ad h) {δ0 : dp} {N : Nat} (hN : 10000000 ≤ N) {T : Nat → Int32 → Int32 → Int32 → Int32 → Int32 → dp → Option (Int32 × dp)} {K : Int} (hT : ∀ (a0 : Nat) (x1 : Int32) (x2 : Int32) (x3 : Int32) (x4 : Int32) (x5 : Int32) (δ : dp), q_K h.1 a0 = 12 → 1 ≤ (x3).toInt → (x3).toInt ≤ 16 → 0 ≤ (x4).toInt → (x4).toInt ≤ (x5).toInt → (x5).toInt ≤ (x4).toInt + 2000 → (x5).toInt ≤ (q_I δ 12 36 a0).toInt → (q_I δ 12 36 a0).toInt ≤ 12000 → (1 < (x3).toInt → (q_I δ 12 36 a0).toInt ≤ 10000) → (2 < (x3).toInt → (q_I δ 12 36 a0).toInt ≤ 8000) → (4 < (x3).toInt → (q_I δ 12 36 a0).toInt ≤ 6000) → (8 < (x3).toInt → (q_I δ 12 36 a0).toInt ≤ 4000) → (x3).toInt < K → RI ad h.1 δ0 δ → ok (T a0 x1 x2 x3 x4 x5 δ) (fun r => RI ad h.1 δ0 r.2 ∧ (kp [(12, 36)] δ r.2 ∧ q_V r.2 = q_V δ ∧ kr ad [119] δ r.2) ∧ (q_I r.2 12 36 a0).toInt = (q_I δ 12 36 a0).toInt ∧ 1 ≤ (r.1).toInt ∧ (r.1).toInt ≤ 4 * (x3).toInt - 3)) {a0 : Nat} {x1 : Int32} {x2 : Int32} {x3 : Int32} {x4 : Int32} {x5 : Int32} {xs0 : Int32} (k_a0 : q_K h.1 a0 = 12) {δ : dp} (z0 : 2 ≤ (x3).toInt) (z1 : (x3).toInt ≤ 16) (z2 : 0 ≤ (x4).toInt) (z3 : (x4).toInt ≤ (x5).toInt) (z4 : (x5).toInt ≤ (x4).toInt + 2000) (z5 : (x5).toInt ≤ (q_I δ 12 36 a0).toInt) (z6 : (q_I δ 12 36 a0).toInt ≤ 12000) (z7 : 1 < (x3).toInt → (q_I δ 12 36 a0).toInt ≤ 10000) (z8 : 2 < (x3).toInt → (q_I δ 12 36 a0).toInt ≤ 8000) (z9 : 4 < (x3).toInt → (q_I δ 12 36 a0).toInt ≤ 6000) (z10 : 8 < (x3).toInt → (q_I δ 12 36 a0).toInt ≤ 4000) (z11 : (x3).toInt ≤ K) (z12 : (x4).toInt < (x5).toInt) (z13 : (xs0).toInt = 0 ∨ (xs0).toInt = 1) (I : RI ad h.1 δ0 δ) : ok (J_X12_touch_158 N h.1 T a0 x1 x2 x3 x4 x5 xs0 δ) (fun r => RI ad h.1 δ0 r.2 ∧ (kp [(12, 36)] δ r.2 ∧ q_V r.2 = q_V δ ∧ kr ad [119] δ r.2) ∧ (q_I r.2 12 36 a0).toInt = (q_I δ 12 36 a0).toInt ∧ 1 ≤ (r.1).toInt ∧ (r.1).toInt ≤ 4 * (x3).toInt - 3) := by
  unfold J_X12_touch_158
  have f1 := ti_b x3
  have f2 := ti_b x4
  have f3 := ti_b x5
  have f4 := cb_12_36 I k_a0
  have f5 := ti_b xs0
  refine ok_ite (fun h6 => ?_) (fun h6 => ?_)
  · have c7 : xs0.toInt = (0 : Int) := o_eq h6
    first | (have q9 := te_sub x5 x4 (by omega) (by omega); obtain ⟨f10, f11, f12⟩ := q9) | (obtain ⟨q9, f10, f11, f12⟩ := ti_sub x5 x4)
    refine ok_ite (fun h13 => ?_) (fun h13 => ?_)
    · have c14 : (3 : Int) ≤ (x5 - x4).toInt := o_le h13
      refine ok_bind (k_X12_lowerBits L hN (a0 := a0) (x1 := x3) k_a0 I) (fun r15 hr16 => ?_)
      obtain ⟨i17, p18, p19, p20⟩ := hr16
      try rw [i17]
      have f21 := cb_12_12 I k_a0
      have f22 := ti_b r15.1
      have f23 := ti_b r15.1
      refine ok_bind (k_X12_roomMany L hN (a0 := a0) (x1 := x2) (x2 := x3) (x3 := x4) (x4 := x5) k_a0 (show 0 ≤ (x4).toInt by first | assumption | omega) (show (x4).toInt ≤ (x5).toInt by first | assumption | omega) (show (x5).toInt ≤ 14000 by first | assumption | omega) I) (fun r24 hr25 => ?_)
      have i26 := hr25
      try rw [i26]
      have f27 := ti_b r24.1
      refine ok_ite (fun h28 => ?_) (fun h28 => ?_)
      · have c29 : r24.1.toInt ≤ (0 : Int) := o_le h28
        refine ok_mono (kj_X12_touch_267 L hN (a0 := a0) (x1 := x1) (x2 := x2) (x3 := x3) (x4 := x4) (x5 := x5) (x9v := (1 : Int32)) (x10v := r15.1) hT k_a0 (show 2 ≤ (x3).toInt by first | assumption | omega) (show (x3).toInt ≤ 16 by first | assumption | omega) (show 0 ≤ (x4).toInt by first | assumption | omega) (show (x4).toInt ≤ (x5).toInt by first | assumption | omega) (show (x5).toInt ≤ (x4).toInt + 2000 by first | assumption | omega) (show (x5).toInt ≤ (q_I δ 12 36 a0).toInt by first | assumption | omega) (show (q_I δ 12 36 a0).toInt ≤ 12000 by first | assumption | omega) (show 1 < (x3).toInt → (q_I δ 12 36 a0).toInt ≤ 10000 by first | assumption | omega) (show 2 < (x3).toInt → (q_I δ 12 36 a0).toInt ≤ 8000 by first | assumption | omega) (show 4 < (x3).toInt → (q_I δ 12 36 a0).toInt ≤ 6000 by first | assumption | omega) (show 8 < (x3).toInt → (q_I δ 12 36 a0).toInt ≤ 4000 by first | assumption | omega) (show (x3).toInt ≤ K by first | assumption | omega) (show (x4).toInt < (x5).toInt by first | assumption | omega) (show (x4).toInt + 3 ≤ (x5).toInt by first | assumption | omega) (show 1 ≤ (1 : Int) by first | assumption | omega) (show (1 : Int) ≤ 2 by first | assumption | omega) I) (fun r30 hr31 => ?_)
        obtain ⟨i32, ⟨u36, u37, u38⟩, p33, p34, p35⟩ := hr31
        have u39 := kp_t kp_r u36
        have v40 : q_V r30.2 = q_V δ := (u37).trans rfl
        have v41 := kr_t (kr_r (ad := ad)) u38
        have f42 := cb_12_36 i32 k_a0
        have f43 := ti_b r30.1
        have f44 := ti_b r30.1
        exact ⟨by assumption, ⟨kp_w (by decide) u39, v40, kr_w (by decide) v41⟩, by first | assumption | omega, by first | assumption | omega, by first | assumption | omega⟩
      · have c45 : (0 : Int) < r24.1.toInt := o_nle h28
        refine ok_biv (fun vx46 e47 => ?_)
        first | (have q48 := te_cadd (c := 1) (n := 1) rfl (1 : Int32) (by omega) (by omega); rw [← e47] at q48; obtain ⟨f49, f50, f51⟩ := q48) | (obtain ⟨q48, f49, f50, f51⟩ : ∃ q : Int, vx46.toInt = (1 : Int) + (1 : Int) + 4294967296 * q ∧ -2147483648 ≤ vx46.toInt ∧ vx46.toInt ≤ 2147483647 := by rw [e47]; exact ti_cadd (c := 1) (n := 1) rfl (1 : Int32))
        have f54 := ti_b (x2 &&& (((1 : Int32) <<< (r15.1 &&& 31)) - (1 : Int32)))
        refine ok_biv (fun vx52 e53 => ?_)
        have f55 : vx52.toInt = (x2 &&& (((1 : Int32) <<< (r15.1 &&& 31)) - (1 : Int32))).toInt := congrArg Int32.toInt e53
        have f56 := ti_b x1
        refine ok_ite (fun h57 => ?_) (fun h57 => ?_)
        · have c58 : x1.toInt = (3 : Int) := o_eq h57
          refine ok_bind (k_X12_roomEnd L hN (a0 := a0) (x1 := x2) (x2 := x3) (x3 := x4) (x4 := x5) (x5 := (0 : Int32)) k_a0 (show 0 ≤ (x4).toInt by first | assumption | omega) (show (x4).toInt ≤ (x5).toInt by first | assumption | omega) (show (x5).toInt ≤ 14000 by first | assumption | omega) I) (fun r59 hr60 => ?_)
          have i61 := hr60
          try rw [i61]
          have f62 := ti_b r59.1
          refine ok_ite (fun h63 => ?_) (fun h63 => ?_)
          · have c64 : r59.1.toInt ≤ vx52.toInt := o_le h63
            refine ok_mono (kj_X12_touch_267 L hN (a0 := a0) (x1 := x1) (x2 := x2) (x3 := x3) (x4 := x4) (x5 := x5) (x9v := vx46) (x10v := r15.1) hT k_a0 (show 2 ≤ (x3).toInt by first | assumption | omega) (show (x3).toInt ≤ 16 by first | assumption | omega) (show 0 ≤ (x4).toInt by first | assumption | omega) (show (x4).toInt ≤ (x5).toInt by first | assumption | omega) (show (x5).toInt ≤ (x4).toInt + 2000 by first | assumption | omega) (show (x5).toInt ≤ (q_I δ 12 36 a0).toInt by first | assumption | omega) (show (q_I δ 12 36 a0).toInt ≤ 12000 by first | assumption | omega) (show 1 < (x3).toInt → (q_I δ 12 36 a0).toInt ≤ 10000 by first | assumption | omega) (show 2 < (x3).toInt → (q_I δ 12 36 a0).toInt ≤ 8000 by first | assumption | omega) (show 4 < (x3).toInt → (q_I δ 12 36 a0).toInt ≤ 6000 by first | assumption | omega) (show 8 < (x3).toInt → (q_I δ 12 36 a0).toInt ≤ 4000 by first | assumption | omega) (show (x3).toInt ≤ K by first | assumption | omega) (show (x4).toInt < (x5).toInt by first | assumption | omega) (show (x4).toInt + 3 ≤ (x5).toInt by first | assumption | omega) (show 1 ≤ (vx46).toInt by first | assumption | omega) (show (vx46).toInt ≤ 2 by first | assumption | omega) I) (fun r65 hr66 => ?_)
            obtain ⟨i67, ⟨u71, u72, u73⟩, p68, p69, p70⟩ := hr66
            have u74 := kp_t kp_r u71
            have v75 : q_V r65.2 = q_V δ := (u72).trans rfl
            have v76 := kr_t (kr_r (ad := ad)) u73
            have f77 := cb_12_36 i67 k_a0
            have f78 := ti_b r65.1
            have f79 := ti_b r65.1
            exact ⟨by assumption, ⟨kp_w (by decide) u74, v75, kr_w (by decide) v76⟩, by first | assumption | omega, by first | assumption | omega, by first | assumption | omega⟩
          · have c80 : vx52.toInt < r59.1.toInt := o_nle h63
            unfold J_X12_touch_252
            refine ok_bind (k_bX12_inRoom L hN (a0 := a0) (x1 := x1) (x2 := x2) (x3 := x3) (x4 := x4) (x5 := x5) hT k_a0 (show 2 ≤ (x3).toInt by first | assumption | omega) (show (x3).toInt ≤ 16 by first | assumption | omega) (show 0 ≤ (x4).toInt by first | assumption | omega) (show (x4).toInt ≤ (x5).toInt by first | assumption | omega) (show (x5).toInt ≤ (x4).toInt + 2000 by first | assumption | omega) (show (x5).toInt ≤ (q_I δ 12 36 a0).toInt by first | assumption | omega) (show (q_I δ 12 36 a0).toInt ≤ 12000 by first | assumption | omega) (show 1 < (x3).toInt → (q_I δ 12 36 a0).toInt ≤ 10000 by first | assumption | omega) (show 2 < (x3).toInt → (q_I δ 12 36 a0).toInt ≤ 8000 by first | assumption | omega) (show 4 < (x3).toInt → (q_I δ 12 36 a0).toInt ≤ 6000 by first | assumption | omega) (show 8 < (x3).toInt → (q_I δ 12 36 a0).toInt ≤ 4000 by first | assumption | omega) (show (x3).toInt ≤ K by first | assumption | omega) I) (fun r81 hr82 => ?_)
            obtain ⟨i83, ⟨u88, u89, u90⟩, p84, p85, p86, p87⟩ := hr82
            have u91 := kp_t kp_r u88
            have v92 : q_V r81.2 = q_V δ := (u89).trans rfl
            have v93 := kr_t (kr_r (ad := ad)) u90
            have f94 := cb_12_36 i83 k_a0
            have f95 := ti_b r81.1
            have f96 := ti_b r81.1
            first | (have q98 := te_add vx46 r81.1 (by omega) (by omega); obtain ⟨f99, f100, f101⟩ := q98) | (obtain ⟨q98, f99, f100, f101⟩ := ti_add vx46 r81.1)
            exact ok_some (show RI ad h.1 δ0 r81.2 ∧ (kp [(12, 36)] δ r81.2 ∧ q_V r81.2 = q_V δ ∧ kr ad [119] δ r81.2) ∧ (q_I r81.2 12 36 a0).toInt = (q_I δ 12 36 a0).toInt ∧ 1 ≤ ((vx46 + r81.1)).toInt ∧ ((vx46 + r81.1)).toInt ≤ 4 * (x3).toInt - 3 from ⟨i83, ⟨kp_w (by decide) u91, v92, kr_w (by decide) v93⟩, by first | assumption | omega, by first | assumption | omega, by first | assumption | omega⟩)
        · have c102 : x1.toInt ≠ (3 : Int) := o_ne h57
          refine ok_bind (k_X12_roomEnd L hN (a0 := a0) (x1 := x2) (x2 := x3) (x3 := x4) (x4 := x5) (x5 := (1 : Int32)) k_a0 (show 0 ≤ (x4).toInt by first | assumption | omega) (show (x4).toInt ≤ (x5).toInt by first | assumption | omega) (show (x5).toInt ≤ 14000 by first | assumption | omega) I) (fun r103 hr104 => ?_)
          have i105 := hr104
          try rw [i105]
          have f106 := ti_b r103.1
          refine ok_ite (fun h107 => ?_) (fun h107 => ?_)
          · have c108 : vx52.toInt ≤ r103.1.toInt := o_le h107
            refine ok_mono (kj_X12_touch_267 L hN (a0 := a0) (x1 := x1) (x2 := x2) (x3 := x3) (x4 := x4) (x5 := x5) (x9v := vx46) (x10v := r15.1) hT k_a0 (show 2 ≤ (x3).toInt by first | assumption | omega) (show (x3).toInt ≤ 16 by first | assumption | omega) (show 0 ≤ (x4).toInt by first | assumption | omega) (show (x4).toInt ≤ (x5).toInt by first | assumption | omega) (show (x5).toInt ≤ (x4).toInt + 2000 by first | assumption | omega) (show (x5).toInt ≤ (q_I δ 12 36 a0).toInt by first | assumption | omega) (show (q_I δ 12 36 a0).toInt ≤ 12000 by first | assumption | omega) (show 1 < (x3).toInt → (q_I δ 12 36 a0).toInt ≤ 10000 by first | assumption | omega) (show 2 < (x3).toInt → (q_I δ 12 36 a0).toInt ≤ 8000 by first | assumption | omega) (show 4 < (x3).toInt → (q_I δ 12 36 a0).toInt ≤ 6000 by first | assumption | omega) (show 8 < (x3).toInt → (q_I δ 12 36 a0).toInt ≤ 4000 by first | assumption | omega) (show (x3).toInt ≤ K by first | assumption | omega) (show (x4).toInt < (x5).toInt by first | assumption | omega) (show (x4).toInt + 3 ≤ (x5).toInt by first | assumption | omega) (show 1 ≤ (vx46).toInt by first | assumption | omega) (show (vx46).toInt ≤ 2 by first | assumption | omega) I) (fun r109 hr110 => ?_)
            obtain ⟨i111, ⟨u115, u116, u117⟩, p112, p113, p114⟩ := hr110
            have u118 := kp_t kp_r u115
            have v119 : q_V r109.2 = q_V δ := (u116).trans rfl
            have v120 := kr_t (kr_r (ad := ad)) u117
            have f121 := cb_12_36 i111 k_a0
            have f122 := ti_b r109.1
            have f123 := ti_b r109.1
            exact ⟨by assumption, ⟨kp_w (by decide) u118, v119, kr_w (by decide) v120⟩, by first | assumption | omega, by first | assumption | omega, by first | assumption | omega⟩
          · have c124 : r103.1.toInt < vx52.toInt := o_nle h107
            unfold J_X12_touch_252
            refine ok_bind (k_bX12_inRoom L hN (a0 := a0) (x1 := x1) (x2 := x2) (x3 := x3) (x4 := x4) (x5 := x5) hT k_a0 (show 2 ≤ (x3).toInt by first | assumption | omega) (show (x3).toInt ≤ 16 by first | assumption | omega) (show 0 ≤ (x4).toInt by first | assumption | omega) (show (x4).toInt ≤ (x5).toInt by first | assumption | omega) (show (x5).toInt ≤ (x4).toInt + 2000 by first | assumption | omega) (show (x5).toInt ≤ (q_I δ 12 36 a0).toInt by first | assumption | omega) (show (q_I δ 12 36 a0).toInt ≤ 12000 by first | assumption | omega) (show 1 < (x3).toInt → (q_I δ 12 36 a0).toInt ≤ 10000 by first | assumption | omega) (show 2 < (x3).toInt → (q_I δ 12 36 a0).toInt ≤ 8000 by first | assumption | omega) (show 4 < (x3).toInt → (q_I δ 12 36 a0).toInt ≤ 6000 by first | assumption | omega) (show 8 < (x3).toInt → (q_I δ 12 36 a0).toInt ≤ 4000 by first | assumption | omega) (show (x3).toInt ≤ K by first | assumption | omega) I) (fun r125 hr126 => ?_)
            obtain ⟨i127, ⟨u132, u133, u134⟩, p128, p129, p130, p131⟩ := hr126
            have u135 := kp_t kp_r u132
            have v136 : q_V r125.2 = q_V δ := (u133).trans rfl
            have v137 := kr_t (kr_r (ad := ad)) u134
            have f138 := cb_12_36 i127 k_a0
            have f139 := ti_b r125.1
            have f140 := ti_b r125.1
            first | (have q142 := te_add vx46 r125.1 (by omega) (by omega); obtain ⟨f143, f144, f145⟩ := q142) | (obtain ⟨q142, f143, f144, f145⟩ := ti_add vx46 r125.1)
            exact ok_some (show RI ad h.1 δ0 r125.2 ∧ (kp [(12, 36)] δ r125.2 ∧ q_V r125.2 = q_V δ ∧ kr ad [119] δ r125.2) ∧ (q_I r125.2 12 36 a0).toInt = (q_I δ 12 36 a0).toInt ∧ 1 ≤ ((vx46 + r125.1)).toInt ∧ ((vx46 + r125.1)).toInt ≤ 4 * (x3).toInt - 3 from ⟨i127, ⟨kp_w (by decide) u135, v136, kr_w (by decide) v137⟩, by first | assumption | omega, by first | assumption | omega, by first | assumption | omega⟩)
    · have c146 : (x5 - x4).toInt < (3 : Int) := o_nle h13
      unfold J_X12_touch_174
      exact ok_some (show RI ad h.1 δ0 δ ∧ (kp [(12, 36)] δ δ ∧ q_V δ = q_V δ ∧ kr ad [119] δ δ) ∧ (q_I δ 12 36 a0).toInt = (q_I δ 12 36 a0).toInt ∧ 1 ≤ (1 : Int) ∧ (1 : Int) ≤ 4 * (x3).toInt - 3 from ⟨I, ⟨kp_w (by decide) kp_r, rfl, kr_w (by decide) (kr_r (ad := ad))⟩, by first | assumption | omega, by first | assumption | omega, by first | assumption | omega⟩)
  · have c147 : xs0.toInt ≠ (0 : Int) := o_ne h6
    unfold J_X12_touch_174
    exact ok_some (show RI ad h.1 δ0 δ ∧ (kp [(12, 36)] δ δ ∧ q_V δ = q_V δ ∧ kr ad [119] δ δ) ∧ (q_I δ 12 36 a0).toInt = (q_I δ 12 36 a0).toInt ∧ 1 ≤ (1 : Int) ∧ (1 : Int) ≤ 4 * (x3).toInt - 3 from ⟨I, ⟨kp_w (by decide) kp_r, rfl, kr_w (by decide) (kr_r (ad := ad))⟩, by first | assumption | omega, by first | assumption | omega, by first | assumption | omega⟩)
set_option maxHeartbeats 4000000 in
theorem ke_X12_touch {ad : List Nat} {h : hp} (L : Lay TLx ad h) {δ0 : dp} {N : Nat} (hN : 10000000 ≤ N) : ∀ (k : Nat), ∀ (a0 : Nat) (x1 : Int32) (x2 : Int32) (x3 : Int32) (x4 : Int32) (x5 : Int32) (δ : dp), q_K h.1 a0 = 12 → 1 ≤ (x3).toInt → (x3).toInt ≤ 16 → 0 ≤ (x4).toInt → (x4).toInt ≤ (x5).toInt → (x5).toInt ≤ (x4).toInt + 2000 → (x5).toInt ≤ (q_I δ 12 36 a0).toInt → (q_I δ 12 36 a0).toInt ≤ 12000 → (1 < (x3).toInt → (q_I δ 12 36 a0).toInt ≤ 10000) → (2 < (x3).toInt → (q_I δ 12 36 a0).toInt ≤ 8000) → (4 < (x3).toInt → (q_I δ 12 36 a0).toInt ≤ 6000) → (8 < (x3).toInt → (q_I δ 12 36 a0).toInt ≤ 4000) → (x3).toInt < (k : Int) → RI ad h.1 δ0 δ → ok (E_X12_touch N h.1 k a0 x1 x2 x3 x4 x5 δ) (fun r => RI ad h.1 δ0 r.2 ∧ (kp [(12, 36)] δ r.2 ∧ q_V r.2 = q_V δ ∧ kr ad [119] δ r.2) ∧ (q_I r.2 12 36 a0).toInt = (q_I δ 12 36 a0).toInt ∧ 1 ≤ (r.1).toInt ∧ (r.1).toInt ≤ 4 * (x3).toInt - 3) := by
  intro k
  induction k with
  | zero =>
    intro a0 x1 x2 x3 x4 x5 δ k_a0 z0 z1 z2 z3 z4 z5 z6 z7 z8 z9 z10 hd I
    exfalso; omega
  | succ k ih =>
    intro a0 x1 x2 x3 x4 x5 δ k_a0 z0 z1 z2 z3 z4 z5 z6 z7 z8 z9 z10 hd I
    unfold E_X12_touch B_X12_touch
    have f1 := ti_b x3
    have f2 := ti_b x4
    have f3 := ti_b x5
    have f4 := cb_12_36 I k_a0
    have f5 := cb_12_11 I k_a0
    refine ok_ite (fun h6 => ?_) (fun h6 => ?_)
    · have c7 : x3.toInt ≤ (q_I δ 12 11 a0).toInt := o_le h6
      unfold J_X12_touch_15
      exact ok_some (show RI ad h.1 δ0 δ ∧ (kp [(12, 36)] δ δ ∧ q_V δ = q_V δ ∧ kr ad [119] δ δ) ∧ (q_I δ 12 36 a0).toInt = (q_I δ 12 36 a0).toInt ∧ 1 ≤ (1 : Int) ∧ (1 : Int) ≤ 4 * (x3).toInt - 3 from ⟨I, ⟨kp_w (by decide) kp_r, rfl, kr_w (by decide) (kr_r (ad := ad))⟩, by first | assumption | omega, by first | assumption | omega, by first | assumption | omega⟩)
    · have c8 : (q_I δ 12 11 a0).toInt < x3.toInt := o_nle h6
      refine ok_ite (fun h9 => ?_) (fun h9 => ?_)
      · have c10 : x4.toInt = x5.toInt := o_eq h9
        unfold J_X12_touch_15
        exact ok_some (show RI ad h.1 δ0 δ ∧ (kp [(12, 36)] δ δ ∧ q_V δ = q_V δ ∧ kr ad [119] δ δ) ∧ (q_I δ 12 36 a0).toInt = (q_I δ 12 36 a0).toInt ∧ 1 ≤ (1 : Int) ∧ (1 : Int) ≤ 4 * (x3).toInt - 3 from ⟨I, ⟨kp_w (by decide) kp_r, rfl, kr_w (by decide) (kr_r (ad := ad))⟩, by first | assumption | omega, by first | assumption | omega, by first | assumption | omega⟩)
      · have c11 : x4.toInt ≠ x5.toInt := o_ne h9
        have f12 := ti_b x1
        refine ok_ite (fun h13 => ?_) (fun h13 => ?_)
        · have c14 : x1.toInt = (0 : Int) := o_eq h13
          refine ok_bind (k_bX12_touchPut L hN (a0 := a0) (x1 := x2) (x2 := x3) (x3 := x4) (x4 := x5) ih k_a0 (show 2 ≤ (x3).toInt by first | assumption | omega) (show (x3).toInt ≤ 16 by first | assumption | omega) (show 0 ≤ (x4).toInt by first | assumption | omega) (show (x4).toInt ≤ (x5).toInt by first | assumption | omega) (show (x5).toInt ≤ (x4).toInt + 2000 by first | assumption | omega) (show (x5).toInt ≤ (q_I δ 12 36 a0).toInt by first | assumption | omega) (show (q_I δ 12 36 a0).toInt ≤ 12000 by first | assumption | omega) (show 1 < (x3).toInt → (q_I δ 12 36 a0).toInt ≤ 10000 by first | assumption | omega) (show 2 < (x3).toInt → (q_I δ 12 36 a0).toInt ≤ 8000 by first | assumption | omega) (show 4 < (x3).toInt → (q_I δ 12 36 a0).toInt ≤ 6000 by first | assumption | omega) (show 8 < (x3).toInt → (q_I δ 12 36 a0).toInt ≤ 4000 by first | assumption | omega) (show (x3).toInt ≤ (k : Int) by first | assumption | omega) (show (x4).toInt < (x5).toInt by first | assumption | omega) I) (fun r15 hr16 => ?_)
          obtain ⟨i17, ⟨u21, u22, u23⟩, p18, p19, p20⟩ := hr16
          have u24 := kp_t kp_r u21
          have v25 : q_V r15.2 = q_V δ := (u22).trans rfl
          have v26 := kr_t (kr_r (ad := ad)) u23
          have f27 := cb_12_36 i17 k_a0
          have f28 := ti_b r15.1
          have f29 := ti_b r15.1
          exact ok_some (show RI ad h.1 δ0 r15.2 ∧ (kp [(12, 36)] δ r15.2 ∧ q_V r15.2 = q_V δ ∧ kr ad [119] δ r15.2) ∧ (q_I r15.2 12 36 a0).toInt = (q_I δ 12 36 a0).toInt ∧ 1 ≤ (r15.1).toInt ∧ (r15.1).toInt ≤ 4 * (x3).toInt - 3 from ⟨i17, ⟨kp_w (by decide) u24, v25, kr_w (by decide) v26⟩, by first | assumption | omega, by first | assumption | omega, by first | assumption | omega⟩)
        · have c30 : x1.toInt ≠ (0 : Int) := o_ne h13
          refine ok_ite (fun h31 => ?_) (fun h31 => ?_)
          · have c32 : x1.toInt = (1 : Int) := o_eq h31
            refine ok_bind (k_bX12_touchDrop L hN (a0 := a0) (x1 := x2) (x2 := x3) (x3 := x4) (x4 := x5) ih k_a0 (show 2 ≤ (x3).toInt by first | assumption | omega) (show (x3).toInt ≤ 16 by first | assumption | omega) (show 0 ≤ (x4).toInt by first | assumption | omega) (show (x4).toInt ≤ (x5).toInt by first | assumption | omega) (show (x5).toInt ≤ (x4).toInt + 2000 by first | assumption | omega) (show (x5).toInt ≤ (q_I δ 12 36 a0).toInt by first | assumption | omega) (show (q_I δ 12 36 a0).toInt ≤ 12000 by first | assumption | omega) (show 1 < (x3).toInt → (q_I δ 12 36 a0).toInt ≤ 10000 by first | assumption | omega) (show 2 < (x3).toInt → (q_I δ 12 36 a0).toInt ≤ 8000 by first | assumption | omega) (show 4 < (x3).toInt → (q_I δ 12 36 a0).toInt ≤ 6000 by first | assumption | omega) (show 8 < (x3).toInt → (q_I δ 12 36 a0).toInt ≤ 4000 by first | assumption | omega) (show (x3).toInt ≤ (k : Int) by first | assumption | omega) (show (x4).toInt < (x5).toInt by first | assumption | omega) I) (fun r33 hr34 => ?_)
            obtain ⟨i35, ⟨u39, u40, u41⟩, p36, p37, p38⟩ := hr34
            have u42 := kp_t kp_r u39
            have v43 : q_V r33.2 = q_V δ := (u40).trans rfl
            have v44 := kr_t (kr_r (ad := ad)) u41
            have f45 := cb_12_36 i35 k_a0
            have f46 := ti_b r33.1
            have f47 := ti_b r33.1
            exact ok_some (show RI ad h.1 δ0 r33.2 ∧ (kp [(12, 36)] δ r33.2 ∧ q_V r33.2 = q_V δ ∧ kr ad [119] δ r33.2) ∧ (q_I r33.2 12 36 a0).toInt = (q_I δ 12 36 a0).toInt ∧ 1 ≤ (r33.1).toInt ∧ (r33.1).toInt ≤ 4 * (x3).toInt - 3 from ⟨i35, ⟨kp_w (by decide) u42, v43, kr_w (by decide) v44⟩, by first | assumption | omega, by first | assumption | omega, by first | assumption | omega⟩)
          · have c48 : x1.toInt ≠ (1 : Int) := o_ne h31
            obtain ⟨b49, o50, k51, n52, w53⟩ := gO_12_35 L k_a0
            obtain rfl := gS_12_35 L k_a0 o50
            refine ok_at o50 ?_
            have t54 := ti_tn x4
            refine ok_gd (fun hc55 => ?_) ?_
            · rcases hc55 with hc55 | hc55
              · have c56 : x4.toInt < (0 : Int) := o_lt hc55
                omega
              · omega
            have f59 := ti_b (q_R δ (Ad ad 119) x4.toNatClampNeg)
            refine ok_biv (fun vx57 e58 => ?_)
            have f60 : vx57.toInt = (q_R δ (Ad ad 119) x4.toNatClampNeg).toInt := congrArg Int32.toInt e58
            refine ok_at o50 ?_
            first | (have q62 := te_subc (c := 1) (n := 1) rfl x5 (by omega) (by omega); obtain ⟨f63, f64, f65⟩ := q62) | (obtain ⟨q62, f63, f64, f65⟩ := ti_subc (c := 1) (n := 1) rfl x5)
            have t66 := ti_tn (x5 - (1 : Int32))
            refine ok_gd (fun hc67 => ?_) ?_
            · rcases hc67 with hc67 | hc67
              · have c68 : (x5 - (1 : Int32)).toInt < (0 : Int) := o_lt hc67
                omega
              · omega
            have f71 := ti_b (q_R δ (Ad ad 119) (x5 - (1 : Int32)).toNatClampNeg)
            refine ok_biv (fun vx69 e70 => ?_)
            have f72 : vx69.toInt = (q_R δ (Ad ad 119) (x5 - (1 : Int32)).toNatClampNeg).toInt := congrArg Int32.toInt e70
            refine ok_ite (fun h73 => ?_) (fun h73 => ?_)
            · have c74 : x1.toInt = (2 : Int) := o_eq h73
              have f75 := ti_b x2
              refine ok_ite (fun h76 => ?_) (fun h76 => ?_)
              · have c77 : x2.toInt ≤ vx57.toInt := o_le h76
                unfold J_X12_touch_98
                unfold J_X12_touch_115
                exact ok_some (show RI ad h.1 δ0 δ ∧ (kp [(12, 36)] δ δ ∧ q_V δ = q_V δ ∧ kr ad [119] δ δ) ∧ (q_I δ 12 36 a0).toInt = (q_I δ 12 36 a0).toInt ∧ 1 ≤ (1 : Int) ∧ (1 : Int) ≤ 4 * (x3).toInt - 3 from ⟨I, ⟨kp_w (by decide) kp_r, rfl, kr_w (by decide) (kr_r (ad := ad))⟩, by first | assumption | omega, by first | assumption | omega, by first | assumption | omega⟩)
              · have c78 : vx57.toInt < x2.toInt := o_nle h76
                refine ok_ite (fun h79 => ?_) (fun h79 => ?_)
                · have c80 : vx69.toInt ≤ x2.toInt := o_le h79
                  unfold J_X12_touch_98
                  unfold J_X12_touch_115
                  exact ok_some (show RI ad h.1 δ0 δ ∧ (kp [(12, 36)] δ δ ∧ q_V δ = q_V δ ∧ kr ad [119] δ δ) ∧ (q_I δ 12 36 a0).toInt = (q_I δ 12 36 a0).toInt ∧ 1 ≤ (1 : Int) ∧ (1 : Int) ≤ 4 * (x3).toInt - 3 from ⟨I, ⟨kp_w (by decide) kp_r, rfl, kr_w (by decide) (kr_r (ad := ad))⟩, by first | assumption | omega, by first | assumption | omega, by first | assumption | omega⟩)
                · have c81 : x2.toInt < vx69.toInt := o_nle h79
                  refine ok_bind (k_X12_roomMany L hN (a0 := a0) (x1 := x2) (x2 := x3) (x3 := x4) (x4 := x5) k_a0 (show 0 ≤ (x4).toInt by first | assumption | omega) (show (x4).toInt ≤ (x5).toInt by first | assumption | omega) (show (x5).toInt ≤ 14000 by first | assumption | omega) I) (fun r82 hr83 => ?_)
                  have i84 := hr83
                  try rw [i84]
                  have f85 := ti_b r82.1
                  refine ok_ite (fun h86 => ?_) (fun h86 => ?_)
                  · have c87 : r82.1.toInt = (0 : Int) := o_eq h86
                    unfold J_X12_touch_98
                    unfold J_X12_touch_115
                    exact ok_some (show RI ad h.1 δ0 δ ∧ (kp [(12, 36)] δ δ ∧ q_V δ = q_V δ ∧ kr ad [119] δ δ) ∧ (q_I δ 12 36 a0).toInt = (q_I δ 12 36 a0).toInt ∧ 1 ≤ (1 : Int) ∧ (1 : Int) ≤ 4 * (x3).toInt - 3 from ⟨I, ⟨kp_w (by decide) kp_r, rfl, kr_w (by decide) (kr_r (ad := ad))⟩, by first | assumption | omega, by first | assumption | omega, by first | assumption | omega⟩)
                  · have c88 : r82.1.toInt ≠ (0 : Int) := o_ne h86
                    refine ok_bind (k_bX12_inRoom L hN (a0 := a0) (x1 := (2 : Int32)) (x2 := x2) (x3 := x3) (x4 := x4) (x5 := x5) ih k_a0 (show 2 ≤ (x3).toInt by first | assumption | omega) (show (x3).toInt ≤ 16 by first | assumption | omega) (show 0 ≤ (x4).toInt by first | assumption | omega) (show (x4).toInt ≤ (x5).toInt by first | assumption | omega) (show (x5).toInt ≤ (x4).toInt + 2000 by first | assumption | omega) (show (x5).toInt ≤ (q_I δ 12 36 a0).toInt by first | assumption | omega) (show (q_I δ 12 36 a0).toInt ≤ 12000 by first | assumption | omega) (show 1 < (x3).toInt → (q_I δ 12 36 a0).toInt ≤ 10000 by first | assumption | omega) (show 2 < (x3).toInt → (q_I δ 12 36 a0).toInt ≤ 8000 by first | assumption | omega) (show 4 < (x3).toInt → (q_I δ 12 36 a0).toInt ≤ 6000 by first | assumption | omega) (show 8 < (x3).toInt → (q_I δ 12 36 a0).toInt ≤ 4000 by first | assumption | omega) (show (x3).toInt ≤ (k : Int) by first | assumption | omega) I) (fun r89 hr90 => ?_)
                    obtain ⟨i91, ⟨u96, u97, u98⟩, p92, p93, p94, p95⟩ := hr90
                    have u99 := kp_t kp_r u96
                    have v100 : q_V r89.2 = q_V δ := (u97).trans rfl
                    have v101 := kr_t (kr_r (ad := ad)) u98
                    have f102 := cb_12_36 i91 k_a0
                    have f103 := ti_b r89.1
                    have f104 := cb_12_12 I k_a0
                    have f105 := ti_b r89.1
                    unfold J_X12_touch_115
                    first | (have q107 := te_cadd (c := 1) (n := 1) rfl r89.1 (by omega) (by omega); obtain ⟨f108, f109, f110⟩ := q107) | (obtain ⟨q107, f108, f109, f110⟩ := ti_cadd (c := 1) (n := 1) rfl r89.1)
                    exact ok_some (show RI ad h.1 δ0 r89.2 ∧ (kp [(12, 36)] δ r89.2 ∧ q_V r89.2 = q_V δ ∧ kr ad [119] δ r89.2) ∧ (q_I r89.2 12 36 a0).toInt = (q_I δ 12 36 a0).toInt ∧ 1 ≤ (((1 : Int32) + r89.1)).toInt ∧ (((1 : Int32) + r89.1)).toInt ≤ 4 * (x3).toInt - 3 from ⟨i91, ⟨kp_w (by decide) u99, v100, kr_w (by decide) v101⟩, by first | assumption | omega, by first | assumption | omega, by first | assumption | omega⟩)
            · have c111 : x1.toInt ≠ (2 : Int) := o_ne h73
              refine ok_ite (fun h112 => ?_) (fun h112 => ?_)
              · have c113 : x1.toInt = (3 : Int) := o_eq h112
                have f114 := ti_b x2
                refine ok_ite (fun h115 => ?_) (fun h115 => ?_)
                · have c116 : x2.toInt < vx57.toInt := o_lt h115
                  unfold J_X12_touch_133
                  unfold J_X12_touch_158
                  refine ok_ite (fun h117 => ?_) (fun h117 => ?_)
                  · have c118 : (1 : Int) = (0 : Int) := o_eq h117
                    first | (have q120 := te_sub x5 x4 (by omega) (by omega); obtain ⟨f121, f122, f123⟩ := q120) | (obtain ⟨q120, f121, f122, f123⟩ := ti_sub x5 x4)
                    refine ok_ite (fun h124 => ?_) (fun h124 => ?_)
                    · have c125 : (3 : Int) ≤ (x5 - x4).toInt := o_le h124
                      refine ok_bind (k_X12_lowerBits L hN (a0 := a0) (x1 := x3) k_a0 I) (fun r126 hr127 => ?_)
                      obtain ⟨i128, p129, p130, p131⟩ := hr127
                      try rw [i128]
                      have f132 := cb_12_12 I k_a0
                      have f133 := ti_b r126.1
                      have f134 := ti_b r126.1
                      refine ok_bind (k_X12_roomMany L hN (a0 := a0) (x1 := x2) (x2 := x3) (x3 := x4) (x4 := x5) k_a0 (show 0 ≤ (x4).toInt by first | assumption | omega) (show (x4).toInt ≤ (x5).toInt by first | assumption | omega) (show (x5).toInt ≤ 14000 by first | assumption | omega) I) (fun r135 hr136 => ?_)
                      have i137 := hr136
                      try rw [i137]
                      have f138 := ti_b r135.1
                      refine ok_ite (fun h139 => ?_) (fun h139 => ?_)
                      · have c140 : r135.1.toInt ≤ (0 : Int) := o_le h139
                        refine ok_mono (kj_X12_touch_267 L hN (a0 := a0) (x1 := x1) (x2 := x2) (x3 := x3) (x4 := x4) (x5 := x5) (x9v := (1 : Int32)) (x10v := r126.1) ih k_a0 (show 2 ≤ (x3).toInt by first | assumption | omega) (show (x3).toInt ≤ 16 by first | assumption | omega) (show 0 ≤ (x4).toInt by first | assumption | omega) (show (x4).toInt ≤ (x5).toInt by first | assumption | omega) (show (x5).toInt ≤ (x4).toInt + 2000 by first | assumption | omega) (show (x5).toInt ≤ (q_I δ 12 36 a0).toInt by first | assumption | omega) (show (q_I δ 12 36 a0).toInt ≤ 12000 by first | assumption | omega) (show 1 < (x3).toInt → (q_I δ 12 36 a0).toInt ≤ 10000 by first | assumption | omega) (show 2 < (x3).toInt → (q_I δ 12 36 a0).toInt ≤ 8000 by first | assumption | omega) (show 4 < (x3).toInt → (q_I δ 12 36 a0).toInt ≤ 6000 by first | assumption | omega) (show 8 < (x3).toInt → (q_I δ 12 36 a0).toInt ≤ 4000 by first | assumption | omega) (show (x3).toInt ≤ (k : Int) by first | assumption | omega) (show (x4).toInt < (x5).toInt by first | assumption | omega) (show (x4).toInt + 3 ≤ (x5).toInt by first | assumption | omega) (show 1 ≤ (1 : Int) by first | assumption | omega) (show (1 : Int) ≤ 2 by first | assumption | omega) I) (fun r141 hr142 => ?_)
                        obtain ⟨i143, ⟨u147, u148, u149⟩, p144, p145, p146⟩ := hr142
                        have u150 := kp_t kp_r u147
                        have v151 : q_V r141.2 = q_V δ := (u148).trans rfl
                        have v152 := kr_t (kr_r (ad := ad)) u149
                        have f153 := cb_12_36 i143 k_a0
                        have f154 := ti_b r141.1
                        have f155 := ti_b r141.1
                        exact ⟨by assumption, ⟨kp_w (by decide) u150, v151, kr_w (by decide) v152⟩, by first | assumption | omega, by first | assumption | omega, by first | assumption | omega⟩
                      · have c156 : (0 : Int) < r135.1.toInt := o_nle h139
                        refine ok_biv (fun vx157 e158 => ?_)
                        first | (have q159 := te_cadd (c := 1) (n := 1) rfl (1 : Int32) (by omega) (by omega); rw [← e158] at q159; obtain ⟨f160, f161, f162⟩ := q159) | (obtain ⟨q159, f160, f161, f162⟩ : ∃ q : Int, vx157.toInt = (1 : Int) + (1 : Int) + 4294967296 * q ∧ -2147483648 ≤ vx157.toInt ∧ vx157.toInt ≤ 2147483647 := by rw [e158]; exact ti_cadd (c := 1) (n := 1) rfl (1 : Int32))
                        have f165 := ti_b (x2 &&& (((1 : Int32) <<< (r126.1 &&& 31)) - (1 : Int32)))
                        refine ok_biv (fun vx163 e164 => ?_)
                        have f166 : vx163.toInt = (x2 &&& (((1 : Int32) <<< (r126.1 &&& 31)) - (1 : Int32))).toInt := congrArg Int32.toInt e164
                        refine ok_ite (fun h167 => ?_) (fun h167 => ?_)
                        · have c168 : x1.toInt = (3 : Int) := o_eq h167
                          refine ok_bind (k_X12_roomEnd L hN (a0 := a0) (x1 := x2) (x2 := x3) (x3 := x4) (x4 := x5) (x5 := (0 : Int32)) k_a0 (show 0 ≤ (x4).toInt by first | assumption | omega) (show (x4).toInt ≤ (x5).toInt by first | assumption | omega) (show (x5).toInt ≤ 14000 by first | assumption | omega) I) (fun r169 hr170 => ?_)
                          have i171 := hr170
                          try rw [i171]
                          have f172 := ti_b r169.1
                          refine ok_ite (fun h173 => ?_) (fun h173 => ?_)
                          · have c174 : r169.1.toInt ≤ vx163.toInt := o_le h173
                            refine ok_mono (kj_X12_touch_267 L hN (a0 := a0) (x1 := x1) (x2 := x2) (x3 := x3) (x4 := x4) (x5 := x5) (x9v := vx157) (x10v := r126.1) ih k_a0 (show 2 ≤ (x3).toInt by first | assumption | omega) (show (x3).toInt ≤ 16 by first | assumption | omega) (show 0 ≤ (x4).toInt by first | assumption | omega) (show (x4).toInt ≤ (x5).toInt by first | assumption | omega) (show (x5).toInt ≤ (x4).toInt + 2000 by first | assumption | omega) (show (x5).toInt ≤ (q_I δ 12 36 a0).toInt by first | assumption | omega) (show (q_I δ 12 36 a0).toInt ≤ 12000 by first | assumption | omega) (show 1 < (x3).toInt → (q_I δ 12 36 a0).toInt ≤ 10000 by first | assumption | omega) (show 2 < (x3).toInt → (q_I δ 12 36 a0).toInt ≤ 8000 by first | assumption | omega) (show 4 < (x3).toInt → (q_I δ 12 36 a0).toInt ≤ 6000 by first | assumption | omega) (show 8 < (x3).toInt → (q_I δ 12 36 a0).toInt ≤ 4000 by first | assumption | omega) (show (x3).toInt ≤ (k : Int) by first | assumption | omega) (show (x4).toInt < (x5).toInt by first | assumption | omega) (show (x4).toInt + 3 ≤ (x5).toInt by first | assumption | omega) (show 1 ≤ (vx157).toInt by first | assumption | omega) (show (vx157).toInt ≤ 2 by first | assumption | omega) I) (fun r175 hr176 => ?_)
                            obtain ⟨i177, ⟨u181, u182, u183⟩, p178, p179, p180⟩ := hr176
                            have u184 := kp_t kp_r u181
                            have v185 : q_V r175.2 = q_V δ := (u182).trans rfl
                            have v186 := kr_t (kr_r (ad := ad)) u183
                            have f187 := cb_12_36 i177 k_a0
                            have f188 := ti_b r175.1
                            have f189 := ti_b r175.1
                            exact ⟨by assumption, ⟨kp_w (by decide) u184, v185, kr_w (by decide) v186⟩, by first | assumption | omega, by first | assumption | omega, by first | assumption | omega⟩
                          · have c190 : vx163.toInt < r169.1.toInt := o_nle h173
                            unfold J_X12_touch_252
                            refine ok_bind (k_bX12_inRoom L hN (a0 := a0) (x1 := x1) (x2 := x2) (x3 := x3) (x4 := x4) (x5 := x5) ih k_a0 (show 2 ≤ (x3).toInt by first | assumption | omega) (show (x3).toInt ≤ 16 by first | assumption | omega) (show 0 ≤ (x4).toInt by first | assumption | omega) (show (x4).toInt ≤ (x5).toInt by first | assumption | omega) (show (x5).toInt ≤ (x4).toInt + 2000 by first | assumption | omega) (show (x5).toInt ≤ (q_I δ 12 36 a0).toInt by first | assumption | omega) (show (q_I δ 12 36 a0).toInt ≤ 12000 by first | assumption | omega) (show 1 < (x3).toInt → (q_I δ 12 36 a0).toInt ≤ 10000 by first | assumption | omega) (show 2 < (x3).toInt → (q_I δ 12 36 a0).toInt ≤ 8000 by first | assumption | omega) (show 4 < (x3).toInt → (q_I δ 12 36 a0).toInt ≤ 6000 by first | assumption | omega) (show 8 < (x3).toInt → (q_I δ 12 36 a0).toInt ≤ 4000 by first | assumption | omega) (show (x3).toInt ≤ (k : Int) by first | assumption | omega) I) (fun r191 hr192 => ?_)
                            obtain ⟨i193, ⟨u198, u199, u200⟩, p194, p195, p196, p197⟩ := hr192
                            have u201 := kp_t kp_r u198
                            have v202 : q_V r191.2 = q_V δ := (u199).trans rfl
                            have v203 := kr_t (kr_r (ad := ad)) u200
                            have f204 := cb_12_36 i193 k_a0
                            have f205 := ti_b r191.1
                            have f206 := ti_b r191.1
                            first | (have q208 := te_add vx157 r191.1 (by omega) (by omega); obtain ⟨f209, f210, f211⟩ := q208) | (obtain ⟨q208, f209, f210, f211⟩ := ti_add vx157 r191.1)
                            exact ok_some (show RI ad h.1 δ0 r191.2 ∧ (kp [(12, 36)] δ r191.2 ∧ q_V r191.2 = q_V δ ∧ kr ad [119] δ r191.2) ∧ (q_I r191.2 12 36 a0).toInt = (q_I δ 12 36 a0).toInt ∧ 1 ≤ ((vx157 + r191.1)).toInt ∧ ((vx157 + r191.1)).toInt ≤ 4 * (x3).toInt - 3 from ⟨i193, ⟨kp_w (by decide) u201, v202, kr_w (by decide) v203⟩, by first | assumption | omega, by first | assumption | omega, by first | assumption | omega⟩)
                        · have c212 : x1.toInt ≠ (3 : Int) := o_ne h167
                          refine ok_bind (k_X12_roomEnd L hN (a0 := a0) (x1 := x2) (x2 := x3) (x3 := x4) (x4 := x5) (x5 := (1 : Int32)) k_a0 (show 0 ≤ (x4).toInt by first | assumption | omega) (show (x4).toInt ≤ (x5).toInt by first | assumption | omega) (show (x5).toInt ≤ 14000 by first | assumption | omega) I) (fun r213 hr214 => ?_)
                          have i215 := hr214
                          try rw [i215]
                          have f216 := ti_b r213.1
                          refine ok_ite (fun h217 => ?_) (fun h217 => ?_)
                          · have c218 : vx163.toInt ≤ r213.1.toInt := o_le h217
                            refine ok_mono (kj_X12_touch_267 L hN (a0 := a0) (x1 := x1) (x2 := x2) (x3 := x3) (x4 := x4) (x5 := x5) (x9v := vx157) (x10v := r126.1) ih k_a0 (show 2 ≤ (x3).toInt by first | assumption | omega) (show (x3).toInt ≤ 16 by first | assumption | omega) (show 0 ≤ (x4).toInt by first | assumption | omega) (show (x4).toInt ≤ (x5).toInt by first | assumption | omega) (show (x5).toInt ≤ (x4).toInt + 2000 by first | assumption | omega) (show (x5).toInt ≤ (q_I δ 12 36 a0).toInt by first | assumption | omega) (show (q_I δ 12 36 a0).toInt ≤ 12000 by first | assumption | omega) (show 1 < (x3).toInt → (q_I δ 12 36 a0).toInt ≤ 10000 by first | assumption | omega) (show 2 < (x3).toInt → (q_I δ 12 36 a0).toInt ≤ 8000 by first | assumption | omega) (show 4 < (x3).toInt → (q_I δ 12 36 a0).toInt ≤ 6000 by first | assumption | omega) (show 8 < (x3).toInt → (q_I δ 12 36 a0).toInt ≤ 4000 by first | assumption | omega) (show (x3).toInt ≤ (k : Int) by first | assumption | omega) (show (x4).toInt < (x5).toInt by first | assumption | omega) (show (x4).toInt + 3 ≤ (x5).toInt by first | assumption | omega) (show 1 ≤ (vx157).toInt by first | assumption | omega) (show (vx157).toInt ≤ 2 by first | assumption | omega) I) (fun r219 hr220 => ?_)
                            obtain ⟨i221, ⟨u225, u226, u227⟩, p222, p223, p224⟩ := hr220
                            have u228 := kp_t kp_r u225
                            have v229 : q_V r219.2 = q_V δ := (u226).trans rfl
                            have v230 := kr_t (kr_r (ad := ad)) u227
                            have f231 := cb_12_36 i221 k_a0
                            have f232 := ti_b r219.1
                            have f233 := ti_b r219.1
                            exact ⟨by assumption, ⟨kp_w (by decide) u228, v229, kr_w (by decide) v230⟩, by first | assumption | omega, by first | assumption | omega, by first | assumption | omega⟩
                          · have c234 : r213.1.toInt < vx163.toInt := o_nle h217
                            unfold J_X12_touch_252
                            refine ok_bind (k_bX12_inRoom L hN (a0 := a0) (x1 := x1) (x2 := x2) (x3 := x3) (x4 := x4) (x5 := x5) ih k_a0 (show 2 ≤ (x3).toInt by first | assumption | omega) (show (x3).toInt ≤ 16 by first | assumption | omega) (show 0 ≤ (x4).toInt by first | assumption | omega) (show (x4).toInt ≤ (x5).toInt by first | assumption | omega) (show (x5).toInt ≤ (x4).toInt + 2000 by first | assumption | omega) (show (x5).toInt ≤ (q_I δ 12 36 a0).toInt by first | assumption | omega) (show (q_I δ 12 36 a0).toInt ≤ 12000 by first | assumption | omega) (show 1 < (x3).toInt → (q_I δ 12 36 a0).toInt ≤ 10000 by first | assumption | omega) (show 2 < (x3).toInt → (q_I δ 12 36 a0).toInt ≤ 8000 by first | assumption | omega) (show 4 < (x3).toInt → (q_I δ 12 36 a0).toInt ≤ 6000 by first | assumption | omega) (show 8 < (x3).toInt → (q_I δ 12 36 a0).toInt ≤ 4000 by first | assumption | omega) (show (x3).toInt ≤ (k : Int) by first | assumption | omega) I) (fun r235 hr236 => ?_)
                            obtain ⟨i237, ⟨u242, u243, u244⟩, p238, p239, p240, p241⟩ := hr236
                            have u245 := kp_t kp_r u242
                            have v246 : q_V r235.2 = q_V δ := (u243).trans rfl
                            have v247 := kr_t (kr_r (ad := ad)) u244
                            have f248 := cb_12_36 i237 k_a0
                            have f249 := ti_b r235.1
                            have f250 := ti_b r235.1
                            first | (have q252 := te_add vx157 r235.1 (by omega) (by omega); obtain ⟨f253, f254, f255⟩ := q252) | (obtain ⟨q252, f253, f254, f255⟩ := ti_add vx157 r235.1)
                            exact ok_some (show RI ad h.1 δ0 r235.2 ∧ (kp [(12, 36)] δ r235.2 ∧ q_V r235.2 = q_V δ ∧ kr ad [119] δ r235.2) ∧ (q_I r235.2 12 36 a0).toInt = (q_I δ 12 36 a0).toInt ∧ 1 ≤ ((vx157 + r235.1)).toInt ∧ ((vx157 + r235.1)).toInt ≤ 4 * (x3).toInt - 3 from ⟨i237, ⟨kp_w (by decide) u245, v246, kr_w (by decide) v247⟩, by first | assumption | omega, by first | assumption | omega, by first | assumption | omega⟩)
                    · have c256 : (x5 - x4).toInt < (3 : Int) := o_nle h124
                      unfold J_X12_touch_174
                      exact ok_some (show RI ad h.1 δ0 δ ∧ (kp [(12, 36)] δ δ ∧ q_V δ = q_V δ ∧ kr ad [119] δ δ) ∧ (q_I δ 12 36 a0).toInt = (q_I δ 12 36 a0).toInt ∧ 1 ≤ (1 : Int) ∧ (1 : Int) ≤ 4 * (x3).toInt - 3 from ⟨I, ⟨kp_w (by decide) kp_r, rfl, kr_w (by decide) (kr_r (ad := ad))⟩, by first | assumption | omega, by first | assumption | omega, by first | assumption | omega⟩)
                  · have c257 : (1 : Int) ≠ (0 : Int) := o_ne h117
                    unfold J_X12_touch_174
                    exact ok_some (show RI ad h.1 δ0 δ ∧ (kp [(12, 36)] δ δ ∧ q_V δ = q_V δ ∧ kr ad [119] δ δ) ∧ (q_I δ 12 36 a0).toInt = (q_I δ 12 36 a0).toInt ∧ 1 ≤ (1 : Int) ∧ (1 : Int) ≤ 4 * (x3).toInt - 3 from ⟨I, ⟨kp_w (by decide) kp_r, rfl, kr_w (by decide) (kr_r (ad := ad))⟩, by first | assumption | omega, by first | assumption | omega, by first | assumption | omega⟩)
                · have c258 : vx57.toInt ≤ x2.toInt := o_nlt h115
                  refine ok_ite (fun h259 => ?_) (fun h259 => ?_)
                  · have c260 : x2.toInt < vx69.toInt := o_lt h259
                    unfold J_X12_touch_158
                    refine ok_ite (fun h261 => ?_) (fun h261 => ?_)
                    · have c262 : (0 : Int) = (0 : Int) := o_eq h261
                      first | (have q264 := te_sub x5 x4 (by omega) (by omega); obtain ⟨f265, f266, f267⟩ := q264) | (obtain ⟨q264, f265, f266, f267⟩ := ti_sub x5 x4)
                      refine ok_ite (fun h268 => ?_) (fun h268 => ?_)
                      · have c269 : (3 : Int) ≤ (x5 - x4).toInt := o_le h268
                        refine ok_bind (k_X12_lowerBits L hN (a0 := a0) (x1 := x3) k_a0 I) (fun r270 hr271 => ?_)
                        obtain ⟨i272, p273, p274, p275⟩ := hr271
                        try rw [i272]
                        have f276 := cb_12_12 I k_a0
                        have f277 := ti_b r270.1
                        have f278 := ti_b r270.1
                        refine ok_bind (k_X12_roomMany L hN (a0 := a0) (x1 := x2) (x2 := x3) (x3 := x4) (x4 := x5) k_a0 (show 0 ≤ (x4).toInt by first | assumption | omega) (show (x4).toInt ≤ (x5).toInt by first | assumption | omega) (show (x5).toInt ≤ 14000 by first | assumption | omega) I) (fun r279 hr280 => ?_)
                        have i281 := hr280
                        try rw [i281]
                        have f282 := ti_b r279.1
                        refine ok_ite (fun h283 => ?_) (fun h283 => ?_)
                        · have c284 : r279.1.toInt ≤ (0 : Int) := o_le h283
                          refine ok_mono (kj_X12_touch_267 L hN (a0 := a0) (x1 := x1) (x2 := x2) (x3 := x3) (x4 := x4) (x5 := x5) (x9v := (1 : Int32)) (x10v := r270.1) ih k_a0 (show 2 ≤ (x3).toInt by first | assumption | omega) (show (x3).toInt ≤ 16 by first | assumption | omega) (show 0 ≤ (x4).toInt by first | assumption | omega) (show (x4).toInt ≤ (x5).toInt by first | assumption | omega) (show (x5).toInt ≤ (x4).toInt + 2000 by first | assumption | omega) (show (x5).toInt ≤ (q_I δ 12 36 a0).toInt by first | assumption | omega) (show (q_I δ 12 36 a0).toInt ≤ 12000 by first | assumption | omega) (show 1 < (x3).toInt → (q_I δ 12 36 a0).toInt ≤ 10000 by first | assumption | omega) (show 2 < (x3).toInt → (q_I δ 12 36 a0).toInt ≤ 8000 by first | assumption | omega) (show 4 < (x3).toInt → (q_I δ 12 36 a0).toInt ≤ 6000 by first | assumption | omega) (show 8 < (x3).toInt → (q_I δ 12 36 a0).toInt ≤ 4000 by first | assumption | omega) (show (x3).toInt ≤ (k : Int) by first | assumption | omega) (show (x4).toInt < (x5).toInt by first | assumption | omega) (show (x4).toInt + 3 ≤ (x5).toInt by first | assumption | omega) (show 1 ≤ (1 : Int) by first | assumption | omega) (show (1 : Int) ≤ 2 by first | assumption | omega) I) (fun r285 hr286 => ?_)
                          obtain ⟨i287, ⟨u291, u292, u293⟩, p288, p289, p290⟩ := hr286
                          have u294 := kp_t kp_r u291
                          have v295 : q_V r285.2 = q_V δ := (u292).trans rfl
                          have v296 := kr_t (kr_r (ad := ad)) u293
                          have f297 := cb_12_36 i287 k_a0
                          have f298 := ti_b r285.1
                          have f299 := ti_b r285.1
                          exact ⟨by assumption, ⟨kp_w (by decide) u294, v295, kr_w (by decide) v296⟩, by first | assumption | omega, by first | assumption | omega, by first | assumption | omega⟩
                        · have c300 : (0 : Int) < r279.1.toInt := o_nle h283
                          refine ok_biv (fun vx301 e302 => ?_)
                          first | (have q303 := te_cadd (c := 1) (n := 1) rfl (1 : Int32) (by omega) (by omega); rw [← e302] at q303; obtain ⟨f304, f305, f306⟩ := q303) | (obtain ⟨q303, f304, f305, f306⟩ : ∃ q : Int, vx301.toInt = (1 : Int) + (1 : Int) + 4294967296 * q ∧ -2147483648 ≤ vx301.toInt ∧ vx301.toInt ≤ 2147483647 := by rw [e302]; exact ti_cadd (c := 1) (n := 1) rfl (1 : Int32))
                          have f309 := ti_b (x2 &&& (((1 : Int32) <<< (r270.1 &&& 31)) - (1 : Int32)))
                          refine ok_biv (fun vx307 e308 => ?_)
                          have f310 : vx307.toInt = (x2 &&& (((1 : Int32) <<< (r270.1 &&& 31)) - (1 : Int32))).toInt := congrArg Int32.toInt e308
                          refine ok_ite (fun h311 => ?_) (fun h311 => ?_)
                          · have c312 : x1.toInt = (3 : Int) := o_eq h311
                            refine ok_bind (k_X12_roomEnd L hN (a0 := a0) (x1 := x2) (x2 := x3) (x3 := x4) (x4 := x5) (x5 := (0 : Int32)) k_a0 (show 0 ≤ (x4).toInt by first | assumption | omega) (show (x4).toInt ≤ (x5).toInt by first | assumption | omega) (show (x5).toInt ≤ 14000 by first | assumption | omega) I) (fun r313 hr314 => ?_)
                            have i315 := hr314
                            try rw [i315]
                            have f316 := ti_b r313.1
                            refine ok_ite (fun h317 => ?_) (fun h317 => ?_)
                            · have c318 : r313.1.toInt ≤ vx307.toInt := o_le h317
                              refine ok_mono (kj_X12_touch_267 L hN (a0 := a0) (x1 := x1) (x2 := x2) (x3 := x3) (x4 := x4) (x5 := x5) (x9v := vx301) (x10v := r270.1) ih k_a0 (show 2 ≤ (x3).toInt by first | assumption | omega) (show (x3).toInt ≤ 16 by first | assumption | omega) (show 0 ≤ (x4).toInt by first | assumption | omega) (show (x4).toInt ≤ (x5).toInt by first | assumption | omega) (show (x5).toInt ≤ (x4).toInt + 2000 by first | assumption | omega) (show (x5).toInt ≤ (q_I δ 12 36 a0).toInt by first | assumption | omega) (show (q_I δ 12 36 a0).toInt ≤ 12000 by first | assumption | omega) (show 1 < (x3).toInt → (q_I δ 12 36 a0).toInt ≤ 10000 by first | assumption | omega) (show 2 < (x3).toInt → (q_I δ 12 36 a0).toInt ≤ 8000 by first | assumption | omega) (show 4 < (x3).toInt → (q_I δ 12 36 a0).toInt ≤ 6000 by first | assumption | omega) (show 8 < (x3).toInt → (q_I δ 12 36 a0).toInt ≤ 4000 by first | assumption | omega) (show (x3).toInt ≤ (k : Int) by first | assumption | omega) (show (x4).toInt < (x5).toInt by first | assumption | omega) (show (x4).toInt + 3 ≤ (x5).toInt by first | assumption | omega) (show 1 ≤ (vx301).toInt by first | assumption | omega) (show (vx301).toInt ≤ 2 by first | assumption | omega) I) (fun r319 hr320 => ?_)
                              obtain ⟨i321, ⟨u325, u326, u327⟩, p322, p323, p324⟩ := hr320
                              have u328 := kp_t kp_r u325
                              have v329 : q_V r319.2 = q_V δ := (u326).trans rfl
                              have v330 := kr_t (kr_r (ad := ad)) u327
                              have f331 := cb_12_36 i321 k_a0
                              have f332 := ti_b r319.1
                              have f333 := ti_b r319.1
                              exact ⟨by assumption, ⟨kp_w (by decide) u328, v329, kr_w (by decide) v330⟩, by first | assumption | omega, by first | assumption | omega, by first | assumption | omega⟩
                            · have c334 : vx307.toInt < r313.1.toInt := o_nle h317
                              unfold J_X12_touch_252
                              refine ok_bind (k_bX12_inRoom L hN (a0 := a0) (x1 := x1) (x2 := x2) (x3 := x3) (x4 := x4) (x5 := x5) ih k_a0 (show 2 ≤ (x3).toInt by first | assumption | omega) (show (x3).toInt ≤ 16 by first | assumption | omega) (show 0 ≤ (x4).toInt by first | assumption | omega) (show (x4).toInt ≤ (x5).toInt by first | assumption | omega) (show (x5).toInt ≤ (x4).toInt + 2000 by first | assumption | omega) (show (x5).toInt ≤ (q_I δ 12 36 a0).toInt by first | assumption | omega) (show (q_I δ 12 36 a0).toInt ≤ 12000 by first | assumption | omega) (show 1 < (x3).toInt → (q_I δ 12 36 a0).toInt ≤ 10000 by first | assumption | omega) (show 2 < (x3).toInt → (q_I δ 12 36 a0).toInt ≤ 8000 by first | assumption | omega) (show 4 < (x3).toInt → (q_I δ 12 36 a0).toInt ≤ 6000 by first | assumption | omega) (show 8 < (x3).toInt → (q_I δ 12 36 a0).toInt ≤ 4000 by first | assumption | omega) (show (x3).toInt ≤ (k : Int) by first | assumption | omega) I) (fun r335 hr336 => ?_)
                              obtain ⟨i337, ⟨u342, u343, u344⟩, p338, p339, p340, p341⟩ := hr336
                              have u345 := kp_t kp_r u342
                              have v346 : q_V r335.2 = q_V δ := (u343).trans rfl
                              have v347 := kr_t (kr_r (ad := ad)) u344
                              have f348 := cb_12_36 i337 k_a0
                              have f349 := ti_b r335.1
                              have f350 := ti_b r335.1
                              first | (have q352 := te_add vx301 r335.1 (by omega) (by omega); obtain ⟨f353, f354, f355⟩ := q352) | (obtain ⟨q352, f353, f354, f355⟩ := ti_add vx301 r335.1)
                              exact ok_some (show RI ad h.1 δ0 r335.2 ∧ (kp [(12, 36)] δ r335.2 ∧ q_V r335.2 = q_V δ ∧ kr ad [119] δ r335.2) ∧ (q_I r335.2 12 36 a0).toInt = (q_I δ 12 36 a0).toInt ∧ 1 ≤ ((vx301 + r335.1)).toInt ∧ ((vx301 + r335.1)).toInt ≤ 4 * (x3).toInt - 3 from ⟨i337, ⟨kp_w (by decide) u345, v346, kr_w (by decide) v347⟩, by first | assumption | omega, by first | assumption | omega, by first | assumption | omega⟩)
                          · have c356 : x1.toInt ≠ (3 : Int) := o_ne h311
                            refine ok_bind (k_X12_roomEnd L hN (a0 := a0) (x1 := x2) (x2 := x3) (x3 := x4) (x4 := x5) (x5 := (1 : Int32)) k_a0 (show 0 ≤ (x4).toInt by first | assumption | omega) (show (x4).toInt ≤ (x5).toInt by first | assumption | omega) (show (x5).toInt ≤ 14000 by first | assumption | omega) I) (fun r357 hr358 => ?_)
                            have i359 := hr358
                            try rw [i359]
                            have f360 := ti_b r357.1
                            refine ok_ite (fun h361 => ?_) (fun h361 => ?_)
                            · have c362 : vx307.toInt ≤ r357.1.toInt := o_le h361
                              refine ok_mono (kj_X12_touch_267 L hN (a0 := a0) (x1 := x1) (x2 := x2) (x3 := x3) (x4 := x4) (x5 := x5) (x9v := vx301) (x10v := r270.1) ih k_a0 (show 2 ≤ (x3).toInt by first | assumption | omega) (show (x3).toInt ≤ 16 by first | assumption | omega) (show 0 ≤ (x4).toInt by first | assumption | omega) (show (x4).toInt ≤ (x5).toInt by first | assumption | omega) (show (x5).toInt ≤ (x4).toInt + 2000 by first | assumption | omega) (show (x5).toInt ≤ (q_I δ 12 36 a0).toInt by first | assumption | omega) (show (q_I δ 12 36 a0).toInt ≤ 12000 by first | assumption | omega) (show 1 < (x3).toInt → (q_I δ 12 36 a0).toInt ≤ 10000 by first | assumption | omega) (show 2 < (x3).toInt → (q_I δ 12 36 a0).toInt ≤ 8000 by first | assumption | omega) (show 4 < (x3).toInt → (q_I δ 12 36 a0).toInt ≤ 6000 by first | assumption | omega) (show 8 < (x3).toInt → (q_I δ 12 36 a0).toInt ≤ 4000 by first | assumption | omega) (show (x3).toInt ≤ (k : Int) by first | assumption | omega) (show (x4).toInt < (x5).toInt by first | assumption | omega) (show (x4).toInt + 3 ≤ (x5).toInt by first | assumption | omega) (show 1 ≤ (vx301).toInt by first | assumption | omega) (show (vx301).toInt ≤ 2 by first | assumption | omega) I) (fun r363 hr364 => ?_)
                              obtain ⟨i365, ⟨u369, u370, u371⟩, p366, p367, p368⟩ := hr364
                              have u372 := kp_t kp_r u369
                              have v373 : q_V r363.2 = q_V δ := (u370).trans rfl
                              have v374 := kr_t (kr_r (ad := ad)) u371
                              have f375 := cb_12_36 i365 k_a0
                              have f376 := ti_b r363.1
                              have f377 := ti_b r363.1
                              exact ⟨by assumption, ⟨kp_w (by decide) u372, v373, kr_w (by decide) v374⟩, by first | assumption | omega, by first | assumption | omega, by first | assumption | omega⟩
                            · have c378 : r357.1.toInt < vx307.toInt := o_nle h361
                              unfold J_X12_touch_252
                              refine ok_bind (k_bX12_inRoom L hN (a0 := a0) (x1 := x1) (x2 := x2) (x3 := x3) (x4 := x4) (x5 := x5) ih k_a0 (show 2 ≤ (x3).toInt by first | assumption | omega) (show (x3).toInt ≤ 16 by first | assumption | omega) (show 0 ≤ (x4).toInt by first | assumption | omega) (show (x4).toInt ≤ (x5).toInt by first | assumption | omega) (show (x5).toInt ≤ (x4).toInt + 2000 by first | assumption | omega) (show (x5).toInt ≤ (q_I δ 12 36 a0).toInt by first | assumption | omega) (show (q_I δ 12 36 a0).toInt ≤ 12000 by first | assumption | omega) (show 1 < (x3).toInt → (q_I δ 12 36 a0).toInt ≤ 10000 by first | assumption | omega) (show 2 < (x3).toInt → (q_I δ 12 36 a0).toInt ≤ 8000 by first | assumption | omega) (show 4 < (x3).toInt → (q_I δ 12 36 a0).toInt ≤ 6000 by first | assumption | omega) (show 8 < (x3).toInt → (q_I δ 12 36 a0).toInt ≤ 4000 by first | assumption | omega) (show (x3).toInt ≤ (k : Int) by first | assumption | omega) I) (fun r379 hr380 => ?_)
                              obtain ⟨i381, ⟨u386, u387, u388⟩, p382, p383, p384, p385⟩ := hr380
                              have u389 := kp_t kp_r u386
                              have v390 : q_V r379.2 = q_V δ := (u387).trans rfl
                              have v391 := kr_t (kr_r (ad := ad)) u388
                              have f392 := cb_12_36 i381 k_a0
                              have f393 := ti_b r379.1
                              have f394 := ti_b r379.1
                              first | (have q396 := te_add vx301 r379.1 (by omega) (by omega); obtain ⟨f397, f398, f399⟩ := q396) | (obtain ⟨q396, f397, f398, f399⟩ := ti_add vx301 r379.1)
                              exact ok_some (show RI ad h.1 δ0 r379.2 ∧ (kp [(12, 36)] δ r379.2 ∧ q_V r379.2 = q_V δ ∧ kr ad [119] δ r379.2) ∧ (q_I r379.2 12 36 a0).toInt = (q_I δ 12 36 a0).toInt ∧ 1 ≤ ((vx301 + r379.1)).toInt ∧ ((vx301 + r379.1)).toInt ≤ 4 * (x3).toInt - 3 from ⟨i381, ⟨kp_w (by decide) u389, v390, kr_w (by decide) v391⟩, by first | assumption | omega, by first | assumption | omega, by first | assumption | omega⟩)
                      · have c400 : (x5 - x4).toInt < (3 : Int) := o_nle h268
                        unfold J_X12_touch_174
                        exact ok_some (show RI ad h.1 δ0 δ ∧ (kp [(12, 36)] δ δ ∧ q_V δ = q_V δ ∧ kr ad [119] δ δ) ∧ (q_I δ 12 36 a0).toInt = (q_I δ 12 36 a0).toInt ∧ 1 ≤ (1 : Int) ∧ (1 : Int) ≤ 4 * (x3).toInt - 3 from ⟨I, ⟨kp_w (by decide) kp_r, rfl, kr_w (by decide) (kr_r (ad := ad))⟩, by first | assumption | omega, by first | assumption | omega, by first | assumption | omega⟩)
                    · have c401 : (0 : Int) ≠ (0 : Int) := o_ne h261
                      unfold J_X12_touch_174
                      exact ok_some (show RI ad h.1 δ0 δ ∧ (kp [(12, 36)] δ δ ∧ q_V δ = q_V δ ∧ kr ad [119] δ δ) ∧ (q_I δ 12 36 a0).toInt = (q_I δ 12 36 a0).toInt ∧ 1 ≤ (1 : Int) ∧ (1 : Int) ≤ 4 * (x3).toInt - 3 from ⟨I, ⟨kp_w (by decide) kp_r, rfl, kr_w (by decide) (kr_r (ad := ad))⟩, by first | assumption | omega, by first | assumption | omega, by first | assumption | omega⟩)
                  · have c402 : vx69.toInt ≤ x2.toInt := o_nlt h259
                    unfold J_X12_touch_133
                    unfold J_X12_touch_158
                    refine ok_ite (fun h403 => ?_) (fun h403 => ?_)
                    · have c404 : (1 : Int) = (0 : Int) := o_eq h403
                      first | (have q406 := te_sub x5 x4 (by omega) (by omega); obtain ⟨f407, f408, f409⟩ := q406) | (obtain ⟨q406, f407, f408, f409⟩ := ti_sub x5 x4)
                      refine ok_ite (fun h410 => ?_) (fun h410 => ?_)
                      · have c411 : (3 : Int) ≤ (x5 - x4).toInt := o_le h410
                        refine ok_bind (k_X12_lowerBits L hN (a0 := a0) (x1 := x3) k_a0 I) (fun r412 hr413 => ?_)
                        obtain ⟨i414, p415, p416, p417⟩ := hr413
                        try rw [i414]
                        have f418 := cb_12_12 I k_a0
                        have f419 := ti_b r412.1
                        have f420 := ti_b r412.1
                        refine ok_bind (k_X12_roomMany L hN (a0 := a0) (x1 := x2) (x2 := x3) (x3 := x4) (x4 := x5) k_a0 (show 0 ≤ (x4).toInt by first | assumption | omega) (show (x4).toInt ≤ (x5).toInt by first | assumption | omega) (show (x5).toInt ≤ 14000 by first | assumption | omega) I) (fun r421 hr422 => ?_)
                        have i423 := hr422
                        try rw [i423]
                        have f424 := ti_b r421.1
                        refine ok_ite (fun h425 => ?_) (fun h425 => ?_)
                        · have c426 : r421.1.toInt ≤ (0 : Int) := o_le h425
                          refine ok_mono (kj_X12_touch_267 L hN (a0 := a0) (x1 := x1) (x2 := x2) (x3 := x3) (x4 := x4) (x5 := x5) (x9v := (1 : Int32)) (x10v := r412.1) ih k_a0 (show 2 ≤ (x3).toInt by first | assumption | omega) (show (x3).toInt ≤ 16 by first | assumption | omega) (show 0 ≤ (x4).toInt by first | assumption | omega) (show (x4).toInt ≤ (x5).toInt by first | assumption | omega) (show (x5).toInt ≤ (x4).toInt + 2000 by first | assumption | omega) (show (x5).toInt ≤ (q_I δ 12 36 a0).toInt by first | assumption | omega) (show (q_I δ 12 36 a0).toInt ≤ 12000 by first | assumption | omega) (show 1 < (x3).toInt → (q_I δ 12 36 a0).toInt ≤ 10000 by first | assumption | omega) (show 2 < (x3).toInt → (q_I δ 12 36 a0).toInt ≤ 8000 by first | assumption | omega) (show 4 < (x3).toInt → (q_I δ 12 36 a0).toInt ≤ 6000 by first | assumption | omega) (show 8 < (x3).toInt → (q_I δ 12 36 a0).toInt ≤ 4000 by first | assumption | omega) (show (x3).toInt ≤ (k : Int) by first | assumption | omega) (show (x4).toInt < (x5).toInt by first | assumption | omega) (show (x4).toInt + 3 ≤ (x5).toInt by first | assumption | omega) (show 1 ≤ (1 : Int) by first | assumption | omega) (show (1 : Int) ≤ 2 by first | assumption | omega) I) (fun r427 hr428 => ?_)
                          obtain ⟨i429, ⟨u433, u434, u435⟩, p430, p431, p432⟩ := hr428
                          have u436 := kp_t kp_r u433
                          have v437 : q_V r427.2 = q_V δ := (u434).trans rfl
                          have v438 := kr_t (kr_r (ad := ad)) u435
                          have f439 := cb_12_36 i429 k_a0
                          have f440 := ti_b r427.1
                          have f441 := ti_b r427.1
                          exact ⟨by assumption, ⟨kp_w (by decide) u436, v437, kr_w (by decide) v438⟩, by first | assumption | omega, by first | assumption | omega, by first | assumption | omega⟩
                        · have c442 : (0 : Int) < r421.1.toInt := o_nle h425
                          refine ok_biv (fun vx443 e444 => ?_)
                          first | (have q445 := te_cadd (c := 1) (n := 1) rfl (1 : Int32) (by omega) (by omega); rw [← e444] at q445; obtain ⟨f446, f447, f448⟩ := q445) | (obtain ⟨q445, f446, f447, f448⟩ : ∃ q : Int, vx443.toInt = (1 : Int) + (1 : Int) + 4294967296 * q ∧ -2147483648 ≤ vx443.toInt ∧ vx443.toInt ≤ 2147483647 := by rw [e444]; exact ti_cadd (c := 1) (n := 1) rfl (1 : Int32))
                          have f451 := ti_b (x2 &&& (((1 : Int32) <<< (r412.1 &&& 31)) - (1 : Int32)))
                          refine ok_biv (fun vx449 e450 => ?_)
                          have f452 : vx449.toInt = (x2 &&& (((1 : Int32) <<< (r412.1 &&& 31)) - (1 : Int32))).toInt := congrArg Int32.toInt e450
                          refine ok_ite (fun h453 => ?_) (fun h453 => ?_)
                          · have c454 : x1.toInt = (3 : Int) := o_eq h453
                            refine ok_bind (k_X12_roomEnd L hN (a0 := a0) (x1 := x2) (x2 := x3) (x3 := x4) (x4 := x5) (x5 := (0 : Int32)) k_a0 (show 0 ≤ (x4).toInt by first | assumption | omega) (show (x4).toInt ≤ (x5).toInt by first | assumption | omega) (show (x5).toInt ≤ 14000 by first | assumption | omega) I) (fun r455 hr456 => ?_)
                            have i457 := hr456
                            try rw [i457]
                            have f458 := ti_b r455.1
                            refine ok_ite (fun h459 => ?_) (fun h459 => ?_)
                            · have c460 : r455.1.toInt ≤ vx449.toInt := o_le h459
                              refine ok_mono (kj_X12_touch_267 L hN (a0 := a0) (x1 := x1) (x2 := x2) (x3 := x3) (x4 := x4) (x5 := x5) (x9v := vx443) (x10v := r412.1) ih k_a0 (show 2 ≤ (x3).toInt by first | assumption | omega) (show (x3).toInt ≤ 16 by first | assumption | omega) (show 0 ≤ (x4).toInt by first | assumption | omega) (show (x4).toInt ≤ (x5).toInt by first | assumption | omega) (show (x5).toInt ≤ (x4).toInt + 2000 by first | assumption | omega) (show (x5).toInt ≤ (q_I δ 12 36 a0).toInt by first | assumption | omega) (show (q_I δ 12 36 a0).toInt ≤ 12000 by first | assumption | omega) (show 1 < (x3).toInt → (q_I δ 12 36 a0).toInt ≤ 10000 by first | assumption | omega) (show 2 < (x3).toInt → (q_I δ 12 36 a0).toInt ≤ 8000 by first | assumption | omega) (show 4 < (x3).toInt → (q_I δ 12 36 a0).toInt ≤ 6000 by first | assumption | omega) (show 8 < (x3).toInt → (q_I δ 12 36 a0).toInt ≤ 4000 by first | assumption | omega) (show (x3).toInt ≤ (k : Int) by first | assumption | omega) (show (x4).toInt < (x5).toInt by first | assumption | omega) (show (x4).toInt + 3 ≤ (x5).toInt by first | assumption | omega) (show 1 ≤ (vx443).toInt by first | assumption | omega) (show (vx443).toInt ≤ 2 by first | assumption | omega) I) (fun r461 hr462 => ?_)
                              obtain ⟨i463, ⟨u467, u468, u469⟩, p464, p465, p466⟩ := hr462
                              have u470 := kp_t kp_r u467
                              have v471 : q_V r461.2 = q_V δ := (u468).trans rfl
                              have v472 := kr_t (kr_r (ad := ad)) u469
                              have f473 := cb_12_36 i463 k_a0
                              have f474 := ti_b r461.1
                              have f475 := ti_b r461.1
                              exact ⟨by assumption, ⟨kp_w (by decide) u470, v471, kr_w (by decide) v472⟩, by first | assumption | omega, by first | assumption | omega, by first | assumption | omega⟩
                            · have c476 : vx449.toInt < r455.1.toInt := o_nle h459
                              unfold J_X12_touch_252
                              refine ok_bind (k_bX12_inRoom L hN (a0 := a0) (x1 := x1) (x2 := x2) (x3 := x3) (x4 := x4) (x5 := x5) ih k_a0 (show 2 ≤ (x3).toInt by first | assumption | omega) (show (x3).toInt ≤ 16 by first | assumption | omega) (show 0 ≤ (x4).toInt by first | assumption | omega) (show (x4).toInt ≤ (x5).toInt by first | assumption | omega) (show (x5).toInt ≤ (x4).toInt + 2000 by first | assumption | omega) (show (x5).toInt ≤ (q_I δ 12 36 a0).toInt by first | assumption | omega) (show (q_I δ 12 36 a0).toInt ≤ 12000 by first | assumption | omega) (show 1 < (x3).toInt → (q_I δ 12 36 a0).toInt ≤ 10000 by first | assumption | omega) (show 2 < (x3).toInt → (q_I δ 12 36 a0).toInt ≤ 8000 by first | assumption | omega) (show 4 < (x3).toInt → (q_I δ 12 36 a0).toInt ≤ 6000 by first | assumption | omega) (show 8 < (x3).toInt → (q_I δ 12 36 a0).toInt ≤ 4000 by first | assumption | omega) (show (x3).toInt ≤ (k : Int) by first | assumption | omega) I) (fun r477 hr478 => ?_)
                              obtain ⟨i479, ⟨u484, u485, u486⟩, p480, p481, p482, p483⟩ := hr478
                              have u487 := kp_t kp_r u484
                              have v488 : q_V r477.2 = q_V δ := (u485).trans rfl
                              have v489 := kr_t (kr_r (ad := ad)) u486
                              have f490 := cb_12_36 i479 k_a0
                              have f491 := ti_b r477.1
                              have f492 := ti_b r477.1
                              first | (have q494 := te_add vx443 r477.1 (by omega) (by omega); obtain ⟨f495, f496, f497⟩ := q494) | (obtain ⟨q494, f495, f496, f497⟩ := ti_add vx443 r477.1)
                              exact ok_some (show RI ad h.1 δ0 r477.2 ∧ (kp [(12, 36)] δ r477.2 ∧ q_V r477.2 = q_V δ ∧ kr ad [119] δ r477.2) ∧ (q_I r477.2 12 36 a0).toInt = (q_I δ 12 36 a0).toInt ∧ 1 ≤ ((vx443 + r477.1)).toInt ∧ ((vx443 + r477.1)).toInt ≤ 4 * (x3).toInt - 3 from ⟨i479, ⟨kp_w (by decide) u487, v488, kr_w (by decide) v489⟩, by first | assumption | omega, by first | assumption | omega, by first | assumption | omega⟩)
                          · have c498 : x1.toInt ≠ (3 : Int) := o_ne h453
                            refine ok_bind (k_X12_roomEnd L hN (a0 := a0) (x1 := x2) (x2 := x3) (x3 := x4) (x4 := x5) (x5 := (1 : Int32)) k_a0 (show 0 ≤ (x4).toInt by first | assumption | omega) (show (x4).toInt ≤ (x5).toInt by first | assumption | omega) (show (x5).toInt ≤ 14000 by first | assumption | omega) I) (fun r499 hr500 => ?_)
                            have i501 := hr500
                            try rw [i501]
                            have f502 := ti_b r499.1
                            refine ok_ite (fun h503 => ?_) (fun h503 => ?_)
                            · have c504 : vx449.toInt ≤ r499.1.toInt := o_le h503
                              refine ok_mono (kj_X12_touch_267 L hN (a0 := a0) (x1 := x1) (x2 := x2) (x3 := x3) (x4 := x4) (x5 := x5) (x9v := vx443) (x10v := r412.1) ih k_a0 (show 2 ≤ (x3).toInt by first | assumption | omega) (show (x3).toInt ≤ 16 by first | assumption | omega) (show 0 ≤ (x4).toInt by first | assumption | omega) (show (x4).toInt ≤ (x5).toInt by first | assumption | omega) (show (x5).toInt ≤ (x4).toInt + 2000 by first | assumption | omega) (show (x5).toInt ≤ (q_I δ 12 36 a0).toInt by first | assumption | omega) (show (q_I δ 12 36 a0).toInt ≤ 12000 by first | assumption | omega) (show 1 < (x3).toInt → (q_I δ 12 36 a0).toInt ≤ 10000 by first | assumption | omega) (show 2 < (x3).toInt → (q_I δ 12 36 a0).toInt ≤ 8000 by first | assumption | omega) (show 4 < (x3).toInt → (q_I δ 12 36 a0).toInt ≤ 6000 by first | assumption | omega) (show 8 < (x3).toInt → (q_I δ 12 36 a0).toInt ≤ 4000 by first | assumption | omega) (show (x3).toInt ≤ (k : Int) by first | assumption | omega) (show (x4).toInt < (x5).toInt by first | assumption | omega) (show (x4).toInt + 3 ≤ (x5).toInt by first | assumption | omega) (show 1 ≤ (vx443).toInt by first | assumption | omega) (show (vx443).toInt ≤ 2 by first | assumption | omega) I) (fun r505 hr506 => ?_)
                              obtain ⟨i507, ⟨u511, u512, u513⟩, p508, p509, p510⟩ := hr506
                              have u514 := kp_t kp_r u511
                              have v515 : q_V r505.2 = q_V δ := (u512).trans rfl
                              have v516 := kr_t (kr_r (ad := ad)) u513
                              have f517 := cb_12_36 i507 k_a0
                              have f518 := ti_b r505.1
                              have f519 := ti_b r505.1
                              exact ⟨by assumption, ⟨kp_w (by decide) u514, v515, kr_w (by decide) v516⟩, by first | assumption | omega, by first | assumption | omega, by first | assumption | omega⟩
                            · have c520 : r499.1.toInt < vx449.toInt := o_nle h503
                              unfold J_X12_touch_252
                              refine ok_bind (k_bX12_inRoom L hN (a0 := a0) (x1 := x1) (x2 := x2) (x3 := x3) (x4 := x4) (x5 := x5) ih k_a0 (show 2 ≤ (x3).toInt by first | assumption | omega) (show (x3).toInt ≤ 16 by first | assumption | omega) (show 0 ≤ (x4).toInt by first | assumption | omega) (show (x4).toInt ≤ (x5).toInt by first | assumption | omega) (show (x5).toInt ≤ (x4).toInt + 2000 by first | assumption | omega) (show (x5).toInt ≤ (q_I δ 12 36 a0).toInt by first | assumption | omega) (show (q_I δ 12 36 a0).toInt ≤ 12000 by first | assumption | omega) (show 1 < (x3).toInt → (q_I δ 12 36 a0).toInt ≤ 10000 by first | assumption | omega) (show 2 < (x3).toInt → (q_I δ 12 36 a0).toInt ≤ 8000 by first | assumption | omega) (show 4 < (x3).toInt → (q_I δ 12 36 a0).toInt ≤ 6000 by first | assumption | omega) (show 8 < (x3).toInt → (q_I δ 12 36 a0).toInt ≤ 4000 by first | assumption | omega) (show (x3).toInt ≤ (k : Int) by first | assumption | omega) I) (fun r521 hr522 => ?_)
                              obtain ⟨i523, ⟨u528, u529, u530⟩, p524, p525, p526, p527⟩ := hr522
                              have u531 := kp_t kp_r u528
                              have v532 : q_V r521.2 = q_V δ := (u529).trans rfl
                              have v533 := kr_t (kr_r (ad := ad)) u530
                              have f534 := cb_12_36 i523 k_a0
                              have f535 := ti_b r521.1
                              have f536 := ti_b r521.1
                              first | (have q538 := te_add vx443 r521.1 (by omega) (by omega); obtain ⟨f539, f540, f541⟩ := q538) | (obtain ⟨q538, f539, f540, f541⟩ := ti_add vx443 r521.1)
                              exact ok_some (show RI ad h.1 δ0 r521.2 ∧ (kp [(12, 36)] δ r521.2 ∧ q_V r521.2 = q_V δ ∧ kr ad [119] δ r521.2) ∧ (q_I r521.2 12 36 a0).toInt = (q_I δ 12 36 a0).toInt ∧ 1 ≤ ((vx443 + r521.1)).toInt ∧ ((vx443 + r521.1)).toInt ≤ 4 * (x3).toInt - 3 from ⟨i523, ⟨kp_w (by decide) u531, v532, kr_w (by decide) v533⟩, by first | assumption | omega, by first | assumption | omega, by first | assumption | omega⟩)
                      · have c542 : (x5 - x4).toInt < (3 : Int) := o_nle h410
                        unfold J_X12_touch_174
                        exact ok_some (show RI ad h.1 δ0 δ ∧ (kp [(12, 36)] δ δ ∧ q_V δ = q_V δ ∧ kr ad [119] δ δ) ∧ (q_I δ 12 36 a0).toInt = (q_I δ 12 36 a0).toInt ∧ 1 ≤ (1 : Int) ∧ (1 : Int) ≤ 4 * (x3).toInt - 3 from ⟨I, ⟨kp_w (by decide) kp_r, rfl, kr_w (by decide) (kr_r (ad := ad))⟩, by first | assumption | omega, by first | assumption | omega, by first | assumption | omega⟩)
                    · have c543 : (1 : Int) ≠ (0 : Int) := o_ne h403
                      unfold J_X12_touch_174
                      exact ok_some (show RI ad h.1 δ0 δ ∧ (kp [(12, 36)] δ δ ∧ q_V δ = q_V δ ∧ kr ad [119] δ δ) ∧ (q_I δ 12 36 a0).toInt = (q_I δ 12 36 a0).toInt ∧ 1 ≤ (1 : Int) ∧ (1 : Int) ≤ 4 * (x3).toInt - 3 from ⟨I, ⟨kp_w (by decide) kp_r, rfl, kr_w (by decide) (kr_r (ad := ad))⟩, by first | assumption | omega, by first | assumption | omega, by first | assumption | omega⟩)
              · have c544 : x1.toInt ≠ (3 : Int) := o_ne h112
                have f545 := ti_b x2
                refine ok_ite (fun h546 => ?_) (fun h546 => ?_)
                · have c547 : vx69.toInt < x2.toInt := o_lt h546
                  unfold J_X12_touch_153
                  unfold J_X12_touch_158
                  refine ok_ite (fun h548 => ?_) (fun h548 => ?_)
                  · have c549 : (1 : Int) = (0 : Int) := o_eq h548
                    first | (have q551 := te_sub x5 x4 (by omega) (by omega); obtain ⟨f552, f553, f554⟩ := q551) | (obtain ⟨q551, f552, f553, f554⟩ := ti_sub x5 x4)
                    refine ok_ite (fun h555 => ?_) (fun h555 => ?_)
                    · have c556 : (3 : Int) ≤ (x5 - x4).toInt := o_le h555
                      refine ok_bind (k_X12_lowerBits L hN (a0 := a0) (x1 := x3) k_a0 I) (fun r557 hr558 => ?_)
                      obtain ⟨i559, p560, p561, p562⟩ := hr558
                      try rw [i559]
                      have f563 := cb_12_12 I k_a0
                      have f564 := ti_b r557.1
                      have f565 := ti_b r557.1
                      refine ok_bind (k_X12_roomMany L hN (a0 := a0) (x1 := x2) (x2 := x3) (x3 := x4) (x4 := x5) k_a0 (show 0 ≤ (x4).toInt by first | assumption | omega) (show (x4).toInt ≤ (x5).toInt by first | assumption | omega) (show (x5).toInt ≤ 14000 by first | assumption | omega) I) (fun r566 hr567 => ?_)
                      have i568 := hr567
                      try rw [i568]
                      have f569 := ti_b r566.1
                      refine ok_ite (fun h570 => ?_) (fun h570 => ?_)
                      · have c571 : r566.1.toInt ≤ (0 : Int) := o_le h570
                        refine ok_mono (kj_X12_touch_267 L hN (a0 := a0) (x1 := x1) (x2 := x2) (x3 := x3) (x4 := x4) (x5 := x5) (x9v := (1 : Int32)) (x10v := r557.1) ih k_a0 (show 2 ≤ (x3).toInt by first | assumption | omega) (show (x3).toInt ≤ 16 by first | assumption | omega) (show 0 ≤ (x4).toInt by first | assumption | omega) (show (x4).toInt ≤ (x5).toInt by first | assumption | omega) (show (x5).toInt ≤ (x4).toInt + 2000 by first | assumption | omega) (show (x5).toInt ≤ (q_I δ 12 36 a0).toInt by first | assumption | omega) (show (q_I δ 12 36 a0).toInt ≤ 12000 by first | assumption | omega) (show 1 < (x3).toInt → (q_I δ 12 36 a0).toInt ≤ 10000 by first | assumption | omega) (show 2 < (x3).toInt → (q_I δ 12 36 a0).toInt ≤ 8000 by first | assumption | omega) (show 4 < (x3).toInt → (q_I δ 12 36 a0).toInt ≤ 6000 by first | assumption | omega) (show 8 < (x3).toInt → (q_I δ 12 36 a0).toInt ≤ 4000 by first | assumption | omega) (show (x3).toInt ≤ (k : Int) by first | assumption | omega) (show (x4).toInt < (x5).toInt by first | assumption | omega) (show (x4).toInt + 3 ≤ (x5).toInt by first | assumption | omega) (show 1 ≤ (1 : Int) by first | assumption | omega) (show (1 : Int) ≤ 2 by first | assumption | omega) I) (fun r572 hr573 => ?_)
                        obtain ⟨i574, ⟨u578, u579, u580⟩, p575, p576, p577⟩ := hr573
                        have u581 := kp_t kp_r u578
                        have v582 : q_V r572.2 = q_V δ := (u579).trans rfl
                        have v583 := kr_t (kr_r (ad := ad)) u580
                        have f584 := cb_12_36 i574 k_a0
                        have f585 := ti_b r572.1
                        have f586 := ti_b r572.1
                        exact ⟨by assumption, ⟨kp_w (by decide) u581, v582, kr_w (by decide) v583⟩, by first | assumption | omega, by first | assumption | omega, by first | assumption | omega⟩
                      · have c587 : (0 : Int) < r566.1.toInt := o_nle h570
                        refine ok_biv (fun vx588 e589 => ?_)
                        first | (have q590 := te_cadd (c := 1) (n := 1) rfl (1 : Int32) (by omega) (by omega); rw [← e589] at q590; obtain ⟨f591, f592, f593⟩ := q590) | (obtain ⟨q590, f591, f592, f593⟩ : ∃ q : Int, vx588.toInt = (1 : Int) + (1 : Int) + 4294967296 * q ∧ -2147483648 ≤ vx588.toInt ∧ vx588.toInt ≤ 2147483647 := by rw [e589]; exact ti_cadd (c := 1) (n := 1) rfl (1 : Int32))
                        have f596 := ti_b (x2 &&& (((1 : Int32) <<< (r557.1 &&& 31)) - (1 : Int32)))
                        refine ok_biv (fun vx594 e595 => ?_)
                        have f597 : vx594.toInt = (x2 &&& (((1 : Int32) <<< (r557.1 &&& 31)) - (1 : Int32))).toInt := congrArg Int32.toInt e595
                        refine ok_ite (fun h598 => ?_) (fun h598 => ?_)
                        · have c599 : x1.toInt = (3 : Int) := o_eq h598
                          refine ok_bind (k_X12_roomEnd L hN (a0 := a0) (x1 := x2) (x2 := x3) (x3 := x4) (x4 := x5) (x5 := (0 : Int32)) k_a0 (show 0 ≤ (x4).toInt by first | assumption | omega) (show (x4).toInt ≤ (x5).toInt by first | assumption | omega) (show (x5).toInt ≤ 14000 by first | assumption | omega) I) (fun r600 hr601 => ?_)
                          have i602 := hr601
                          try rw [i602]
                          have f603 := ti_b r600.1
                          refine ok_ite (fun h604 => ?_) (fun h604 => ?_)
                          · have c605 : r600.1.toInt ≤ vx594.toInt := o_le h604
                            refine ok_mono (kj_X12_touch_267 L hN (a0 := a0) (x1 := x1) (x2 := x2) (x3 := x3) (x4 := x4) (x5 := x5) (x9v := vx588) (x10v := r557.1) ih k_a0 (show 2 ≤ (x3).toInt by first | assumption | omega) (show (x3).toInt ≤ 16 by first | assumption | omega) (show 0 ≤ (x4).toInt by first | assumption | omega) (show (x4).toInt ≤ (x5).toInt by first | assumption | omega) (show (x5).toInt ≤ (x4).toInt + 2000 by first | assumption | omega) (show (x5).toInt ≤ (q_I δ 12 36 a0).toInt by first | assumption | omega) (show (q_I δ 12 36 a0).toInt ≤ 12000 by first | assumption | omega) (show 1 < (x3).toInt → (q_I δ 12 36 a0).toInt ≤ 10000 by first | assumption | omega) (show 2 < (x3).toInt → (q_I δ 12 36 a0).toInt ≤ 8000 by first | assumption | omega) (show 4 < (x3).toInt → (q_I δ 12 36 a0).toInt ≤ 6000 by first | assumption | omega) (show 8 < (x3).toInt → (q_I δ 12 36 a0).toInt ≤ 4000 by first | assumption | omega) (show (x3).toInt ≤ (k : Int) by first | assumption | omega) (show (x4).toInt < (x5).toInt by first | assumption | omega) (show (x4).toInt + 3 ≤ (x5).toInt by first | assumption | omega) (show 1 ≤ (vx588).toInt by first | assumption | omega) (show (vx588).toInt ≤ 2 by first | assumption | omega) I) (fun r606 hr607 => ?_)
                            obtain ⟨i608, ⟨u612, u613, u614⟩, p609, p610, p611⟩ := hr607
                            have u615 := kp_t kp_r u612
                            have v616 : q_V r606.2 = q_V δ := (u613).trans rfl
                            have v617 := kr_t (kr_r (ad := ad)) u614
                            have f618 := cb_12_36 i608 k_a0
                            have f619 := ti_b r606.1
                            have f620 := ti_b r606.1
                            exact ⟨by assumption, ⟨kp_w (by decide) u615, v616, kr_w (by decide) v617⟩, by first | assumption | omega, by first | assumption | omega, by first | assumption | omega⟩
                          · have c621 : vx594.toInt < r600.1.toInt := o_nle h604
                            unfold J_X12_touch_252
                            refine ok_bind (k_bX12_inRoom L hN (a0 := a0) (x1 := x1) (x2 := x2) (x3 := x3) (x4 := x4) (x5 := x5) ih k_a0 (show 2 ≤ (x3).toInt by first | assumption | omega) (show (x3).toInt ≤ 16 by first | assumption | omega) (show 0 ≤ (x4).toInt by first | assumption | omega) (show (x4).toInt ≤ (x5).toInt by first | assumption | omega) (show (x5).toInt ≤ (x4).toInt + 2000 by first | assumption | omega) (show (x5).toInt ≤ (q_I δ 12 36 a0).toInt by first | assumption | omega) (show (q_I δ 12 36 a0).toInt ≤ 12000 by first | assumption | omega) (show 1 < (x3).toInt → (q_I δ 12 36 a0).toInt ≤ 10000 by first | assumption | omega) (show 2 < (x3).toInt → (q_I δ 12 36 a0).toInt ≤ 8000 by first | assumption | omega) (show 4 < (x3).toInt → (q_I δ 12 36 a0).toInt ≤ 6000 by first | assumption | omega) (show 8 < (x3).toInt → (q_I δ 12 36 a0).toInt ≤ 4000 by first | assumption | omega) (show (x3).toInt ≤ (k : Int) by first | assumption | omega) I) (fun r622 hr623 => ?_)
                            obtain ⟨i624, ⟨u629, u630, u631⟩, p625, p626, p627, p628⟩ := hr623
                            have u632 := kp_t kp_r u629
                            have v633 : q_V r622.2 = q_V δ := (u630).trans rfl
                            have v634 := kr_t (kr_r (ad := ad)) u631
                            have f635 := cb_12_36 i624 k_a0
                            have f636 := ti_b r622.1
                            have f637 := ti_b r622.1
                            first | (have q639 := te_add vx588 r622.1 (by omega) (by omega); obtain ⟨f640, f641, f642⟩ := q639) | (obtain ⟨q639, f640, f641, f642⟩ := ti_add vx588 r622.1)
                            exact ok_some (show RI ad h.1 δ0 r622.2 ∧ (kp [(12, 36)] δ r622.2 ∧ q_V r622.2 = q_V δ ∧ kr ad [119] δ r622.2) ∧ (q_I r622.2 12 36 a0).toInt = (q_I δ 12 36 a0).toInt ∧ 1 ≤ ((vx588 + r622.1)).toInt ∧ ((vx588 + r622.1)).toInt ≤ 4 * (x3).toInt - 3 from ⟨i624, ⟨kp_w (by decide) u632, v633, kr_w (by decide) v634⟩, by first | assumption | omega, by first | assumption | omega, by first | assumption | omega⟩)
                        · have c643 : x1.toInt ≠ (3 : Int) := o_ne h598
                          refine ok_bind (k_X12_roomEnd L hN (a0 := a0) (x1 := x2) (x2 := x3) (x3 := x4) (x4 := x5) (x5 := (1 : Int32)) k_a0 (show 0 ≤ (x4).toInt by first | assumption | omega) (show (x4).toInt ≤ (x5).toInt by first | assumption | omega) (show (x5).toInt ≤ 14000 by first | assumption | omega) I) (fun r644 hr645 => ?_)
                          have i646 := hr645
                          try rw [i646]
                          have f647 := ti_b r644.1
                          refine ok_ite (fun h648 => ?_) (fun h648 => ?_)
                          · have c649 : vx594.toInt ≤ r644.1.toInt := o_le h648
                            refine ok_mono (kj_X12_touch_267 L hN (a0 := a0) (x1 := x1) (x2 := x2) (x3 := x3) (x4 := x4) (x5 := x5) (x9v := vx588) (x10v := r557.1) ih k_a0 (show 2 ≤ (x3).toInt by first | assumption | omega) (show (x3).toInt ≤ 16 by first | assumption | omega) (show 0 ≤ (x4).toInt by first | assumption | omega) (show (x4).toInt ≤ (x5).toInt by first | assumption | omega) (show (x5).toInt ≤ (x4).toInt + 2000 by first | assumption | omega) (show (x5).toInt ≤ (q_I δ 12 36 a0).toInt by first | assumption | omega) (show (q_I δ 12 36 a0).toInt ≤ 12000 by first | assumption | omega) (show 1 < (x3).toInt → (q_I δ 12 36 a0).toInt ≤ 10000 by first | assumption | omega) (show 2 < (x3).toInt → (q_I δ 12 36 a0).toInt ≤ 8000 by first | assumption | omega) (show 4 < (x3).toInt → (q_I δ 12 36 a0).toInt ≤ 6000 by first | assumption | omega) (show 8 < (x3).toInt → (q_I δ 12 36 a0).toInt ≤ 4000 by first | assumption | omega) (show (x3).toInt ≤ (k : Int) by first | assumption | omega) (show (x4).toInt < (x5).toInt by first | assumption | omega) (show (x4).toInt + 3 ≤ (x5).toInt by first | assumption | omega) (show 1 ≤ (vx588).toInt by first | assumption | omega) (show (vx588).toInt ≤ 2 by first | assumption | omega) I) (fun r650 hr651 => ?_)
                            obtain ⟨i652, ⟨u656, u657, u658⟩, p653, p654, p655⟩ := hr651
                            have u659 := kp_t kp_r u656
                            have v660 : q_V r650.2 = q_V δ := (u657).trans rfl
                            have v661 := kr_t (kr_r (ad := ad)) u658
                            have f662 := cb_12_36 i652 k_a0
                            have f663 := ti_b r650.1
                            have f664 := ti_b r650.1
                            exact ⟨by assumption, ⟨kp_w (by decide) u659, v660, kr_w (by decide) v661⟩, by first | assumption | omega, by first | assumption | omega, by first | assumption | omega⟩
                          · have c665 : r644.1.toInt < vx594.toInt := o_nle h648
                            unfold J_X12_touch_252
                            refine ok_bind (k_bX12_inRoom L hN (a0 := a0) (x1 := x1) (x2 := x2) (x3 := x3) (x4 := x4) (x5 := x5) ih k_a0 (show 2 ≤ (x3).toInt by first | assumption | omega) (show (x3).toInt ≤ 16 by first | assumption | omega) (show 0 ≤ (x4).toInt by first | assumption | omega) (show (x4).toInt ≤ (x5).toInt by first | assumption | omega) (show (x5).toInt ≤ (x4).toInt + 2000 by first | assumption | omega) (show (x5).toInt ≤ (q_I δ 12 36 a0).toInt by first | assumption | omega) (show (q_I δ 12 36 a0).toInt ≤ 12000 by first | assumption | omega) (show 1 < (x3).toInt → (q_I δ 12 36 a0).toInt ≤ 10000 by first | assumption | omega) (show 2 < (x3).toInt → (q_I δ 12 36 a0).toInt ≤ 8000 by first | assumption | omega) (show 4 < (x3).toInt → (q_I δ 12 36 a0).toInt ≤ 6000 by first | assumption | omega) (show 8 < (x3).toInt → (q_I δ 12 36 a0).toInt ≤ 4000 by first | assumption | omega) (show (x3).toInt ≤ (k : Int) by first | assumption | omega) I) (fun r666 hr667 => ?_)
                            obtain ⟨i668, ⟨u673, u674, u675⟩, p669, p670, p671, p672⟩ := hr667
                            have u676 := kp_t kp_r u673
                            have v677 : q_V r666.2 = q_V δ := (u674).trans rfl
                            have v678 := kr_t (kr_r (ad := ad)) u675
                            have f679 := cb_12_36 i668 k_a0
                            have f680 := ti_b r666.1
                            have f681 := ti_b r666.1
                            first | (have q683 := te_add vx588 r666.1 (by omega) (by omega); obtain ⟨f684, f685, f686⟩ := q683) | (obtain ⟨q683, f684, f685, f686⟩ := ti_add vx588 r666.1)
                            exact ok_some (show RI ad h.1 δ0 r666.2 ∧ (kp [(12, 36)] δ r666.2 ∧ q_V r666.2 = q_V δ ∧ kr ad [119] δ r666.2) ∧ (q_I r666.2 12 36 a0).toInt = (q_I δ 12 36 a0).toInt ∧ 1 ≤ ((vx588 + r666.1)).toInt ∧ ((vx588 + r666.1)).toInt ≤ 4 * (x3).toInt - 3 from ⟨i668, ⟨kp_w (by decide) u676, v677, kr_w (by decide) v678⟩, by first | assumption | omega, by first | assumption | omega, by first | assumption | omega⟩)
                    · have c687 : (x5 - x4).toInt < (3 : Int) := o_nle h555
                      unfold J_X12_touch_174
                      exact ok_some (show RI ad h.1 δ0 δ ∧ (kp [(12, 36)] δ δ ∧ q_V δ = q_V δ ∧ kr ad [119] δ δ) ∧ (q_I δ 12 36 a0).toInt = (q_I δ 12 36 a0).toInt ∧ 1 ≤ (1 : Int) ∧ (1 : Int) ≤ 4 * (x3).toInt - 3 from ⟨I, ⟨kp_w (by decide) kp_r, rfl, kr_w (by decide) (kr_r (ad := ad))⟩, by first | assumption | omega, by first | assumption | omega, by first | assumption | omega⟩)
                  · have c688 : (1 : Int) ≠ (0 : Int) := o_ne h548
                    unfold J_X12_touch_174
                    exact ok_some (show RI ad h.1 δ0 δ ∧ (kp [(12, 36)] δ δ ∧ q_V δ = q_V δ ∧ kr ad [119] δ δ) ∧ (q_I δ 12 36 a0).toInt = (q_I δ 12 36 a0).toInt ∧ 1 ≤ (1 : Int) ∧ (1 : Int) ≤ 4 * (x3).toInt - 3 from ⟨I, ⟨kp_w (by decide) kp_r, rfl, kr_w (by decide) (kr_r (ad := ad))⟩, by first | assumption | omega, by first | assumption | omega, by first | assumption | omega⟩)
                · have c689 : x2.toInt ≤ vx69.toInt := o_nlt h546
                  refine ok_ite (fun h690 => ?_) (fun h690 => ?_)
                  · have c691 : vx57.toInt < x2.toInt := o_lt h690
                    unfold J_X12_touch_158
                    refine ok_ite (fun h692 => ?_) (fun h692 => ?_)
                    · have c693 : (0 : Int) = (0 : Int) := o_eq h692
                      first | (have q695 := te_sub x5 x4 (by omega) (by omega); obtain ⟨f696, f697, f698⟩ := q695) | (obtain ⟨q695, f696, f697, f698⟩ := ti_sub x5 x4)
                      refine ok_ite (fun h699 => ?_) (fun h699 => ?_)
                      · have c700 : (3 : Int) ≤ (x5 - x4).toInt := o_le h699
                        refine ok_bind (k_X12_lowerBits L hN (a0 := a0) (x1 := x3) k_a0 I) (fun r701 hr702 => ?_)
                        obtain ⟨i703, p704, p705, p706⟩ := hr702
                        try rw [i703]
                        have f707 := cb_12_12 I k_a0
                        have f708 := ti_b r701.1
                        have f709 := ti_b r701.1
                        refine ok_bind (k_X12_roomMany L hN (a0 := a0) (x1 := x2) (x2 := x3) (x3 := x4) (x4 := x5) k_a0 (show 0 ≤ (x4).toInt by first | assumption | omega) (show (x4).toInt ≤ (x5).toInt by first | assumption | omega) (show (x5).toInt ≤ 14000 by first | assumption | omega) I) (fun r710 hr711 => ?_)
                        have i712 := hr711
                        try rw [i712]
                        have f713 := ti_b r710.1
                        refine ok_ite (fun h714 => ?_) (fun h714 => ?_)
                        · have c715 : r710.1.toInt ≤ (0 : Int) := o_le h714
                          refine ok_mono (kj_X12_touch_267 L hN (a0 := a0) (x1 := x1) (x2 := x2) (x3 := x3) (x4 := x4) (x5 := x5) (x9v := (1 : Int32)) (x10v := r701.1) ih k_a0 (show 2 ≤ (x3).toInt by first | assumption | omega) (show (x3).toInt ≤ 16 by first | assumption | omega) (show 0 ≤ (x4).toInt by first | assumption | omega) (show (x4).toInt ≤ (x5).toInt by first | assumption | omega) (show (x5).toInt ≤ (x4).toInt + 2000 by first | assumption | omega) (show (x5).toInt ≤ (q_I δ 12 36 a0).toInt by first | assumption | omega) (show (q_I δ 12 36 a0).toInt ≤ 12000 by first | assumption | omega) (show 1 < (x3).toInt → (q_I δ 12 36 a0).toInt ≤ 10000 by first | assumption | omega) (show 2 < (x3).toInt → (q_I δ 12 36 a0).toInt ≤ 8000 by first | assumption | omega) (show 4 < (x3).toInt → (q_I δ 12 36 a0).toInt ≤ 6000 by first | assumption | omega) (show 8 < (x3).toInt → (q_I δ 12 36 a0).toInt ≤ 4000 by first | assumption | omega) (show (x3).toInt ≤ (k : Int) by first | assumption | omega) (show (x4).toInt < (x5).toInt by first | assumption | omega) (show (x4).toInt + 3 ≤ (x5).toInt by first | assumption | omega) (show 1 ≤ (1 : Int) by first | assumption | omega) (show (1 : Int) ≤ 2 by first | assumption | omega) I) (fun r716 hr717 => ?_)
                          obtain ⟨i718, ⟨u722, u723, u724⟩, p719, p720, p721⟩ := hr717
                          have u725 := kp_t kp_r u722
                          have v726 : q_V r716.2 = q_V δ := (u723).trans rfl
                          have v727 := kr_t (kr_r (ad := ad)) u724
                          have f728 := cb_12_36 i718 k_a0
                          have f729 := ti_b r716.1
                          have f730 := ti_b r716.1
                          exact ⟨by assumption, ⟨kp_w (by decide) u725, v726, kr_w (by decide) v727⟩, by first | assumption | omega, by first | assumption | omega, by first | assumption | omega⟩
                        · have c731 : (0 : Int) < r710.1.toInt := o_nle h714
                          refine ok_biv (fun vx732 e733 => ?_)
                          first | (have q734 := te_cadd (c := 1) (n := 1) rfl (1 : Int32) (by omega) (by omega); rw [← e733] at q734; obtain ⟨f735, f736, f737⟩ := q734) | (obtain ⟨q734, f735, f736, f737⟩ : ∃ q : Int, vx732.toInt = (1 : Int) + (1 : Int) + 4294967296 * q ∧ -2147483648 ≤ vx732.toInt ∧ vx732.toInt ≤ 2147483647 := by rw [e733]; exact ti_cadd (c := 1) (n := 1) rfl (1 : Int32))
                          have f740 := ti_b (x2 &&& (((1 : Int32) <<< (r701.1 &&& 31)) - (1 : Int32)))
                          refine ok_biv (fun vx738 e739 => ?_)
                          have f741 : vx738.toInt = (x2 &&& (((1 : Int32) <<< (r701.1 &&& 31)) - (1 : Int32))).toInt := congrArg Int32.toInt e739
                          refine ok_ite (fun h742 => ?_) (fun h742 => ?_)
                          · have c743 : x1.toInt = (3 : Int) := o_eq h742
                            refine ok_bind (k_X12_roomEnd L hN (a0 := a0) (x1 := x2) (x2 := x3) (x3 := x4) (x4 := x5) (x5 := (0 : Int32)) k_a0 (show 0 ≤ (x4).toInt by first | assumption | omega) (show (x4).toInt ≤ (x5).toInt by first | assumption | omega) (show (x5).toInt ≤ 14000 by first | assumption | omega) I) (fun r744 hr745 => ?_)
                            have i746 := hr745
                            try rw [i746]
                            have f747 := ti_b r744.1
                            refine ok_ite (fun h748 => ?_) (fun h748 => ?_)
                            · have c749 : r744.1.toInt ≤ vx738.toInt := o_le h748
                              refine ok_mono (kj_X12_touch_267 L hN (a0 := a0) (x1 := x1) (x2 := x2) (x3 := x3) (x4 := x4) (x5 := x5) (x9v := vx732) (x10v := r701.1) ih k_a0 (show 2 ≤ (x3).toInt by first | assumption | omega) (show (x3).toInt ≤ 16 by first | assumption | omega) (show 0 ≤ (x4).toInt by first | assumption | omega) (show (x4).toInt ≤ (x5).toInt by first | assumption | omega) (show (x5).toInt ≤ (x4).toInt + 2000 by first | assumption | omega) (show (x5).toInt ≤ (q_I δ 12 36 a0).toInt by first | assumption | omega) (show (q_I δ 12 36 a0).toInt ≤ 12000 by first | assumption | omega) (show 1 < (x3).toInt → (q_I δ 12 36 a0).toInt ≤ 10000 by first | assumption | omega) (show 2 < (x3).toInt → (q_I δ 12 36 a0).toInt ≤ 8000 by first | assumption | omega) (show 4 < (x3).toInt → (q_I δ 12 36 a0).toInt ≤ 6000 by first | assumption | omega) (show 8 < (x3).toInt → (q_I δ 12 36 a0).toInt ≤ 4000 by first | assumption | omega) (show (x3).toInt ≤ (k : Int) by first | assumption | omega) (show (x4).toInt < (x5).toInt by first | assumption | omega) (show (x4).toInt + 3 ≤ (x5).toInt by first | assumption | omega) (show 1 ≤ (vx732).toInt by first | assumption | omega) (show (vx732).toInt ≤ 2 by first | assumption | omega) I) (fun r750 hr751 => ?_)
                              obtain ⟨i752, ⟨u756, u757, u758⟩, p753, p754, p755⟩ := hr751
                              have u759 := kp_t kp_r u756
                              have v760 : q_V r750.2 = q_V δ := (u757).trans rfl
                              have v761 := kr_t (kr_r (ad := ad)) u758
                              have f762 := cb_12_36 i752 k_a0
                              have f763 := ti_b r750.1
                              have f764 := ti_b r750.1
                              exact ⟨by assumption, ⟨kp_w (by decide) u759, v760, kr_w (by decide) v761⟩, by first | assumption | omega, by first | assumption | omega, by first | assumption | omega⟩
                            · have c765 : vx738.toInt < r744.1.toInt := o_nle h748
                              unfold J_X12_touch_252
                              refine ok_bind (k_bX12_inRoom L hN (a0 := a0) (x1 := x1) (x2 := x2) (x3 := x3) (x4 := x4) (x5 := x5) ih k_a0 (show 2 ≤ (x3).toInt by first | assumption | omega) (show (x3).toInt ≤ 16 by first | assumption | omega) (show 0 ≤ (x4).toInt by first | assumption | omega) (show (x4).toInt ≤ (x5).toInt by first | assumption | omega) (show (x5).toInt ≤ (x4).toInt + 2000 by first | assumption | omega) (show (x5).toInt ≤ (q_I δ 12 36 a0).toInt by first | assumption | omega) (show (q_I δ 12 36 a0).toInt ≤ 12000 by first | assumption | omega) (show 1 < (x3).toInt → (q_I δ 12 36 a0).toInt ≤ 10000 by first | assumption | omega) (show 2 < (x3).toInt → (q_I δ 12 36 a0).toInt ≤ 8000 by first | assumption | omega) (show 4 < (x3).toInt → (q_I δ 12 36 a0).toInt ≤ 6000 by first | assumption | omega) (show 8 < (x3).toInt → (q_I δ 12 36 a0).toInt ≤ 4000 by first | assumption | omega) (show (x3).toInt ≤ (k : Int) by first | assumption | omega) I) (fun r766 hr767 => ?_)
                              obtain ⟨i768, ⟨u773, u774, u775⟩, p769, p770, p771, p772⟩ := hr767
                              have u776 := kp_t kp_r u773
                              have v777 : q_V r766.2 = q_V δ := (u774).trans rfl
                              have v778 := kr_t (kr_r (ad := ad)) u775
                              have f779 := cb_12_36 i768 k_a0
                              have f780 := ti_b r766.1
                              have f781 := ti_b r766.1
                              first | (have q783 := te_add vx732 r766.1 (by omega) (by omega); obtain ⟨f784, f785, f786⟩ := q783) | (obtain ⟨q783, f784, f785, f786⟩ := ti_add vx732 r766.1)
                              exact ok_some (show RI ad h.1 δ0 r766.2 ∧ (kp [(12, 36)] δ r766.2 ∧ q_V r766.2 = q_V δ ∧ kr ad [119] δ r766.2) ∧ (q_I r766.2 12 36 a0).toInt = (q_I δ 12 36 a0).toInt ∧ 1 ≤ ((vx732 + r766.1)).toInt ∧ ((vx732 + r766.1)).toInt ≤ 4 * (x3).toInt - 3 from ⟨i768, ⟨kp_w (by decide) u776, v777, kr_w (by decide) v778⟩, by first | assumption | omega, by first | assumption | omega, by first | assumption | omega⟩)
                          · have c787 : x1.toInt ≠ (3 : Int) := o_ne h742
                            refine ok_bind (k_X12_roomEnd L hN (a0 := a0) (x1 := x2) (x2 := x3) (x3 := x4) (x4 := x5) (x5 := (1 : Int32)) k_a0 (show 0 ≤ (x4).toInt by first | assumption | omega) (show (x4).toInt ≤ (x5).toInt by first | assumption | omega) (show (x5).toInt ≤ 14000 by first | assumption | omega) I) (fun r788 hr789 => ?_)
                            have i790 := hr789
                            try rw [i790]
                            have f791 := ti_b r788.1
                            refine ok_ite (fun h792 => ?_) (fun h792 => ?_)
                            · have c793 : vx738.toInt ≤ r788.1.toInt := o_le h792
                              refine ok_mono (kj_X12_touch_267 L hN (a0 := a0) (x1 := x1) (x2 := x2) (x3 := x3) (x4 := x4) (x5 := x5) (x9v := vx732) (x10v := r701.1) ih k_a0 (show 2 ≤ (x3).toInt by first | assumption | omega) (show (x3).toInt ≤ 16 by first | assumption | omega) (show 0 ≤ (x4).toInt by first | assumption | omega) (show (x4).toInt ≤ (x5).toInt by first | assumption | omega) (show (x5).toInt ≤ (x4).toInt + 2000 by first | assumption | omega) (show (x5).toInt ≤ (q_I δ 12 36 a0).toInt by first | assumption | omega) (show (q_I δ 12 36 a0).toInt ≤ 12000 by first | assumption | omega) (show 1 < (x3).toInt → (q_I δ 12 36 a0).toInt ≤ 10000 by first | assumption | omega) (show 2 < (x3).toInt → (q_I δ 12 36 a0).toInt ≤ 8000 by first | assumption | omega) (show 4 < (x3).toInt → (q_I δ 12 36 a0).toInt ≤ 6000 by first | assumption | omega) (show 8 < (x3).toInt → (q_I δ 12 36 a0).toInt ≤ 4000 by first | assumption | omega) (show (x3).toInt ≤ (k : Int) by first | assumption | omega) (show (x4).toInt < (x5).toInt by first | assumption | omega) (show (x4).toInt + 3 ≤ (x5).toInt by first | assumption | omega) (show 1 ≤ (vx732).toInt by first | assumption | omega) (show (vx732).toInt ≤ 2 by first | assumption | omega) I) (fun r794 hr795 => ?_)
                              obtain ⟨i796, ⟨u800, u801, u802⟩, p797, p798, p799⟩ := hr795
                              have u803 := kp_t kp_r u800
                              have v804 : q_V r794.2 = q_V δ := (u801).trans rfl
                              have v805 := kr_t (kr_r (ad := ad)) u802
                              have f806 := cb_12_36 i796 k_a0
                              have f807 := ti_b r794.1
                              have f808 := ti_b r794.1
                              exact ⟨by assumption, ⟨kp_w (by decide) u803, v804, kr_w (by decide) v805⟩, by first | assumption | omega, by first | assumption | omega, by first | assumption | omega⟩
                            · have c809 : r788.1.toInt < vx738.toInt := o_nle h792
                              unfold J_X12_touch_252
                              refine ok_bind (k_bX12_inRoom L hN (a0 := a0) (x1 := x1) (x2 := x2) (x3 := x3) (x4 := x4) (x5 := x5) ih k_a0 (show 2 ≤ (x3).toInt by first | assumption | omega) (show (x3).toInt ≤ 16 by first | assumption | omega) (show 0 ≤ (x4).toInt by first | assumption | omega) (show (x4).toInt ≤ (x5).toInt by first | assumption | omega) (show (x5).toInt ≤ (x4).toInt + 2000 by first | assumption | omega) (show (x5).toInt ≤ (q_I δ 12 36 a0).toInt by first | assumption | omega) (show (q_I δ 12 36 a0).toInt ≤ 12000 by first | assumption | omega) (show 1 < (x3).toInt → (q_I δ 12 36 a0).toInt ≤ 10000 by first | assumption | omega) (show 2 < (x3).toInt → (q_I δ 12 36 a0).toInt ≤ 8000 by first | assumption | omega) (show 4 < (x3).toInt → (q_I δ 12 36 a0).toInt ≤ 6000 by first | assumption | omega) (show 8 < (x3).toInt → (q_I δ 12 36 a0).toInt ≤ 4000 by first | assumption | omega) (show (x3).toInt ≤ (k : Int) by first | assumption | omega) I) (fun r810 hr811 => ?_)
                              obtain ⟨i812, ⟨u817, u818, u819⟩, p813, p814, p815, p816⟩ := hr811
                              have u820 := kp_t kp_r u817
                              have v821 : q_V r810.2 = q_V δ := (u818).trans rfl
                              have v822 := kr_t (kr_r (ad := ad)) u819
                              have f823 := cb_12_36 i812 k_a0
                              have f824 := ti_b r810.1
                              have f825 := ti_b r810.1
                              first | (have q827 := te_add vx732 r810.1 (by omega) (by omega); obtain ⟨f828, f829, f830⟩ := q827) | (obtain ⟨q827, f828, f829, f830⟩ := ti_add vx732 r810.1)
                              exact ok_some (show RI ad h.1 δ0 r810.2 ∧ (kp [(12, 36)] δ r810.2 ∧ q_V r810.2 = q_V δ ∧ kr ad [119] δ r810.2) ∧ (q_I r810.2 12 36 a0).toInt = (q_I δ 12 36 a0).toInt ∧ 1 ≤ ((vx732 + r810.1)).toInt ∧ ((vx732 + r810.1)).toInt ≤ 4 * (x3).toInt - 3 from ⟨i812, ⟨kp_w (by decide) u820, v821, kr_w (by decide) v822⟩, by first | assumption | omega, by first | assumption | omega, by first | assumption | omega⟩)
                      · have c831 : (x5 - x4).toInt < (3 : Int) := o_nle h699
                        unfold J_X12_touch_174
                        exact ok_some (show RI ad h.1 δ0 δ ∧ (kp [(12, 36)] δ δ ∧ q_V δ = q_V δ ∧ kr ad [119] δ δ) ∧ (q_I δ 12 36 a0).toInt = (q_I δ 12 36 a0).toInt ∧ 1 ≤ (1 : Int) ∧ (1 : Int) ≤ 4 * (x3).toInt - 3 from ⟨I, ⟨kp_w (by decide) kp_r, rfl, kr_w (by decide) (kr_r (ad := ad))⟩, by first | assumption | omega, by first | assumption | omega, by first | assumption | omega⟩)
                    · have c832 : (0 : Int) ≠ (0 : Int) := o_ne h692
                      unfold J_X12_touch_174
                      exact ok_some (show RI ad h.1 δ0 δ ∧ (kp [(12, 36)] δ δ ∧ q_V δ = q_V δ ∧ kr ad [119] δ δ) ∧ (q_I δ 12 36 a0).toInt = (q_I δ 12 36 a0).toInt ∧ 1 ≤ (1 : Int) ∧ (1 : Int) ≤ 4 * (x3).toInt - 3 from ⟨I, ⟨kp_w (by decide) kp_r, rfl, kr_w (by decide) (kr_r (ad := ad))⟩, by first | assumption | omega, by first | assumption | omega, by first | assumption | omega⟩)
                  · have c833 : x2.toInt ≤ vx57.toInt := o_nlt h690
                    unfold J_X12_touch_153
                    unfold J_X12_touch_158
                    refine ok_ite (fun h834 => ?_) (fun h834 => ?_)
                    · have c835 : (1 : Int) = (0 : Int) := o_eq h834
                      first | (have q837 := te_sub x5 x4 (by omega) (by omega); obtain ⟨f838, f839, f840⟩ := q837) | (obtain ⟨q837, f838, f839, f840⟩ := ti_sub x5 x4)
                      refine ok_ite (fun h841 => ?_) (fun h841 => ?_)
                      · have c842 : (3 : Int) ≤ (x5 - x4).toInt := o_le h841
                        refine ok_bind (k_X12_lowerBits L hN (a0 := a0) (x1 := x3) k_a0 I) (fun r843 hr844 => ?_)
                        obtain ⟨i845, p846, p847, p848⟩ := hr844
                        try rw [i845]
                        have f849 := cb_12_12 I k_a0
                        have f850 := ti_b r843.1
                        have f851 := ti_b r843.1
                        refine ok_bind (k_X12_roomMany L hN (a0 := a0) (x1 := x2) (x2 := x3) (x3 := x4) (x4 := x5) k_a0 (show 0 ≤ (x4).toInt by first | assumption | omega) (show (x4).toInt ≤ (x5).toInt by first | assumption | omega) (show (x5).toInt ≤ 14000 by first | assumption | omega) I) (fun r852 hr853 => ?_)
                        have i854 := hr853
                        try rw [i854]
                        have f855 := ti_b r852.1
                        refine ok_ite (fun h856 => ?_) (fun h856 => ?_)
                        · have c857 : r852.1.toInt ≤ (0 : Int) := o_le h856
                          refine ok_mono (kj_X12_touch_267 L hN (a0 := a0) (x1 := x1) (x2 := x2) (x3 := x3) (x4 := x4) (x5 := x5) (x9v := (1 : Int32)) (x10v := r843.1) ih k_a0 (show 2 ≤ (x3).toInt by first | assumption | omega) (show (x3).toInt ≤ 16 by first | assumption | omega) (show 0 ≤ (x4).toInt by first | assumption | omega) (show (x4).toInt ≤ (x5).toInt by first | assumption | omega) (show (x5).toInt ≤ (x4).toInt + 2000 by first | assumption | omega) (show (x5).toInt ≤ (q_I δ 12 36 a0).toInt by first | assumption | omega) (show (q_I δ 12 36 a0).toInt ≤ 12000 by first | assumption | omega) (show 1 < (x3).toInt → (q_I δ 12 36 a0).toInt ≤ 10000 by first | assumption | omega) (show 2 < (x3).toInt → (q_I δ 12 36 a0).toInt ≤ 8000 by first | assumption | omega) (show 4 < (x3).toInt → (q_I δ 12 36 a0).toInt ≤ 6000 by first | assumption | omega) (show 8 < (x3).toInt → (q_I δ 12 36 a0).toInt ≤ 4000 by first | assumption | omega) (show (x3).toInt ≤ (k : Int) by first | assumption | omega) (show (x4).toInt < (x5).toInt by first | assumption | omega) (show (x4).toInt + 3 ≤ (x5).toInt by first | assumption | omega) (show 1 ≤ (1 : Int) by first | assumption | omega) (show (1 : Int) ≤ 2 by first | assumption | omega) I) (fun r858 hr859 => ?_)
                          obtain ⟨i860, ⟨u864, u865, u866⟩, p861, p862, p863⟩ := hr859
                          have u867 := kp_t kp_r u864
                          have v868 : q_V r858.2 = q_V δ := (u865).trans rfl
                          have v869 := kr_t (kr_r (ad := ad)) u866
                          have f870 := cb_12_36 i860 k_a0
                          have f871 := ti_b r858.1
                          have f872 := ti_b r858.1
                          exact ⟨by assumption, ⟨kp_w (by decide) u867, v868, kr_w (by decide) v869⟩, by first | assumption | omega, by first | assumption | omega, by first | assumption | omega⟩
                        · have c873 : (0 : Int) < r852.1.toInt := o_nle h856
                          refine ok_biv (fun vx874 e875 => ?_)
                          first | (have q876 := te_cadd (c := 1) (n := 1) rfl (1 : Int32) (by omega) (by omega); rw [← e875] at q876; obtain ⟨f877, f878, f879⟩ := q876) | (obtain ⟨q876, f877, f878, f879⟩ : ∃ q : Int, vx874.toInt = (1 : Int) + (1 : Int) + 4294967296 * q ∧ -2147483648 ≤ vx874.toInt ∧ vx874.toInt ≤ 2147483647 := by rw [e875]; exact ti_cadd (c := 1) (n := 1) rfl (1 : Int32))
                          have f882 := ti_b (x2 &&& (((1 : Int32) <<< (r843.1 &&& 31)) - (1 : Int32)))
                          refine ok_biv (fun vx880 e881 => ?_)
                          have f883 : vx880.toInt = (x2 &&& (((1 : Int32) <<< (r843.1 &&& 31)) - (1 : Int32))).toInt := congrArg Int32.toInt e881
                          refine ok_ite (fun h884 => ?_) (fun h884 => ?_)
                          · have c885 : x1.toInt = (3 : Int) := o_eq h884
                            refine ok_bind (k_X12_roomEnd L hN (a0 := a0) (x1 := x2) (x2 := x3) (x3 := x4) (x4 := x5) (x5 := (0 : Int32)) k_a0 (show 0 ≤ (x4).toInt by first | assumption | omega) (show (x4).toInt ≤ (x5).toInt by first | assumption | omega) (show (x5).toInt ≤ 14000 by first | assumption | omega) I) (fun r886 hr887 => ?_)
                            have i888 := hr887
                            try rw [i888]
                            have f889 := ti_b r886.1
                            refine ok_ite (fun h890 => ?_) (fun h890 => ?_)
                            · have c891 : r886.1.toInt ≤ vx880.toInt := o_le h890
                              refine ok_mono (kj_X12_touch_267 L hN (a0 := a0) (x1 := x1) (x2 := x2) (x3 := x3) (x4 := x4) (x5 := x5) (x9v := vx874) (x10v := r843.1) ih k_a0 (show 2 ≤ (x3).toInt by first | assumption | omega) (show (x3).toInt ≤ 16 by first | assumption | omega) (show 0 ≤ (x4).toInt by first | assumption | omega) (show (x4).toInt ≤ (x5).toInt by first | assumption | omega) (show (x5).toInt ≤ (x4).toInt + 2000 by first | assumption | omega) (show (x5).toInt ≤ (q_I δ 12 36 a0).toInt by first | assumption | omega) (show (q_I δ 12 36 a0).toInt ≤ 12000 by first | assumption | omega) (show 1 < (x3).toInt → (q_I δ 12 36 a0).toInt ≤ 10000 by first | assumption | omega) (show 2 < (x3).toInt → (q_I δ 12 36 a0).toInt ≤ 8000 by first | assumption | omega) (show 4 < (x3).toInt → (q_I δ 12 36 a0).toInt ≤ 6000 by first | assumption | omega) (show 8 < (x3).toInt → (q_I δ 12 36 a0).toInt ≤ 4000 by first | assumption | omega) (show (x3).toInt ≤ (k : Int) by first | assumption | omega) (show (x4).toInt < (x5).toInt by first | assumption | omega) (show (x4).toInt + 3 ≤ (x5).toInt by first | assumption | omega) (show 1 ≤ (vx874).toInt by first | assumption | omega) (show (vx874).toInt ≤ 2 by first | assumption | omega) I) (fun r892 hr893 => ?_)
                              obtain ⟨i894, ⟨u898, u899, u900⟩, p895, p896, p897⟩ := hr893
                              have u901 := kp_t kp_r u898
                              have v902 : q_V r892.2 = q_V δ := (u899).trans rfl
                              have v903 := kr_t (kr_r (ad := ad)) u900
                              have f904 := cb_12_36 i894 k_a0
                              have f905 := ti_b r892.1
                              have f906 := ti_b r892.1
                              exact ⟨by assumption, ⟨kp_w (by decide) u901, v902, kr_w (by decide) v903⟩, by first | assumption | omega, by first | assumption | omega, by first | assumption | omega⟩
                            · have c907 : vx880.toInt < r886.1.toInt := o_nle h890
                              unfold J_X12_touch_252
                              refine ok_bind (k_bX12_inRoom L hN (a0 := a0) (x1 := x1) (x2 := x2) (x3 := x3) (x4 := x4) (x5 := x5) ih k_a0 (show 2 ≤ (x3).toInt by first | assumption | omega) (show (x3).toInt ≤ 16 by first | assumption | omega) (show 0 ≤ (x4).toInt by first | assumption | omega) (show (x4).toInt ≤ (x5).toInt by first | assumption | omega) (show (x5).toInt ≤ (x4).toInt + 2000 by first | assumption | omega) (show (x5).toInt ≤ (q_I δ 12 36 a0).toInt by first | assumption | omega) (show (q_I δ 12 36 a0).toInt ≤ 12000 by first | assumption | omega) (show 1 < (x3).toInt → (q_I δ 12 36 a0).toInt ≤ 10000 by first | assumption | omega) (show 2 < (x3).toInt → (q_I δ 12 36 a0).toInt ≤ 8000 by first | assumption | omega) (show 4 < (x3).toInt → (q_I δ 12 36 a0).toInt ≤ 6000 by first | assumption | omega) (show 8 < (x3).toInt → (q_I δ 12 36 a0).toInt ≤ 4000 by first | assumption | omega) (show (x3).toInt ≤ (k : Int) by first | assumption | omega) I) (fun r908 hr909 => ?_)
                              obtain ⟨i910, ⟨u915, u916, u917⟩, p911, p912, p913, p914⟩ := hr909
                              have u918 := kp_t kp_r u915
                              have v919 : q_V r908.2 = q_V δ := (u916).trans rfl
                              have v920 := kr_t (kr_r (ad := ad)) u917
                              have f921 := cb_12_36 i910 k_a0
                              have f922 := ti_b r908.1
                              have f923 := ti_b r908.1
                              first | (have q925 := te_add vx874 r908.1 (by omega) (by omega); obtain ⟨f926, f927, f928⟩ := q925) | (obtain ⟨q925, f926, f927, f928⟩ := ti_add vx874 r908.1)
                              exact ok_some (show RI ad h.1 δ0 r908.2 ∧ (kp [(12, 36)] δ r908.2 ∧ q_V r908.2 = q_V δ ∧ kr ad [119] δ r908.2) ∧ (q_I r908.2 12 36 a0).toInt = (q_I δ 12 36 a0).toInt ∧ 1 ≤ ((vx874 + r908.1)).toInt ∧ ((vx874 + r908.1)).toInt ≤ 4 * (x3).toInt - 3 from ⟨i910, ⟨kp_w (by decide) u918, v919, kr_w (by decide) v920⟩, by first | assumption | omega, by first | assumption | omega, by first | assumption | omega⟩)
                          · have c929 : x1.toInt ≠ (3 : Int) := o_ne h884
                            refine ok_bind (k_X12_roomEnd L hN (a0 := a0) (x1 := x2) (x2 := x3) (x3 := x4) (x4 := x5) (x5 := (1 : Int32)) k_a0 (show 0 ≤ (x4).toInt by first | assumption | omega) (show (x4).toInt ≤ (x5).toInt by first | assumption | omega) (show (x5).toInt ≤ 14000 by first | assumption | omega) I) (fun r930 hr931 => ?_)
                            have i932 := hr931
                            try rw [i932]
                            have f933 := ti_b r930.1
                            refine ok_ite (fun h934 => ?_) (fun h934 => ?_)
                            · have c935 : vx880.toInt ≤ r930.1.toInt := o_le h934
                              refine ok_mono (kj_X12_touch_267 L hN (a0 := a0) (x1 := x1) (x2 := x2) (x3 := x3) (x4 := x4) (x5 := x5) (x9v := vx874) (x10v := r843.1) ih k_a0 (show 2 ≤ (x3).toInt by first | assumption | omega) (show (x3).toInt ≤ 16 by first | assumption | omega) (show 0 ≤ (x4).toInt by first | assumption | omega) (show (x4).toInt ≤ (x5).toInt by first | assumption | omega) (show (x5).toInt ≤ (x4).toInt + 2000 by first | assumption | omega) (show (x5).toInt ≤ (q_I δ 12 36 a0).toInt by first | assumption | omega) (show (q_I δ 12 36 a0).toInt ≤ 12000 by first | assumption | omega) (show 1 < (x3).toInt → (q_I δ 12 36 a0).toInt ≤ 10000 by first | assumption | omega) (show 2 < (x3).toInt → (q_I δ 12 36 a0).toInt ≤ 8000 by first | assumption | omega) (show 4 < (x3).toInt → (q_I δ 12 36 a0).toInt ≤ 6000 by first | assumption | omega) (show 8 < (x3).toInt → (q_I δ 12 36 a0).toInt ≤ 4000 by first | assumption | omega) (show (x3).toInt ≤ (k : Int) by first | assumption | omega) (show (x4).toInt < (x5).toInt by first | assumption | omega) (show (x4).toInt + 3 ≤ (x5).toInt by first | assumption | omega) (show 1 ≤ (vx874).toInt by first | assumption | omega) (show (vx874).toInt ≤ 2 by first | assumption | omega) I) (fun r936 hr937 => ?_)
                              obtain ⟨i938, ⟨u942, u943, u944⟩, p939, p940, p941⟩ := hr937
                              have u945 := kp_t kp_r u942
                              have v946 : q_V r936.2 = q_V δ := (u943).trans rfl
                              have v947 := kr_t (kr_r (ad := ad)) u944
                              have f948 := cb_12_36 i938 k_a0
                              have f949 := ti_b r936.1
                              have f950 := ti_b r936.1
                              exact ⟨by assumption, ⟨kp_w (by decide) u945, v946, kr_w (by decide) v947⟩, by first | assumption | omega, by first | assumption | omega, by first | assumption | omega⟩
                            · have c951 : r930.1.toInt < vx880.toInt := o_nle h934
                              unfold J_X12_touch_252
                              refine ok_bind (k_bX12_inRoom L hN (a0 := a0) (x1 := x1) (x2 := x2) (x3 := x3) (x4 := x4) (x5 := x5) ih k_a0 (show 2 ≤ (x3).toInt by first | assumption | omega) (show (x3).toInt ≤ 16 by first | assumption | omega) (show 0 ≤ (x4).toInt by first | assumption | omega) (show (x4).toInt ≤ (x5).toInt by first | assumption | omega) (show (x5).toInt ≤ (x4).toInt + 2000 by first | assumption | omega) (show (x5).toInt ≤ (q_I δ 12 36 a0).toInt by first | assumption | omega) (show (q_I δ 12 36 a0).toInt ≤ 12000 by first | assumption | omega) (show 1 < (x3).toInt → (q_I δ 12 36 a0).toInt ≤ 10000 by first | assumption | omega) (show 2 < (x3).toInt → (q_I δ 12 36 a0).toInt ≤ 8000 by first | assumption | omega) (show 4 < (x3).toInt → (q_I δ 12 36 a0).toInt ≤ 6000 by first | assumption | omega) (show 8 < (x3).toInt → (q_I δ 12 36 a0).toInt ≤ 4000 by first | assumption | omega) (show (x3).toInt ≤ (k : Int) by first | assumption | omega) I) (fun r952 hr953 => ?_)
                              obtain ⟨i954, ⟨u959, u960, u961⟩, p955, p956, p957, p958⟩ := hr953
                              have u962 := kp_t kp_r u959
                              have v963 : q_V r952.2 = q_V δ := (u960).trans rfl
                              have v964 := kr_t (kr_r (ad := ad)) u961
                              have f965 := cb_12_36 i954 k_a0
                              have f966 := ti_b r952.1
                              have f967 := ti_b r952.1
                              first | (have q969 := te_add vx874 r952.1 (by omega) (by omega); obtain ⟨f970, f971, f972⟩ := q969) | (obtain ⟨q969, f970, f971, f972⟩ := ti_add vx874 r952.1)
                              exact ok_some (show RI ad h.1 δ0 r952.2 ∧ (kp [(12, 36)] δ r952.2 ∧ q_V r952.2 = q_V δ ∧ kr ad [119] δ r952.2) ∧ (q_I r952.2 12 36 a0).toInt = (q_I δ 12 36 a0).toInt ∧ 1 ≤ ((vx874 + r952.1)).toInt ∧ ((vx874 + r952.1)).toInt ≤ 4 * (x3).toInt - 3 from ⟨i954, ⟨kp_w (by decide) u962, v963, kr_w (by decide) v964⟩, by first | assumption | omega, by first | assumption | omega, by first | assumption | omega⟩)
                      · have c973 : (x5 - x4).toInt < (3 : Int) := o_nle h841
                        unfold J_X12_touch_174
                        exact ok_some (show RI ad h.1 δ0 δ ∧ (kp [(12, 36)] δ δ ∧ q_V δ = q_V δ ∧ kr ad [119] δ δ) ∧ (q_I δ 12 36 a0).toInt = (q_I δ 12 36 a0).toInt ∧ 1 ≤ (1 : Int) ∧ (1 : Int) ≤ 4 * (x3).toInt - 3 from ⟨I, ⟨kp_w (by decide) kp_r, rfl, kr_w (by decide) (kr_r (ad := ad))⟩, by first | assumption | omega, by first | assumption | omega, by first | assumption | omega⟩)
                    · have c974 : (1 : Int) ≠ (0 : Int) := o_ne h834
                      unfold J_X12_touch_174
                      exact ok_some (show RI ad h.1 δ0 δ ∧ (kp [(12, 36)] δ δ ∧ q_V δ = q_V δ ∧ kr ad [119] δ δ) ∧ (q_I δ 12 36 a0).toInt = (q_I δ 12 36 a0).toInt ∧ 1 ≤ (1 : Int) ∧ (1 : Int) ≤ 4 * (x3).toInt - 3 from ⟨I, ⟨kp_w (by decide) kp_r, rfl, kr_w (by decide) (kr_r (ad := ad))⟩, by first | assumption | omega, by first | assumption | omega, by first | assumption | omega⟩)
set_option maxHeartbeats 4000000 in
theorem k_X12_touch {ad : List Nat} {h : hp} (L : Lay TLx ad h) {δ0 : dp} {N : Nat} (hN : 10000000 ≤ N) {a0 : Nat} {x1 : Int32} {x2 : Int32} {x3 : Int32} {x4 : Int32} {x5 : Int32} (k_a0 : q_K h.1 a0 = 12) {δ : dp} (z0 : 1 ≤ (x3).toInt) (z1 : (x3).toInt ≤ 16) (z2 : 0 ≤ (x4).toInt) (z3 : (x4).toInt ≤ (x5).toInt) (z4 : (x5).toInt ≤ (x4).toInt + 2000) (z5 : (x5).toInt ≤ (q_I δ 12 36 a0).toInt) (z6 : (q_I δ 12 36 a0).toInt ≤ 12000) (z7 : 1 < (x3).toInt → (q_I δ 12 36 a0).toInt ≤ 10000) (z8 : 2 < (x3).toInt → (q_I δ 12 36 a0).toInt ≤ 8000) (z9 : 4 < (x3).toInt → (q_I δ 12 36 a0).toInt ≤ 6000) (z10 : 8 < (x3).toInt → (q_I δ 12 36 a0).toInt ≤ 4000) (hd : (x3).toInt < 20) (I : RI ad h.1 δ0 δ) : ok (D_X12_touch N h.1 a0 x1 x2 x3 x4 x5 δ) (fun r => RI ad h.1 δ0 r.2 ∧ (kp [(12, 36)] δ r.2 ∧ q_V r.2 = q_V δ ∧ kr ad [119] δ r.2) ∧ (q_I r.2 12 36 a0).toInt = (q_I δ 12 36 a0).toInt ∧ 1 ≤ (r.1).toInt ∧ (r.1).toInt ≤ 4 * (x3).toInt - 3) := ke_X12_touch L hN 20 a0 x1 x2 x3 x4 x5 δ k_a0 z0 z1 z2 z3 z4 z5 z6 z7 z8 z9 z10 hd I
