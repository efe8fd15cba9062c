/-! how deep a row of bits is halved -/
def LGf (w : Int) : Int := if w ≤ 1 then 0 else if w ≤ 2 then 1 else if w ≤ 4 then 2 else if w ≤ 8 then 3 else 4
def HVf (w : Int) : Int := if w ≤ 1 then -1 else if w ≤ 2 then 1 else if w ≤ 4 then 5 else if w ≤ 8 then 13 else 29
def VBf (w : Int) : Int := 3 + 2 * HVf w
theorem lgb (w : Int) : 0 ≤ LGf w ∧ LGf w ≤ 4 ∧ VBf w = 3 + 2 * HVf w ∧ -1 ≤ HVf w ∧ HVf w ≤ 29 ∧ (2 ≤ w → 1 ≤ HVf w) := by
  refine ⟨?_, ?_, rfl, ?_, ?_, fun h => ?_⟩
  · unfold LGf; (repeat' split) <;> omega
  · unfold LGf; (repeat' split) <;> omega
  · unfold HVf; (repeat' split) <;> omega
  · unfold HVf; (repeat' split) <;> omega
  · unfold HVf; (repeat' split) <;> omega
theorem lg_1 {v w : Int} (h1 : 2 ≤ w) (h2 : w ≤ 16) (h3 : 2 * v ≤ w + 1) : LGf v + 1 ≤ LGf w := by
  unfold LGf; (repeat' split) <;> omega
theorem lg_2 {v w : Int} (h1 : 2 ≤ w) (h2 : w ≤ 16) (h3 : 2 * v ≤ w + 1) : VBf v ≤ HVf w := by
  unfold VBf HVf; (repeat' split) <;> omega
theorem lg_all {v w : Int} (h1 : 2 ≤ w) (h2 : w ≤ 16) (h3 : w ≤ 2 * v + 1) (h4 : 2 * v ≤ w + 1) : LGf v + 1 ≤ LGf w ∧ LGf (w - v) + 1 ≤ LGf w ∧ VBf v ≤ HVf w ∧ VBf (w - v) ≤ HVf w :=
  ⟨lg_1 h1 h2 h4, lg_1 h1 h2 (by omega), lg_2 h1 h2 h4, lg_2 h1 h2 (by omega)⟩
set_option maxHeartbeats 4000000 in
theorem k0_X12_lowerBits {ad : List Nat} {h : hp} (L : Lay TLx ad h) {δ0 : dp} {N : Nat} (hN : 10000000 ≤ N) {a0 : Nat} {x1 : Int32} (k_a0 : q_K h.1 a0 = 12) {δ : dp} (z0 : 2 ≤ (x1).toInt) (z1 : (x1).toInt ≤ 16) (I : RI ad h.1 δ0 δ) : ok (D_X12_lowerBits N h.1 a0 x1 δ) (fun r => r.2 = δ ∧ (x1).toInt ≤ 2 * (r.1).toInt + 1 ∧ 2 * (r.1).toInt ≤ (x1).toInt + 1) := by
  unfold D_X12_lowerBits
  have f1 := ti_b x1
  have f3 := ti_div (c := 2) (n := 2) rfl (by decide) x1
  have f4 := ti_b (x1 / (2 : Int32))
  first | (have q5 := te_mulr (c := 2) (n := 2) rfl (x1 / (2 : Int32)) (by omega) (by omega); obtain ⟨f6, f7, f8⟩ := q5) | (obtain ⟨q5, f6, f7, f8⟩ := ti_mulr (c := 2) (n := 2) rfl (x1 / (2 : Int32)))
  first | (have q10 := te_sub x1 (x1 / (2 : Int32) * (2 : Int32)) (by omega) (by omega); obtain ⟨f11, f12, f13⟩ := q10) | (obtain ⟨q10, f11, f12, f13⟩ := ti_sub x1 (x1 / (2 : Int32) * (2 : Int32)))
  refine ok_ite (fun h14 => ?_) (fun h14 => ?_)
  · have c15 : (x1 - x1 / (2 : Int32) * (2 : Int32)).toInt = (0 : Int) := o_eq h14
    unfold J_X12_lowerBits_30
    exact ok_some (show δ = δ ∧ (x1).toInt ≤ 2 * ((x1 / (2 : Int32))).toInt + 1 ∧ 2 * ((x1 / (2 : Int32))).toInt ≤ (x1).toInt + 1 from ⟨rfl, by first | assumption | omega, by first | assumption | omega⟩)
  · have c16 : (x1 - x1 / (2 : Int32) * (2 : Int32)).toInt ≠ (0 : Int) := o_ne h14
    have f17 := cb_12_12 I k_a0
    refine ok_ite (fun h18 => ?_) (fun h18 => ?_)
    · have c19 : (q_I δ 12 12 a0).toInt = (0 : Int) := o_eq h18
      unfold J_X12_lowerBits_30
      first | (have q21 := te_addc (c := 1) (n := 1) rfl (x1 / (2 : Int32)) (by omega) (by omega); obtain ⟨f22, f23, f24⟩ := q21) | (obtain ⟨q21, f22, f23, f24⟩ := ti_addc (c := 1) (n := 1) rfl (x1 / (2 : Int32)))
      exact ok_some (show δ = δ ∧ (x1).toInt ≤ 2 * (((x1 / (2 : Int32)) + (1 : Int32))).toInt + 1 ∧ 2 * (((x1 / (2 : Int32)) + (1 : Int32))).toInt ≤ (x1).toInt + 1 from ⟨rfl, by first | assumption | omega, by first | assumption | omega⟩)
    · have c25 : (q_I δ 12 12 a0).toInt ≠ (0 : Int) := o_ne h18
      unfold J_X12_lowerBits_30
      exact ok_some (show δ = δ ∧ (x1).toInt ≤ 2 * ((x1 / (2 : Int32))).toInt + 1 ∧ 2 * ((x1 / (2 : Int32))).toInt ≤ (x1).toInt + 1 from ⟨rfl, by first | assumption | omega, by first | assumption | omega⟩)
set_option maxHeartbeats 4000000 in
theorem k_X12_lowerBits {ad : List Nat} {h : hp} (L : Lay TLx ad h) {δ0 : dp} {N : Nat} (hN : 10000000 ≤ N) {a0 : Nat} {x1 : Int32} (k_a0 : q_K h.1 a0 = 12) {δ : dp} (z0 : 2 ≤ (x1).toInt) (z1 : (x1).toInt ≤ 16) (I : RI ad h.1 δ0 δ) : ok (D_X12_lowerBits N h.1 a0 x1 δ) (fun r => r.2 = δ ∧ 1 ≤ (r.1).toInt ∧ (r.1).toInt < (x1).toInt ∧ LGf (r.1).toInt + 1 ≤ LGf (x1).toInt ∧ LGf ((x1 - r.1)).toInt + 1 ≤ LGf (x1).toInt ∧ VBf (r.1).toInt ≤ HVf (x1).toInt ∧ VBf ((x1 - r.1)).toInt ≤ HVf (x1).toInt) := by
  refine ok_mono (k0_X12_lowerBits L hN k_a0 z0 z1 I) (fun r hr => ?_)
  obtain ⟨e, p1, p2⟩ := hr
  obtain ⟨q1, q2, q3, q4⟩ := lg_all z0 z1 p1 p2
  have t := (te_sub x1 r.1 (by omega) (by omega)).1
  rw [t]
  exact ⟨e, by omega, by omega, q1, q2, q3, q4⟩
/-! 76.kX12c (by gen_safe.py) -/
set_option maxHeartbeats 4000000 in
theorem kl_X12_lists_11 {ad : List Nat} {h : hp} (L : Lay TLx ad h) {δ0 : dp} {N : Nat} (hN : 10000000 ≤ N) {a0 : Nat} {x1 : Int32} {x2 : Int32} {x3 : Int32} (k_a0 : q_K h.1 a0 = 12) : ∀ (n : Nat) (x4v : Int32) (x5v : Int32) (δ : dp), RI ad h.1 δ0 δ → 0 ≤ (x1).toInt → (x1).toInt ≤ (x2).toInt → (x2).toInt ≤ (x1).toInt + 2000 → (x1).toInt + 1 ≤ (x5v).toInt → (x5v).toInt ≤ (x2).toInt + 1 → (x2).toInt ≤ (x4v).toInt → (x4v).toInt ≤ 12000 → (x4v).toInt ≤ (q_I δ 12 36 a0).toInt → (q_I δ 12 36 a0).toInt ≤ (x4v).toInt + (x5v).toInt - (x1).toInt - 1 → (x2).toInt + 1 - (x5v).toInt < (n : Int) → ok (L_X12_lists_11 N h.1 a0 x1 x2 x3 n x4v x5v δ) (fun r => RI ad h.1 δ0 r.2 ∧ (kp [(12, 36)] δ r.2 ∧ q_V r.2 = q_V δ ∧ kr ad [119] δ r.2) ∧ (r.1).toInt = (x4v).toInt ∧ (q_I δ 12 36 a0).toInt ≤ (q_I r.2 12 36 a0).toInt ∧ (q_I r.2 12 36 a0).toInt ≤ (x4v).toInt + 2000) := by
  intro n
  induction n with
  | zero =>
    intro x4v x5v δ I j0 j1 j2 j3 j4 j5 j6 j7 j8 hm
    have f1 := ti_b x1
    have f2 := ti_b x2
    have f3 := ti_b x5v
    have f4 := ti_b x4v
    have f5 := cb_12_36 I k_a0
    exfalso; omega
  | succ n ih =>
    intro x4v x5v δ I j0 j1 j2 j3 j4 j5 j6 j7 j8 hm
    unfold L_X12_lists_11
    have f1 := ti_b x1
    have f2 := ti_b x2
    have f3 := ti_b x5v
    have f4 := ti_b x4v
    have f5 := cb_12_36 I k_a0
    first | (have q7 := te_subc (c := 1) (n := 1) rfl x2 (by omega) (by omega); obtain ⟨f8, f9, f10⟩ := q7) | (obtain ⟨q7, f8, f9, f10⟩ := ti_subc (c := 1) (n := 1) rfl x2)
    refine ok_ite (fun h11 => ?_) (fun h11 => ?_)
    · have c12 : (x2 - (1 : Int32)).toInt ≤ x5v.toInt := o_le h11
      exact ok_some (show RI ad h.1 δ0 δ ∧ (kp [(12, 36)] δ δ ∧ q_V δ = q_V δ ∧ kr ad [119] δ δ) ∧ (x4v).toInt = (x4v).toInt ∧ (q_I δ 12 36 a0).toInt ≤ (q_I δ 12 36 a0).toInt ∧ (q_I δ 12 36 a0).toInt ≤ (x4v).toInt + 2000 from ⟨I, ⟨kp_w (by decide) kp_r, rfl, kr_w (by decide) (kr_r (ad := ad))⟩, by first | assumption | omega, by first | assumption | omega, by first | assumption | omega⟩)
    · have c13 : x5v.toInt < (x2 - (1 : Int32)).toInt := o_nle h11
      obtain ⟨b14, o15, k16, n17, w18⟩ := gO_12_35 L k_a0
      obtain rfl := gS_12_35 L k_a0 o15
      refine ok_at o15 ?_
      have t19 := ti_tn x5v
      refine ok_gd (fun hc20 => ?_) ?_
      · rcases hc20 with hc20 | hc20
        · have c21 : x5v.toInt < (0 : Int) := o_lt hc20
          omega
        · omega
      have f24 := ti_b ((q_R δ (Ad ad 119) x5v.toNatClampNeg) >>> (x3 &&& 31))
      refine ok_biv (fun vx22 e23 => ?_)
      have f25 : vx22.toInt = ((q_R δ (Ad ad 119) x5v.toNatClampNeg) >>> (x3 &&& 31)).toInt := congrArg Int32.toInt e23
      refine ok_ite (fun h26 => ?_) (fun h26 => ?_)
      · have c27 : (q_I δ 12 36 a0).toInt ≤ x4v.toInt := o_le h26
        unfold J_X12_lists_58
        refine ok_at o15 ?_
        have t28 := ti_tn (q_I δ 12 36 a0)
        refine ok_gd (fun hc29 => ?_) ?_
        · rcases hc29 with hc29 | hc29
          · have c30 : (q_I δ 12 36 a0).toInt < (0 : Int) := o_lt hc29
            omega
          · omega
        refine ok_bdv (fun d31 e32 => ?_)
        have i33 : RI ad h.1 δ0 d31 := by rw [e32]; exact RI.sR L I w18
        have u34 := kp_N kp_r (show q_I d31 = q_I δ by rw [e32]; rfl)
        have v35 : q_V d31 = q_V δ := ((show q_V d31 = q_V δ by rw [e32]; rfl)).trans rfl
        have v36 := kr_s L (by decide) (kr_r (ad := ad)) e32
        have f40 := cb_12_36 i33 k_a0
        have f41 : (q_I d31 12 36 a0).toInt = (q_I δ 12 36 a0).toInt := congrArg Int32.toInt (by rw [e32]; rfl)
        first | (have q43 := te_addc (c := 1) (n := 1) rfl (q_I d31 12 36 a0) (by omega) (by omega); obtain ⟨f44, f45, f46⟩ := q43) | (obtain ⟨q43, f44, f45, f46⟩ := ti_addc (c := 1) (n := 1) rfl (q_I d31 12 36 a0))
        refine ok_bdv (fun d37 e38 => ?_)
        have i39 : RI ad h.1 δ0 d37 := by rw [e38]; exact cs_12_36 L i33 k_a0 (show 0 ≤ ((q_I d31 12 36 a0) + (1 : Int32)).toInt by omega) (show ((q_I d31 12 36 a0) + (1 : Int32)).toInt ≤ 14000 by omega)
        have u47 := kp_I u34 e38
        have v48 : q_V d37 = q_V δ := ((show q_V d37 = q_V d31 by rw [e38]; rfl)).trans v35
        have v49 := kr_N v36 (show q_R d37 = q_R d31 by rw [e38]; rfl)
        unfold J_X12_lists_79
        refine ok_biv (fun vx50 e51 => ?_)
        first | (have q52 := te_addc (c := 1) (n := 1) rfl x5v (by omega) (by omega); rw [← e51] at q52; obtain ⟨f53, f54, f55⟩ := q52) | (obtain ⟨q52, f53, f54, f55⟩ : ∃ q : Int, vx50.toInt = x5v.toInt + (1 : Int) + 4294967296 * q ∧ -2147483648 ≤ vx50.toInt ∧ vx50.toInt ≤ 2147483647 := by rw [e51]; exact ti_addc (c := 1) (n := 1) rfl x5v)
        have f56 := cb_12_36 i39 k_a0
        have f57 : (q_I d37 12 36 a0).toInt = ((q_I d31 12 36 a0) + (1 : Int32)).toInt := congrArg Int32.toInt (show q_I d37 12 36 a0 = ((q_I d31 12 36 a0) + (1 : Int32)) by rw [e38]; exact rI_s)
        refine ok_mono (ih x4v vx50 d37 i39 (show 0 ≤ (x1).toInt by first | assumption | omega) (show (x1).toInt ≤ (x2).toInt by first | assumption | omega) (show (x2).toInt ≤ (x1).toInt + 2000 by first | assumption | omega) (show (x1).toInt + 1 ≤ (vx50).toInt by first | assumption | omega) (show (vx50).toInt ≤ (x2).toInt + 1 by first | assumption | omega) (show (x2).toInt ≤ (x4v).toInt by first | assumption | omega) (show (x4v).toInt ≤ 12000 by first | assumption | omega) (show (x4v).toInt ≤ (q_I d37 12 36 a0).toInt by first | assumption | omega) (show (q_I d37 12 36 a0).toInt ≤ (x4v).toInt + (vx50).toInt - (x1).toInt - 1 by first | assumption | omega) (show (x2).toInt + 1 - (vx50).toInt < _ by omega)) (fun r58 hr59 => ?_)
        obtain ⟨i60, ⟨u64, u65, u66⟩, p61, p62, p63⟩ := hr59
        have u67 := kp_t u47 u64
        have v68 : q_V r58.2 = q_V δ := (u65).trans v48
        have v69 := kr_t v49 u66
        have f70 := ti_b r58.1
        have f71 := cb_12_36 i60 k_a0
        have f72 := ti_b r58.1
        exact ⟨by assumption, ⟨kp_w (by decide) u67, v68, kr_w (by decide) v69⟩, by first | assumption | omega, by first | assumption | omega, by first | assumption | omega⟩
      · have c73 : x4v.toInt < (q_I δ 12 36 a0).toInt := o_nle h26
        refine ok_at o15 ?_
        first | (have q75 := te_subc (c := 1) (n := 1) rfl (q_I δ 12 36 a0) (by omega) (by omega); obtain ⟨f76, f77, f78⟩ := q75) | (obtain ⟨q75, f76, f77, f78⟩ := ti_subc (c := 1) (n := 1) rfl (q_I δ 12 36 a0))
        have t79 := ti_tn ((q_I δ 12 36 a0) - (1 : Int32))
        refine ok_gd (fun hc80 => ?_) ?_
        · rcases hc80 with hc80 | hc80
          · have c81 : ((q_I δ 12 36 a0) - (1 : Int32)).toInt < (0 : Int) := o_lt hc80
            omega
          · omega
        have f82 := ti_b (q_R δ (Ad ad 119) ((q_I δ 12 36 a0) - (1 : Int32)).toNatClampNeg)
        refine ok_ite (fun h83 => ?_) (fun h83 => ?_)
        · have c84 : (q_R δ (Ad ad 119) ((q_I δ 12 36 a0) - (1 : Int32)).toNatClampNeg).toInt = vx22.toInt := o_eq h83
          unfold J_X12_lists_79
          refine ok_biv (fun vx85 e86 => ?_)
          first | (have q87 := te_addc (c := 1) (n := 1) rfl x5v (by omega) (by omega); rw [← e86] at q87; obtain ⟨f88, f89, f90⟩ := q87) | (obtain ⟨q87, f88, f89, f90⟩ : ∃ q : Int, vx85.toInt = x5v.toInt + (1 : Int) + 4294967296 * q ∧ -2147483648 ≤ vx85.toInt ∧ vx85.toInt ≤ 2147483647 := by rw [e86]; exact ti_addc (c := 1) (n := 1) rfl x5v)
          refine ok_mono (ih x4v vx85 δ I (show 0 ≤ (x1).toInt by first | assumption | omega) (show (x1).toInt ≤ (x2).toInt by first | assumption | omega) (show (x2).toInt ≤ (x1).toInt + 2000 by first | assumption | omega) (show (x1).toInt + 1 ≤ (vx85).toInt by first | assumption | omega) (show (vx85).toInt ≤ (x2).toInt + 1 by first | assumption | omega) (show (x2).toInt ≤ (x4v).toInt by first | assumption | omega) (show (x4v).toInt ≤ 12000 by first | assumption | omega) (show (x4v).toInt ≤ (q_I δ 12 36 a0).toInt by first | assumption | omega) (show (q_I δ 12 36 a0).toInt ≤ (x4v).toInt + (vx85).toInt - (x1).toInt - 1 by first | assumption | omega) (show (x2).toInt + 1 - (vx85).toInt < _ by omega)) (fun r91 hr92 => ?_)
          obtain ⟨i93, ⟨u97, u98, u99⟩, p94, p95, p96⟩ := hr92
          have u100 := kp_t kp_r u97
          have v101 : q_V r91.2 = q_V δ := (u98).trans rfl
          have v102 := kr_t (kr_r (ad := ad)) u99
          have f103 := ti_b r91.1
          have f104 := cb_12_36 i93 k_a0
          have f105 := ti_b r91.1
          exact ⟨by assumption, ⟨kp_w (by decide) u100, v101, kr_w (by decide) v102⟩, by first | assumption | omega, by first | assumption | omega, by first | assumption | omega⟩
        · have c106 : (q_R δ (Ad ad 119) ((q_I δ 12 36 a0) - (1 : Int32)).toNatClampNeg).toInt ≠ vx22.toInt := o_ne h83
          unfold J_X12_lists_58
          refine ok_at o15 ?_
          have t107 := ti_tn (q_I δ 12 36 a0)
          refine ok_gd (fun hc108 => ?_) ?_
          · rcases hc108 with hc108 | hc108
            · have c109 : (q_I δ 12 36 a0).toInt < (0 : Int) := o_lt hc108
              omega
            · omega
          refine ok_bdv (fun d110 e111 => ?_)
          have i112 : RI ad h.1 δ0 d110 := by rw [e111]; exact RI.sR L I w18
          have u113 := kp_N kp_r (show q_I d110 = q_I δ by rw [e111]; rfl)
          have v114 : q_V d110 = q_V δ := ((show q_V d110 = q_V δ by rw [e111]; rfl)).trans rfl
          have v115 := kr_s L (by decide) (kr_r (ad := ad)) e111
          have f119 := cb_12_36 i112 k_a0
          have f120 : (q_I d110 12 36 a0).toInt = (q_I δ 12 36 a0).toInt := congrArg Int32.toInt (by rw [e111]; rfl)
          first | (have q122 := te_addc (c := 1) (n := 1) rfl (q_I d110 12 36 a0) (by omega) (by omega); obtain ⟨f123, f124, f125⟩ := q122) | (obtain ⟨q122, f123, f124, f125⟩ := ti_addc (c := 1) (n := 1) rfl (q_I d110 12 36 a0))
          refine ok_bdv (fun d116 e117 => ?_)
          have i118 : RI ad h.1 δ0 d116 := by rw [e117]; exact cs_12_36 L i112 k_a0 (show 0 ≤ ((q_I d110 12 36 a0) + (1 : Int32)).toInt by omega) (show ((q_I d110 12 36 a0) + (1 : Int32)).toInt ≤ 14000 by omega)
          have u126 := kp_I u113 e117
          have v127 : q_V d116 = q_V δ := ((show q_V d116 = q_V d110 by rw [e117]; rfl)).trans v114
          have v128 := kr_N v115 (show q_R d116 = q_R d110 by rw [e117]; rfl)
          unfold J_X12_lists_79
          refine ok_biv (fun vx129 e130 => ?_)
          first | (have q131 := te_addc (c := 1) (n := 1) rfl x5v (by omega) (by omega); rw [← e130] at q131; obtain ⟨f132, f133, f134⟩ := q131) | (obtain ⟨q131, f132, f133, f134⟩ : ∃ q : Int, vx129.toInt = x5v.toInt + (1 : Int) + 4294967296 * q ∧ -2147483648 ≤ vx129.toInt ∧ vx129.toInt ≤ 2147483647 := by rw [e130]; exact ti_addc (c := 1) (n := 1) rfl x5v)
          have f135 := cb_12_36 i118 k_a0
          have f136 : (q_I d116 12 36 a0).toInt = ((q_I d110 12 36 a0) + (1 : Int32)).toInt := congrArg Int32.toInt (show q_I d116 12 36 a0 = ((q_I d110 12 36 a0) + (1 : Int32)) by rw [e117]; exact rI_s)
          refine ok_mono (ih x4v vx129 d116 i118 (show 0 ≤ (x1).toInt by first | assumption | omega) (show (x1).toInt ≤ (x2).toInt by first | assumption | omega) (show (x2).toInt ≤ (x1).toInt + 2000 by first | assumption | omega) (show (x1).toInt + 1 ≤ (vx129).toInt by first | assumption | omega) (show (vx129).toInt ≤ (x2).toInt + 1 by first | assumption | omega) (show (x2).toInt ≤ (x4v).toInt by first | assumption | omega) (show (x4v).toInt ≤ 12000 by first | assumption | omega) (show (x4v).toInt ≤ (q_I d116 12 36 a0).toInt by first | assumption | omega) (show (q_I d116 12 36 a0).toInt ≤ (x4v).toInt + (vx129).toInt - (x1).toInt - 1 by first | assumption | omega) (show (x2).toInt + 1 - (vx129).toInt < _ by omega)) (fun r137 hr138 => ?_)
          obtain ⟨i139, ⟨u143, u144, u145⟩, p140, p141, p142⟩ := hr138
          have u146 := kp_t u126 u143
          have v147 : q_V r137.2 = q_V δ := (u144).trans v127
          have v148 := kr_t v128 u145
          have f149 := ti_b r137.1
          have f150 := cb_12_36 i139 k_a0
          have f151 := ti_b r137.1
          exact ⟨by assumption, ⟨kp_w (by decide) u146, v147, kr_w (by decide) v148⟩, by first | assumption | omega, by first | assumption | omega, by first | assumption | omega⟩
set_option maxHeartbeats 4000000 in
theorem k_X12_lists {ad : List Nat} {h : hp} (L : Lay TLx ad h) {δ0 : dp} {N : Nat} (hN : 10000000 ≤ N) {a0 : Nat} {x1 : Int32} {x2 : Int32} {x3 : Int32} (k_a0 : q_K h.1 a0 = 12) {δ : dp} (z0 : 0 ≤ (x1).toInt) (z1 : (x1).toInt ≤ (x2).toInt) (z2 : (x2).toInt ≤ (x1).toInt + 2000) (z3 : (x2).toInt ≤ (q_I δ 12 36 a0).toInt) (z4 : (q_I δ 12 36 a0).toInt ≤ 12000) (I : RI ad h.1 δ0 δ) : ok (D_X12_lists N h.1 a0 x1 x2 x3 δ) (fun r => RI ad h.1 δ0 r.2 ∧ (kp [(12, 36)] δ r.2 ∧ q_V r.2 = q_V δ ∧ kr ad [119] δ r.2) ∧ (r.1).toInt = (q_I δ 12 36 a0).toInt ∧ (q_I δ 12 36 a0).toInt ≤ (q_I r.2 12 36 a0).toInt ∧ (q_I r.2 12 36 a0).toInt ≤ (q_I δ 12 36 a0).toInt + 2000) := by
  unfold D_X12_lists
  have f1 := ti_b x1
  have f2 := ti_b x2
  have f3 := cb_12_36 I k_a0
  refine ok_biv (fun vx4 e5 => ?_)
  have f6 : vx4.toInt = (q_I δ 12 36 a0).toInt := congrArg Int32.toInt e5
  refine ok_biv (fun vx7 e8 => ?_)
  first | (have q9 := te_addc (c := 1) (n := 1) rfl x1 (by omega) (by omega); rw [← e8] at q9; obtain ⟨f10, f11, f12⟩ := q9) | (obtain ⟨q9, f10, f11, f12⟩ : ∃ q : Int, vx7.toInt = x1.toInt + (1 : Int) + 4294967296 * q ∧ -2147483648 ≤ vx7.toInt ∧ vx7.toInt ≤ 2147483647 := by rw [e8]; exact ti_addc (c := 1) (n := 1) rfl x1)
  refine ok_mono (kl_X12_lists_11 L hN   k_a0 _ vx4 vx7 δ I (show 0 ≤ (x1).toInt by first | assumption | omega) (show (x1).toInt ≤ (x2).toInt by first | assumption | omega) (show (x2).toInt ≤ (x1).toInt + 2000 by first | assumption | omega) (show (x1).toInt + 1 ≤ (vx7).toInt by first | assumption | omega) (show (vx7).toInt ≤ (x2).toInt + 1 by first | assumption | omega) (show (x2).toInt ≤ (vx4).toInt by first | assumption | omega) (show (vx4).toInt ≤ 12000 by first | assumption | omega) (show (vx4).toInt ≤ (q_I δ 12 36 a0).toInt by first | assumption | omega) (show (q_I δ 12 36 a0).toInt ≤ (vx4).toInt + (vx7).toInt - (x1).toInt - 1 by first | assumption | omega) (show (x2).toInt + 1 - (vx7).toInt < _ by omega)) (fun r13 hr14 => ?_)
  obtain ⟨i15, ⟨u19, u20, u21⟩, p16, p17, p18⟩ := hr14
  have u22 := kp_t kp_r u19
  have v23 : q_V r13.2 = q_V δ := (u20).trans rfl
  have v24 := kr_t (kr_r (ad := ad)) u21
  have f25 := ti_b r13.1
  have f26 := cb_12_36 i15 k_a0
  have f27 := ti_b r13.1
  exact ⟨by assumption, ⟨kp_w (by decide) u22, v23, kr_w (by decide) v24⟩, by first | assumption | omega, by first | assumption | omega, by first | assumption | omega⟩
set_option maxHeartbeats 4000000 in
theorem kl_X12_rooms_11 {ad : List Nat} {h : hp} (L : Lay TLx ad h) {δ0 : dp} {N : Nat} (hN : 10000000 ≤ N) {a0 : Nat} {x1 : Int32} {x2 : Int32} {x3 : Int32} {x4 : Int32} (k_a0 : q_K h.1 a0 = 12) : ∀ (n : Nat) (x5v : Int32) (x6v : Int32) (δ : dp), RI ad h.1 δ0 δ → 0 ≤ (x1).toInt → (x1).toInt ≤ (x2).toInt → (x2).toInt ≤ (x1).toInt + 2000 → (x1).toInt + 1 ≤ (x6v).toInt → (x6v).toInt ≤ (x2).toInt + 1 → (x2).toInt ≤ (x5v).toInt → (x5v).toInt ≤ 12000 → (x5v).toInt ≤ (q_I δ 12 36 a0).toInt → (q_I δ 12 36 a0).toInt ≤ (x5v).toInt + (x6v).toInt - (x1).toInt - 1 → (x2).toInt + 1 - (x6v).toInt < (n : Int) → ok (L_X12_rooms_11 N h.1 a0 x1 x2 x3 x4 n x5v x6v δ) (fun r => RI ad h.1 δ0 r.2 ∧ (kp [(12, 36)] δ r.2 ∧ q_V r.2 = q_V δ ∧ kr ad [119] δ r.2) ∧ (r.1).toInt = (x5v).toInt ∧ (q_I δ 12 36 a0).toInt ≤ (q_I r.2 12 36 a0).toInt ∧ (q_I r.2 12 36 a0).toInt ≤ (x5v).toInt + 2000) := by
  intro n
  induction n with
  | zero =>
    intro x5v x6v δ I j0 j1 j2 j3 j4 j5 j6 j7 j8 hm
    have f1 := ti_b x1
    have f2 := ti_b x2
    have f3 := ti_b x6v
    have f4 := ti_b x5v
    have f5 := cb_12_36 I k_a0
    exfalso; omega
  | succ n ih =>
    intro x5v x6v δ I j0 j1 j2 j3 j4 j5 j6 j7 j8 hm
    unfold L_X12_rooms_11
    have f1 := ti_b x1
    have f2 := ti_b x2
    have f3 := ti_b x6v
    have f4 := ti_b x5v
    have f5 := cb_12_36 I k_a0
    first | (have q7 := te_subc (c := 1) (n := 1) rfl x2 (by omega) (by omega); obtain ⟨f8, f9, f10⟩ := q7) | (obtain ⟨q7, f8, f9, f10⟩ := ti_subc (c := 1) (n := 1) rfl x2)
    refine ok_ite (fun h11 => ?_) (fun h11 => ?_)
    · have c12 : (x2 - (1 : Int32)).toInt ≤ x6v.toInt := o_le h11
      exact ok_some (show RI ad h.1 δ0 δ ∧ (kp [(12, 36)] δ δ ∧ q_V δ = q_V δ ∧ kr ad [119] δ δ) ∧ (x5v).toInt = (x5v).toInt ∧ (q_I δ 12 36 a0).toInt ≤ (q_I δ 12 36 a0).toInt ∧ (q_I δ 12 36 a0).toInt ≤ (x5v).toInt + 2000 from ⟨I, ⟨kp_w (by decide) kp_r, rfl, kr_w (by decide) (kr_r (ad := ad))⟩, by first | assumption | omega, by first | assumption | omega, by first | assumption | omega⟩)
    · have c13 : x6v.toInt < (x2 - (1 : Int32)).toInt := o_nle h11
      obtain ⟨b14, o15, k16, n17, w18⟩ := gO_12_35 L k_a0
      obtain rfl := gS_12_35 L k_a0 o15
      refine ok_at o15 ?_
      have t19 := ti_tn x6v
      refine ok_gd (fun hc20 => ?_) ?_
      · rcases hc20 with hc20 | hc20
        · have c21 : x6v.toInt < (0 : Int) := o_lt hc20
          omega
        · omega
      have f22 := ti_b ((q_R δ (Ad ad 119) x6v.toNatClampNeg) >>> (x3 &&& 31))
      have f23 := ti_b x4
      refine ok_ite (fun h24 => ?_) (fun h24 => ?_)
      · have c25 : ((q_R δ (Ad ad 119) x6v.toNatClampNeg) >>> (x3 &&& 31)).toInt = x4.toInt := o_eq h24
        refine ok_at o15 ?_
        refine ok_at o15 ?_
        refine ok_gd (fun hc26 => ?_) ?_
        · rcases hc26 with hc26 | hc26
          · have c27 : x6v.toInt < (0 : Int) := o_lt hc26
            omega
          · omega
        have t28 := ti_tn (q_I δ 12 36 a0)
        refine ok_gd (fun hc29 => ?_) ?_
        · rcases hc29 with hc29 | hc29
          · have c30 : (q_I δ 12 36 a0).toInt < (0 : Int) := o_lt hc29
            omega
          · omega
        refine ok_bdv (fun d31 e32 => ?_)
        have i33 : RI ad h.1 δ0 d31 := by rw [e32]; exact RI.sR L I w18
        have u34 := kp_N kp_r (show q_I d31 = q_I δ by rw [e32]; rfl)
        have v35 : q_V d31 = q_V δ := ((show q_V d31 = q_V δ by rw [e32]; rfl)).trans rfl
        have v36 := kr_s L (by decide) (kr_r (ad := ad)) e32
        have f40 := cb_12_36 i33 k_a0
        have f41 : (q_I d31 12 36 a0).toInt = (q_I δ 12 36 a0).toInt := congrArg Int32.toInt (by rw [e32]; rfl)
        first | (have q43 := te_addc (c := 1) (n := 1) rfl (q_I d31 12 36 a0) (by omega) (by omega); obtain ⟨f44, f45, f46⟩ := q43) | (obtain ⟨q43, f44, f45, f46⟩ := ti_addc (c := 1) (n := 1) rfl (q_I d31 12 36 a0))
        refine ok_bdv (fun d37 e38 => ?_)
        have i39 : RI ad h.1 δ0 d37 := by rw [e38]; exact cs_12_36 L i33 k_a0 (show 0 ≤ ((q_I d31 12 36 a0) + (1 : Int32)).toInt by omega) (show ((q_I d31 12 36 a0) + (1 : Int32)).toInt ≤ 14000 by omega)
        have u47 := kp_I u34 e38
        have v48 : q_V d37 = q_V δ := ((show q_V d37 = q_V d31 by rw [e38]; rfl)).trans v35
        have v49 := kr_N v36 (show q_R d37 = q_R d31 by rw [e38]; rfl)
        unfold J_X12_rooms_68
        refine ok_biv (fun vx50 e51 => ?_)
        first | (have q52 := te_addc (c := 1) (n := 1) rfl x6v (by omega) (by omega); rw [← e51] at q52; obtain ⟨f53, f54, f55⟩ := q52) | (obtain ⟨q52, f53, f54, f55⟩ : ∃ q : Int, vx50.toInt = x6v.toInt + (1 : Int) + 4294967296 * q ∧ -2147483648 ≤ vx50.toInt ∧ vx50.toInt ≤ 2147483647 := by rw [e51]; exact ti_addc (c := 1) (n := 1) rfl x6v)
        have f56 := cb_12_36 i39 k_a0
        have f57 : (q_I d37 12 36 a0).toInt = ((q_I d31 12 36 a0) + (1 : Int32)).toInt := congrArg Int32.toInt (show q_I d37 12 36 a0 = ((q_I d31 12 36 a0) + (1 : Int32)) by rw [e38]; exact rI_s)
        refine ok_mono (ih x5v vx50 d37 i39 (show 0 ≤ (x1).toInt by first | assumption | omega) (show (x1).toInt ≤ (x2).toInt by first | assumption | omega) (show (x2).toInt ≤ (x1).toInt + 2000 by first | assumption | omega) (show (x1).toInt + 1 ≤ (vx50).toInt by first | assumption | omega) (show (vx50).toInt ≤ (x2).toInt + 1 by first | assumption | omega) (show (x2).toInt ≤ (x5v).toInt by first | assumption | omega) (show (x5v).toInt ≤ 12000 by first | assumption | omega) (show (x5v).toInt ≤ (q_I d37 12 36 a0).toInt by first | assumption | omega) (show (q_I d37 12 36 a0).toInt ≤ (x5v).toInt + (vx50).toInt - (x1).toInt - 1 by first | assumption | omega) (show (x2).toInt + 1 - (vx50).toInt < _ by omega)) (fun r58 hr59 => ?_)
        obtain ⟨i60, ⟨u64, u65, u66⟩, p61, p62, p63⟩ := hr59
        have u67 := kp_t u47 u64
        have v68 : q_V r58.2 = q_V δ := (u65).trans v48
        have v69 := kr_t v49 u66
        have f70 := ti_b r58.1
        have f71 := cb_12_36 i60 k_a0
        have f72 := ti_b r58.1
        exact ⟨by assumption, ⟨kp_w (by decide) u67, v68, kr_w (by decide) v69⟩, by first | assumption | omega, by first | assumption | omega, by first | assumption | omega⟩
      · have c73 : ((q_R δ (Ad ad 119) x6v.toNatClampNeg) >>> (x3 &&& 31)).toInt ≠ x4.toInt := o_ne h24
        unfold J_X12_rooms_68
        refine ok_biv (fun vx74 e75 => ?_)
        first | (have q76 := te_addc (c := 1) (n := 1) rfl x6v (by omega) (by omega); rw [← e75] at q76; obtain ⟨f77, f78, f79⟩ := q76) | (obtain ⟨q76, f77, f78, f79⟩ : ∃ q : Int, vx74.toInt = x6v.toInt + (1 : Int) + 4294967296 * q ∧ -2147483648 ≤ vx74.toInt ∧ vx74.toInt ≤ 2147483647 := by rw [e75]; exact ti_addc (c := 1) (n := 1) rfl x6v)
        refine ok_mono (ih x5v vx74 δ I (show 0 ≤ (x1).toInt by first | assumption | omega) (show (x1).toInt ≤ (x2).toInt by first | assumption | omega) (show (x2).toInt ≤ (x1).toInt + 2000 by first | assumption | omega) (show (x1).toInt + 1 ≤ (vx74).toInt by first | assumption | omega) (show (vx74).toInt ≤ (x2).toInt + 1 by first | assumption | omega) (show (x2).toInt ≤ (x5v).toInt by first | assumption | omega) (show (x5v).toInt ≤ 12000 by first | assumption | omega) (show (x5v).toInt ≤ (q_I δ 12 36 a0).toInt by first | assumption | omega) (show (q_I δ 12 36 a0).toInt ≤ (x5v).toInt + (vx74).toInt - (x1).toInt - 1 by first | assumption | omega) (show (x2).toInt + 1 - (vx74).toInt < _ by omega)) (fun r80 hr81 => ?_)
        obtain ⟨i82, ⟨u86, u87, u88⟩, p83, p84, p85⟩ := hr81
        have u89 := kp_t kp_r u86
        have v90 : q_V r80.2 = q_V δ := (u87).trans rfl
        have v91 := kr_t (kr_r (ad := ad)) u88
        have f92 := ti_b r80.1
        have f93 := cb_12_36 i82 k_a0
        have f94 := ti_b r80.1
        exact ⟨by assumption, ⟨kp_w (by decide) u89, v90, kr_w (by decide) v91⟩, by first | assumption | omega, by first | assumption | omega, by first | assumption | omega⟩
set_option maxHeartbeats 4000000 in
theorem k_X12_rooms {ad : List Nat} {h : hp} (L : Lay TLx ad h) {δ0 : dp} {N : Nat} (hN : 10000000 ≤ N) {a0 : Nat} {x1 : Int32} {x2 : Int32} {x3 : Int32} {x4 : Int32} (k_a0 : q_K h.1 a0 = 12) {δ : dp} (z0 : 0 ≤ (x1).toInt) (z1 : (x1).toInt ≤ (x2).toInt) (z2 : (x2).toInt ≤ (x1).toInt + 2000) (z3 : (x2).toInt ≤ (q_I δ 12 36 a0).toInt) (z4 : (q_I δ 12 36 a0).toInt ≤ 12000) (I : RI ad h.1 δ0 δ) : ok (D_X12_rooms N h.1 a0 x1 x2 x3 x4 δ) (fun r => RI ad h.1 δ0 r.2 ∧ (kp [(12, 36)] δ r.2 ∧ q_V r.2 = q_V δ ∧ kr ad [119] δ r.2) ∧ (r.1).toInt = (q_I δ 12 36 a0).toInt ∧ (q_I δ 12 36 a0).toInt ≤ (q_I r.2 12 36 a0).toInt ∧ (q_I r.2 12 36 a0).toInt ≤ (q_I δ 12 36 a0).toInt + 2000) := by
  unfold D_X12_rooms
  have f1 := ti_b x1
  have f2 := ti_b x2
  have f3 := cb_12_36 I k_a0
  refine ok_biv (fun vx4 e5 => ?_)
  have f6 : vx4.toInt = (q_I δ 12 36 a0).toInt := congrArg Int32.toInt e5
  refine ok_biv (fun vx7 e8 => ?_)
  first | (have q9 := te_addc (c := 1) (n := 1) rfl x1 (by omega) (by omega); rw [← e8] at q9; obtain ⟨f10, f11, f12⟩ := q9) | (obtain ⟨q9, f10, f11, f12⟩ : ∃ q : Int, vx7.toInt = x1.toInt + (1 : Int) + 4294967296 * q ∧ -2147483648 ≤ vx7.toInt ∧ vx7.toInt ≤ 2147483647 := by rw [e8]; exact ti_addc (c := 1) (n := 1) rfl x1)
  refine ok_mono (kl_X12_rooms_11 L hN   k_a0 _ vx4 vx7 δ I (show 0 ≤ (x1).toInt by first | assumption | omega) (show (x1).toInt ≤ (x2).toInt by first | assumption | omega) (show (x2).toInt ≤ (x1).toInt + 2000 by first | assumption | omega) (show (x1).toInt + 1 ≤ (vx7).toInt by first | assumption | omega) (show (vx7).toInt ≤ (x2).toInt + 1 by first | assumption | omega) (show (x2).toInt ≤ (vx4).toInt by first | assumption | omega) (show (vx4).toInt ≤ 12000 by first | assumption | omega) (show (vx4).toInt ≤ (q_I δ 12 36 a0).toInt by first | assumption | omega) (show (q_I δ 12 36 a0).toInt ≤ (vx4).toInt + (vx7).toInt - (x1).toInt - 1 by first | assumption | omega) (show (x2).toInt + 1 - (vx7).toInt < _ by omega)) (fun r13 hr14 => ?_)
  obtain ⟨i15, ⟨u19, u20, u21⟩, p16, p17, p18⟩ := hr14
  have u22 := kp_t kp_r u19
  have v23 : q_V r13.2 = q_V δ := (u20).trans rfl
  have v24 := kr_t (kr_r (ad := ad)) u21
  have f25 := ti_b r13.1
  have f26 := cb_12_36 i15 k_a0
  have f27 := ti_b r13.1
  exact ⟨by assumption, ⟨kp_w (by decide) u22, v23, kr_w (by decide) v24⟩, by first | assumption | omega, by first | assumption | omega, by first | assumption | omega⟩
set_option maxHeartbeats 4000000 in
theorem kl_X12_roomMany_15 {ad : List Nat} {h : hp} (L : Lay TLx ad h) {δ0 : dp} {N : Nat} (hN : 10000000 ≤ N) {a0 : Nat} {x1 : Int32} {x2 : Int32} {x3 : Int32} {x4 : Int32} (k_a0 : q_K h.1 a0 = 12) : ∀ (n : Nat) (x5v : Int32) (x6v : Int32) (x7v : Int32) (δ : dp), RI ad h.1 δ0 δ → 0 ≤ (x3).toInt → (x3).toInt ≤ (x4).toInt → (x4).toInt ≤ 14000 → 1 ≤ (x7v).toInt → (x7v).toInt ≤ (x4).toInt + 1 → (x4).toInt + 1 - (x7v).toInt < (n : Int) → ok (L_X12_roomMany_15 N h.1 a0 x1 x2 x3 x4 n x5v x6v x7v δ) (fun r => r.2 = δ) := by
  intro n
  induction n with
  | zero =>
    intro x5v x6v x7v δ I j0 j1 j2 j3 j4 hm
    have f1 := ti_b x3
    have f2 := ti_b x4
    have f3 := ti_b x7v
    exfalso; omega
  | succ n ih =>
    intro x5v x6v x7v δ I j0 j1 j2 j3 j4 hm
    unfold L_X12_roomMany_15
    have f1 := ti_b x3
    have f2 := ti_b x4
    have f3 := ti_b x7v
    first | (have q5 := te_subc (c := 1) (n := 1) rfl x4 (by omega) (by omega); obtain ⟨f6, f7, f8⟩ := q5) | (obtain ⟨q5, f6, f7, f8⟩ := ti_subc (c := 1) (n := 1) rfl x4)
    refine ok_ite (fun h9 => ?_) (fun h9 => ?_)
    · have c10 : (x4 - (1 : Int32)).toInt ≤ x7v.toInt := o_le h9
      exact ok_some (show δ = δ from rfl)
    · have c11 : x7v.toInt < (x4 - (1 : Int32)).toInt := o_nle h9
      obtain ⟨b12, o13, k14, n15, w16⟩ := gO_12_35 L k_a0
      obtain rfl := gS_12_35 L k_a0 o13
      refine ok_at o13 ?_
      have t17 := ti_tn x7v
      refine ok_gd (fun hc18 => ?_) ?_
      · rcases hc18 with hc18 | hc18
        · have c19 : x7v.toInt < (0 : Int) := o_lt hc18
          omega
        · omega
      have f20 := ti_b ((q_R δ (Ad ad 119) x7v.toNatClampNeg) >>> (x5v &&& 31))
      have f21 := ti_b (x1 >>> (x5v &&& 31))
      refine ok_ite (fun h22 => ?_) (fun h22 => ?_)
      · have c23 : ((q_R δ (Ad ad 119) x7v.toNatClampNeg) >>> (x5v &&& 31)).toInt = (x1 >>> (x5v &&& 31)).toInt := o_eq h22
        unfold J_X12_roomMany_48
        have f26 := ti_b x6v
        refine ok_biv (fun vx24 e25 => ?_)
        first | (have q27 := te_addc (c := 1) (n := 1) rfl x6v (by omega) (by omega); rw [← e25] at q27; obtain ⟨f28, f29, f30⟩ := q27) | (obtain ⟨q27, f28, f29, f30⟩ : ∃ q : Int, vx24.toInt = x6v.toInt + (1 : Int) + 4294967296 * q ∧ -2147483648 ≤ vx24.toInt ∧ vx24.toInt ≤ 2147483647 := by rw [e25]; exact ti_addc (c := 1) (n := 1) rfl x6v)
        refine ok_biv (fun vx31 e32 => ?_)
        first | (have q33 := te_addc (c := 1) (n := 1) rfl x7v (by omega) (by omega); rw [← e32] at q33; obtain ⟨f34, f35, f36⟩ := q33) | (obtain ⟨q33, f34, f35, f36⟩ : ∃ q : Int, vx31.toInt = x7v.toInt + (1 : Int) + 4294967296 * q ∧ -2147483648 ≤ vx31.toInt ∧ vx31.toInt ≤ 2147483647 := by rw [e32]; exact ti_addc (c := 1) (n := 1) rfl x7v)
        refine ok_mono (ih x5v vx24 vx31 δ I (show 0 ≤ (x3).toInt by first | assumption | omega) (show (x3).toInt ≤ (x4).toInt by first | assumption | omega) (show (x4).toInt ≤ 14000 by first | assumption | omega) (show 1 ≤ (vx31).toInt by first | assumption | omega) (show (vx31).toInt ≤ (x4).toInt + 1 by first | assumption | omega) (show (x4).toInt + 1 - (vx31).toInt < _ by omega)) (fun r37 hr38 => ?_)
        have i39 := hr38
        have f40 := ti_b r37.1
        exact by assumption
      · have c41 : ((q_R δ (Ad ad 119) x7v.toNatClampNeg) >>> (x5v &&& 31)).toInt ≠ (x1 >>> (x5v &&& 31)).toInt := o_ne h22
        unfold J_X12_roomMany_48
        have f44 := ti_b x6v
        refine ok_biv (fun vx42 e43 => ?_)
        first | (have q45 := te_addc (c := 0) (n := 0) rfl x6v (by omega) (by omega); rw [← e43] at q45; obtain ⟨f46, f47, f48⟩ := q45) | (obtain ⟨q45, f46, f47, f48⟩ : ∃ q : Int, vx42.toInt = x6v.toInt + (0 : Int) + 4294967296 * q ∧ -2147483648 ≤ vx42.toInt ∧ vx42.toInt ≤ 2147483647 := by rw [e43]; exact ti_addc (c := 0) (n := 0) rfl x6v)
        refine ok_biv (fun vx49 e50 => ?_)
        first | (have q51 := te_addc (c := 1) (n := 1) rfl x7v (by omega) (by omega); rw [← e50] at q51; obtain ⟨f52, f53, f54⟩ := q51) | (obtain ⟨q51, f52, f53, f54⟩ : ∃ q : Int, vx49.toInt = x7v.toInt + (1 : Int) + 4294967296 * q ∧ -2147483648 ≤ vx49.toInt ∧ vx49.toInt ≤ 2147483647 := by rw [e50]; exact ti_addc (c := 1) (n := 1) rfl x7v)
        refine ok_mono (ih x5v vx42 vx49 δ I (show 0 ≤ (x3).toInt by first | assumption | omega) (show (x3).toInt ≤ (x4).toInt by first | assumption | omega) (show (x4).toInt ≤ 14000 by first | assumption | omega) (show 1 ≤ (vx49).toInt by first | assumption | omega) (show (vx49).toInt ≤ (x4).toInt + 1 by first | assumption | omega) (show (x4).toInt + 1 - (vx49).toInt < _ by omega)) (fun r55 hr56 => ?_)
        have i57 := hr56
        have f58 := ti_b r55.1
        exact by assumption
set_option maxHeartbeats 4000000 in
theorem k_X12_roomMany {ad : List Nat} {h : hp} (L : Lay TLx ad h) {δ0 : dp} {N : Nat} (hN : 10000000 ≤ N) {a0 : Nat} {x1 : Int32} {x2 : Int32} {x3 : Int32} {x4 : Int32} (k_a0 : q_K h.1 a0 = 12) {δ : dp} (z0 : 2 ≤ (x2).toInt) (z1 : (x2).toInt ≤ 16) (z2 : 0 ≤ (x3).toInt) (z3 : (x3).toInt ≤ (x4).toInt) (z4 : (x4).toInt ≤ 14000) (I : RI ad h.1 δ0 δ) : ok (D_X12_roomMany N h.1 a0 x1 x2 x3 x4 δ) (fun r => r.2 = δ) := by
  unfold D_X12_roomMany
  have f1 := ti_b x2
  have f2 := ti_b x3
  have f3 := ti_b x4
  refine ok_bind (k_X12_lowerBits L hN (a0 := a0) (x1 := x2) k_a0 (show 2 ≤ (x2).toInt by first | assumption | omega) (show (x2).toInt ≤ 16 by first | assumption | omega) I) (fun r4 hr5 => ?_)
  obtain ⟨i6, p7, p8, p9, p10, p11, p12⟩ := hr5
  try rw [i6]
  have f13 := ti_b r4.1
  have f14 := lgb (r4.1).toInt
  have f15 := lgb (x2).toInt
  have f16 := lgb ((x2 - r4.1)).toInt
  first | (have q18 := te_sub x2 r4.1 (by omega) (by omega); obtain ⟨f19, f20, f21⟩ := q18) | (obtain ⟨q18, f19, f20, f21⟩ := ti_sub x2 r4.1)
  have f22 := ti_b r4.1
  refine ok_biv (fun vx23 e24 => ?_)
  first | (have q25 := te_addc (c := 1) (n := 1) rfl x3 (by omega) (by omega); rw [← e24] at q25; obtain ⟨f26, f27, f28⟩ := q25) | (obtain ⟨q25, f26, f27, f28⟩ : ∃ q : Int, vx23.toInt = x3.toInt + (1 : Int) + 4294967296 * q ∧ -2147483648 ≤ vx23.toInt ∧ vx23.toInt ≤ 2147483647 := by rw [e24]; exact ti_addc (c := 1) (n := 1) rfl x3)
  refine ok_mono (kl_X12_roomMany_15 L hN   k_a0 _ r4.1 (0 : Int32) vx23 δ I (show 0 ≤ (x3).toInt by first | assumption | omega) (show (x3).toInt ≤ (x4).toInt by first | assumption | omega) (show (x4).toInt ≤ 14000 by first | assumption | omega) (show 1 ≤ (vx23).toInt by first | assumption | omega) (show (vx23).toInt ≤ (x4).toInt + 1 by first | assumption | omega) (show (x4).toInt + 1 - (vx23).toInt < _ by omega)) (fun r29 hr30 => ?_)
  have i31 := hr30
  have f32 := ti_b r29.1
  exact by assumption
set_option maxHeartbeats 4000000 in
theorem kl_X12_roomEnd_15 {ad : List Nat} {h : hp} (L : Lay TLx ad h) {δ0 : dp} {N : Nat} (hN : 10000000 ≤ N) {a0 : Nat} {x1 : Int32} {x2 : Int32} {x3 : Int32} {x4 : Int32} {x5 : Int32} (k_a0 : q_K h.1 a0 = 12) : ∀ (n : Nat) (x6v : Int32) (x7v : Int32) (x8v : Int32) (δ : dp), RI ad h.1 δ0 δ → 0 ≤ (x3).toInt → (x3).toInt ≤ (x4).toInt → (x4).toInt ≤ 14000 → 1 ≤ (x8v).toInt → (x8v).toInt ≤ (x4).toInt + 1 → (x4).toInt + 1 - (x8v).toInt < (n : Int) → ok (L_X12_roomEnd_15 N h.1 a0 x1 x2 x3 x4 x5 n x6v x7v x8v δ) (fun r => r.2 = δ) := by
  intro n
  induction n with
  | zero =>
    intro x6v x7v x8v δ I j0 j1 j2 j3 j4 hm
    have f1 := ti_b x3
    have f2 := ti_b x4
    have f3 := ti_b x8v
    exfalso; omega
  | succ n ih =>
    intro x6v x7v x8v δ I j0 j1 j2 j3 j4 hm
    unfold L_X12_roomEnd_15
    have f1 := ti_b x3
    have f2 := ti_b x4
    have f3 := ti_b x8v
    first | (have q5 := te_subc (c := 1) (n := 1) rfl x4 (by omega) (by omega); obtain ⟨f6, f7, f8⟩ := q5) | (obtain ⟨q5, f6, f7, f8⟩ := ti_subc (c := 1) (n := 1) rfl x4)
    refine ok_ite (fun h9 => ?_) (fun h9 => ?_)
    · have c10 : (x4 - (1 : Int32)).toInt ≤ x8v.toInt := o_le h9
      exact ok_some (show δ = δ from rfl)
    · have c11 : x8v.toInt < (x4 - (1 : Int32)).toInt := o_nle h9
      obtain ⟨b12, o13, k14, n15, w16⟩ := gO_12_35 L k_a0
      obtain rfl := gS_12_35 L k_a0 o13
      refine ok_at o13 ?_
      have t17 := ti_tn x8v
      refine ok_gd (fun hc18 => ?_) ?_
      · rcases hc18 with hc18 | hc18
        · have c19 : x8v.toInt < (0 : Int) := o_lt hc18
          omega
        · omega
      have f20 := ti_b ((q_R δ (Ad ad 119) x8v.toNatClampNeg) >>> (x6v &&& 31))
      have f21 := ti_b (x1 >>> (x6v &&& 31))
      refine ok_ite (fun h22 => ?_) (fun h22 => ?_)
      · have c23 : ((q_R δ (Ad ad 119) x8v.toNatClampNeg) >>> (x6v &&& 31)).toInt = (x1 >>> (x6v &&& 31)).toInt := o_eq h22
        have f24 := ti_b x7v
        refine ok_ite (fun h25 => ?_) (fun h25 => ?_)
        · have c26 : x7v.toInt = (-1 : Int) := o_eq h25
          unfold J_X12_roomEnd_55
          refine ok_at o13 ?_
          refine ok_gd (fun hc27 => ?_) ?_
          · rcases hc27 with hc27 | hc27
            · have c28 : x8v.toInt < (0 : Int) := o_lt hc27
              omega
            · omega
          have f31 := ti_b ((q_R δ (Ad ad 119) x8v.toNatClampNeg) &&& (((1 : Int32) <<< (x6v &&& 31)) - (1 : Int32)))
          refine ok_biv (fun vx29 e30 => ?_)
          have f32 : vx29.toInt = ((q_R δ (Ad ad 119) x8v.toNatClampNeg) &&& (((1 : Int32) <<< (x6v &&& 31)) - (1 : Int32))).toInt := congrArg Int32.toInt e30
          unfold J_X12_roomEnd_71
          refine ok_biv (fun vx33 e34 => ?_)
          first | (have q35 := te_addc (c := 1) (n := 1) rfl x8v (by omega) (by omega); rw [← e34] at q35; obtain ⟨f36, f37, f38⟩ := q35) | (obtain ⟨q35, f36, f37, f38⟩ : ∃ q : Int, vx33.toInt = x8v.toInt + (1 : Int) + 4294967296 * q ∧ -2147483648 ≤ vx33.toInt ∧ vx33.toInt ≤ 2147483647 := by rw [e34]; exact ti_addc (c := 1) (n := 1) rfl x8v)
          refine ok_mono (ih x6v vx29 vx33 δ I (show 0 ≤ (x3).toInt by first | assumption | omega) (show (x3).toInt ≤ (x4).toInt by first | assumption | omega) (show (x4).toInt ≤ 14000 by first | assumption | omega) (show 1 ≤ (vx33).toInt by first | assumption | omega) (show (vx33).toInt ≤ (x4).toInt + 1 by first | assumption | omega) (show (x4).toInt + 1 - (vx33).toInt < _ by omega)) (fun r39 hr40 => ?_)
          have i41 := hr40
          have f42 := ti_b r39.1
          exact by assumption
        · have c43 : x7v.toInt ≠ (-1 : Int) := o_ne h25
          have f44 := ti_b x5
          refine ok_ite (fun h45 => ?_) (fun h45 => ?_)
          · have c46 : x5.toInt = (0 : Int) := o_eq h45
            unfold J_X12_roomEnd_55
            refine ok_at o13 ?_
            refine ok_gd (fun hc47 => ?_) ?_
            · rcases hc47 with hc47 | hc47
              · have c48 : x8v.toInt < (0 : Int) := o_lt hc47
                omega
              · omega
            have f51 := ti_b ((q_R δ (Ad ad 119) x8v.toNatClampNeg) &&& (((1 : Int32) <<< (x6v &&& 31)) - (1 : Int32)))
            refine ok_biv (fun vx49 e50 => ?_)
            have f52 : vx49.toInt = ((q_R δ (Ad ad 119) x8v.toNatClampNeg) &&& (((1 : Int32) <<< (x6v &&& 31)) - (1 : Int32))).toInt := congrArg Int32.toInt e50
            unfold J_X12_roomEnd_71
            refine ok_biv (fun vx53 e54 => ?_)
            first | (have q55 := te_addc (c := 1) (n := 1) rfl x8v (by omega) (by omega); rw [← e54] at q55; obtain ⟨f56, f57, f58⟩ := q55) | (obtain ⟨q55, f56, f57, f58⟩ : ∃ q : Int, vx53.toInt = x8v.toInt + (1 : Int) + 4294967296 * q ∧ -2147483648 ≤ vx53.toInt ∧ vx53.toInt ≤ 2147483647 := by rw [e54]; exact ti_addc (c := 1) (n := 1) rfl x8v)
            refine ok_mono (ih x6v vx49 vx53 δ I (show 0 ≤ (x3).toInt by first | assumption | omega) (show (x3).toInt ≤ (x4).toInt by first | assumption | omega) (show (x4).toInt ≤ 14000 by first | assumption | omega) (show 1 ≤ (vx53).toInt by first | assumption | omega) (show (vx53).toInt ≤ (x4).toInt + 1 by first | assumption | omega) (show (x4).toInt + 1 - (vx53).toInt < _ by omega)) (fun r59 hr60 => ?_)
            have i61 := hr60
            have f62 := ti_b r59.1
            exact by assumption
          · have c63 : x5.toInt ≠ (0 : Int) := o_ne h45
            unfold J_X12_roomEnd_71
            refine ok_biv (fun vx64 e65 => ?_)
            first | (have q66 := te_addc (c := 1) (n := 1) rfl x8v (by omega) (by omega); rw [← e65] at q66; obtain ⟨f67, f68, f69⟩ := q66) | (obtain ⟨q66, f67, f68, f69⟩ : ∃ q : Int, vx64.toInt = x8v.toInt + (1 : Int) + 4294967296 * q ∧ -2147483648 ≤ vx64.toInt ∧ vx64.toInt ≤ 2147483647 := by rw [e65]; exact ti_addc (c := 1) (n := 1) rfl x8v)
            refine ok_mono (ih x6v x7v vx64 δ I (show 0 ≤ (x3).toInt by first | assumption | omega) (show (x3).toInt ≤ (x4).toInt by first | assumption | omega) (show (x4).toInt ≤ 14000 by first | assumption | omega) (show 1 ≤ (vx64).toInt by first | assumption | omega) (show (vx64).toInt ≤ (x4).toInt + 1 by first | assumption | omega) (show (x4).toInt + 1 - (vx64).toInt < _ by omega)) (fun r70 hr71 => ?_)
            have i72 := hr71
            have f73 := ti_b r70.1
            exact by assumption
      · have c74 : ((q_R δ (Ad ad 119) x8v.toNatClampNeg) >>> (x6v &&& 31)).toInt ≠ (x1 >>> (x6v &&& 31)).toInt := o_ne h22
        unfold J_X12_roomEnd_71
        refine ok_biv (fun vx75 e76 => ?_)
        first | (have q77 := te_addc (c := 1) (n := 1) rfl x8v (by omega) (by omega); rw [← e76] at q77; obtain ⟨f78, f79, f80⟩ := q77) | (obtain ⟨q77, f78, f79, f80⟩ : ∃ q : Int, vx75.toInt = x8v.toInt + (1 : Int) + 4294967296 * q ∧ -2147483648 ≤ vx75.toInt ∧ vx75.toInt ≤ 2147483647 := by rw [e76]; exact ti_addc (c := 1) (n := 1) rfl x8v)
        refine ok_mono (ih x6v x7v vx75 δ I (show 0 ≤ (x3).toInt by first | assumption | omega) (show (x3).toInt ≤ (x4).toInt by first | assumption | omega) (show (x4).toInt ≤ 14000 by first | assumption | omega) (show 1 ≤ (vx75).toInt by first | assumption | omega) (show (vx75).toInt ≤ (x4).toInt + 1 by first | assumption | omega) (show (x4).toInt + 1 - (vx75).toInt < _ by omega)) (fun r81 hr82 => ?_)
        have i83 := hr82
        have f84 := ti_b r81.1
        exact by assumption
set_option maxHeartbeats 4000000 in
theorem k_X12_roomEnd {ad : List Nat} {h : hp} (L : Lay TLx ad h) {δ0 : dp} {N : Nat} (hN : 10000000 ≤ N) {a0 : Nat} {x1 : Int32} {x2 : Int32} {x3 : Int32} {x4 : Int32} {x5 : Int32} (k_a0 : q_K h.1 a0 = 12) {δ : dp} (z0 : 2 ≤ (x2).toInt) (z1 : (x2).toInt ≤ 16) (z2 : 0 ≤ (x3).toInt) (z3 : (x3).toInt ≤ (x4).toInt) (z4 : (x4).toInt ≤ 14000) (I : RI ad h.1 δ0 δ) : ok (D_X12_roomEnd N h.1 a0 x1 x2 x3 x4 x5 δ) (fun r => r.2 = δ) := by
  unfold D_X12_roomEnd
  have f1 := ti_b x2
  have f2 := ti_b x3
  have f3 := ti_b x4
  refine ok_bind (k_X12_lowerBits L hN (a0 := a0) (x1 := x2) k_a0 (show 2 ≤ (x2).toInt by first | assumption | omega) (show (x2).toInt ≤ 16 by first | assumption | omega) I) (fun r4 hr5 => ?_)
  obtain ⟨i6, p7, p8, p9, p10, p11, p12⟩ := hr5
  try rw [i6]
  have f13 := ti_b r4.1
  have f14 := lgb (r4.1).toInt
  have f15 := lgb (x2).toInt
  have f16 := lgb ((x2 - r4.1)).toInt
  first | (have q18 := te_sub x2 r4.1 (by omega) (by omega); obtain ⟨f19, f20, f21⟩ := q18) | (obtain ⟨q18, f19, f20, f21⟩ := ti_sub x2 r4.1)
  have f22 := ti_b r4.1
  refine ok_biv (fun vx23 e24 => ?_)
  first | (have q25 := te_addc (c := 1) (n := 1) rfl x3 (by omega) (by omega); rw [← e24] at q25; obtain ⟨f26, f27, f28⟩ := q25) | (obtain ⟨q25, f26, f27, f28⟩ : ∃ q : Int, vx23.toInt = x3.toInt + (1 : Int) + 4294967296 * q ∧ -2147483648 ≤ vx23.toInt ∧ vx23.toInt ≤ 2147483647 := by rw [e24]; exact ti_addc (c := 1) (n := 1) rfl x3)
  refine ok_mono (kl_X12_roomEnd_15 L hN   k_a0 _ r4.1 (-1 : Int32) vx23 δ I (show 0 ≤ (x3).toInt by first | assumption | omega) (show (x3).toInt ≤ (x4).toInt by first | assumption | omega) (show (x4).toInt ≤ 14000 by first | assumption | omega) (show 1 ≤ (vx23).toInt by first | assumption | omega) (show (vx23).toInt ≤ (x4).toInt + 1 by first | assumption | omega) (show (x4).toInt + 1 - (vx23).toInt < _ by omega)) (fun r29 hr30 => ?_)
  have i31 := hr30
  have f32 := ti_b r29.1
  exact by assumption
set_option maxHeartbeats 4000000 in
theorem kl_X12_isInside_5 {ad : List Nat} {h : hp} (L : Lay TLx ad h) {δ0 : dp} {N : Nat} (hN : 10000000 ≤ N) {a0 : Nat} {x1 : Int32} {x2 : Int32} {x3 : Int32} (k_a0 : q_K h.1 a0 = 12) : ∀ (n : Nat) (x4v : Int32) (δ : dp), RI ad h.1 δ0 δ → 0 ≤ (x2).toInt → (x2).toInt ≤ (x3).toInt → (x3).toInt ≤ 14000 → 1 ≤ (x4v).toInt → (x4v).toInt ≤ (x3).toInt + 1 → (x3).toInt + 1 - (x4v).toInt < (n : Int) → ok (L_X12_isInside_5 N h.1 a0 x1 x2 x3 n x4v δ) (fun r => r.2 = δ ∧ bo (r.1)) := by
  intro n
  induction n with
  | zero =>
    intro x4v δ I j0 j1 j2 j3 j4 hm
    have f1 := ti_b x2
    have f2 := ti_b x3
    have f3 := ti_b x4v
    exfalso; omega
  | succ n ih =>
    intro x4v δ I j0 j1 j2 j3 j4 hm
    unfold L_X12_isInside_5
    have f1 := ti_b x2
    have f2 := ti_b x3
    have f3 := ti_b x4v
    first | (have q5 := te_subc (c := 1) (n := 1) rfl x3 (by omega) (by omega); obtain ⟨f6, f7, f8⟩ := q5) | (obtain ⟨q5, f6, f7, f8⟩ := ti_subc (c := 1) (n := 1) rfl x3)
    refine ok_ite (fun h9 => ?_) (fun h9 => ?_)
    · have c10 : (x3 - (1 : Int32)).toInt ≤ x4v.toInt := o_le h9
      refine ok_gp (by decide) ?_
      exact ok_some (show δ = δ ∧ bo ((0 : Int32)) from ⟨rfl, bo_0⟩)
    · have c11 : x4v.toInt < (x3 - (1 : Int32)).toInt := o_nle h9
      obtain ⟨b12, o13, k14, n15, w16⟩ := gO_12_35 L k_a0
      obtain rfl := gS_12_35 L k_a0 o13
      refine ok_at o13 ?_
      have t17 := ti_tn x4v
      refine ok_gd (fun hc18 => ?_) ?_
      · rcases hc18 with hc18 | hc18
        · have c19 : x4v.toInt < (0 : Int) := o_lt hc18
          omega
        · omega
      have f20 := ti_b (q_R δ (Ad ad 119) x4v.toNatClampNeg)
      have f21 := ti_b x1
      refine ok_ite (fun h22 => ?_) (fun h22 => ?_)
      · have c23 : (q_R δ (Ad ad 119) x4v.toNatClampNeg).toInt = x1.toInt := o_eq h22
        refine ok_gp (by decide) ?_
        exact ok_some (show δ = δ ∧ bo ((1 : Int32)) from ⟨rfl, bo_1⟩)
      · have c24 : (q_R δ (Ad ad 119) x4v.toNatClampNeg).toInt ≠ x1.toInt := o_ne h22
        refine ok_biv (fun vx25 e26 => ?_)
        first | (have q27 := te_addc (c := 1) (n := 1) rfl x4v (by omega) (by omega); rw [← e26] at q27; obtain ⟨f28, f29, f30⟩ := q27) | (obtain ⟨q27, f28, f29, f30⟩ : ∃ q : Int, vx25.toInt = x4v.toInt + (1 : Int) + 4294967296 * q ∧ -2147483648 ≤ vx25.toInt ∧ vx25.toInt ≤ 2147483647 := by rw [e26]; exact ti_addc (c := 1) (n := 1) rfl x4v)
        refine ok_mono (ih vx25 δ I (show 0 ≤ (x2).toInt by first | assumption | omega) (show (x2).toInt ≤ (x3).toInt by first | assumption | omega) (show (x3).toInt ≤ 14000 by first | assumption | omega) (show 1 ≤ (vx25).toInt by first | assumption | omega) (show (vx25).toInt ≤ (x3).toInt + 1 by first | assumption | omega) (show (x3).toInt + 1 - (vx25).toInt < _ by omega)) (fun r31 hr32 => ?_)
        obtain ⟨i33, p34⟩ := hr32
        have f35 := bo_l p34
        have f36 := ti_b r31.1
        exact ⟨by assumption, by first | assumption | omega⟩
set_option maxHeartbeats 4000000 in
theorem k_X12_isInside {ad : List Nat} {h : hp} (L : Lay TLx ad h) {δ0 : dp} {N : Nat} (hN : 10000000 ≤ N) {a0 : Nat} {x1 : Int32} {x2 : Int32} {x3 : Int32} (k_a0 : q_K h.1 a0 = 12) {δ : dp} (z0 : 0 ≤ (x2).toInt) (z1 : (x2).toInt ≤ (x3).toInt) (z2 : (x3).toInt ≤ 14000) (I : RI ad h.1 δ0 δ) : ok (D_X12_isInside N h.1 a0 x1 x2 x3 δ) (fun r => r.2 = δ ∧ bo (r.1)) := by
  unfold D_X12_isInside
  have f1 := ti_b x2
  have f2 := ti_b x3
  refine ok_biv (fun vx3 e4 => ?_)
  first | (have q5 := te_addc (c := 1) (n := 1) rfl x2 (by omega) (by omega); rw [← e4] at q5; obtain ⟨f6, f7, f8⟩ := q5) | (obtain ⟨q5, f6, f7, f8⟩ : ∃ q : Int, vx3.toInt = x2.toInt + (1 : Int) + 4294967296 * q ∧ -2147483648 ≤ vx3.toInt ∧ vx3.toInt ≤ 2147483647 := by rw [e4]; exact ti_addc (c := 1) (n := 1) rfl x2)
  refine ok_mono (kl_X12_isInside_5 L hN   k_a0 _ vx3 δ I (show 0 ≤ (x2).toInt by first | assumption | omega) (show (x2).toInt ≤ (x3).toInt by first | assumption | omega) (show (x3).toInt ≤ 14000 by first | assumption | omega) (show 1 ≤ (vx3).toInt by first | assumption | omega) (show (vx3).toInt ≤ (x3).toInt + 1 by first | assumption | omega) (show (x3).toInt + 1 - (vx3).toInt < _ by omega)) (fun r9 hr10 => ?_)
  obtain ⟨i11, p12⟩ := hr10
  have f13 := bo_l p12
  have f14 := ti_b r9.1
  exact ⟨by assumption, by first | assumption | omega⟩
set_option maxHeartbeats 4000000 in
theorem kl_X12_lays_7 {ad : List Nat} {h : hp} (L : Lay TLx ad h) {δ0 : dp} {N : Nat} (hN : 10000000 ≤ N) {a0 : Nat} {x1 : Int32} (k_a0 : q_K h.1 a0 = 12) : ∀ (n : Nat) (x2v : Int32) (δ : dp), RI ad h.1 δ0 δ → 0 ≤ (x1).toInt → (x1).toInt ≤ 3 → 0 ≤ (x2v).toInt → (x2v).toInt ≤ 2000 → (q_I δ 12 36 a0).toInt = (x2v).toInt → 2000 - (x2v).toInt < (n : Int) → ok (L_X12_lays_7 N h.1 a0 x1 n x2v δ) (fun r => RI ad h.1 δ0 r ∧ (kp [(12, 36)] δ r ∧ q_V r = q_V δ ∧ kr ad [119] δ r) ∧ (q_I r 12 36 a0).toInt ≤ 2000) := by
  intro n
  induction n with
  | zero =>
    intro x2v δ I j0 j1 j2 j3 j4 hm
    have f1 := ti_b x1
    have f2 := ti_b x2v
    have f3 := cb_12_36 I k_a0
    exfalso; omega
  | succ n ih =>
    intro x2v δ I j0 j1 j2 j3 j4 hm
    unfold L_X12_lays_7
    have f1 := ti_b x1
    have f2 := ti_b x2v
    have f3 := cb_12_36 I k_a0
    obtain ⟨b4, o5, k6, n7⟩ := gO_12_14 L k_a0
    obtain rfl := gS_12_14 L k_a0 o5
    refine ok_at o5 ?_
    have t8 := ti_tn x1
    refine ok_gd (fun hc9 => ?_) ?_
    · rcases hc9 with hc9 | hc9
      · have c10 : x1.toInt < (0 : Int) := o_lt hc9
        omega
      · omega
    have f11 := rb_103 L I x1.toNatClampNeg
    refine ok_ite (fun h12 => ?_) (fun h12 => ?_)
    · have c13 : (q_R δ (Ad ad 103) x1.toNatClampNeg).toInt ≤ x2v.toInt := o_le h12
      exact ok_some (show RI ad h.1 δ0 δ ∧ (kp [(12, 36)] δ δ ∧ q_V δ = q_V δ ∧ kr ad [119] δ δ) ∧ (q_I δ 12 36 a0).toInt ≤ 2000 from ⟨I, ⟨kp_w (by decide) kp_r, rfl, kr_w (by decide) (kr_r (ad := ad))⟩, by first | assumption | omega⟩)
    · have c14 : x2v.toInt < (q_R δ (Ad ad 103) x1.toNatClampNeg).toInt := o_nle h12
      obtain ⟨b15, o16, k17, n18, w19⟩ := gO_12_35 L k_a0
      obtain rfl := gS_12_35 L k_a0 o16
      refine ok_at o16 ?_
      obtain ⟨b20, o21, k22, n23, w24⟩ := gO_12_13 L k_a0
      obtain rfl := gS_12_13 L k_a0 o21
      refine ok_at o21 ?_
      first | (have q26 := te_mulc (c := 2000) (n := 2000) rfl x1 (by omega) (by omega); obtain ⟨f27, f28, f29⟩ := q26) | (obtain ⟨q26, f27, f28, f29⟩ := ti_mulc (c := 2000) (n := 2000) rfl x1)
      first | (have q31 := te_add ((2000 : Int32) * x1) x2v (by omega) (by omega); obtain ⟨f32, f33, f34⟩ := q31) | (obtain ⟨q31, f32, f33, f34⟩ := ti_add ((2000 : Int32) * x1) x2v)
      have t35 := ti_tn (((2000 : Int32) * x1) + x2v)
      refine ok_gd (fun hc36 => ?_) ?_
      · rcases hc36 with hc36 | hc36
        · have c37 : (((2000 : Int32) * x1) + x2v).toInt < (0 : Int) := o_lt hc36
          omega
        · omega
      have t38 := ti_tn (q_I δ 12 36 a0)
      refine ok_gd (fun hc39 => ?_) ?_
      · rcases hc39 with hc39 | hc39
        · have c40 : (q_I δ 12 36 a0).toInt < (0 : Int) := o_lt hc39
          omega
        · omega
      refine ok_bdv (fun d41 e42 => ?_)
      have i43 : RI ad h.1 δ0 d41 := by rw [e42]; exact RI.sR L I w19
      have u44 := kp_N kp_r (show q_I d41 = q_I δ by rw [e42]; rfl)
      have v45 : q_V d41 = q_V δ := ((show q_V d41 = q_V δ by rw [e42]; rfl)).trans rfl
      have v46 := kr_s L (by decide) (kr_r (ad := ad)) e42
      have f50 := cb_12_36 i43 k_a0
      have f51 : (q_I d41 12 36 a0).toInt = (q_I δ 12 36 a0).toInt := congrArg Int32.toInt (by rw [e42]; rfl)
      first | (have q53 := te_addc (c := 1) (n := 1) rfl (q_I d41 12 36 a0) (by omega) (by omega); obtain ⟨f54, f55, f56⟩ := q53) | (obtain ⟨q53, f54, f55, f56⟩ := ti_addc (c := 1) (n := 1) rfl (q_I d41 12 36 a0))
      refine ok_bdv (fun d47 e48 => ?_)
      have i49 : RI ad h.1 δ0 d47 := by rw [e48]; exact cs_12_36 L i43 k_a0 (show 0 ≤ ((q_I d41 12 36 a0) + (1 : Int32)).toInt by omega) (show ((q_I d41 12 36 a0) + (1 : Int32)).toInt ≤ 14000 by omega)
      have u57 := kp_I u44 e48
      have v58 : q_V d47 = q_V δ := ((show q_V d47 = q_V d41 by rw [e48]; rfl)).trans v45
      have v59 := kr_N v46 (show q_R d47 = q_R d41 by rw [e48]; rfl)
      refine ok_biv (fun vx60 e61 => ?_)
      first | (have q62 := te_addc (c := 1) (n := 1) rfl x2v (by omega) (by omega); rw [← e61] at q62; obtain ⟨f63, f64, f65⟩ := q62) | (obtain ⟨q62, f63, f64, f65⟩ : ∃ q : Int, vx60.toInt = x2v.toInt + (1 : Int) + 4294967296 * q ∧ -2147483648 ≤ vx60.toInt ∧ vx60.toInt ≤ 2147483647 := by rw [e61]; exact ti_addc (c := 1) (n := 1) rfl x2v)
      have f66 := cb_12_36 i49 k_a0
      have f67 : (q_I d47 12 36 a0).toInt = ((q_I d41 12 36 a0) + (1 : Int32)).toInt := congrArg Int32.toInt (show q_I d47 12 36 a0 = ((q_I d41 12 36 a0) + (1 : Int32)) by rw [e48]; exact rI_s)
      refine ok_mono (ih vx60 d47 i49 (show 0 ≤ (x1).toInt by first | assumption | omega) (show (x1).toInt ≤ 3 by first | assumption | omega) (show 0 ≤ (vx60).toInt by first | assumption | omega) (show (vx60).toInt ≤ 2000 by first | assumption | omega) (show (q_I d47 12 36 a0).toInt = (vx60).toInt by first | assumption | omega) (show 2000 - (vx60).toInt < _ by omega)) (fun r68 hr69 => ?_)
      obtain ⟨i70, ⟨u72, u73, u74⟩, p71⟩ := hr69
      have u75 := kp_t u57 u72
      have v76 : q_V r68 = q_V δ := (u73).trans v58
      have v77 := kr_t v59 u74
      have f78 := cb_12_36 i70 k_a0
      exact ⟨by assumption, ⟨kp_w (by decide) u75, v76, kr_w (by decide) v77⟩, by first | assumption | omega⟩
set_option maxHeartbeats 4000000 in
theorem k_X12_lays {ad : List Nat} {h : hp} (L : Lay TLx ad h) {δ0 : dp} {N : Nat} (hN : 10000000 ≤ N) {a0 : Nat} {x1 : Int32} (k_a0 : q_K h.1 a0 = 12) {δ : dp} (z0 : 0 ≤ (x1).toInt) (z1 : (x1).toInt ≤ 3) (I : RI ad h.1 δ0 δ) : ok (D_X12_lays N h.1 a0 x1 δ) (fun r => RI ad h.1 δ0 r ∧ (kp [(12, 36)] δ r ∧ q_V r = q_V δ ∧ kr ad [119] δ r) ∧ (q_I r 12 36 a0).toInt ≤ 2000) := by
  unfold D_X12_lays
  have f1 := ti_b x1
  refine ok_bdv (fun d2 e3 => ?_)
  have i4 : RI ad h.1 δ0 d2 := by rw [e3]; exact cs_12_36 L I k_a0 (show 0 ≤ (0 : Int) by omega) (show (0 : Int) ≤ 14000 by omega)
  have u5 := kp_I kp_r e3
  have v6 : q_V d2 = q_V δ := ((show q_V d2 = q_V δ by rw [e3]; rfl)).trans rfl
  have v7 := kr_N (kr_r (ad := ad)) (show q_R d2 = q_R δ by rw [e3]; rfl)
  have f8 := cb_12_36 i4 k_a0
  have f9 : (q_I d2 12 36 a0).toInt = (0 : Int) := congrArg Int32.toInt (show q_I d2 12 36 a0 = (0 : Int32) by rw [e3]; exact rI_s)
  refine ok_mono (kl_X12_lays_7 L hN   k_a0 _ (0 : Int32) d2 i4 (show 0 ≤ (x1).toInt by first | assumption | omega) (show (x1).toInt ≤ 3 by first | assumption | omega) (show 0 ≤ (0 : Int) by first | assumption | omega) (show (0 : Int) ≤ 2000 by first | assumption | omega) (show (q_I d2 12 36 a0).toInt = (0 : Int) by first | assumption | omega) (show 2000 - (0 : Int) < _ by omega)) (fun r10 hr11 => ?_)
  obtain ⟨i12, ⟨u14, u15, u16⟩, p13⟩ := hr11
  have u17 := kp_t u5 u14
  have v18 : q_V r10 = q_V δ := (u15).trans v6
  have v19 := kr_t v7 u16
  have f20 := cb_12_36 i12 k_a0
  exact ⟨by assumption, ⟨kp_w (by decide) u17, v18, kr_w (by decide) v19⟩, by first | assumption | omega⟩
set_option maxHeartbeats 4000000 in
theorem k_bX12_inList {ad : List Nat} {h : hp} (L : Lay TLx ad h) {δ0 : dp} {N : Nat} (hN : 10000000 ≤ N) {T : Nat → Int32 → Int32 → Int32 → Int32 → Int32 → dp → Option (Int32 × dp)} {K : Int} (hT : ∀ (a0 : Nat) (x1 : Int32) (x2 : Int32) (x3 : Int32) (x4 : Int32) (x5 : Int32) (δ : dp), q_K h.1 a0 = 12 → 1 ≤ (x3).toInt → (x3).toInt ≤ 16 → 0 ≤ (x4).toInt → (x4).toInt ≤ (x5).toInt → (x5).toInt ≤ (x4).toInt + 2000 → (x5).toInt ≤ (q_I δ 12 36 a0).toInt → (q_I δ 12 36 a0).toInt + 2000 * LGf (x3).toInt ≤ 12000 → (x3).toInt < K → RI ad h.1 δ0 δ → ok (T a0 x1 x2 x3 x4 x5 δ) (fun r => RI ad h.1 δ0 r.2 ∧ (kp [(12, 36)] δ r.2 ∧ q_V r.2 = q_V δ ∧ kr ad [119] δ r.2) ∧ (q_I r.2 12 36 a0).toInt = (q_I δ 12 36 a0).toInt ∧ 1 ≤ (r.1).toInt ∧ (r.1).toInt ≤ VBf (x3).toInt)) {a0 : Nat} {x1 : Int32} {x2 : Int32} {x3 : Int32} {x4 : Int32} {x5 : Int32} (k_a0 : q_K h.1 a0 = 12) {δ : dp} (z0 : 2 ≤ (x3).toInt) (z1 : (x3).toInt ≤ 16) (z2 : 0 ≤ (x4).toInt) (z3 : (x4).toInt ≤ (x5).toInt) (z4 : (x5).toInt ≤ (x4).toInt + 2000) (z5 : (x5).toInt ≤ (q_I δ 12 36 a0).toInt) (z6 : (q_I δ 12 36 a0).toInt + 2000 * LGf (x3).toInt ≤ 12000) (z7 : (x3).toInt ≤ K) (I : RI ad h.1 δ0 δ) : ok (B_X12_inList N h.1 T a0 x1 x2 x3 x4 x5 δ) (fun r => RI ad h.1 δ0 r.2 ∧ (kp [(12, 36)] δ r.2 ∧ q_V r.2 = q_V δ ∧ kr ad [119] δ r.2) ∧ (q_I r.2 12 36 a0).toInt = (q_I δ 12 36 a0).toInt ∧ 1 ≤ (r.1).toInt ∧ (r.1).toInt ≤ HVf (x3).toInt) := by
  unfold B_X12_inList
  have f1 := lgb (x3).toInt
  have f2 := ti_b x3
  have f3 := ti_b x4
  have f4 := ti_b x5
  have f5 := cb_12_36 I k_a0
  refine ok_bind (k_X12_lowerBits L hN (a0 := a0) (x1 := x3) k_a0 (show 2 ≤ (x3).toInt by first | assumption | omega) (show (x3).toInt ≤ 16 by first | assumption | omega) I) (fun r6 hr7 => ?_)
  obtain ⟨i8, p9, p10, p11, p12, p13, p14⟩ := hr7
  try rw [i8]
  have f15 := ti_b r6.1
  have f16 := lgb (r6.1).toInt
  have f17 := lgb ((x3 - r6.1)).toInt
  first | (have q19 := te_sub x3 r6.1 (by omega) (by omega); obtain ⟨f20, f21, f22⟩ := q19) | (obtain ⟨q19, f20, f21, f22⟩ := ti_sub x3 r6.1)
  have f23 := ti_b r6.1
  refine ok_bind (k_X12_lists L hN (a0 := a0) (x1 := x4) (x2 := x5) (x3 := r6.1) k_a0 (show 0 ≤ (x4).toInt by first | assumption | omega) (show (x4).toInt ≤ (x5).toInt by first | assumption | omega) (show (x5).toInt ≤ (x4).toInt + 2000 by first | assumption | omega) (show (x5).toInt ≤ (q_I δ 12 36 a0).toInt by first | assumption | omega) (show (q_I δ 12 36 a0).toInt ≤ 12000 by first | assumption | omega) I) (fun r24 hr25 => ?_)
  obtain ⟨i26, ⟨u30, u31, u32⟩, p27, p28, p29⟩ := hr25
  have u33 := kp_t kp_r u30
  have v34 : q_V r24.2 = q_V δ := (u31).trans rfl
  have v35 := kr_t (kr_r (ad := ad)) u32
  have f36 := ti_b r24.1
  have f37 := cb_12_36 i26 k_a0
  have f38 := ti_b r24.1
  refine ok_bind (hT a0 x1 (x2 >>> (r6.1 &&& 31)) (x3 - r6.1) r24.1 (q_I r24.2 12 36 a0) r24.2 k_a0 (show 1 ≤ ((x3 - r6.1)).toInt by first | assumption | omega) (show ((x3 - r6.1)).toInt ≤ 16 by first | assumption | omega) (show 0 ≤ (r24.1).toInt by first | assumption | omega) (show (r24.1).toInt ≤ ((q_I r24.2 12 36 a0)).toInt by first | assumption | omega) (show ((q_I r24.2 12 36 a0)).toInt ≤ (r24.1).toInt + 2000 by first | assumption | omega) (show ((q_I r24.2 12 36 a0)).toInt ≤ (q_I r24.2 12 36 a0).toInt by first | assumption | omega) (show (q_I r24.2 12 36 a0).toInt + 2000 * LGf ((x3 - r6.1)).toInt ≤ 12000 by first | assumption | omega) (show ((x3 - r6.1)).toInt < _ by first | assumption | omega) i26) (fun r39 hr40 => ?_)
  obtain ⟨i41, ⟨u45, u46, u47⟩, p42, p43, p44⟩ := hr40
  have u48 := kp_t u33 u45
  have v49 : q_V r39.2 = q_V δ := (u46).trans v34
  have v50 := kr_t v35 u47
  have f51 := cb_12_36 i41 k_a0
  have f52 := ti_b r39.1
  have f53 := ti_b r39.1
  refine ok_bdv (fun d54 e55 => ?_)
  have i56 : RI ad h.1 δ0 d54 := by rw [e55]; exact cs_12_36 L i41 k_a0 (show 0 ≤ r24.1.toInt by omega) (show r24.1.toInt ≤ 14000 by omega)
  have u57 := kp_I u48 e55
  have v58 : q_V d54 = q_V δ := ((show q_V d54 = q_V r39.2 by rw [e55]; rfl)).trans v49
  have v59 := kr_N v50 (show q_R d54 = q_R r39.2 by rw [e55]; rfl)
  have f60 := cb_12_36 i56 k_a0
  have f61 : (q_I d54 12 36 a0).toInt = r24.1.toInt := congrArg Int32.toInt (show q_I d54 12 36 a0 = r24.1 by rw [e55]; exact rI_s)
  exact ok_some (show RI ad h.1 δ0 d54 ∧ (kp [(12, 36)] δ d54 ∧ q_V d54 = q_V δ ∧ kr ad [119] δ d54) ∧ (q_I d54 12 36 a0).toInt = (q_I δ 12 36 a0).toInt ∧ 1 ≤ (r39.1).toInt ∧ (r39.1).toInt ≤ HVf (x3).toInt from ⟨i56, ⟨kp_w (by decide) u57, v58, kr_w (by decide) v59⟩, by first | assumption | omega, by first | assumption | omega, by first | assumption | omega⟩)
set_option maxHeartbeats 4000000 in
theorem k_bX12_inRoom {ad : List Nat} {h : hp} (L : Lay TLx ad h) {δ0 : dp} {N : Nat} (hN : 10000000 ≤ N) {T : Nat → Int32 → Int32 → Int32 → Int32 → Int32 → dp → Option (Int32 × dp)} {K : Int} (hT : ∀ (a0 : Nat) (x1 : Int32) (x2 : Int32) (x3 : Int32) (x4 : Int32) (x5 : Int32) (δ : dp), q_K h.1 a0 = 12 → 1 ≤ (x3).toInt → (x3).toInt ≤ 16 → 0 ≤ (x4).toInt → (x4).toInt ≤ (x5).toInt → (x5).toInt ≤ (x4).toInt + 2000 → (x5).toInt ≤ (q_I δ 12 36 a0).toInt → (q_I δ 12 36 a0).toInt + 2000 * LGf (x3).toInt ≤ 12000 → (x3).toInt < K → RI ad h.1 δ0 δ → ok (T a0 x1 x2 x3 x4 x5 δ) (fun r => RI ad h.1 δ0 r.2 ∧ (kp [(12, 36)] δ r.2 ∧ q_V r.2 = q_V δ ∧ kr ad [119] δ r.2) ∧ (q_I r.2 12 36 a0).toInt = (q_I δ 12 36 a0).toInt ∧ 1 ≤ (r.1).toInt ∧ (r.1).toInt ≤ VBf (x3).toInt)) {a0 : Nat} {x1 : Int32} {x2 : Int32} {x3 : Int32} {x4 : Int32} {x5 : Int32} (k_a0 : q_K h.1 a0 = 12) {δ : dp} (z0 : 2 ≤ (x3).toInt) (z1 : (x3).toInt ≤ 16) (z2 : 0 ≤ (x4).toInt) (z3 : (x4).toInt ≤ (x5).toInt) (z4 : (x5).toInt ≤ (x4).toInt + 2000) (z5 : (x5).toInt ≤ (q_I δ 12 36 a0).toInt) (z6 : (q_I δ 12 36 a0).toInt + 2000 * LGf (x3).toInt ≤ 12000) (z7 : (x3).toInt ≤ K) (I : RI ad h.1 δ0 δ) : ok (B_X12_inRoom N h.1 T a0 x1 x2 x3 x4 x5 δ) (fun r => RI ad h.1 δ0 r.2 ∧ (kp [(12, 36)] δ r.2 ∧ q_V r.2 = q_V δ ∧ kr ad [119] δ r.2) ∧ (q_I r.2 12 36 a0).toInt = (q_I δ 12 36 a0).toInt ∧ 1 ≤ (r.1).toInt ∧ (r.1).toInt ≤ HVf (x3).toInt) := by
  unfold B_X12_inRoom
  have f1 := lgb (x3).toInt
  have f2 := ti_b x3
  have f3 := ti_b x4
  have f4 := ti_b x5
  have f5 := cb_12_36 I k_a0
  refine ok_bind (k_X12_lowerBits L hN (a0 := a0) (x1 := x3) k_a0 (show 2 ≤ (x3).toInt by first | assumption | omega) (show (x3).toInt ≤ 16 by first | assumption | omega) I) (fun r6 hr7 => ?_)
  obtain ⟨i8, p9, p10, p11, p12, p13, p14⟩ := hr7
  try rw [i8]
  have f15 := ti_b r6.1
  have f16 := lgb (r6.1).toInt
  have f17 := lgb ((x3 - r6.1)).toInt
  first | (have q19 := te_sub x3 r6.1 (by omega) (by omega); obtain ⟨f20, f21, f22⟩ := q19) | (obtain ⟨q19, f20, f21, f22⟩ := ti_sub x3 r6.1)
  have f23 := ti_b r6.1
  refine ok_bind (k_X12_rooms L hN (a0 := a0) (x1 := x4) (x2 := x5) (x3 := r6.1) (x4 := (x2 >>> (r6.1 &&& 31))) k_a0 (show 0 ≤ (x4).toInt by first | assumption | omega) (show (x4).toInt ≤ (x5).toInt by first | assumption | omega) (show (x5).toInt ≤ (x4).toInt + 2000 by first | assumption | omega) (show (x5).toInt ≤ (q_I δ 12 36 a0).toInt by first | assumption | omega) (show (q_I δ 12 36 a0).toInt ≤ 12000 by first | assumption | omega) I) (fun r24 hr25 => ?_)
  obtain ⟨i26, ⟨u30, u31, u32⟩, p27, p28, p29⟩ := hr25
  have u33 := kp_t kp_r u30
  have v34 : q_V r24.2 = q_V δ := (u31).trans rfl
  have v35 := kr_t (kr_r (ad := ad)) u32
  have f36 := ti_b r24.1
  have f37 := cb_12_36 i26 k_a0
  have f38 := ti_b r24.1
  refine ok_bind (hT a0 x1 (x2 &&& (((1 : Int32) <<< (r6.1 &&& 31)) - (1 : Int32))) r6.1 r24.1 (q_I r24.2 12 36 a0) r24.2 k_a0 (show 1 ≤ (r6.1).toInt by first | assumption | omega) (show (r6.1).toInt ≤ 16 by first | assumption | omega) (show 0 ≤ (r24.1).toInt by first | assumption | omega) (show (r24.1).toInt ≤ ((q_I r24.2 12 36 a0)).toInt by first | assumption | omega) (show ((q_I r24.2 12 36 a0)).toInt ≤ (r24.1).toInt + 2000 by first | assumption | omega) (show ((q_I r24.2 12 36 a0)).toInt ≤ (q_I r24.2 12 36 a0).toInt by first | assumption | omega) (show (q_I r24.2 12 36 a0).toInt + 2000 * LGf (r6.1).toInt ≤ 12000 by first | assumption | omega) (show (r6.1).toInt < _ by first | assumption | omega) i26) (fun r39 hr40 => ?_)
  obtain ⟨i41, ⟨u45, u46, u47⟩, p42, p43, p44⟩ := hr40
  have u48 := kp_t u33 u45
  have v49 : q_V r39.2 = q_V δ := (u46).trans v34
  have v50 := kr_t v35 u47
  have f51 := cb_12_36 i41 k_a0
  have f52 := ti_b r39.1
  have f53 := ti_b r39.1
  refine ok_bdv (fun d54 e55 => ?_)
  have i56 : RI ad h.1 δ0 d54 := by rw [e55]; exact cs_12_36 L i41 k_a0 (show 0 ≤ r24.1.toInt by omega) (show r24.1.toInt ≤ 14000 by omega)
  have u57 := kp_I u48 e55
  have v58 : q_V d54 = q_V δ := ((show q_V d54 = q_V r39.2 by rw [e55]; rfl)).trans v49
  have v59 := kr_N v50 (show q_R d54 = q_R r39.2 by rw [e55]; rfl)
  have f60 := cb_12_36 i56 k_a0
  have f61 : (q_I d54 12 36 a0).toInt = r24.1.toInt := congrArg Int32.toInt (show q_I d54 12 36 a0 = r24.1 by rw [e55]; exact rI_s)
  exact ok_some (show RI ad h.1 δ0 d54 ∧ (kp [(12, 36)] δ d54 ∧ q_V d54 = q_V δ ∧ kr ad [119] δ d54) ∧ (q_I d54 12 36 a0).toInt = (q_I δ 12 36 a0).toInt ∧ 1 ≤ (r39.1).toInt ∧ (r39.1).toInt ≤ HVf (x3).toInt from ⟨i56, ⟨kp_w (by decide) u57, v58, kr_w (by decide) v59⟩, by first | assumption | omega, by first | assumption | omega, by first | assumption | omega⟩)
set_option maxHeartbeats 4000000 in
theorem kj_X12_touchPut_64 {ad : List Nat} {h : hp} (L : Lay TLx ad h) {δ0 : dp} {N : Nat} (hN : 10000000 ≤ N) {T : Nat → Int32 → Int32 → Int32 → Int32 → Int32 → dp → Option (Int32 × dp)} {K : Int} (hT : ∀ (a0 : Nat) (x1 : Int32) (x2 : Int32) (x3 : Int32) (x4 : Int32) (x5 : Int32) (δ : dp), q_K h.1 a0 = 12 → 1 ≤ (x3).toInt → (x3).toInt ≤ 16 → 0 ≤ (x4).toInt → (x4).toInt ≤ (x5).toInt → (x5).toInt ≤ (x4).toInt + 2000 → (x5).toInt ≤ (q_I δ 12 36 a0).toInt → (q_I δ 12 36 a0).toInt + 2000 * LGf (x3).toInt ≤ 12000 → (x3).toInt < K → RI ad h.1 δ0 δ → ok (T a0 x1 x2 x3 x4 x5 δ) (fun r => RI ad h.1 δ0 r.2 ∧ (kp [(12, 36)] δ r.2 ∧ q_V r.2 = q_V δ ∧ kr ad [119] δ r.2) ∧ (q_I r.2 12 36 a0).toInt = (q_I δ 12 36 a0).toInt ∧ 1 ≤ (r.1).toInt ∧ (r.1).toInt ≤ VBf (x3).toInt)) {a0 : Nat} {x1 : Int32} {x2 : Int32} {x3 : Int32} {x4 : Int32} {xs0 : Int32} (k_a0 : q_K h.1 a0 = 12) {δ : dp} (z0 : 2 ≤ (x2).toInt) (z1 : (x2).toInt ≤ 16) (z2 : 0 ≤ (x3).toInt) (z3 : (x3).toInt ≤ (x4).toInt) (z4 : (x4).toInt ≤ (x3).toInt + 2000) (z5 : (x4).toInt ≤ (q_I δ 12 36 a0).toInt) (z6 : (q_I δ 12 36 a0).toInt + 2000 * LGf (x2).toInt ≤ 12000) (z7 : (x2).toInt ≤ K) (z8 : (x3).toInt < (x4).toInt) (I : RI ad h.1 δ0 δ) : ok (J_X12_touchPut_64 N h.1 T a0 x1 x2 x3 x4 xs0 δ) (fun r => RI ad h.1 δ0 r.2 ∧ (kp [(12, 36)] δ r.2 ∧ q_V r.2 = q_V δ ∧ kr ad [119] δ r.2) ∧ (q_I r.2 12 36 a0).toInt = (q_I δ 12 36 a0).toInt ∧ 1 ≤ (r.1).toInt ∧ (r.1).toInt ≤ VBf (x2).toInt) := by
  unfold J_X12_touchPut_64
  have f1 := lgb (x2).toInt
  have f2 := ti_b x2
  have f3 := ti_b x3
  have f4 := ti_b x4
  have f5 := cb_12_36 I k_a0
  refine ok_bind (k_X12_roomMany L hN (a0 := a0) (x1 := xs0) (x2 := x2) (x3 := x3) (x4 := x4) k_a0 (show 2 ≤ (x2).toInt by first | assumption | omega) (show (x2).toInt ≤ 16 by first | assumption | omega) (show 0 ≤ (x3).toInt by first | assumption | omega) (show (x3).toInt ≤ (x4).toInt by first | assumption | omega) (show (x4).toInt ≤ 14000 by first | assumption | omega) I) (fun r6 hr7 => ?_)
  have i8 := hr7
  try rw [i8]
  have f9 := ti_b r6.1
  refine ok_ite (fun h10 => ?_) (fun h10 => ?_)
  · have c11 : r6.1.toInt = (0 : Int) := o_eq h10
    refine ok_bind (k_bX12_inList L hN (a0 := a0) (x1 := (0 : Int32)) (x2 := xs0) (x3 := x2) (x4 := x3) (x5 := x4) hT k_a0 (show 2 ≤ (x2).toInt by first | assumption | omega) (show (x2).toInt ≤ 16 by first | assumption | omega) (show 0 ≤ (x3).toInt by first | assumption | omega) (show (x3).toInt ≤ (x4).toInt by first | assumption | omega) (show (x4).toInt ≤ (x3).toInt + 2000 by first | assumption | omega) (show (x4).toInt ≤ (q_I δ 12 36 a0).toInt by first | assumption | omega) (show (q_I δ 12 36 a0).toInt + 2000 * LGf (x2).toInt ≤ 12000 by first | assumption | omega) (show (x2).toInt ≤ K by first | assumption | omega) I) (fun r12 hr13 => ?_)
    obtain ⟨i14, ⟨u18, u19, u20⟩, p15, p16, p17⟩ := hr13
    have u21 := kp_t kp_r u18
    have v22 : q_V r12.2 = q_V δ := (u19).trans rfl
    have v23 := kr_t (kr_r (ad := ad)) u20
    have f24 := cb_12_36 i14 k_a0
    have f25 := ti_b r12.1
    have f26 := ti_b r12.1
    unfold J_X12_touchPut_108
    first | (have q28 := te_cadd (c := 2) (n := 2) rfl r12.1 (by omega) (by omega); obtain ⟨f29, f30, f31⟩ := q28) | (obtain ⟨q28, f29, f30, f31⟩ := ti_cadd (c := 2) (n := 2) rfl r12.1)
    exact ok_some (show RI ad h.1 δ0 r12.2 ∧ (kp [(12, 36)] δ r12.2 ∧ q_V r12.2 = q_V δ ∧ kr ad [119] δ r12.2) ∧ (q_I r12.2 12 36 a0).toInt = (q_I δ 12 36 a0).toInt ∧ 1 ≤ (((2 : Int32) + r12.1)).toInt ∧ (((2 : Int32) + r12.1)).toInt ≤ VBf (x2).toInt from ⟨i14, ⟨kp_w (by decide) u21, v22, kr_w (by decide) v23⟩, by first | assumption | omega, by first | assumption | omega, by first | assumption | omega⟩)
  · have c32 : r6.1.toInt ≠ (0 : Int) := o_ne h10
    refine ok_bind (k_bX12_inRoom L hN (a0 := a0) (x1 := (0 : Int32)) (x2 := xs0) (x3 := x2) (x4 := x3) (x5 := x4) hT k_a0 (show 2 ≤ (x2).toInt by first | assumption | omega) (show (x2).toInt ≤ 16 by first | assumption | omega) (show 0 ≤ (x3).toInt by first | assumption | omega) (show (x3).toInt ≤ (x4).toInt by first | assumption | omega) (show (x4).toInt ≤ (x3).toInt + 2000 by first | assumption | omega) (show (x4).toInt ≤ (q_I δ 12 36 a0).toInt by first | assumption | omega) (show (q_I δ 12 36 a0).toInt + 2000 * LGf (x2).toInt ≤ 12000 by first | assumption | omega) (show (x2).toInt ≤ K by first | assumption | omega) I) (fun r33 hr34 => ?_)
    obtain ⟨i35, ⟨u39, u40, u41⟩, p36, p37, p38⟩ := hr34
    have u42 := kp_t kp_r u39
    have v43 : q_V r33.2 = q_V δ := (u40).trans rfl
    have v44 := kr_t (kr_r (ad := ad)) u41
    have f45 := cb_12_36 i35 k_a0
    have f46 := ti_b r33.1
    have f47 := ti_b r33.1
    unfold J_X12_touchPut_108
    first | (have q49 := te_cadd (c := 1) (n := 1) rfl r33.1 (by omega) (by omega); obtain ⟨f50, f51, f52⟩ := q49) | (obtain ⟨q49, f50, f51, f52⟩ := ti_cadd (c := 1) (n := 1) rfl r33.1)
    exact ok_some (show RI ad h.1 δ0 r33.2 ∧ (kp [(12, 36)] δ r33.2 ∧ q_V r33.2 = q_V δ ∧ kr ad [119] δ r33.2) ∧ (q_I r33.2 12 36 a0).toInt = (q_I δ 12 36 a0).toInt ∧ 1 ≤ (((1 : Int32) + r33.1)).toInt ∧ (((1 : Int32) + r33.1)).toInt ≤ VBf (x2).toInt from ⟨i35, ⟨kp_w (by decide) u42, v43, kr_w (by decide) v44⟩, by first | assumption | omega, by first | assumption | omega, by first | assumption | omega⟩)
set_option maxHeartbeats 4000000 in
theorem k_bX12_touchPut {ad : List Nat} {h : hp} (L : Lay TLx ad h) {δ0 : dp} {N : Nat} (hN : 10000000 ≤ N) {T : Nat → Int32 → Int32 → Int32 → Int32 → Int32 → dp → Option (Int32 × dp)} {K : Int} (hT : ∀ (a0 : Nat) (x1 : Int32) (x2 : Int32) (x3 : Int32) (x4 : Int32) (x5 : Int32) (δ : dp), q_K h.1 a0 = 12 → 1 ≤ (x3).toInt → (x3).toInt ≤ 16 → 0 ≤ (x4).toInt → (x4).toInt ≤ (x5).toInt → (x5).toInt ≤ (x4).toInt + 2000 → (x5).toInt ≤ (q_I δ 12 36 a0).toInt → (q_I δ 12 36 a0).toInt + 2000 * LGf (x3).toInt ≤ 12000 → (x3).toInt < K → RI ad h.1 δ0 δ → ok (T a0 x1 x2 x3 x4 x5 δ) (fun r => RI ad h.1 δ0 r.2 ∧ (kp [(12, 36)] δ r.2 ∧ q_V r.2 = q_V δ ∧ kr ad [119] δ r.2) ∧ (q_I r.2 12 36 a0).toInt = (q_I δ 12 36 a0).toInt ∧ 1 ≤ (r.1).toInt ∧ (r.1).toInt ≤ VBf (x3).toInt)) {a0 : Nat} {x1 : Int32} {x2 : Int32} {x3 : Int32} {x4 : Int32} (k_a0 : q_K h.1 a0 = 12) {δ : dp} (z0 : 2 ≤ (x2).toInt) (z1 : (x2).toInt ≤ 16) (z2 : 0 ≤ (x3).toInt) (z3 : (x3).toInt ≤ (x4).toInt) (z4 : (x4).toInt ≤ (x3).toInt + 2000) (z5 : (x4).toInt ≤ (q_I δ 12 36 a0).toInt) (z6 : (q_I δ 12 36 a0).toInt + 2000 * LGf (x2).toInt ≤ 12000) (z7 : (x2).toInt ≤ K) (z8 : (x3).toInt < (x4).toInt) (I : RI ad h.1 δ0 δ) : ok (B_X12_touchPut N h.1 T a0 x1 x2 x3 x4 δ) (fun r => RI ad h.1 δ0 r.2 ∧ (kp [(12, 36)] δ r.2 ∧ q_V r.2 = q_V δ ∧ kr ad [119] δ r.2) ∧ (q_I r.2 12 36 a0).toInt = (q_I δ 12 36 a0).toInt ∧ 1 ≤ (r.1).toInt ∧ (r.1).toInt ≤ VBf (x2).toInt) := by
  unfold B_X12_touchPut
  have f1 := lgb (x2).toInt
  have f2 := ti_b x2
  have f3 := ti_b x3
  have f4 := ti_b x4
  have f5 := cb_12_36 I k_a0
  obtain ⟨b6, o7, k8, n9, w10⟩ := gO_12_35 L k_a0
  obtain rfl := gS_12_35 L k_a0 o7
  refine ok_at o7 ?_
  have t11 := ti_tn x3
  refine ok_gd (fun hc12 => ?_) ?_
  · rcases hc12 with hc12 | hc12
    · have c13 : x3.toInt < (0 : Int) := o_lt hc12
      omega
    · omega
  have f16 := ti_b (q_R δ (Ad ad 119) x3.toNatClampNeg)
  refine ok_biv (fun vx14 e15 => ?_)
  have f17 : vx14.toInt = (q_R δ (Ad ad 119) x3.toNatClampNeg).toInt := congrArg Int32.toInt e15
  refine ok_at o7 ?_
  first | (have q19 := te_subc (c := 1) (n := 1) rfl x4 (by omega) (by omega); obtain ⟨f20, f21, f22⟩ := q19) | (obtain ⟨q19, f20, f21, f22⟩ := ti_subc (c := 1) (n := 1) rfl x4)
  have t23 := ti_tn (x4 - (1 : Int32))
  refine ok_gd (fun hc24 => ?_) ?_
  · rcases hc24 with hc24 | hc24
    · have c25 : (x4 - (1 : Int32)).toInt < (0 : Int) := o_lt hc24
      omega
    · omega
  have f28 := ti_b (q_R δ (Ad ad 119) (x4 - (1 : Int32)).toNatClampNeg)
  refine ok_biv (fun vx26 e27 => ?_)
  have f29 : vx26.toInt = (q_R δ (Ad ad 119) (x4 - (1 : Int32)).toNatClampNeg).toInt := congrArg Int32.toInt e27
  have f30 := ti_b x1
  refine ok_ite (fun h31 => ?_) (fun h31 => ?_)
  · have c32 : x1.toInt = vx14.toInt := o_eq h31
    unfold J_X12_touchPut_39
    exact ok_some (show RI ad h.1 δ0 δ ∧ (kp [(12, 36)] δ δ ∧ q_V δ = q_V δ ∧ kr ad [119] δ δ) ∧ (q_I δ 12 36 a0).toInt = (q_I δ 12 36 a0).toInt ∧ 1 ≤ (1 : Int) ∧ (1 : Int) ≤ VBf (x2).toInt from ⟨I, ⟨kp_w (by decide) kp_r, rfl, kr_w (by decide) (kr_r (ad := ad))⟩, by first | assumption | omega, by first | assumption | omega, by first | assumption | omega⟩)
  · have c33 : x1.toInt ≠ vx14.toInt := o_ne h31
    refine ok_ite (fun h34 => ?_) (fun h34 => ?_)
    · have c35 : x1.toInt = vx26.toInt := o_eq h34
      unfold J_X12_touchPut_39
      exact ok_some (show RI ad h.1 δ0 δ ∧ (kp [(12, 36)] δ δ ∧ q_V δ = q_V δ ∧ kr ad [119] δ δ) ∧ (q_I δ 12 36 a0).toInt = (q_I δ 12 36 a0).toInt ∧ 1 ≤ (1 : Int) ∧ (1 : Int) ≤ VBf (x2).toInt from ⟨I, ⟨kp_w (by decide) kp_r, rfl, kr_w (by decide) (kr_r (ad := ad))⟩, by first | assumption | omega, by first | assumption | omega, by first | assumption | omega⟩)
    · have c36 : x1.toInt ≠ vx26.toInt := o_ne h34
      first | (have q38 := te_sub x4 x3 (by omega) (by omega); obtain ⟨f39, f40, f41⟩ := q38) | (obtain ⟨q38, f39, f40, f41⟩ := ti_sub x4 x3)
      refine ok_ite (fun h42 => ?_) (fun h42 => ?_)
      · have c43 : (x4 - x3).toInt = (1 : Int) := o_eq h42
        unfold J_X12_touchPut_39
        exact ok_some (show RI ad h.1 δ0 δ ∧ (kp [(12, 36)] δ δ ∧ q_V δ = q_V δ ∧ kr ad [119] δ δ) ∧ (q_I δ 12 36 a0).toInt = (q_I δ 12 36 a0).toInt ∧ 1 ≤ (1 : Int) ∧ (1 : Int) ≤ VBf (x2).toInt from ⟨I, ⟨kp_w (by decide) kp_r, rfl, kr_w (by decide) (kr_r (ad := ad))⟩, by first | assumption | omega, by first | assumption | omega, by first | assumption | omega⟩)
      · have c44 : (x4 - x3).toInt ≠ (1 : Int) := o_ne h42
        refine ok_ite (fun h45 => ?_) (fun h45 => ?_)
        · have c46 : vx14.toInt ≤ x1.toInt := o_le h45
          refine ok_ite (fun h47 => ?_) (fun h47 => ?_)
          · have c48 : x1.toInt ≤ vx26.toInt := o_le h47
            refine ok_mono (kj_X12_touchPut_64 L hN (a0 := a0) (x1 := x1) (x2 := x2) (x3 := x3) (x4 := x4) (xs0 := x1) hT k_a0 (show 2 ≤ (x2).toInt by first | assumption | omega) (show (x2).toInt ≤ 16 by first | assumption | omega) (show 0 ≤ (x3).toInt by first | assumption | omega) (show (x3).toInt ≤ (x4).toInt by first | assumption | omega) (show (x4).toInt ≤ (x3).toInt + 2000 by first | assumption | omega) (show (x4).toInt ≤ (q_I δ 12 36 a0).toInt by first | assumption | omega) (show (q_I δ 12 36 a0).toInt + 2000 * LGf (x2).toInt ≤ 12000 by first | assumption | omega) (show (x2).toInt ≤ K by first | assumption | omega) (show (x3).toInt < (x4).toInt by first | assumption | omega) I) (fun r49 hr50 => ?_)
            obtain ⟨i51, ⟨u55, u56, u57⟩, p52, p53, p54⟩ := hr50
            have u58 := kp_t kp_r u55
            have v59 : q_V r49.2 = q_V δ := (u56).trans rfl
            have v60 := kr_t (kr_r (ad := ad)) u57
            have f61 := cb_12_36 i51 k_a0
            have f62 := ti_b r49.1
            have f63 := ti_b r49.1
            exact ⟨by assumption, ⟨kp_w (by decide) u58, v59, kr_w (by decide) v60⟩, by first | assumption | omega, by first | assumption | omega, by first | assumption | omega⟩
          · have c64 : vx26.toInt < x1.toInt := o_nle h47
            refine ok_mono (kj_X12_touchPut_64 L hN (a0 := a0) (x1 := x1) (x2 := x2) (x3 := x3) (x4 := x4) (xs0 := vx26) hT k_a0 (show 2 ≤ (x2).toInt by first | assumption | omega) (show (x2).toInt ≤ 16 by first | assumption | omega) (show 0 ≤ (x3).toInt by first | assumption | omega) (show (x3).toInt ≤ (x4).toInt by first | assumption | omega) (show (x4).toInt ≤ (x3).toInt + 2000 by first | assumption | omega) (show (x4).toInt ≤ (q_I δ 12 36 a0).toInt by first | assumption | omega) (show (q_I δ 12 36 a0).toInt + 2000 * LGf (x2).toInt ≤ 12000 by first | assumption | omega) (show (x2).toInt ≤ K by first | assumption | omega) (show (x3).toInt < (x4).toInt by first | assumption | omega) I) (fun r65 hr66 => ?_)
            obtain ⟨i67, ⟨u71, u72, u73⟩, p68, p69, p70⟩ := hr66
            have u74 := kp_t kp_r u71
            have v75 : q_V r65.2 = q_V δ := (u72).trans rfl
            have v76 := kr_t (kr_r (ad := ad)) u73
            have f77 := cb_12_36 i67 k_a0
            have f78 := ti_b r65.1
            have f79 := ti_b r65.1
            exact ⟨by assumption, ⟨kp_w (by decide) u74, v75, kr_w (by decide) v76⟩, by first | assumption | omega, by first | assumption | omega, by first | assumption | omega⟩
        · have c80 : x1.toInt < vx14.toInt := o_nle h45
          refine ok_mono (kj_X12_touchPut_64 L hN (a0 := a0) (x1 := x1) (x2 := x2) (x3 := x3) (x4 := x4) (xs0 := vx14) hT k_a0 (show 2 ≤ (x2).toInt by first | assumption | omega) (show (x2).toInt ≤ 16 by first | assumption | omega) (show 0 ≤ (x3).toInt by first | assumption | omega) (show (x3).toInt ≤ (x4).toInt by first | assumption | omega) (show (x4).toInt ≤ (x3).toInt + 2000 by first | assumption | omega) (show (x4).toInt ≤ (q_I δ 12 36 a0).toInt by first | assumption | omega) (show (q_I δ 12 36 a0).toInt + 2000 * LGf (x2).toInt ≤ 12000 by first | assumption | omega) (show (x2).toInt ≤ K by first | assumption | omega) (show (x3).toInt < (x4).toInt by first | assumption | omega) I) (fun r81 hr82 => ?_)
          obtain ⟨i83, ⟨u87, u88, u89⟩, p84, p85, p86⟩ := hr82
          have u90 := kp_t kp_r u87
          have v91 : q_V r81.2 = q_V δ := (u88).trans rfl
          have v92 := kr_t (kr_r (ad := ad)) u89
          have f93 := cb_12_36 i83 k_a0
          have f94 := ti_b r81.1
          have f95 := ti_b r81.1
          exact ⟨by assumption, ⟨kp_w (by decide) u90, v91, kr_w (by decide) v92⟩, by first | assumption | omega, by first | assumption | omega, by first | assumption | omega⟩
set_option maxHeartbeats 4000000 in
theorem kj_X12_touchDrop_121 {ad : List Nat} {h : hp} (L : Lay TLx ad h) {δ0 : dp} {N : Nat} (hN : 10000000 ≤ N) {T : Nat → Int32 → Int32 → Int32 → Int32 → Int32 → dp → Option (Int32 × dp)} {K : Int} (hT : ∀ (a0 : Nat) (x1 : Int32) (x2 : Int32) (x3 : Int32) (x4 : Int32) (x5 : Int32) (δ : dp), q_K h.1 a0 = 12 → 1 ≤ (x3).toInt → (x3).toInt ≤ 16 → 0 ≤ (x4).toInt → (x4).toInt ≤ (x5).toInt → (x5).toInt ≤ (x4).toInt + 2000 → (x5).toInt ≤ (q_I δ 12 36 a0).toInt → (q_I δ 12 36 a0).toInt + 2000 * LGf (x3).toInt ≤ 12000 → (x3).toInt < K → RI ad h.1 δ0 δ → ok (T a0 x1 x2 x3 x4 x5 δ) (fun r => RI ad h.1 δ0 r.2 ∧ (kp [(12, 36)] δ r.2 ∧ q_V r.2 = q_V δ ∧ kr ad [119] δ r.2) ∧ (q_I r.2 12 36 a0).toInt = (q_I δ 12 36 a0).toInt ∧ 1 ≤ (r.1).toInt ∧ (r.1).toInt ≤ VBf (x3).toInt)) {a0 : Nat} {x1 : Int32} {x2 : Int32} {x3 : Int32} {x4 : Int32} {xs0 : Int32} {x8v : Int32} (k_a0 : q_K h.1 a0 = 12) {δ : dp} (z0 : 2 ≤ (x2).toInt) (z1 : (x2).toInt ≤ 16) (z2 : 0 ≤ (x3).toInt) (z3 : (x3).toInt ≤ (x4).toInt) (z4 : (x4).toInt ≤ (x3).toInt + 2000) (z5 : (x4).toInt ≤ (q_I δ 12 36 a0).toInt) (z6 : (q_I δ 12 36 a0).toInt + 2000 * LGf (x2).toInt ≤ 12000) (z7 : (x2).toInt ≤ K) (z8 : (x3).toInt < (x4).toInt) (z9 : 1 ≤ (x8v).toInt) (z10 : (x8v).toInt ≤ 3) (I : RI ad h.1 δ0 δ) : ok (J_X12_touchDrop_121 N h.1 T a0 x1 x2 x3 x4 xs0 x8v δ) (fun r => RI ad h.1 δ0 r.2 ∧ (kp [(12, 36)] δ r.2 ∧ q_V r.2 = q_V δ ∧ kr ad [119] δ r.2) ∧ (q_I r.2 12 36 a0).toInt = (q_I δ 12 36 a0).toInt ∧ 1 ≤ (r.1).toInt ∧ (r.1).toInt ≤ VBf (x2).toInt) := by
  unfold J_X12_touchDrop_121
  have f1 := lgb (x2).toInt
  have f2 := ti_b x2
  have f3 := ti_b x3
  have f4 := ti_b x4
  have f5 := cb_12_36 I k_a0
  have f6 := ti_b x8v
  refine ok_bind (k_X12_roomMany L hN (a0 := a0) (x1 := xs0) (x2 := x2) (x3 := x3) (x4 := x4) k_a0 (show 2 ≤ (x2).toInt by first | assumption | omega) (show (x2).toInt ≤ 16 by first | assumption | omega) (show 0 ≤ (x3).toInt by first | assumption | omega) (show (x3).toInt ≤ (x4).toInt by first | assumption | omega) (show (x4).toInt ≤ 14000 by first | assumption | omega) I) (fun r7 hr8 => ?_)
  have i9 := hr8
  try rw [i9]
  have f10 := ti_b r7.1
  refine ok_ite (fun h11 => ?_) (fun h11 => ?_)
  · have c12 : r7.1.toInt = (0 : Int) := o_eq h11
    exact ok_some (show RI ad h.1 δ0 δ ∧ (kp [(12, 36)] δ δ ∧ q_V δ = q_V δ ∧ kr ad [119] δ δ) ∧ (q_I δ 12 36 a0).toInt = (q_I δ 12 36 a0).toInt ∧ 1 ≤ (x8v).toInt ∧ (x8v).toInt ≤ VBf (x2).toInt from ⟨I, ⟨kp_w (by decide) kp_r, rfl, kr_w (by decide) (kr_r (ad := ad))⟩, by first | assumption | omega, by first | assumption | omega, by first | assumption | omega⟩)
  · have c13 : r7.1.toInt ≠ (0 : Int) := o_ne h11
    refine ok_ite (fun h14 => ?_) (fun h14 => ?_)
    · have c15 : r7.1.toInt = (1 : Int) := o_eq h14
      refine ok_bind (k_X12_isInside L hN (a0 := a0) (x1 := xs0) (x2 := x3) (x3 := x4) k_a0 (show 0 ≤ (x3).toInt by first | assumption | omega) (show (x3).toInt ≤ (x4).toInt by first | assumption | omega) (show (x4).toInt ≤ 14000 by first | assumption | omega) I) (fun r16 hr17 => ?_)
      obtain ⟨i18, p19⟩ := hr17
      try rw [i18]
      have f20 := bo_l p19
      have f21 := ti_b r16.1
      refine ok_ite (fun h22 => ?_) (fun h22 => ?_)
      · have c23 : r16.1.toInt = (0 : Int) := o_eq h22
        unfold J_X12_touchDrop_165
        unfold J_X12_touchDrop_166
        refine ok_bind (k_bX12_inRoom L hN (a0 := a0) (x1 := (1 : Int32)) (x2 := xs0) (x3 := x2) (x4 := x3) (x5 := x4) hT k_a0 (show 2 ≤ (x2).toInt by first | assumption | omega) (show (x2).toInt ≤ 16 by first | assumption | omega) (show 0 ≤ (x3).toInt by first | assumption | omega) (show (x3).toInt ≤ (x4).toInt by first | assumption | omega) (show (x4).toInt ≤ (x3).toInt + 2000 by first | assumption | omega) (show (x4).toInt ≤ (q_I δ 12 36 a0).toInt by first | assumption | omega) (show (q_I δ 12 36 a0).toInt + 2000 * LGf (x2).toInt ≤ 12000 by first | assumption | omega) (show (x2).toInt ≤ K by first | assumption | omega) I) (fun r24 hr25 => ?_)
        obtain ⟨i26, ⟨u30, u31, u32⟩, p27, p28, p29⟩ := hr25
        have u33 := kp_t kp_r u30
        have v34 : q_V r24.2 = q_V δ := (u31).trans rfl
        have v35 := kr_t (kr_r (ad := ad)) u32
        have f36 := cb_12_36 i26 k_a0
        have f37 := ti_b r24.1
        have f38 := ti_b r24.1
        refine ok_ite (fun h39 => ?_) (fun h39 => ?_)
        · have c40 : (0 : Int) = (0 : Int) := o_eq h39
          unfold J_X12_touchDrop_202
          first | (have q42 := te_add x8v r24.1 (by omega) (by omega); obtain ⟨f43, f44, f45⟩ := q42) | (obtain ⟨q42, f43, f44, f45⟩ := ti_add x8v r24.1)
          first | (have q47 := te_addc (c := 0) (n := 0) rfl (x8v + r24.1) (by omega) (by omega); obtain ⟨f48, f49, f50⟩ := q47) | (obtain ⟨q47, f48, f49, f50⟩ := ti_addc (c := 0) (n := 0) rfl (x8v + r24.1))
          exact ok_some (show RI ad h.1 δ0 r24.2 ∧ (kp [(12, 36)] δ r24.2 ∧ q_V r24.2 = q_V δ ∧ kr ad [119] δ r24.2) ∧ (q_I r24.2 12 36 a0).toInt = (q_I δ 12 36 a0).toInt ∧ 1 ≤ (((x8v + r24.1) + (0 : Int32))).toInt ∧ (((x8v + r24.1) + (0 : Int32))).toInt ≤ VBf (x2).toInt from ⟨i26, ⟨kp_w (by decide) u33, v34, kr_w (by decide) v35⟩, by first | assumption | omega, by first | assumption | omega, by first | assumption | omega⟩)
        · have c51 : (0 : Int) ≠ (0 : Int) := o_ne h39
          refine ok_bind (k_bX12_inList L hN (a0 := a0) (x1 := (1 : Int32)) (x2 := xs0) (x3 := x2) (x4 := x3) (x5 := x4) hT k_a0 (show 2 ≤ (x2).toInt by first | assumption | omega) (show (x2).toInt ≤ 16 by first | assumption | omega) (show 0 ≤ (x3).toInt by first | assumption | omega) (show (x3).toInt ≤ (x4).toInt by first | assumption | omega) (show (x4).toInt ≤ (x3).toInt + 2000 by first | assumption | omega) (show (x4).toInt ≤ (q_I r24.2 12 36 a0).toInt by first | assumption | omega) (show (q_I r24.2 12 36 a0).toInt + 2000 * LGf (x2).toInt ≤ 12000 by first | assumption | omega) (show (x2).toInt ≤ K by first | assumption | omega) i26) (fun r52 hr53 => ?_)
          obtain ⟨i54, ⟨u58, u59, u60⟩, p55, p56, p57⟩ := hr53
          have u61 := kp_t u33 u58
          have v62 : q_V r52.2 = q_V δ := (u59).trans v34
          have v63 := kr_t v35 u60
          have f64 := cb_12_36 i54 k_a0
          have f65 := ti_b r52.1
          have f66 := ti_b r52.1
          unfold J_X12_touchDrop_202
          first | (have q68 := te_add x8v r24.1 (by omega) (by omega); obtain ⟨f69, f70, f71⟩ := q68) | (obtain ⟨q68, f69, f70, f71⟩ := ti_add x8v r24.1)
          first | (have q73 := te_add (x8v + r24.1) r52.1 (by omega) (by omega); obtain ⟨f74, f75, f76⟩ := q73) | (obtain ⟨q73, f74, f75, f76⟩ := ti_add (x8v + r24.1) r52.1)
          exact ok_some (show RI ad h.1 δ0 r52.2 ∧ (kp [(12, 36)] δ r52.2 ∧ q_V r52.2 = q_V δ ∧ kr ad [119] δ r52.2) ∧ (q_I r52.2 12 36 a0).toInt = (q_I δ 12 36 a0).toInt ∧ 1 ≤ (((x8v + r24.1) + r52.1)).toInt ∧ (((x8v + r24.1) + r52.1)).toInt ≤ VBf (x2).toInt from ⟨i54, ⟨kp_w (by decide) u61, v62, kr_w (by decide) v63⟩, by first | assumption | omega, by first | assumption | omega, by first | assumption | omega⟩)
      · have c77 : r16.1.toInt ≠ (0 : Int) := o_ne h22
        unfold J_X12_touchDrop_166
        refine ok_bind (k_bX12_inRoom L hN (a0 := a0) (x1 := (1 : Int32)) (x2 := xs0) (x3 := x2) (x4 := x3) (x5 := x4) hT k_a0 (show 2 ≤ (x2).toInt by first | assumption | omega) (show (x2).toInt ≤ 16 by first | assumption | omega) (show 0 ≤ (x3).toInt by first | assumption | omega) (show (x3).toInt ≤ (x4).toInt by first | assumption | omega) (show (x4).toInt ≤ (x3).toInt + 2000 by first | assumption | omega) (show (x4).toInt ≤ (q_I δ 12 36 a0).toInt by first | assumption | omega) (show (q_I δ 12 36 a0).toInt + 2000 * LGf (x2).toInt ≤ 12000 by first | assumption | omega) (show (x2).toInt ≤ K by first | assumption | omega) I) (fun r78 hr79 => ?_)
        obtain ⟨i80, ⟨u84, u85, u86⟩, p81, p82, p83⟩ := hr79
        have u87 := kp_t kp_r u84
        have v88 : q_V r78.2 = q_V δ := (u85).trans rfl
        have v89 := kr_t (kr_r (ad := ad)) u86
        have f90 := cb_12_36 i80 k_a0
        have f91 := ti_b r78.1
        have f92 := ti_b r78.1
        refine ok_ite (fun h93 => ?_) (fun h93 => ?_)
        · have c94 : (1 : Int) = (0 : Int) := o_eq h93
          unfold J_X12_touchDrop_202
          first | (have q96 := te_add x8v r78.1 (by omega) (by omega); obtain ⟨f97, f98, f99⟩ := q96) | (obtain ⟨q96, f97, f98, f99⟩ := ti_add x8v r78.1)
          first | (have q101 := te_addc (c := 0) (n := 0) rfl (x8v + r78.1) (by omega) (by omega); obtain ⟨f102, f103, f104⟩ := q101) | (obtain ⟨q101, f102, f103, f104⟩ := ti_addc (c := 0) (n := 0) rfl (x8v + r78.1))
          exact ok_some (show RI ad h.1 δ0 r78.2 ∧ (kp [(12, 36)] δ r78.2 ∧ q_V r78.2 = q_V δ ∧ kr ad [119] δ r78.2) ∧ (q_I r78.2 12 36 a0).toInt = (q_I δ 12 36 a0).toInt ∧ 1 ≤ (((x8v + r78.1) + (0 : Int32))).toInt ∧ (((x8v + r78.1) + (0 : Int32))).toInt ≤ VBf (x2).toInt from ⟨i80, ⟨kp_w (by decide) u87, v88, kr_w (by decide) v89⟩, by first | assumption | omega, by first | assumption | omega, by first | assumption | omega⟩)
        · have c105 : (1 : Int) ≠ (0 : Int) := o_ne h93
          refine ok_bind (k_bX12_inList L hN (a0 := a0) (x1 := (1 : Int32)) (x2 := xs0) (x3 := x2) (x4 := x3) (x5 := x4) hT k_a0 (show 2 ≤ (x2).toInt by first | assumption | omega) (show (x2).toInt ≤ 16 by first | assumption | omega) (show 0 ≤ (x3).toInt by first | assumption | omega) (show (x3).toInt ≤ (x4).toInt by first | assumption | omega) (show (x4).toInt ≤ (x3).toInt + 2000 by first | assumption | omega) (show (x4).toInt ≤ (q_I r78.2 12 36 a0).toInt by first | assumption | omega) (show (q_I r78.2 12 36 a0).toInt + 2000 * LGf (x2).toInt ≤ 12000 by first | assumption | omega) (show (x2).toInt ≤ K by first | assumption | omega) i80) (fun r106 hr107 => ?_)
          obtain ⟨i108, ⟨u112, u113, u114⟩, p109, p110, p111⟩ := hr107
          have u115 := kp_t u87 u112
          have v116 : q_V r106.2 = q_V δ := (u113).trans v88
          have v117 := kr_t v89 u114
          have f118 := cb_12_36 i108 k_a0
          have f119 := ti_b r106.1
          have f120 := ti_b r106.1
          unfold J_X12_touchDrop_202
          first | (have q122 := te_add x8v r78.1 (by omega) (by omega); obtain ⟨f123, f124, f125⟩ := q122) | (obtain ⟨q122, f123, f124, f125⟩ := ti_add x8v r78.1)
          first | (have q127 := te_add (x8v + r78.1) r106.1 (by omega) (by omega); obtain ⟨f128, f129, f130⟩ := q127) | (obtain ⟨q127, f128, f129, f130⟩ := ti_add (x8v + r78.1) r106.1)
          exact ok_some (show RI ad h.1 δ0 r106.2 ∧ (kp [(12, 36)] δ r106.2 ∧ q_V r106.2 = q_V δ ∧ kr ad [119] δ r106.2) ∧ (q_I r106.2 12 36 a0).toInt = (q_I δ 12 36 a0).toInt ∧ 1 ≤ (((x8v + r78.1) + r106.1)).toInt ∧ (((x8v + r78.1) + r106.1)).toInt ≤ VBf (x2).toInt from ⟨i108, ⟨kp_w (by decide) u115, v116, kr_w (by decide) v117⟩, by first | assumption | omega, by first | assumption | omega, by first | assumption | omega⟩)
    · have c131 : r7.1.toInt ≠ (1 : Int) := o_ne h14
      unfold J_X12_touchDrop_165
      unfold J_X12_touchDrop_166
      refine ok_bind (k_bX12_inRoom L hN (a0 := a0) (x1 := (1 : Int32)) (x2 := xs0) (x3 := x2) (x4 := x3) (x5 := x4) hT k_a0 (show 2 ≤ (x2).toInt by first | assumption | omega) (show (x2).toInt ≤ 16 by first | assumption | omega) (show 0 ≤ (x3).toInt by first | assumption | omega) (show (x3).toInt ≤ (x4).toInt by first | assumption | omega) (show (x4).toInt ≤ (x3).toInt + 2000 by first | assumption | omega) (show (x4).toInt ≤ (q_I δ 12 36 a0).toInt by first | assumption | omega) (show (q_I δ 12 36 a0).toInt + 2000 * LGf (x2).toInt ≤ 12000 by first | assumption | omega) (show (x2).toInt ≤ K by first | assumption | omega) I) (fun r132 hr133 => ?_)
      obtain ⟨i134, ⟨u138, u139, u140⟩, p135, p136, p137⟩ := hr133
      have u141 := kp_t kp_r u138
      have v142 : q_V r132.2 = q_V δ := (u139).trans rfl
      have v143 := kr_t (kr_r (ad := ad)) u140
      have f144 := cb_12_36 i134 k_a0
      have f145 := ti_b r132.1
      have f146 := ti_b r132.1
      refine ok_ite (fun h147 => ?_) (fun h147 => ?_)
      · have c148 : (0 : Int) = (0 : Int) := o_eq h147
        unfold J_X12_touchDrop_202
        first | (have q150 := te_add x8v r132.1 (by omega) (by omega); obtain ⟨f151, f152, f153⟩ := q150) | (obtain ⟨q150, f151, f152, f153⟩ := ti_add x8v r132.1)
        first | (have q155 := te_addc (c := 0) (n := 0) rfl (x8v + r132.1) (by omega) (by omega); obtain ⟨f156, f157, f158⟩ := q155) | (obtain ⟨q155, f156, f157, f158⟩ := ti_addc (c := 0) (n := 0) rfl (x8v + r132.1))
        exact ok_some (show RI ad h.1 δ0 r132.2 ∧ (kp [(12, 36)] δ r132.2 ∧ q_V r132.2 = q_V δ ∧ kr ad [119] δ r132.2) ∧ (q_I r132.2 12 36 a0).toInt = (q_I δ 12 36 a0).toInt ∧ 1 ≤ (((x8v + r132.1) + (0 : Int32))).toInt ∧ (((x8v + r132.1) + (0 : Int32))).toInt ≤ VBf (x2).toInt from ⟨i134, ⟨kp_w (by decide) u141, v142, kr_w (by decide) v143⟩, by first | assumption | omega, by first | assumption | omega, by first | assumption | omega⟩)
      · have c159 : (0 : Int) ≠ (0 : Int) := o_ne h147
        refine ok_bind (k_bX12_inList L hN (a0 := a0) (x1 := (1 : Int32)) (x2 := xs0) (x3 := x2) (x4 := x3) (x5 := x4) hT k_a0 (show 2 ≤ (x2).toInt by first | assumption | omega) (show (x2).toInt ≤ 16 by first | assumption | omega) (show 0 ≤ (x3).toInt by first | assumption | omega) (show (x3).toInt ≤ (x4).toInt by first | assumption | omega) (show (x4).toInt ≤ (x3).toInt + 2000 by first | assumption | omega) (show (x4).toInt ≤ (q_I r132.2 12 36 a0).toInt by first | assumption | omega) (show (q_I r132.2 12 36 a0).toInt + 2000 * LGf (x2).toInt ≤ 12000 by first | assumption | omega) (show (x2).toInt ≤ K by first | assumption | omega) i134) (fun r160 hr161 => ?_)
        obtain ⟨i162, ⟨u166, u167, u168⟩, p163, p164, p165⟩ := hr161
        have u169 := kp_t u141 u166
        have v170 : q_V r160.2 = q_V δ := (u167).trans v142
        have v171 := kr_t v143 u168
        have f172 := cb_12_36 i162 k_a0
        have f173 := ti_b r160.1
        have f174 := ti_b r160.1
        unfold J_X12_touchDrop_202
        first | (have q176 := te_add x8v r132.1 (by omega) (by omega); obtain ⟨f177, f178, f179⟩ := q176) | (obtain ⟨q176, f177, f178, f179⟩ := ti_add x8v r132.1)
        first | (have q181 := te_add (x8v + r132.1) r160.1 (by omega) (by omega); obtain ⟨f182, f183, f184⟩ := q181) | (obtain ⟨q181, f182, f183, f184⟩ := ti_add (x8v + r132.1) r160.1)
        exact ok_some (show RI ad h.1 δ0 r160.2 ∧ (kp [(12, 36)] δ r160.2 ∧ q_V r160.2 = q_V δ ∧ kr ad [119] δ r160.2) ∧ (q_I r160.2 12 36 a0).toInt = (q_I δ 12 36 a0).toInt ∧ 1 ≤ (((x8v + r132.1) + r160.1)).toInt ∧ (((x8v + r132.1) + r160.1)).toInt ≤ VBf (x2).toInt from ⟨i162, ⟨kp_w (by decide) u169, v170, kr_w (by decide) v171⟩, by first | assumption | omega, by first | assumption | omega, by first | assumption | omega⟩)
set_option maxHeartbeats 4000000 in
theorem kj_X12_touchDrop_36 {ad : List Nat} {h : hp} (L : Lay TLx ad h) {δ0 : dp} {N : Nat} (hN : 10000000 ≤ N) {T : Nat → Int32 → Int32 → Int32 → Int32 → Int32 → dp → Option (Int32 × dp)} {K : Int} (hT : ∀ (a0 : Nat) (x1 : Int32) (x2 : Int32) (x3 : Int32) (x4 : Int32) (x5 : Int32) (δ : dp), q_K h.1 a0 = 12 → 1 ≤ (x3).toInt → (x3).toInt ≤ 16 → 0 ≤ (x4).toInt → (x4).toInt ≤ (x5).toInt → (x5).toInt ≤ (x4).toInt + 2000 → (x5).toInt ≤ (q_I δ 12 36 a0).toInt → (q_I δ 12 36 a0).toInt + 2000 * LGf (x3).toInt ≤ 12000 → (x3).toInt < K → RI ad h.1 δ0 δ → ok (T a0 x1 x2 x3 x4 x5 δ) (fun r => RI ad h.1 δ0 r.2 ∧ (kp [(12, 36)] δ r.2 ∧ q_V r.2 = q_V δ ∧ kr ad [119] δ r.2) ∧ (q_I r.2 12 36 a0).toInt = (q_I δ 12 36 a0).toInt ∧ 1 ≤ (r.1).toInt ∧ (r.1).toInt ≤ VBf (x3).toInt)) {a0 : Nat} {x1 : Int32} {x2 : Int32} {x3 : Int32} {x4 : Int32} {xs0 : Int32} {x5v : Int32} {x6v : Int32} (k_a0 : q_K h.1 a0 = 12) {δ : dp} (z0 : 2 ≤ (x2).toInt) (z1 : (x2).toInt ≤ 16) (z2 : 0 ≤ (x3).toInt) (z3 : (x3).toInt ≤ (x4).toInt) (z4 : (x4).toInt ≤ (x3).toInt + 2000) (z5 : (x4).toInt ≤ (q_I δ 12 36 a0).toInt) (z6 : (q_I δ 12 36 a0).toInt + 2000 * LGf (x2).toInt ≤ 12000) (z7 : (x2).toInt ≤ K) (z8 : (x3).toInt < (x4).toInt) (z9 : 0 ≤ (xs0).toInt) (z10 : (xs0).toInt ≤ 1) (I : RI ad h.1 δ0 δ) : ok (J_X12_touchDrop_36 N h.1 T a0 x1 x2 x3 x4 xs0 x5v x6v δ) (fun r => RI ad h.1 δ0 r.2 ∧ (kp [(12, 36)] δ r.2 ∧ q_V r.2 = q_V δ ∧ kr ad [119] δ r.2) ∧ (q_I r.2 12 36 a0).toInt = (q_I δ 12 36 a0).toInt ∧ 1 ≤ (r.1).toInt ∧ (r.1).toInt ≤ VBf (x2).toInt) := by
  unfold J_X12_touchDrop_36
  have f1 := lgb (x2).toInt
  have f2 := ti_b x2
  have f3 := ti_b x3
  have f4 := ti_b x4
  have f5 := cb_12_36 I k_a0
  have f6 := ti_b xs0
  have f7 := ti_b x1
  have f8 := ti_b x5v
  refine ok_ite (fun h9 => ?_) (fun h9 => ?_)
  · have c10 : x1.toInt < x5v.toInt := o_lt h9
    unfold J_X12_touchDrop_71
    exact ok_some (show RI ad h.1 δ0 δ ∧ (kp [(12, 36)] δ δ ∧ q_V δ = q_V δ ∧ kr ad [119] δ δ) ∧ (q_I δ 12 36 a0).toInt = (q_I δ 12 36 a0).toInt ∧ 1 ≤ (1 : Int) ∧ (1 : Int) ≤ VBf (x2).toInt from ⟨I, ⟨kp_w (by decide) kp_r, rfl, kr_w (by decide) (kr_r (ad := ad))⟩, by first | assumption | omega, by first | assumption | omega, by first | assumption | omega⟩)
  · have c11 : x5v.toInt ≤ x1.toInt := o_nlt h9
    have f12 := ti_b x6v
    refine ok_ite (fun h13 => ?_) (fun h13 => ?_)
    · have c14 : x6v.toInt < x1.toInt := o_lt h13
      unfold J_X12_touchDrop_71
      exact ok_some (show RI ad h.1 δ0 δ ∧ (kp [(12, 36)] δ δ ∧ q_V δ = q_V δ ∧ kr ad [119] δ δ) ∧ (q_I δ 12 36 a0).toInt = (q_I δ 12 36 a0).toInt ∧ 1 ≤ (1 : Int) ∧ (1 : Int) ≤ VBf (x2).toInt from ⟨I, ⟨kp_w (by decide) kp_r, rfl, kr_w (by decide) (kr_r (ad := ad))⟩, by first | assumption | omega, by first | assumption | omega, by first | assumption | omega⟩)
    · have c15 : x1.toInt ≤ x6v.toInt := o_nlt h13
      first | (have q17 := te_sub x4 x3 (by omega) (by omega); obtain ⟨f18, f19, f20⟩ := q17) | (obtain ⟨q17, f18, f19, f20⟩ := ti_sub x4 x3)
      refine ok_ite (fun h21 => ?_) (fun h21 => ?_)
      · have c22 : (x4 - x3).toInt = (1 : Int) := o_eq h21
        unfold J_X12_touchDrop_71
        exact ok_some (show RI ad h.1 δ0 δ ∧ (kp [(12, 36)] δ δ ∧ q_V δ = q_V δ ∧ kr ad [119] δ δ) ∧ (q_I δ 12 36 a0).toInt = (q_I δ 12 36 a0).toInt ∧ 1 ≤ (1 : Int) ∧ (1 : Int) ≤ VBf (x2).toInt from ⟨I, ⟨kp_w (by decide) kp_r, rfl, kr_w (by decide) (kr_r (ad := ad))⟩, by first | assumption | omega, by first | assumption | omega, by first | assumption | omega⟩)
      · have c23 : (x4 - x3).toInt ≠ (1 : Int) := o_ne h21
        refine ok_ite (fun h24 => ?_) (fun h24 => ?_)
        · have c25 : xs0.toInt = (0 : Int) := o_eq h24
          unfold J_X12_touchDrop_73
          refine ok_ite (fun h26 => ?_) (fun h26 => ?_)
          · have c27 : xs0.toInt = (0 : Int) := o_eq h26
            unfold J_X12_touchDrop_83
            refine ok_ite (fun h28 => ?_) (fun h28 => ?_)
            · have c29 : x1.toInt = x5v.toInt := o_eq h28
              obtain ⟨b30, o31, k32, n33, w34⟩ := gO_12_35 L k_a0
              obtain rfl := gS_12_35 L k_a0 o31
              refine ok_at o31 ?_
              first | (have q36 := te_addc (c := 1) (n := 1) rfl x3 (by omega) (by omega); obtain ⟨f37, f38, f39⟩ := q36) | (obtain ⟨q36, f37, f38, f39⟩ := ti_addc (c := 1) (n := 1) rfl x3)
              have t40 := ti_tn (x3 + (1 : Int32))
              refine ok_gd (fun hc41 => ?_) ?_
              · rcases hc41 with hc41 | hc41
                · have c42 : (x3 + (1 : Int32)).toInt < (0 : Int) := o_lt hc41
                  omega
                · omega
              refine ok_mono (kj_X12_touchDrop_121 L hN (a0 := a0) (x1 := x1) (x2 := x2) (x3 := x3) (x4 := x4) (xs0 := (q_R δ (Ad ad 119) (x3 + (1 : Int32)).toNatClampNeg)) (x8v := (1 : Int32)) hT k_a0 (show 2 ≤ (x2).toInt by first | assumption | omega) (show (x2).toInt ≤ 16 by first | assumption | omega) (show 0 ≤ (x3).toInt by first | assumption | omega) (show (x3).toInt ≤ (x4).toInt by first | assumption | omega) (show (x4).toInt ≤ (x3).toInt + 2000 by first | assumption | omega) (show (x4).toInt ≤ (q_I δ 12 36 a0).toInt by first | assumption | omega) (show (q_I δ 12 36 a0).toInt + 2000 * LGf (x2).toInt ≤ 12000 by first | assumption | omega) (show (x2).toInt ≤ K by first | assumption | omega) (show (x3).toInt < (x4).toInt by first | assumption | omega) (show 1 ≤ (1 : Int) by first | assumption | omega) (show (1 : Int) ≤ 3 by first | assumption | omega) I) (fun r43 hr44 => ?_)
              obtain ⟨i45, ⟨u49, u50, u51⟩, p46, p47, p48⟩ := hr44
              have u52 := kp_t kp_r u49
              have v53 : q_V r43.2 = q_V δ := (u50).trans rfl
              have v54 := kr_t (kr_r (ad := ad)) u51
              have f55 := cb_12_36 i45 k_a0
              have f56 := ti_b r43.1
              have f57 := ti_b r43.1
              exact ⟨by assumption, ⟨kp_w (by decide) u52, v53, kr_w (by decide) v54⟩, by first | assumption | omega, by first | assumption | omega, by first | assumption | omega⟩
            · have c58 : x1.toInt ≠ x5v.toInt := o_ne h28
              refine ok_ite (fun h59 => ?_) (fun h59 => ?_)
              · have c60 : x1.toInt = x6v.toInt := o_eq h59
                obtain ⟨b61, o62, k63, n64, w65⟩ := gO_12_35 L k_a0
                obtain rfl := gS_12_35 L k_a0 o62
                refine ok_at o62 ?_
                first | (have q67 := te_subc (c := 2) (n := 2) rfl x4 (by omega) (by omega); obtain ⟨f68, f69, f70⟩ := q67) | (obtain ⟨q67, f68, f69, f70⟩ := ti_subc (c := 2) (n := 2) rfl x4)
                have t71 := ti_tn (x4 - (2 : Int32))
                refine ok_gd (fun hc72 => ?_) ?_
                · rcases hc72 with hc72 | hc72
                  · have c73 : (x4 - (2 : Int32)).toInt < (0 : Int) := o_lt hc72
                    omega
                  · omega
                refine ok_mono (kj_X12_touchDrop_121 L hN (a0 := a0) (x1 := x1) (x2 := x2) (x3 := x3) (x4 := x4) (xs0 := (q_R δ (Ad ad 119) (x4 - (2 : Int32)).toNatClampNeg)) (x8v := (1 : Int32)) hT k_a0 (show 2 ≤ (x2).toInt by first | assumption | omega) (show (x2).toInt ≤ 16 by first | assumption | omega) (show 0 ≤ (x3).toInt by first | assumption | omega) (show (x3).toInt ≤ (x4).toInt by first | assumption | omega) (show (x4).toInt ≤ (x3).toInt + 2000 by first | assumption | omega) (show (x4).toInt ≤ (q_I δ 12 36 a0).toInt by first | assumption | omega) (show (q_I δ 12 36 a0).toInt + 2000 * LGf (x2).toInt ≤ 12000 by first | assumption | omega) (show (x2).toInt ≤ K by first | assumption | omega) (show (x3).toInt < (x4).toInt by first | assumption | omega) (show 1 ≤ (1 : Int) by first | assumption | omega) (show (1 : Int) ≤ 3 by first | assumption | omega) I) (fun r74 hr75 => ?_)
                obtain ⟨i76, ⟨u80, u81, u82⟩, p77, p78, p79⟩ := hr75
                have u83 := kp_t kp_r u80
                have v84 : q_V r74.2 = q_V δ := (u81).trans rfl
                have v85 := kr_t (kr_r (ad := ad)) u82
                have f86 := cb_12_36 i76 k_a0
                have f87 := ti_b r74.1
                have f88 := ti_b r74.1
                exact ⟨by assumption, ⟨kp_w (by decide) u83, v84, kr_w (by decide) v85⟩, by first | assumption | omega, by first | assumption | omega, by first | assumption | omega⟩
              · have c89 : x1.toInt ≠ x6v.toInt := o_ne h59
                refine ok_mono (kj_X12_touchDrop_121 L hN (a0 := a0) (x1 := x1) (x2 := x2) (x3 := x3) (x4 := x4) (xs0 := x1) (x8v := (1 : Int32)) hT k_a0 (show 2 ≤ (x2).toInt by first | assumption | omega) (show (x2).toInt ≤ 16 by first | assumption | omega) (show 0 ≤ (x3).toInt by first | assumption | omega) (show (x3).toInt ≤ (x4).toInt by first | assumption | omega) (show (x4).toInt ≤ (x3).toInt + 2000 by first | assumption | omega) (show (x4).toInt ≤ (q_I δ 12 36 a0).toInt by first | assumption | omega) (show (q_I δ 12 36 a0).toInt + 2000 * LGf (x2).toInt ≤ 12000 by first | assumption | omega) (show (x2).toInt ≤ K by first | assumption | omega) (show (x3).toInt < (x4).toInt by first | assumption | omega) (show 1 ≤ (1 : Int) by first | assumption | omega) (show (1 : Int) ≤ 3 by first | assumption | omega) I) (fun r90 hr91 => ?_)
                obtain ⟨i92, ⟨u96, u97, u98⟩, p93, p94, p95⟩ := hr91
                have u99 := kp_t kp_r u96
                have v100 : q_V r90.2 = q_V δ := (u97).trans rfl
                have v101 := kr_t (kr_r (ad := ad)) u98
                have f102 := cb_12_36 i92 k_a0
                have f103 := ti_b r90.1
                have f104 := ti_b r90.1
                exact ⟨by assumption, ⟨kp_w (by decide) u99, v100, kr_w (by decide) v101⟩, by first | assumption | omega, by first | assumption | omega, by first | assumption | omega⟩
          · have c105 : xs0.toInt ≠ (0 : Int) := o_ne h26
            unfold J_X12_touchDrop_83
            refine ok_ite (fun h106 => ?_) (fun h106 => ?_)
            · have c107 : x1.toInt = x5v.toInt := o_eq h106
              obtain ⟨b108, o109, k110, n111, w112⟩ := gO_12_35 L k_a0
              obtain rfl := gS_12_35 L k_a0 o109
              refine ok_at o109 ?_
              first | (have q114 := te_addc (c := 1) (n := 1) rfl x3 (by omega) (by omega); obtain ⟨f115, f116, f117⟩ := q114) | (obtain ⟨q114, f115, f116, f117⟩ := ti_addc (c := 1) (n := 1) rfl x3)
              have t118 := ti_tn (x3 + (1 : Int32))
              refine ok_gd (fun hc119 => ?_) ?_
              · rcases hc119 with hc119 | hc119
                · have c120 : (x3 + (1 : Int32)).toInt < (0 : Int) := o_lt hc119
                  omega
                · omega
              refine ok_mono (kj_X12_touchDrop_121 L hN (a0 := a0) (x1 := x1) (x2 := x2) (x3 := x3) (x4 := x4) (xs0 := (q_R δ (Ad ad 119) (x3 + (1 : Int32)).toNatClampNeg)) (x8v := (3 : Int32)) hT k_a0 (show 2 ≤ (x2).toInt by first | assumption | omega) (show (x2).toInt ≤ 16 by first | assumption | omega) (show 0 ≤ (x3).toInt by first | assumption | omega) (show (x3).toInt ≤ (x4).toInt by first | assumption | omega) (show (x4).toInt ≤ (x3).toInt + 2000 by first | assumption | omega) (show (x4).toInt ≤ (q_I δ 12 36 a0).toInt by first | assumption | omega) (show (q_I δ 12 36 a0).toInt + 2000 * LGf (x2).toInt ≤ 12000 by first | assumption | omega) (show (x2).toInt ≤ K by first | assumption | omega) (show (x3).toInt < (x4).toInt by first | assumption | omega) (show 1 ≤ (3 : Int) by first | assumption | omega) (show (3 : Int) ≤ 3 by first | assumption | omega) I) (fun r121 hr122 => ?_)
              obtain ⟨i123, ⟨u127, u128, u129⟩, p124, p125, p126⟩ := hr122
              have u130 := kp_t kp_r u127
              have v131 : q_V r121.2 = q_V δ := (u128).trans rfl
              have v132 := kr_t (kr_r (ad := ad)) u129
              have f133 := cb_12_36 i123 k_a0
              have f134 := ti_b r121.1
              have f135 := ti_b r121.1
              exact ⟨by assumption, ⟨kp_w (by decide) u130, v131, kr_w (by decide) v132⟩, by first | assumption | omega, by first | assumption | omega, by first | assumption | omega⟩
            · have c136 : x1.toInt ≠ x5v.toInt := o_ne h106
              refine ok_ite (fun h137 => ?_) (fun h137 => ?_)
              · have c138 : x1.toInt = x6v.toInt := o_eq h137
                obtain ⟨b139, o140, k141, n142, w143⟩ := gO_12_35 L k_a0
                obtain rfl := gS_12_35 L k_a0 o140
                refine ok_at o140 ?_
                first | (have q145 := te_subc (c := 2) (n := 2) rfl x4 (by omega) (by omega); obtain ⟨f146, f147, f148⟩ := q145) | (obtain ⟨q145, f146, f147, f148⟩ := ti_subc (c := 2) (n := 2) rfl x4)
                have t149 := ti_tn (x4 - (2 : Int32))
                refine ok_gd (fun hc150 => ?_) ?_
                · rcases hc150 with hc150 | hc150
                  · have c151 : (x4 - (2 : Int32)).toInt < (0 : Int) := o_lt hc150
                    omega
                  · omega
                refine ok_mono (kj_X12_touchDrop_121 L hN (a0 := a0) (x1 := x1) (x2 := x2) (x3 := x3) (x4 := x4) (xs0 := (q_R δ (Ad ad 119) (x4 - (2 : Int32)).toNatClampNeg)) (x8v := (3 : Int32)) hT k_a0 (show 2 ≤ (x2).toInt by first | assumption | omega) (show (x2).toInt ≤ 16 by first | assumption | omega) (show 0 ≤ (x3).toInt by first | assumption | omega) (show (x3).toInt ≤ (x4).toInt by first | assumption | omega) (show (x4).toInt ≤ (x3).toInt + 2000 by first | assumption | omega) (show (x4).toInt ≤ (q_I δ 12 36 a0).toInt by first | assumption | omega) (show (q_I δ 12 36 a0).toInt + 2000 * LGf (x2).toInt ≤ 12000 by first | assumption | omega) (show (x2).toInt ≤ K by first | assumption | omega) (show (x3).toInt < (x4).toInt by first | assumption | omega) (show 1 ≤ (3 : Int) by first | assumption | omega) (show (3 : Int) ≤ 3 by first | assumption | omega) I) (fun r152 hr153 => ?_)
                obtain ⟨i154, ⟨u158, u159, u160⟩, p155, p156, p157⟩ := hr153
                have u161 := kp_t kp_r u158
                have v162 : q_V r152.2 = q_V δ := (u159).trans rfl
                have v163 := kr_t (kr_r (ad := ad)) u160
                have f164 := cb_12_36 i154 k_a0
                have f165 := ti_b r152.1
                have f166 := ti_b r152.1
                exact ⟨by assumption, ⟨kp_w (by decide) u161, v162, kr_w (by decide) v163⟩, by first | assumption | omega, by first | assumption | omega, by first | assumption | omega⟩
              · have c167 : x1.toInt ≠ x6v.toInt := o_ne h137
                refine ok_mono (kj_X12_touchDrop_121 L hN (a0 := a0) (x1 := x1) (x2 := x2) (x3 := x3) (x4 := x4) (xs0 := x1) (x8v := (3 : Int32)) hT k_a0 (show 2 ≤ (x2).toInt by first | assumption | omega) (show (x2).toInt ≤ 16 by first | assumption | omega) (show 0 ≤ (x3).toInt by first | assumption | omega) (show (x3).toInt ≤ (x4).toInt by first | assumption | omega) (show (x4).toInt ≤ (x3).toInt + 2000 by first | assumption | omega) (show (x4).toInt ≤ (q_I δ 12 36 a0).toInt by first | assumption | omega) (show (q_I δ 12 36 a0).toInt + 2000 * LGf (x2).toInt ≤ 12000 by first | assumption | omega) (show (x2).toInt ≤ K by first | assumption | omega) (show (x3).toInt < (x4).toInt by first | assumption | omega) (show 1 ≤ (3 : Int) by first | assumption | omega) (show (3 : Int) ≤ 3 by first | assumption | omega) I) (fun r168 hr169 => ?_)
                obtain ⟨i170, ⟨u174, u175, u176⟩, p171, p172, p173⟩ := hr169
                have u177 := kp_t kp_r u174
                have v178 : q_V r168.2 = q_V δ := (u175).trans rfl
                have v179 := kr_t (kr_r (ad := ad)) u176
                have f180 := cb_12_36 i170 k_a0
                have f181 := ti_b r168.1
                have f182 := ti_b r168.1
                exact ⟨by assumption, ⟨kp_w (by decide) u177, v178, kr_w (by decide) v179⟩, by first | assumption | omega, by first | assumption | omega, by first | assumption | omega⟩
        · have c183 : xs0.toInt ≠ (0 : Int) := o_ne h24
          refine ok_ite (fun h184 => ?_) (fun h184 => ?_)
          · have c185 : (x4 - x3).toInt = (2 : Int) := o_eq h184
            unfold J_X12_touchDrop_71
            exact ok_some (show RI ad h.1 δ0 δ ∧ (kp [(12, 36)] δ δ ∧ q_V δ = q_V δ ∧ kr ad [119] δ δ) ∧ (q_I δ 12 36 a0).toInt = (q_I δ 12 36 a0).toInt ∧ 1 ≤ (1 : Int) ∧ (1 : Int) ≤ VBf (x2).toInt from ⟨I, ⟨kp_w (by decide) kp_r, rfl, kr_w (by decide) (kr_r (ad := ad))⟩, by first | assumption | omega, by first | assumption | omega, by first | assumption | omega⟩)
          · have c186 : (x4 - x3).toInt ≠ (2 : Int) := o_ne h184
            unfold J_X12_touchDrop_73
            refine ok_ite (fun h187 => ?_) (fun h187 => ?_)
            · have c188 : xs0.toInt = (0 : Int) := o_eq h187
              unfold J_X12_touchDrop_83
              refine ok_ite (fun h189 => ?_) (fun h189 => ?_)
              · have c190 : x1.toInt = x5v.toInt := o_eq h189
                obtain ⟨b191, o192, k193, n194, w195⟩ := gO_12_35 L k_a0
                obtain rfl := gS_12_35 L k_a0 o192
                refine ok_at o192 ?_
                first | (have q197 := te_addc (c := 1) (n := 1) rfl x3 (by omega) (by omega); obtain ⟨f198, f199, f200⟩ := q197) | (obtain ⟨q197, f198, f199, f200⟩ := ti_addc (c := 1) (n := 1) rfl x3)
                have t201 := ti_tn (x3 + (1 : Int32))
                refine ok_gd (fun hc202 => ?_) ?_
                · rcases hc202 with hc202 | hc202
                  · have c203 : (x3 + (1 : Int32)).toInt < (0 : Int) := o_lt hc202
                    omega
                  · omega
                refine ok_mono (kj_X12_touchDrop_121 L hN (a0 := a0) (x1 := x1) (x2 := x2) (x3 := x3) (x4 := x4) (xs0 := (q_R δ (Ad ad 119) (x3 + (1 : Int32)).toNatClampNeg)) (x8v := (1 : Int32)) hT k_a0 (show 2 ≤ (x2).toInt by first | assumption | omega) (show (x2).toInt ≤ 16 by first | assumption | omega) (show 0 ≤ (x3).toInt by first | assumption | omega) (show (x3).toInt ≤ (x4).toInt by first | assumption | omega) (show (x4).toInt ≤ (x3).toInt + 2000 by first | assumption | omega) (show (x4).toInt ≤ (q_I δ 12 36 a0).toInt by first | assumption | omega) (show (q_I δ 12 36 a0).toInt + 2000 * LGf (x2).toInt ≤ 12000 by first | assumption | omega) (show (x2).toInt ≤ K by first | assumption | omega) (show (x3).toInt < (x4).toInt by first | assumption | omega) (show 1 ≤ (1 : Int) by first | assumption | omega) (show (1 : Int) ≤ 3 by first | assumption | omega) I) (fun r204 hr205 => ?_)
                obtain ⟨i206, ⟨u210, u211, u212⟩, p207, p208, p209⟩ := hr205
                have u213 := kp_t kp_r u210
                have v214 : q_V r204.2 = q_V δ := (u211).trans rfl
                have v215 := kr_t (kr_r (ad := ad)) u212
                have f216 := cb_12_36 i206 k_a0
                have f217 := ti_b r204.1
                have f218 := ti_b r204.1
                exact ⟨by assumption, ⟨kp_w (by decide) u213, v214, kr_w (by decide) v215⟩, by first | assumption | omega, by first | assumption | omega, by first | assumption | omega⟩
              · have c219 : x1.toInt ≠ x5v.toInt := o_ne h189
                refine ok_ite (fun h220 => ?_) (fun h220 => ?_)
                · have c221 : x1.toInt = x6v.toInt := o_eq h220
                  obtain ⟨b222, o223, k224, n225, w226⟩ := gO_12_35 L k_a0
                  obtain rfl := gS_12_35 L k_a0 o223
                  refine ok_at o223 ?_
                  first | (have q228 := te_subc (c := 2) (n := 2) rfl x4 (by omega) (by omega); obtain ⟨f229, f230, f231⟩ := q228) | (obtain ⟨q228, f229, f230, f231⟩ := ti_subc (c := 2) (n := 2) rfl x4)
                  have t232 := ti_tn (x4 - (2 : Int32))
                  refine ok_gd (fun hc233 => ?_) ?_
                  · rcases hc233 with hc233 | hc233
                    · have c234 : (x4 - (2 : Int32)).toInt < (0 : Int) := o_lt hc233
                      omega
                    · omega
                  refine ok_mono (kj_X12_touchDrop_121 L hN (a0 := a0) (x1 := x1) (x2 := x2) (x3 := x3) (x4 := x4) (xs0 := (q_R δ (Ad ad 119) (x4 - (2 : Int32)).toNatClampNeg)) (x8v := (1 : Int32)) hT k_a0 (show 2 ≤ (x2).toInt by first | assumption | omega) (show (x2).toInt ≤ 16 by first | assumption | omega) (show 0 ≤ (x3).toInt by first | assumption | omega) (show (x3).toInt ≤ (x4).toInt by first | assumption | omega) (show (x4).toInt ≤ (x3).toInt + 2000 by first | assumption | omega) (show (x4).toInt ≤ (q_I δ 12 36 a0).toInt by first | assumption | omega) (show (q_I δ 12 36 a0).toInt + 2000 * LGf (x2).toInt ≤ 12000 by first | assumption | omega) (show (x2).toInt ≤ K by first | assumption | omega) (show (x3).toInt < (x4).toInt by first | assumption | omega) (show 1 ≤ (1 : Int) by first | assumption | omega) (show (1 : Int) ≤ 3 by first | assumption | omega) I) (fun r235 hr236 => ?_)
                  obtain ⟨i237, ⟨u241, u242, u243⟩, p238, p239, p240⟩ := hr236
                  have u244 := kp_t kp_r u241
                  have v245 : q_V r235.2 = q_V δ := (u242).trans rfl
                  have v246 := kr_t (kr_r (ad := ad)) u243
                  have f247 := cb_12_36 i237 k_a0
                  have f248 := ti_b r235.1
                  have f249 := ti_b r235.1
                  exact ⟨by assumption, ⟨kp_w (by decide) u244, v245, kr_w (by decide) v246⟩, by first | assumption | omega, by first | assumption | omega, by first | assumption | omega⟩
                · have c250 : x1.toInt ≠ x6v.toInt := o_ne h220
                  refine ok_mono (kj_X12_touchDrop_121 L hN (a0 := a0) (x1 := x1) (x2 := x2) (x3 := x3) (x4 := x4) (xs0 := x1) (x8v := (1 : Int32)) hT k_a0 (show 2 ≤ (x2).toInt by first | assumption | omega) (show (x2).toInt ≤ 16 by first | assumption | omega) (show 0 ≤ (x3).toInt by first | assumption | omega) (show (x3).toInt ≤ (x4).toInt by first | assumption | omega) (show (x4).toInt ≤ (x3).toInt + 2000 by first | assumption | omega) (show (x4).toInt ≤ (q_I δ 12 36 a0).toInt by first | assumption | omega) (show (q_I δ 12 36 a0).toInt + 2000 * LGf (x2).toInt ≤ 12000 by first | assumption | omega) (show (x2).toInt ≤ K by first | assumption | omega) (show (x3).toInt < (x4).toInt by first | assumption | omega) (show 1 ≤ (1 : Int) by first | assumption | omega) (show (1 : Int) ≤ 3 by first | assumption | omega) I) (fun r251 hr252 => ?_)
                  obtain ⟨i253, ⟨u257, u258, u259⟩, p254, p255, p256⟩ := hr252
                  have u260 := kp_t kp_r u257
                  have v261 : q_V r251.2 = q_V δ := (u258).trans rfl
                  have v262 := kr_t (kr_r (ad := ad)) u259
                  have f263 := cb_12_36 i253 k_a0
                  have f264 := ti_b r251.1
                  have f265 := ti_b r251.1
                  exact ⟨by assumption, ⟨kp_w (by decide) u260, v261, kr_w (by decide) v262⟩, by first | assumption | omega, by first | assumption | omega, by first | assumption | omega⟩
            · have c266 : xs0.toInt ≠ (0 : Int) := o_ne h187
              unfold J_X12_touchDrop_83
              refine ok_ite (fun h267 => ?_) (fun h267 => ?_)
              · have c268 : x1.toInt = x5v.toInt := o_eq h267
                obtain ⟨b269, o270, k271, n272, w273⟩ := gO_12_35 L k_a0
                obtain rfl := gS_12_35 L k_a0 o270
                refine ok_at o270 ?_
                first | (have q275 := te_addc (c := 1) (n := 1) rfl x3 (by omega) (by omega); obtain ⟨f276, f277, f278⟩ := q275) | (obtain ⟨q275, f276, f277, f278⟩ := ti_addc (c := 1) (n := 1) rfl x3)
                have t279 := ti_tn (x3 + (1 : Int32))
                refine ok_gd (fun hc280 => ?_) ?_
                · rcases hc280 with hc280 | hc280
                  · have c281 : (x3 + (1 : Int32)).toInt < (0 : Int) := o_lt hc280
                    omega
                  · omega
                refine ok_mono (kj_X12_touchDrop_121 L hN (a0 := a0) (x1 := x1) (x2 := x2) (x3 := x3) (x4 := x4) (xs0 := (q_R δ (Ad ad 119) (x3 + (1 : Int32)).toNatClampNeg)) (x8v := (3 : Int32)) hT k_a0 (show 2 ≤ (x2).toInt by first | assumption | omega) (show (x2).toInt ≤ 16 by first | assumption | omega) (show 0 ≤ (x3).toInt by first | assumption | omega) (show (x3).toInt ≤ (x4).toInt by first | assumption | omega) (show (x4).toInt ≤ (x3).toInt + 2000 by first | assumption | omega) (show (x4).toInt ≤ (q_I δ 12 36 a0).toInt by first | assumption | omega) (show (q_I δ 12 36 a0).toInt + 2000 * LGf (x2).toInt ≤ 12000 by first | assumption | omega) (show (x2).toInt ≤ K by first | assumption | omega) (show (x3).toInt < (x4).toInt by first | assumption | omega) (show 1 ≤ (3 : Int) by first | assumption | omega) (show (3 : Int) ≤ 3 by first | assumption | omega) I) (fun r282 hr283 => ?_)
                obtain ⟨i284, ⟨u288, u289, u290⟩, p285, p286, p287⟩ := hr283
                have u291 := kp_t kp_r u288
                have v292 : q_V r282.2 = q_V δ := (u289).trans rfl
                have v293 := kr_t (kr_r (ad := ad)) u290
                have f294 := cb_12_36 i284 k_a0
                have f295 := ti_b r282.1
                have f296 := ti_b r282.1
                exact ⟨by assumption, ⟨kp_w (by decide) u291, v292, kr_w (by decide) v293⟩, by first | assumption | omega, by first | assumption | omega, by first | assumption | omega⟩
              · have c297 : x1.toInt ≠ x5v.toInt := o_ne h267
                refine ok_ite (fun h298 => ?_) (fun h298 => ?_)
                · have c299 : x1.toInt = x6v.toInt := o_eq h298
                  obtain ⟨b300, o301, k302, n303, w304⟩ := gO_12_35 L k_a0
                  obtain rfl := gS_12_35 L k_a0 o301
                  refine ok_at o301 ?_
                  first | (have q306 := te_subc (c := 2) (n := 2) rfl x4 (by omega) (by omega); obtain ⟨f307, f308, f309⟩ := q306) | (obtain ⟨q306, f307, f308, f309⟩ := ti_subc (c := 2) (n := 2) rfl x4)
                  have t310 := ti_tn (x4 - (2 : Int32))
                  refine ok_gd (fun hc311 => ?_) ?_
                  · rcases hc311 with hc311 | hc311
                    · have c312 : (x4 - (2 : Int32)).toInt < (0 : Int) := o_lt hc311
                      omega
                    · omega
                  refine ok_mono (kj_X12_touchDrop_121 L hN (a0 := a0) (x1 := x1) (x2 := x2) (x3 := x3) (x4 := x4) (xs0 := (q_R δ (Ad ad 119) (x4 - (2 : Int32)).toNatClampNeg)) (x8v := (3 : Int32)) hT k_a0 (show 2 ≤ (x2).toInt by first | assumption | omega) (show (x2).toInt ≤ 16 by first | assumption | omega) (show 0 ≤ (x3).toInt by first | assumption | omega) (show (x3).toInt ≤ (x4).toInt by first | assumption | omega) (show (x4).toInt ≤ (x3).toInt + 2000 by first | assumption | omega) (show (x4).toInt ≤ (q_I δ 12 36 a0).toInt by first | assumption | omega) (show (q_I δ 12 36 a0).toInt + 2000 * LGf (x2).toInt ≤ 12000 by first | assumption | omega) (show (x2).toInt ≤ K by first | assumption | omega) (show (x3).toInt < (x4).toInt by first | assumption | omega) (show 1 ≤ (3 : Int) by first | assumption | omega) (show (3 : Int) ≤ 3 by first | assumption | omega) I) (fun r313 hr314 => ?_)
                  obtain ⟨i315, ⟨u319, u320, u321⟩, p316, p317, p318⟩ := hr314
                  have u322 := kp_t kp_r u319
                  have v323 : q_V r313.2 = q_V δ := (u320).trans rfl
                  have v324 := kr_t (kr_r (ad := ad)) u321
                  have f325 := cb_12_36 i315 k_a0
                  have f326 := ti_b r313.1
                  have f327 := ti_b r313.1
                  exact ⟨by assumption, ⟨kp_w (by decide) u322, v323, kr_w (by decide) v324⟩, by first | assumption | omega, by first | assumption | omega, by first | assumption | omega⟩
                · have c328 : x1.toInt ≠ x6v.toInt := o_ne h298
                  refine ok_mono (kj_X12_touchDrop_121 L hN (a0 := a0) (x1 := x1) (x2 := x2) (x3 := x3) (x4 := x4) (xs0 := x1) (x8v := (3 : Int32)) hT k_a0 (show 2 ≤ (x2).toInt by first | assumption | omega) (show (x2).toInt ≤ 16 by first | assumption | omega) (show 0 ≤ (x3).toInt by first | assumption | omega) (show (x3).toInt ≤ (x4).toInt by first | assumption | omega) (show (x4).toInt ≤ (x3).toInt + 2000 by first | assumption | omega) (show (x4).toInt ≤ (q_I δ 12 36 a0).toInt by first | assumption | omega) (show (q_I δ 12 36 a0).toInt + 2000 * LGf (x2).toInt ≤ 12000 by first | assumption | omega) (show (x2).toInt ≤ K by first | assumption | omega) (show (x3).toInt < (x4).toInt by first | assumption | omega) (show 1 ≤ (3 : Int) by first | assumption | omega) (show (3 : Int) ≤ 3 by first | assumption | omega) I) (fun r329 hr330 => ?_)
                  obtain ⟨i331, ⟨u335, u336, u337⟩, p332, p333, p334⟩ := hr330
                  have u338 := kp_t kp_r u335
                  have v339 : q_V r329.2 = q_V δ := (u336).trans rfl
                  have v340 := kr_t (kr_r (ad := ad)) u337
                  have f341 := cb_12_36 i331 k_a0
                  have f342 := ti_b r329.1
                  have f343 := ti_b r329.1
                  exact ⟨by assumption, ⟨kp_w (by decide) u338, v339, kr_w (by decide) v340⟩, by first | assumption | omega, by first | assumption | omega, by first | assumption | omega⟩
set_option maxHeartbeats 4000000 in
theorem k_bX12_touchDrop {ad : List Nat} {h : hp} (L : Lay TLx ad h) {δ0 : dp} {N : Nat} (hN : 10000000 ≤ N) {T : Nat → Int32 → Int32 → Int32 → Int32 → Int32 → dp → Option (Int32 × dp)} {K : Int} (hT : ∀ (a0 : Nat) (x1 : Int32) (x2 : Int32) (x3 : Int32) (x4 : Int32) (x5 : Int32) (δ : dp), q_K h.1 a0 = 12 → 1 ≤ (x3).toInt → (x3).toInt ≤ 16 → 0 ≤ (x4).toInt → (x4).toInt ≤ (x5).toInt → (x5).toInt ≤ (x4).toInt + 2000 → (x5).toInt ≤ (q_I δ 12 36 a0).toInt → (q_I δ 12 36 a0).toInt + 2000 * LGf (x3).toInt ≤ 12000 → (x3).toInt < K → RI ad h.1 δ0 δ → ok (T a0 x1 x2 x3 x4 x5 δ) (fun r => RI ad h.1 δ0 r.2 ∧ (kp [(12, 36)] δ r.2 ∧ q_V r.2 = q_V δ ∧ kr ad [119] δ r.2) ∧ (q_I r.2 12 36 a0).toInt = (q_I δ 12 36 a0).toInt ∧ 1 ≤ (r.1).toInt ∧ (r.1).toInt ≤ VBf (x3).toInt)) {a0 : Nat} {x1 : Int32} {x2 : Int32} {x3 : Int32} {x4 : Int32} (k_a0 : q_K h.1 a0 = 12) {δ : dp} (z0 : 2 ≤ (x2).toInt) (z1 : (x2).toInt ≤ 16) (z2 : 0 ≤ (x3).toInt) (z3 : (x3).toInt ≤ (x4).toInt) (z4 : (x4).toInt ≤ (x3).toInt + 2000) (z5 : (x4).toInt ≤ (q_I δ 12 36 a0).toInt) (z6 : (q_I δ 12 36 a0).toInt + 2000 * LGf (x2).toInt ≤ 12000) (z7 : (x2).toInt ≤ K) (z8 : (x3).toInt < (x4).toInt) (I : RI ad h.1 δ0 δ) : ok (B_X12_touchDrop N h.1 T a0 x1 x2 x3 x4 δ) (fun r => RI ad h.1 δ0 r.2 ∧ (kp [(12, 36)] δ r.2 ∧ q_V r.2 = q_V δ ∧ kr ad [119] δ r.2) ∧ (q_I r.2 12 36 a0).toInt = (q_I δ 12 36 a0).toInt ∧ 1 ≤ (r.1).toInt ∧ (r.1).toInt ≤ VBf (x2).toInt) := by
  unfold B_X12_touchDrop
  have f1 := lgb (x2).toInt
  have f2 := ti_b x2
  have f3 := ti_b x3
  have f4 := ti_b x4
  have f5 := cb_12_36 I k_a0
  obtain ⟨b6, o7, k8, n9, w10⟩ := gO_12_35 L k_a0
  obtain rfl := gS_12_35 L k_a0 o7
  refine ok_at o7 ?_
  have t11 := ti_tn x3
  refine ok_gd (fun hc12 => ?_) ?_
  · rcases hc12 with hc12 | hc12
    · have c13 : x3.toInt < (0 : Int) := o_lt hc12
      omega
    · omega
  have f16 := ti_b (q_R δ (Ad ad 119) x3.toNatClampNeg)
  refine ok_biv (fun vx14 e15 => ?_)
  have f17 : vx14.toInt = (q_R δ (Ad ad 119) x3.toNatClampNeg).toInt := congrArg Int32.toInt e15
  refine ok_at o7 ?_
  first | (have q19 := te_subc (c := 1) (n := 1) rfl x4 (by omega) (by omega); obtain ⟨f20, f21, f22⟩ := q19) | (obtain ⟨q19, f20, f21, f22⟩ := ti_subc (c := 1) (n := 1) rfl x4)
  have t23 := ti_tn (x4 - (1 : Int32))
  refine ok_gd (fun hc24 => ?_) ?_
  · rcases hc24 with hc24 | hc24
    · have c25 : (x4 - (1 : Int32)).toInt < (0 : Int) := o_lt hc24
      omega
    · omega
  have f28 := ti_b (q_R δ (Ad ad 119) (x4 - (1 : Int32)).toNatClampNeg)
  refine ok_biv (fun vx26 e27 => ?_)
  have f29 : vx26.toInt = (q_R δ (Ad ad 119) (x4 - (1 : Int32)).toNatClampNeg).toInt := congrArg Int32.toInt e27
  have f30 := ti_b x1
  refine ok_ite (fun h31 => ?_) (fun h31 => ?_)
  · have c32 : x1.toInt = vx14.toInt := o_eq h31
    unfold J_X12_touchDrop_31
    refine ok_mono (kj_X12_touchDrop_36 L hN (a0 := a0) (x1 := x1) (x2 := x2) (x3 := x3) (x4 := x4) (xs0 := (1 : Int32)) (x5v := vx14) (x6v := vx26) hT k_a0 (show 2 ≤ (x2).toInt by first | assumption | omega) (show (x2).toInt ≤ 16 by first | assumption | omega) (show 0 ≤ (x3).toInt by first | assumption | omega) (show (x3).toInt ≤ (x4).toInt by first | assumption | omega) (show (x4).toInt ≤ (x3).toInt + 2000 by first | assumption | omega) (show (x4).toInt ≤ (q_I δ 12 36 a0).toInt by first | assumption | omega) (show (q_I δ 12 36 a0).toInt + 2000 * LGf (x2).toInt ≤ 12000 by first | assumption | omega) (show (x2).toInt ≤ K by first | assumption | omega) (show (x3).toInt < (x4).toInt by first | assumption | omega) (show 0 ≤ (1 : Int) by first | assumption | omega) (show (1 : Int) ≤ 1 by first | assumption | omega) I) (fun r33 hr34 => ?_)
    obtain ⟨i35, ⟨u39, u40, u41⟩, p36, p37, p38⟩ := hr34
    have u42 := kp_t kp_r u39
    have v43 : q_V r33.2 = q_V δ := (u40).trans rfl
    have v44 := kr_t (kr_r (ad := ad)) u41
    have f45 := cb_12_36 i35 k_a0
    have f46 := ti_b r33.1
    have f47 := ti_b r33.1
    exact ⟨by assumption, ⟨kp_w (by decide) u42, v43, kr_w (by decide) v44⟩, by first | assumption | omega, by first | assumption | omega, by first | assumption | omega⟩
  · have c48 : x1.toInt ≠ vx14.toInt := o_ne h31
    refine ok_ite (fun h49 => ?_) (fun h49 => ?_)
    · have c50 : x1.toInt = vx26.toInt := o_eq h49
      unfold J_X12_touchDrop_31
      refine ok_mono (kj_X12_touchDrop_36 L hN (a0 := a0) (x1 := x1) (x2 := x2) (x3 := x3) (x4 := x4) (xs0 := (1 : Int32)) (x5v := vx14) (x6v := vx26) hT k_a0 (show 2 ≤ (x2).toInt by first | assumption | omega) (show (x2).toInt ≤ 16 by first | assumption | omega) (show 0 ≤ (x3).toInt by first | assumption | omega) (show (x3).toInt ≤ (x4).toInt by first | assumption | omega) (show (x4).toInt ≤ (x3).toInt + 2000 by first | assumption | omega) (show (x4).toInt ≤ (q_I δ 12 36 a0).toInt by first | assumption | omega) (show (q_I δ 12 36 a0).toInt + 2000 * LGf (x2).toInt ≤ 12000 by first | assumption | omega) (show (x2).toInt ≤ K by first | assumption | omega) (show (x3).toInt < (x4).toInt by first | assumption | omega) (show 0 ≤ (1 : Int) by first | assumption | omega) (show (1 : Int) ≤ 1 by first | assumption | omega) I) (fun r51 hr52 => ?_)
      obtain ⟨i53, ⟨u57, u58, u59⟩, p54, p55, p56⟩ := hr52
      have u60 := kp_t kp_r u57
      have v61 : q_V r51.2 = q_V δ := (u58).trans rfl
      have v62 := kr_t (kr_r (ad := ad)) u59
      have f63 := cb_12_36 i53 k_a0
      have f64 := ti_b r51.1
      have f65 := ti_b r51.1
      exact ⟨by assumption, ⟨kp_w (by decide) u60, v61, kr_w (by decide) v62⟩, by first | assumption | omega, by first | assumption | omega, by first | assumption | omega⟩
    · have c66 : x1.toInt ≠ vx26.toInt := o_ne h49
      refine ok_mono (kj_X12_touchDrop_36 L hN (a0 := a0) (x1 := x1) (x2 := x2) (x3 := x3) (x4 := x4) (xs0 := (0 : Int32)) (x5v := vx14) (x6v := vx26) hT k_a0 (show 2 ≤ (x2).toInt by first | assumption | omega) (show (x2).toInt ≤ 16 by first | assumption | omega) (show 0 ≤ (x3).toInt by first | assumption | omega) (show (x3).toInt ≤ (x4).toInt by first | assumption | omega) (show (x4).toInt ≤ (x3).toInt + 2000 by first | assumption | omega) (show (x4).toInt ≤ (q_I δ 12 36 a0).toInt by first | assumption | omega) (show (q_I δ 12 36 a0).toInt + 2000 * LGf (x2).toInt ≤ 12000 by first | assumption | omega) (show (x2).toInt ≤ K by first | assumption | omega) (show (x3).toInt < (x4).toInt by first | assumption | omega) (show 0 ≤ (0 : Int) by first | assumption | omega) (show (0 : Int) ≤ 1 by first | assumption | omega) I) (fun r67 hr68 => ?_)
      obtain ⟨i69, ⟨u73, u74, u75⟩, p70, p71, p72⟩ := hr68
      have u76 := kp_t kp_r u73
      have v77 : q_V r67.2 = q_V δ := (u74).trans rfl
      have v78 := kr_t (kr_r (ad := ad)) u75
      have f79 := cb_12_36 i69 k_a0
      have f80 := ti_b r67.1
      have f81 := ti_b r67.1
      exact ⟨by assumption, ⟨kp_w (by decide) u76, v77, kr_w (by decide) v78⟩, by first | assumption | omega, by first | assumption | omega, by first | assumption | omega⟩
set_option maxHeartbeats 4000000 in
theorem kj_X12_touch_267 {ad : List Nat} {h : hp} (L : Lay TLx ad h) {δ0 : dp} {N : Nat} (hN : 10000000 ≤ N) {T : Nat → Int32 → Int32 → Int32 → Int32 → Int32 → dp → Option (Int32 × dp)} {K : Int} (hT : ∀ (a0 : Nat) (x1 : Int32) (x2 : Int32) (x3 : Int32) (x4 : Int32) (x5 : Int32) (δ : dp), q_K h.1 a0 = 12 → 1 ≤ (x3).toInt → (x3).toInt ≤ 16 → 0 ≤ (x4).toInt → (x4).toInt ≤ (x5).toInt → (x5).toInt ≤ (x4).toInt + 2000 → (x5).toInt ≤ (q_I δ 12 36 a0).toInt → (q_I δ 12 36 a0).toInt + 2000 * LGf (x3).toInt ≤ 12000 → (x3).toInt < K → RI ad h.1 δ0 δ → ok (T a0 x1 x2 x3 x4 x5 δ) (fun r => RI ad h.1 δ0 r.2 ∧ (kp [(12, 36)] δ r.2 ∧ q_V r.2 = q_V δ ∧ kr ad [119] δ r.2) ∧ (q_I r.2 12 36 a0).toInt = (q_I δ 12 36 a0).toInt ∧ 1 ≤ (r.1).toInt ∧ (r.1).toInt ≤ VBf (x3).toInt)) {a0 : Nat} {x1 : Int32} {x2 : Int32} {x3 : Int32} {x4 : Int32} {x5 : Int32} {x9v : Int32} {x10v : Int32} (k_a0 : q_K h.1 a0 = 12) {δ : dp} (z0 : 2 ≤ (x3).toInt) (z1 : (x3).toInt ≤ 16) (z2 : 0 ≤ (x4).toInt) (z3 : (x4).toInt ≤ (x5).toInt) (z4 : (x5).toInt ≤ (x4).toInt + 2000) (z5 : (x5).toInt ≤ (q_I δ 12 36 a0).toInt) (z6 : (q_I δ 12 36 a0).toInt + 2000 * LGf (x3).toInt ≤ 12000) (z7 : (x3).toInt ≤ K) (z8 : (x4).toInt < (x5).toInt) (z9 : (x4).toInt + 3 ≤ (x5).toInt) (z10 : 1 ≤ (x9v).toInt) (z11 : (x9v).toInt ≤ 2) (I : RI ad h.1 δ0 δ) : ok (J_X12_touch_267 N h.1 T a0 x1 x2 x3 x4 x5 x9v x10v δ) (fun r => RI ad h.1 δ0 r.2 ∧ (kp [(12, 36)] δ r.2 ∧ q_V r.2 = q_V δ ∧ kr ad [119] δ r.2) ∧ (q_I r.2 12 36 a0).toInt = (q_I δ 12 36 a0).toInt ∧ 1 ≤ (r.1).toInt ∧ (r.1).toInt ≤ VBf (x3).toInt) := by
  unfold J_X12_touch_267
  have f1 := lgb (x3).toInt
  have f2 := ti_b x3
  have f3 := ti_b x4
  have f4 := ti_b x5
  have f5 := cb_12_36 I k_a0
  have f6 := ti_b x9v
  have f7 := ti_b x1
  refine ok_ite (fun h8 => ?_) (fun h8 => ?_)
  · have c9 : x1.toInt = (3 : Int) := o_eq h8
    obtain ⟨b10, o11, k12, n13, w14⟩ := gO_12_35 L k_a0
    obtain rfl := gS_12_35 L k_a0 o11
    refine ok_at o11 ?_
    first | (have q16 := te_subc (c := 2) (n := 2) rfl x5 (by omega) (by omega); obtain ⟨f17, f18, f19⟩ := q16) | (obtain ⟨q16, f17, f18, f19⟩ := ti_subc (c := 2) (n := 2) rfl x5)
    have t20 := ti_tn (x5 - (2 : Int32))
    refine ok_gd (fun hc21 => ?_) ?_
    · rcases hc21 with hc21 | hc21
      · have c22 : (x5 - (2 : Int32)).toInt < (0 : Int) := o_lt hc21
        omega
      · omega
    have f23 := ti_b ((q_R δ (Ad ad 119) (x5 - (2 : Int32)).toNatClampNeg) >>> (x10v &&& 31))
    have f24 := ti_b (x2 >>> (x10v &&& 31))
    refine ok_ite (fun h25 => ?_) (fun h25 => ?_)
    · have c26 : ((q_R δ (Ad ad 119) (x5 - (2 : Int32)).toNatClampNeg) >>> (x10v &&& 31)).toInt ≤ (x2 >>> (x10v &&& 31)).toInt := o_le h25
      unfold J_X12_touch_323
      refine ok_bind (k_bX12_inList L hN (a0 := a0) (x1 := x1) (x2 := x2) (x3 := x3) (x4 := x4) (x5 := x5) hT k_a0 (show 2 ≤ (x3).toInt by first | assumption | omega) (show (x3).toInt ≤ 16 by first | assumption | omega) (show 0 ≤ (x4).toInt by first | assumption | omega) (show (x4).toInt ≤ (x5).toInt by first | assumption | omega) (show (x5).toInt ≤ (x4).toInt + 2000 by first | assumption | omega) (show (x5).toInt ≤ (q_I δ 12 36 a0).toInt by first | assumption | omega) (show (q_I δ 12 36 a0).toInt + 2000 * LGf (x3).toInt ≤ 12000 by first | assumption | omega) (show (x3).toInt ≤ K by first | assumption | omega) I) (fun r27 hr28 => ?_)
      obtain ⟨i29, ⟨u33, u34, u35⟩, p30, p31, p32⟩ := hr28
      have u36 := kp_t kp_r u33
      have v37 : q_V r27.2 = q_V δ := (u34).trans rfl
      have v38 := kr_t (kr_r (ad := ad)) u35
      have f39 := cb_12_36 i29 k_a0
      have f40 := ti_b r27.1
      have f41 := ti_b r27.1
      refine ok_ite (fun h42 => ?_) (fun h42 => ?_)
      · have c43 : (0 : Int) = (0 : Int) := o_eq h42
        unfold J_X12_touch_349
        first | (have q45 := te_add x9v r27.1 (by omega) (by omega); obtain ⟨f46, f47, f48⟩ := q45) | (obtain ⟨q45, f46, f47, f48⟩ := ti_add x9v r27.1)
        first | (have q50 := te_addc (c := 0) (n := 0) rfl (x9v + r27.1) (by omega) (by omega); obtain ⟨f51, f52, f53⟩ := q50) | (obtain ⟨q50, f51, f52, f53⟩ := ti_addc (c := 0) (n := 0) rfl (x9v + r27.1))
        exact ok_some (show RI ad h.1 δ0 r27.2 ∧ (kp [(12, 36)] δ r27.2 ∧ q_V r27.2 = q_V δ ∧ kr ad [119] δ r27.2) ∧ (q_I r27.2 12 36 a0).toInt = (q_I δ 12 36 a0).toInt ∧ 1 ≤ (((x9v + r27.1) + (0 : Int32))).toInt ∧ (((x9v + r27.1) + (0 : Int32))).toInt ≤ VBf (x3).toInt from ⟨i29, ⟨kp_w (by decide) u36, v37, kr_w (by decide) v38⟩, by first | assumption | omega, by first | assumption | omega, by first | assumption | omega⟩)
      · have c54 : (0 : Int) ≠ (0 : Int) := o_ne h42
        unfold J_X12_touch_349
        first | (have q56 := te_add x9v r27.1 (by omega) (by omega); obtain ⟨f57, f58, f59⟩ := q56) | (obtain ⟨q56, f57, f58, f59⟩ := ti_add x9v r27.1)
        first | (have q61 := te_addc (c := 1) (n := 1) rfl (x9v + r27.1) (by omega) (by omega); obtain ⟨f62, f63, f64⟩ := q61) | (obtain ⟨q61, f62, f63, f64⟩ := ti_addc (c := 1) (n := 1) rfl (x9v + r27.1))
        exact ok_some (show RI ad h.1 δ0 r27.2 ∧ (kp [(12, 36)] δ r27.2 ∧ q_V r27.2 = q_V δ ∧ kr ad [119] δ r27.2) ∧ (q_I r27.2 12 36 a0).toInt = (q_I δ 12 36 a0).toInt ∧ 1 ≤ (((x9v + r27.1) + (1 : Int32))).toInt ∧ (((x9v + r27.1) + (1 : Int32))).toInt ≤ VBf (x3).toInt from ⟨i29, ⟨kp_w (by decide) u36, v37, kr_w (by decide) v38⟩, by first | assumption | omega, by first | assumption | omega, by first | assumption | omega⟩)
    · have c65 : (x2 >>> (x10v &&& 31)).toInt < ((q_R δ (Ad ad 119) (x5 - (2 : Int32)).toNatClampNeg) >>> (x10v &&& 31)).toInt := o_nle h25
      unfold J_X12_touch_323
      refine ok_bind (k_bX12_inList L hN (a0 := a0) (x1 := x1) (x2 := x2) (x3 := x3) (x4 := x4) (x5 := x5) hT k_a0 (show 2 ≤ (x3).toInt by first | assumption | omega) (show (x3).toInt ≤ 16 by first | assumption | omega) (show 0 ≤ (x4).toInt by first | assumption | omega) (show (x4).toInt ≤ (x5).toInt by first | assumption | omega) (show (x5).toInt ≤ (x4).toInt + 2000 by first | assumption | omega) (show (x5).toInt ≤ (q_I δ 12 36 a0).toInt by first | assumption | omega) (show (q_I δ 12 36 a0).toInt + 2000 * LGf (x3).toInt ≤ 12000 by first | assumption | omega) (show (x3).toInt ≤ K by first | assumption | omega) I) (fun r66 hr67 => ?_)
      obtain ⟨i68, ⟨u72, u73, u74⟩, p69, p70, p71⟩ := hr67
      have u75 := kp_t kp_r u72
      have v76 : q_V r66.2 = q_V δ := (u73).trans rfl
      have v77 := kr_t (kr_r (ad := ad)) u74
      have f78 := cb_12_36 i68 k_a0
      have f79 := ti_b r66.1
      have f80 := ti_b r66.1
      refine ok_ite (fun h81 => ?_) (fun h81 => ?_)
      · have c82 : (1 : Int) = (0 : Int) := o_eq h81
        unfold J_X12_touch_349
        first | (have q84 := te_add x9v r66.1 (by omega) (by omega); obtain ⟨f85, f86, f87⟩ := q84) | (obtain ⟨q84, f85, f86, f87⟩ := ti_add x9v r66.1)
        first | (have q89 := te_addc (c := 0) (n := 0) rfl (x9v + r66.1) (by omega) (by omega); obtain ⟨f90, f91, f92⟩ := q89) | (obtain ⟨q89, f90, f91, f92⟩ := ti_addc (c := 0) (n := 0) rfl (x9v + r66.1))
        exact ok_some (show RI ad h.1 δ0 r66.2 ∧ (kp [(12, 36)] δ r66.2 ∧ q_V r66.2 = q_V δ ∧ kr ad [119] δ r66.2) ∧ (q_I r66.2 12 36 a0).toInt = (q_I δ 12 36 a0).toInt ∧ 1 ≤ (((x9v + r66.1) + (0 : Int32))).toInt ∧ (((x9v + r66.1) + (0 : Int32))).toInt ≤ VBf (x3).toInt from ⟨i68, ⟨kp_w (by decide) u75, v76, kr_w (by decide) v77⟩, by first | assumption | omega, by first | assumption | omega, by first | assumption | omega⟩)
      · have c93 : (1 : Int) ≠ (0 : Int) := o_ne h81
        unfold J_X12_touch_349
        first | (have q95 := te_add x9v r66.1 (by omega) (by omega); obtain ⟨f96, f97, f98⟩ := q95) | (obtain ⟨q95, f96, f97, f98⟩ := ti_add x9v r66.1)
        first | (have q100 := te_addc (c := 1) (n := 1) rfl (x9v + r66.1) (by omega) (by omega); obtain ⟨f101, f102, f103⟩ := q100) | (obtain ⟨q100, f101, f102, f103⟩ := ti_addc (c := 1) (n := 1) rfl (x9v + r66.1))
        exact ok_some (show RI ad h.1 δ0 r66.2 ∧ (kp [(12, 36)] δ r66.2 ∧ q_V r66.2 = q_V δ ∧ kr ad [119] δ r66.2) ∧ (q_I r66.2 12 36 a0).toInt = (q_I δ 12 36 a0).toInt ∧ 1 ≤ (((x9v + r66.1) + (1 : Int32))).toInt ∧ (((x9v + r66.1) + (1 : Int32))).toInt ≤ VBf (x3).toInt from ⟨i68, ⟨kp_w (by decide) u75, v76, kr_w (by decide) v77⟩, by first | assumption | omega, by first | assumption | omega, by first | assumption | omega⟩)
  · have c104 : x1.toInt ≠ (3 : Int) := o_ne h8
    obtain ⟨b105, o106, k107, n108, w109⟩ := gO_12_35 L k_a0
    obtain rfl := gS_12_35 L k_a0 o106
    refine ok_at o106 ?_
    first | (have q111 := te_addc (c := 1) (n := 1) rfl x4 (by omega) (by omega); obtain ⟨f112, f113, f114⟩ := q111) | (obtain ⟨q111, f112, f113, f114⟩ := ti_addc (c := 1) (n := 1) rfl x4)
    have t115 := ti_tn (x4 + (1 : Int32))
    refine ok_gd (fun hc116 => ?_) ?_
    · rcases hc116 with hc116 | hc116
      · have c117 : (x4 + (1 : Int32)).toInt < (0 : Int) := o_lt hc116
        omega
      · omega
    have f118 := ti_b (x2 >>> (x10v &&& 31))
    have f119 := ti_b ((q_R δ (Ad ad 119) (x4 + (1 : Int32)).toNatClampNeg) >>> (x10v &&& 31))
    refine ok_ite (fun h120 => ?_) (fun h120 => ?_)
    · have c121 : (x2 >>> (x10v &&& 31)).toInt ≤ ((q_R δ (Ad ad 119) (x4 + (1 : Int32)).toNatClampNeg) >>> (x10v &&& 31)).toInt := o_le h120
      unfold J_X12_touch_323
      refine ok_bind (k_bX12_inList L hN (a0 := a0) (x1 := x1) (x2 := x2) (x3 := x3) (x4 := x4) (x5 := x5) hT k_a0 (show 2 ≤ (x3).toInt by first | assumption | omega) (show (x3).toInt ≤ 16 by first | assumption | omega) (show 0 ≤ (x4).toInt by first | assumption | omega) (show (x4).toInt ≤ (x5).toInt by first | assumption | omega) (show (x5).toInt ≤ (x4).toInt + 2000 by first | assumption | omega) (show (x5).toInt ≤ (q_I δ 12 36 a0).toInt by first | assumption | omega) (show (q_I δ 12 36 a0).toInt + 2000 * LGf (x3).toInt ≤ 12000 by first | assumption | omega) (show (x3).toInt ≤ K by first | assumption | omega) I) (fun r122 hr123 => ?_)
      obtain ⟨i124, ⟨u128, u129, u130⟩, p125, p126, p127⟩ := hr123
      have u131 := kp_t kp_r u128
      have v132 : q_V r122.2 = q_V δ := (u129).trans rfl
      have v133 := kr_t (kr_r (ad := ad)) u130
      have f134 := cb_12_36 i124 k_a0
      have f135 := ti_b r122.1
      have f136 := ti_b r122.1
      refine ok_ite (fun h137 => ?_) (fun h137 => ?_)
      · have c138 : (0 : Int) = (0 : Int) := o_eq h137
        unfold J_X12_touch_349
        first | (have q140 := te_add x9v r122.1 (by omega) (by omega); obtain ⟨f141, f142, f143⟩ := q140) | (obtain ⟨q140, f141, f142, f143⟩ := ti_add x9v r122.1)
        first | (have q145 := te_addc (c := 0) (n := 0) rfl (x9v + r122.1) (by omega) (by omega); obtain ⟨f146, f147, f148⟩ := q145) | (obtain ⟨q145, f146, f147, f148⟩ := ti_addc (c := 0) (n := 0) rfl (x9v + r122.1))
        exact ok_some (show RI ad h.1 δ0 r122.2 ∧ (kp [(12, 36)] δ r122.2 ∧ q_V r122.2 = q_V δ ∧ kr ad [119] δ r122.2) ∧ (q_I r122.2 12 36 a0).toInt = (q_I δ 12 36 a0).toInt ∧ 1 ≤ (((x9v + r122.1) + (0 : Int32))).toInt ∧ (((x9v + r122.1) + (0 : Int32))).toInt ≤ VBf (x3).toInt from ⟨i124, ⟨kp_w (by decide) u131, v132, kr_w (by decide) v133⟩, by first | assumption | omega, by first | assumption | omega, by first | assumption | omega⟩)
      · have c149 : (0 : Int) ≠ (0 : Int) := o_ne h137
        unfold J_X12_touch_349
        first | (have q151 := te_add x9v r122.1 (by omega) (by omega); obtain ⟨f152, f153, f154⟩ := q151) | (obtain ⟨q151, f152, f153, f154⟩ := ti_add x9v r122.1)
        first | (have q156 := te_addc (c := 1) (n := 1) rfl (x9v + r122.1) (by omega) (by omega); obtain ⟨f157, f158, f159⟩ := q156) | (obtain ⟨q156, f157, f158, f159⟩ := ti_addc (c := 1) (n := 1) rfl (x9v + r122.1))
        exact ok_some (show RI ad h.1 δ0 r122.2 ∧ (kp [(12, 36)] δ r122.2 ∧ q_V r122.2 = q_V δ ∧ kr ad [119] δ r122.2) ∧ (q_I r122.2 12 36 a0).toInt = (q_I δ 12 36 a0).toInt ∧ 1 ≤ (((x9v + r122.1) + (1 : Int32))).toInt ∧ (((x9v + r122.1) + (1 : Int32))).toInt ≤ VBf (x3).toInt from ⟨i124, ⟨kp_w (by decide) u131, v132, kr_w (by decide) v133⟩, by first | assumption | omega, by first | assumption | omega, by first | assumption | omega⟩)
    · have c160 : ((q_R δ (Ad ad 119) (x4 + (1 : Int32)).toNatClampNeg) >>> (x10v &&& 31)).toInt < (x2 >>> (x10v &&& 31)).toInt := o_nle h120
      unfold J_X12_touch_323
      refine ok_bind (k_bX12_inList L hN (a0 := a0) (x1 := x1) (x2 := x2) (x3 := x3) (x4 := x4) (x5 := x5) hT k_a0 (show 2 ≤ (x3).toInt by first | assumption | omega) (show (x3).toInt ≤ 16 by first | assumption | omega) (show 0 ≤ (x4).toInt by first | assumption | omega) (show (x4).toInt ≤ (x5).toInt by first | assumption | omega) (show (x5).toInt ≤ (x4).toInt + 2000 by first | assumption | omega) (show (x5).toInt ≤ (q_I δ 12 36 a0).toInt by first | assumption | omega) (show (q_I δ 12 36 a0).toInt + 2000 * LGf (x3).toInt ≤ 12000 by first | assumption | omega) (show (x3).toInt ≤ K by first | assumption | omega) I) (fun r161 hr162 => ?_)
      obtain ⟨i163, ⟨u167, u168, u169⟩, p164, p165, p166⟩ := hr162
      have u170 := kp_t kp_r u167
      have v171 : q_V r161.2 = q_V δ := (u168).trans rfl
      have v172 := kr_t (kr_r (ad := ad)) u169
      have f173 := cb_12_36 i163 k_a0
      have f174 := ti_b r161.1
      have f175 := ti_b r161.1
      refine ok_ite (fun h176 => ?_) (fun h176 => ?_)
      · have c177 : (1 : Int) = (0 : Int) := o_eq h176
        unfold J_X12_touch_349
        first | (have q179 := te_add x9v r161.1 (by omega) (by omega); obtain ⟨f180, f181, f182⟩ := q179) | (obtain ⟨q179, f180, f181, f182⟩ := ti_add x9v r161.1)
        first | (have q184 := te_addc (c := 0) (n := 0) rfl (x9v + r161.1) (by omega) (by omega); obtain ⟨f185, f186, f187⟩ := q184) | (obtain ⟨q184, f185, f186, f187⟩ := ti_addc (c := 0) (n := 0) rfl (x9v + r161.1))
        exact ok_some (show RI ad h.1 δ0 r161.2 ∧ (kp [(12, 36)] δ r161.2 ∧ q_V r161.2 = q_V δ ∧ kr ad [119] δ r161.2) ∧ (q_I r161.2 12 36 a0).toInt = (q_I δ 12 36 a0).toInt ∧ 1 ≤ (((x9v + r161.1) + (0 : Int32))).toInt ∧ (((x9v + r161.1) + (0 : Int32))).toInt ≤ VBf (x3).toInt from ⟨i163, ⟨kp_w (by decide) u170, v171, kr_w (by decide) v172⟩, by first | assumption | omega, by first | assumption | omega, by first | assumption | omega⟩)
      · have c188 : (1 : Int) ≠ (0 : Int) := o_ne h176
        unfold J_X12_touch_349
        first | (have q190 := te_add x9v r161.1 (by omega) (by omega); obtain ⟨f191, f192, f193⟩ := q190) | (obtain ⟨q190, f191, f192, f193⟩ := ti_add x9v r161.1)
        first | (have q195 := te_addc (c := 1) (n := 1) rfl (x9v + r161.1) (by omega) (by omega); obtain ⟨f196, f197, f198⟩ := q195) | (obtain ⟨q195, f196, f197, f198⟩ := ti_addc (c := 1) (n := 1) rfl (x9v + r161.1))
        exact ok_some (show RI ad h.1 δ0 r161.2 ∧ (kp [(12, 36)] δ r161.2 ∧ q_V r161.2 = q_V δ ∧ kr ad [119] δ r161.2) ∧ (q_I r161.2 12 36 a0).toInt = (q_I δ 12 36 a0).toInt ∧ 1 ≤ (((x9v + r161.1) + (1 : Int32))).toInt ∧ (((x9v + r161.1) + (1 : Int32))).toInt ≤ VBf (x3).toInt from ⟨i163, ⟨kp_w (by decide) u170, v171, kr_w (by decide) v172⟩, by first | assumption | omega, by first | assumption | omega, by first | assumption | omega⟩)
set_option maxHeartbeats 4000000 in
theorem kj_X12_touch_158 {ad : List Nat} {h : hp} (L : Lay TLx ad h) {δ0 : dp} {N : Nat} (hN : 10000000 ≤ N) {T : Nat → Int32 → Int32 → Int32 → Int32 → Int32 → dp → Option (Int32 × dp)} {K : Int} (hT : ∀ (a0 : Nat) (x1 : Int32) (x2 : Int32) (x3 : Int32) (x4 : Int32) (x5 : Int32) (δ : dp), q_K h.1 a0 = 12 → 1 ≤ (x3).toInt → (x3).toInt ≤ 16 → 0 ≤ (x4).toInt → (x4).toInt ≤ (x5).toInt → (x5).toInt ≤ (x4).toInt + 2000 → (x5).toInt ≤ (q_I δ 12 36 a0).toInt → (q_I δ 12 36 a0).toInt + 2000 * LGf (x3).toInt ≤ 12000 → (x3).toInt < K → RI ad h.1 δ0 δ → ok (T a0 x1 x2 x3 x4 x5 δ) (fun r => RI ad h.1 δ0 r.2 ∧ (kp [(12, 36)] δ r.2 ∧ q_V r.2 = q_V δ ∧ kr ad [119] δ r.2) ∧ (q_I r.2 12 36 a0).toInt = (q_I δ 12 36 a0).toInt ∧ 1 ≤ (r.1).toInt ∧ (r.1).toInt ≤ VBf (x3).toInt)) {a0 : Nat} {x1 : Int32} {x2 : Int32} {x3 : Int32} {x4 : Int32} {x5 : Int32} {xs0 : Int32} (k_a0 : q_K h.1 a0 = 12) {δ : dp} (z0 : 2 ≤ (x3).toInt) (z1 : (x3).toInt ≤ 16) (z2 : 0 ≤ (x4).toInt) (z3 : (x4).toInt ≤ (x5).toInt) (z4 : (x5).toInt ≤ (x4).toInt + 2000) (z5 : (x5).toInt ≤ (q_I δ 12 36 a0).toInt) (z6 : (q_I δ 12 36 a0).toInt + 2000 * LGf (x3).toInt ≤ 12000) (z7 : (x3).toInt ≤ K) (z8 : (x4).toInt < (x5).toInt) (z9 : 0 ≤ (xs0).toInt) (z10 : (xs0).toInt ≤ 1) (I : RI ad h.1 δ0 δ) : ok (J_X12_touch_158 N h.1 T a0 x1 x2 x3 x4 x5 xs0 δ) (fun r => RI ad h.1 δ0 r.2 ∧ (kp [(12, 36)] δ r.2 ∧ q_V r.2 = q_V δ ∧ kr ad [119] δ r.2) ∧ (q_I r.2 12 36 a0).toInt = (q_I δ 12 36 a0).toInt ∧ 1 ≤ (r.1).toInt ∧ (r.1).toInt ≤ VBf (x3).toInt) := by
  unfold J_X12_touch_158
  have f1 := lgb (x3).toInt
  have f2 := ti_b x3
  have f3 := ti_b x4
  have f4 := ti_b x5
  have f5 := cb_12_36 I k_a0
  have f6 := ti_b xs0
  refine ok_ite (fun h7 => ?_) (fun h7 => ?_)
  · have c8 : xs0.toInt = (0 : Int) := o_eq h7
    first | (have q10 := te_sub x5 x4 (by omega) (by omega); obtain ⟨f11, f12, f13⟩ := q10) | (obtain ⟨q10, f11, f12, f13⟩ := ti_sub x5 x4)
    refine ok_ite (fun h14 => ?_) (fun h14 => ?_)
    · have c15 : (3 : Int) ≤ (x5 - x4).toInt := o_le h14
      refine ok_bind (k_X12_lowerBits L hN (a0 := a0) (x1 := x3) k_a0 (show 2 ≤ (x3).toInt by first | assumption | omega) (show (x3).toInt ≤ 16 by first | assumption | omega) I) (fun r16 hr17 => ?_)
      obtain ⟨i18, p19, p20, p21, p22, p23, p24⟩ := hr17
      try rw [i18]
      have f25 := ti_b r16.1
      have f26 := lgb (r16.1).toInt
      have f27 := lgb ((x3 - r16.1)).toInt
      first | (have q29 := te_sub x3 r16.1 (by omega) (by omega); obtain ⟨f30, f31, f32⟩ := q29) | (obtain ⟨q29, f30, f31, f32⟩ := ti_sub x3 r16.1)
      have f33 := ti_b r16.1
      refine ok_bind (k_X12_roomMany L hN (a0 := a0) (x1 := x2) (x2 := x3) (x3 := x4) (x4 := x5) k_a0 (show 2 ≤ (x3).toInt by first | assumption | omega) (show (x3).toInt ≤ 16 by first | assumption | omega) (show 0 ≤ (x4).toInt by first | assumption | omega) (show (x4).toInt ≤ (x5).toInt by first | assumption | omega) (show (x5).toInt ≤ 14000 by first | assumption | omega) I) (fun r34 hr35 => ?_)
      have i36 := hr35
      try rw [i36]
      have f37 := ti_b r34.1
      refine ok_ite (fun h38 => ?_) (fun h38 => ?_)
      · have c39 : r34.1.toInt ≤ (0 : Int) := o_le h38
        refine ok_mono (kj_X12_touch_267 L hN (a0 := a0) (x1 := x1) (x2 := x2) (x3 := x3) (x4 := x4) (x5 := x5) (x9v := (1 : Int32)) (x10v := r16.1) hT k_a0 (show 2 ≤ (x3).toInt by first | assumption | omega) (show (x3).toInt ≤ 16 by first | assumption | omega) (show 0 ≤ (x4).toInt by first | assumption | omega) (show (x4).toInt ≤ (x5).toInt by first | assumption | omega) (show (x5).toInt ≤ (x4).toInt + 2000 by first | assumption | omega) (show (x5).toInt ≤ (q_I δ 12 36 a0).toInt by first | assumption | omega) (show (q_I δ 12 36 a0).toInt + 2000 * LGf (x3).toInt ≤ 12000 by first | assumption | omega) (show (x3).toInt ≤ K by first | assumption | omega) (show (x4).toInt < (x5).toInt by first | assumption | omega) (show (x4).toInt + 3 ≤ (x5).toInt by first | assumption | omega) (show 1 ≤ (1 : Int) by first | assumption | omega) (show (1 : Int) ≤ 2 by first | assumption | omega) I) (fun r40 hr41 => ?_)
        obtain ⟨i42, ⟨u46, u47, u48⟩, p43, p44, p45⟩ := hr41
        have u49 := kp_t kp_r u46
        have v50 : q_V r40.2 = q_V δ := (u47).trans rfl
        have v51 := kr_t (kr_r (ad := ad)) u48
        have f52 := cb_12_36 i42 k_a0
        have f53 := ti_b r40.1
        have f54 := ti_b r40.1
        exact ⟨by assumption, ⟨kp_w (by decide) u49, v50, kr_w (by decide) v51⟩, by first | assumption | omega, by first | assumption | omega, by first | assumption | omega⟩
      · have c55 : (0 : Int) < r34.1.toInt := o_nle h38
        refine ok_biv (fun vx56 e57 => ?_)
        first | (have q58 := te_cadd (c := 1) (n := 1) rfl (1 : Int32) (by omega) (by omega); rw [← e57] at q58; obtain ⟨f59, f60, f61⟩ := q58) | (obtain ⟨q58, f59, f60, f61⟩ : ∃ q : Int, vx56.toInt = (1 : Int) + (1 : Int) + 4294967296 * q ∧ -2147483648 ≤ vx56.toInt ∧ vx56.toInt ≤ 2147483647 := by rw [e57]; exact ti_cadd (c := 1) (n := 1) rfl (1 : Int32))
        have f64 := ti_b (x2 &&& (((1 : Int32) <<< (r16.1 &&& 31)) - (1 : Int32)))
        refine ok_biv (fun vx62 e63 => ?_)
        have f65 : vx62.toInt = (x2 &&& (((1 : Int32) <<< (r16.1 &&& 31)) - (1 : Int32))).toInt := congrArg Int32.toInt e63
        have f66 := ti_b x1
        refine ok_ite (fun h67 => ?_) (fun h67 => ?_)
        · have c68 : x1.toInt = (3 : Int) := o_eq h67
          refine ok_bind (k_X12_roomEnd L hN (a0 := a0) (x1 := x2) (x2 := x3) (x3 := x4) (x4 := x5) (x5 := (0 : Int32)) k_a0 (show 2 ≤ (x3).toInt by first | assumption | omega) (show (x3).toInt ≤ 16 by first | assumption | omega) (show 0 ≤ (x4).toInt by first | assumption | omega) (show (x4).toInt ≤ (x5).toInt by first | assumption | omega) (show (x5).toInt ≤ 14000 by first | assumption | omega) I) (fun r69 hr70 => ?_)
          have i71 := hr70
          try rw [i71]
          have f72 := ti_b r69.1
          refine ok_ite (fun h73 => ?_) (fun h73 => ?_)
          · have c74 : r69.1.toInt ≤ vx62.toInt := o_le h73
            refine ok_mono (kj_X12_touch_267 L hN (a0 := a0) (x1 := x1) (x2 := x2) (x3 := x3) (x4 := x4) (x5 := x5) (x9v := vx56) (x10v := r16.1) hT k_a0 (show 2 ≤ (x3).toInt by first | assumption | omega) (show (x3).toInt ≤ 16 by first | assumption | omega) (show 0 ≤ (x4).toInt by first | assumption | omega) (show (x4).toInt ≤ (x5).toInt by first | assumption | omega) (show (x5).toInt ≤ (x4).toInt + 2000 by first | assumption | omega) (show (x5).toInt ≤ (q_I δ 12 36 a0).toInt by first | assumption | omega) (show (q_I δ 12 36 a0).toInt + 2000 * LGf (x3).toInt ≤ 12000 by first | assumption | omega) (show (x3).toInt ≤ K by first | assumption | omega) (show (x4).toInt < (x5).toInt by first | assumption | omega) (show (x4).toInt + 3 ≤ (x5).toInt by first | assumption | omega) (show 1 ≤ (vx56).toInt by first | assumption | omega) (show (vx56).toInt ≤ 2 by first | assumption | omega) I) (fun r75 hr76 => ?_)
            obtain ⟨i77, ⟨u81, u82, u83⟩, p78, p79, p80⟩ := hr76
            have u84 := kp_t kp_r u81
            have v85 : q_V r75.2 = q_V δ := (u82).trans rfl
            have v86 := kr_t (kr_r (ad := ad)) u83
            have f87 := cb_12_36 i77 k_a0
            have f88 := ti_b r75.1
            have f89 := ti_b r75.1
            exact ⟨by assumption, ⟨kp_w (by decide) u84, v85, kr_w (by decide) v86⟩, by first | assumption | omega, by first | assumption | omega, by first | assumption | omega⟩
          · have c90 : vx62.toInt < r69.1.toInt := o_nle h73
            unfold J_X12_touch_252
            refine ok_bind (k_bX12_inRoom L hN (a0 := a0) (x1 := x1) (x2 := x2) (x3 := x3) (x4 := x4) (x5 := x5) hT k_a0 (show 2 ≤ (x3).toInt by first | assumption | omega) (show (x3).toInt ≤ 16 by first | assumption | omega) (show 0 ≤ (x4).toInt by first | assumption | omega) (show (x4).toInt ≤ (x5).toInt by first | assumption | omega) (show (x5).toInt ≤ (x4).toInt + 2000 by first | assumption | omega) (show (x5).toInt ≤ (q_I δ 12 36 a0).toInt by first | assumption | omega) (show (q_I δ 12 36 a0).toInt + 2000 * LGf (x3).toInt ≤ 12000 by first | assumption | omega) (show (x3).toInt ≤ K by first | assumption | omega) I) (fun r91 hr92 => ?_)
            obtain ⟨i93, ⟨u97, u98, u99⟩, p94, p95, p96⟩ := hr92
            have u100 := kp_t kp_r u97
            have v101 : q_V r91.2 = q_V δ := (u98).trans rfl
            have v102 := kr_t (kr_r (ad := ad)) u99
            have f103 := cb_12_36 i93 k_a0
            have f104 := ti_b r91.1
            have f105 := ti_b r91.1
            first | (have q107 := te_add vx56 r91.1 (by omega) (by omega); obtain ⟨f108, f109, f110⟩ := q107) | (obtain ⟨q107, f108, f109, f110⟩ := ti_add vx56 r91.1)
            exact ok_some (show RI ad h.1 δ0 r91.2 ∧ (kp [(12, 36)] δ r91.2 ∧ q_V r91.2 = q_V δ ∧ kr ad [119] δ r91.2) ∧ (q_I r91.2 12 36 a0).toInt = (q_I δ 12 36 a0).toInt ∧ 1 ≤ ((vx56 + r91.1)).toInt ∧ ((vx56 + r91.1)).toInt ≤ VBf (x3).toInt from ⟨i93, ⟨kp_w (by decide) u100, v101, kr_w (by decide) v102⟩, by first | assumption | omega, by first | assumption | omega, by first | assumption | omega⟩)
        · have c111 : x1.toInt ≠ (3 : Int) := o_ne h67
          refine ok_bind (k_X12_roomEnd L hN (a0 := a0) (x1 := x2) (x2 := x3) (x3 := x4) (x4 := x5) (x5 := (1 : Int32)) k_a0 (show 2 ≤ (x3).toInt by first | assumption | omega) (show (x3).toInt ≤ 16 by first | assumption | omega) (show 0 ≤ (x4).toInt by first | assumption | omega) (show (x4).toInt ≤ (x5).toInt by first | assumption | omega) (show (x5).toInt ≤ 14000 by first | assumption | omega) I) (fun r112 hr113 => ?_)
          have i114 := hr113
          try rw [i114]
          have f115 := ti_b r112.1
          refine ok_ite (fun h116 => ?_) (fun h116 => ?_)
          · have c117 : vx62.toInt ≤ r112.1.toInt := o_le h116
            refine ok_mono (kj_X12_touch_267 L hN (a0 := a0) (x1 := x1) (x2 := x2) (x3 := x3) (x4 := x4) (x5 := x5) (x9v := vx56) (x10v := r16.1) hT k_a0 (show 2 ≤ (x3).toInt by first | assumption | omega) (show (x3).toInt ≤ 16 by first | assumption | omega) (show 0 ≤ (x4).toInt by first | assumption | omega) (show (x4).toInt ≤ (x5).toInt by first | assumption | omega) (show (x5).toInt ≤ (x4).toInt + 2000 by first | assumption | omega) (show (x5).toInt ≤ (q_I δ 12 36 a0).toInt by first | assumption | omega) (show (q_I δ 12 36 a0).toInt + 2000 * LGf (x3).toInt ≤ 12000 by first | assumption | omega) (show (x3).toInt ≤ K by first | assumption | omega) (show (x4).toInt < (x5).toInt by first | assumption | omega) (show (x4).toInt + 3 ≤ (x5).toInt by first | assumption | omega) (show 1 ≤ (vx56).toInt by first | assumption | omega) (show (vx56).toInt ≤ 2 by first | assumption | omega) I) (fun r118 hr119 => ?_)
            obtain ⟨i120, ⟨u124, u125, u126⟩, p121, p122, p123⟩ := hr119
            have u127 := kp_t kp_r u124
            have v128 : q_V r118.2 = q_V δ := (u125).trans rfl
            have v129 := kr_t (kr_r (ad := ad)) u126
            have f130 := cb_12_36 i120 k_a0
            have f131 := ti_b r118.1
            have f132 := ti_b r118.1
            exact ⟨by assumption, ⟨kp_w (by decide) u127, v128, kr_w (by decide) v129⟩, by first | assumption | omega, by first | assumption | omega, by first | assumption | omega⟩
          · have c133 : r112.1.toInt < vx62.toInt := o_nle h116
            unfold J_X12_touch_252
            refine ok_bind (k_bX12_inRoom L hN (a0 := a0) (x1 := x1) (x2 := x2) (x3 := x3) (x4 := x4) (x5 := x5) hT k_a0 (show 2 ≤ (x3).toInt by first | assumption | omega) (show (x3).toInt ≤ 16 by first | assumption | omega) (show 0 ≤ (x4).toInt by first | assumption | omega) (show (x4).toInt ≤ (x5).toInt by first | assumption | omega) (show (x5).toInt ≤ (x4).toInt + 2000 by first | assumption | omega) (show (x5).toInt ≤ (q_I δ 12 36 a0).toInt by first | assumption | omega) (show (q_I δ 12 36 a0).toInt + 2000 * LGf (x3).toInt ≤ 12000 by first | assumption | omega) (show (x3).toInt ≤ K by first | assumption | omega) I) (fun r134 hr135 => ?_)
            obtain ⟨i136, ⟨u140, u141, u142⟩, p137, p138, p139⟩ := hr135
            have u143 := kp_t kp_r u140
            have v144 : q_V r134.2 = q_V δ := (u141).trans rfl
            have v145 := kr_t (kr_r (ad := ad)) u142
            have f146 := cb_12_36 i136 k_a0
            have f147 := ti_b r134.1
            have f148 := ti_b r134.1
            first | (have q150 := te_add vx56 r134.1 (by omega) (by omega); obtain ⟨f151, f152, f153⟩ := q150) | (obtain ⟨q150, f151, f152, f153⟩ := ti_add vx56 r134.1)
            exact ok_some (show RI ad h.1 δ0 r134.2 ∧ (kp [(12, 36)] δ r134.2 ∧ q_V r134.2 = q_V δ ∧ kr ad [119] δ r134.2) ∧ (q_I r134.2 12 36 a0).toInt = (q_I δ 12 36 a0).toInt ∧ 1 ≤ ((vx56 + r134.1)).toInt ∧ ((vx56 + r134.1)).toInt ≤ VBf (x3).toInt from ⟨i136, ⟨kp_w (by decide) u143, v144, kr_w (by decide) v145⟩, by first | assumption | omega, by first | assumption | omega, by first | assumption | omega⟩)
    · have c154 : (x5 - x4).toInt < (3 : Int) := o_nle h14
      unfold J_X12_touch_174
      exact ok_some (show RI ad h.1 δ0 δ ∧ (kp [(12, 36)] δ δ ∧ q_V δ = q_V δ ∧ kr ad [119] δ δ) ∧ (q_I δ 12 36 a0).toInt = (q_I δ 12 36 a0).toInt ∧ 1 ≤ (1 : Int) ∧ (1 : Int) ≤ VBf (x3).toInt from ⟨I, ⟨kp_w (by decide) kp_r, rfl, kr_w (by decide) (kr_r (ad := ad))⟩, by first | assumption | omega, by first | assumption | omega, by first | assumption | omega⟩)
  · have c155 : xs0.toInt ≠ (0 : Int) := o_ne h7
    unfold J_X12_touch_174
    exact ok_some (show RI ad h.1 δ0 δ ∧ (kp [(12, 36)] δ δ ∧ q_V δ = q_V δ ∧ kr ad [119] δ δ) ∧ (q_I δ 12 36 a0).toInt = (q_I δ 12 36 a0).toInt ∧ 1 ≤ (1 : Int) ∧ (1 : Int) ≤ VBf (x3).toInt from ⟨I, ⟨kp_w (by decide) kp_r, rfl, kr_w (by decide) (kr_r (ad := ad))⟩, by first | assumption | omega, by first | assumption | omega, by first | assumption | omega⟩)
set_option maxHeartbeats 4000000 in
theorem ke_X12_touch {ad : List Nat} {h : hp} (L : Lay TLx ad h) {δ0 : dp} {N : Nat} (hN : 10000000 ≤ N) : ∀ (k : Nat), ∀ (a0 : Nat) (x1 : Int32) (x2 : Int32) (x3 : Int32) (x4 : Int32) (x5 : Int32) (δ : dp), q_K h.1 a0 = 12 → 1 ≤ (x3).toInt → (x3).toInt ≤ 16 → 0 ≤ (x4).toInt → (x4).toInt ≤ (x5).toInt → (x5).toInt ≤ (x4).toInt + 2000 → (x5).toInt ≤ (q_I δ 12 36 a0).toInt → (q_I δ 12 36 a0).toInt + 2000 * LGf (x3).toInt ≤ 12000 → (x3).toInt < (k : Int) → RI ad h.1 δ0 δ → ok (E_X12_touch N h.1 k a0 x1 x2 x3 x4 x5 δ) (fun r => RI ad h.1 δ0 r.2 ∧ (kp [(12, 36)] δ r.2 ∧ q_V r.2 = q_V δ ∧ kr ad [119] δ r.2) ∧ (q_I r.2 12 36 a0).toInt = (q_I δ 12 36 a0).toInt ∧ 1 ≤ (r.1).toInt ∧ (r.1).toInt ≤ VBf (x3).toInt) := by
  intro k
  induction k with
  | zero =>
    intro a0 x1 x2 x3 x4 x5 δ k_a0 z0 z1 z2 z3 z4 z5 z6 hd I
    exfalso; omega
  | succ k ih =>
    intro a0 x1 x2 x3 x4 x5 δ k_a0 z0 z1 z2 z3 z4 z5 z6 hd I
    unfold E_X12_touch B_X12_touch
    have f1 := lgb (x3).toInt
    have f2 := ti_b x3
    have f3 := ti_b x4
    have f4 := ti_b x5
    have f5 := cb_12_36 I k_a0
    have f6 := cb_12_11 I k_a0
    refine ok_ite (fun h7 => ?_) (fun h7 => ?_)
    · have c8 : x3.toInt ≤ (q_I δ 12 11 a0).toInt := o_le h7
      unfold J_X12_touch_15
      exact ok_some (show RI ad h.1 δ0 δ ∧ (kp [(12, 36)] δ δ ∧ q_V δ = q_V δ ∧ kr ad [119] δ δ) ∧ (q_I δ 12 36 a0).toInt = (q_I δ 12 36 a0).toInt ∧ 1 ≤ (1 : Int) ∧ (1 : Int) ≤ VBf (x3).toInt from ⟨I, ⟨kp_w (by decide) kp_r, rfl, kr_w (by decide) (kr_r (ad := ad))⟩, by first | assumption | omega, by first | assumption | omega, by first | assumption | omega⟩)
    · have c9 : (q_I δ 12 11 a0).toInt < x3.toInt := o_nle h7
      refine ok_ite (fun h10 => ?_) (fun h10 => ?_)
      · have c11 : x4.toInt = x5.toInt := o_eq h10
        unfold J_X12_touch_15
        exact ok_some (show RI ad h.1 δ0 δ ∧ (kp [(12, 36)] δ δ ∧ q_V δ = q_V δ ∧ kr ad [119] δ δ) ∧ (q_I δ 12 36 a0).toInt = (q_I δ 12 36 a0).toInt ∧ 1 ≤ (1 : Int) ∧ (1 : Int) ≤ VBf (x3).toInt from ⟨I, ⟨kp_w (by decide) kp_r, rfl, kr_w (by decide) (kr_r (ad := ad))⟩, by first | assumption | omega, by first | assumption | omega, by first | assumption | omega⟩)
      · have c12 : x4.toInt ≠ x5.toInt := o_ne h10
        have f13 := ti_b x1
        refine ok_ite (fun h14 => ?_) (fun h14 => ?_)
        · have c15 : x1.toInt = (0 : Int) := o_eq h14
          refine ok_bind (k_bX12_touchPut L hN (a0 := a0) (x1 := x2) (x2 := x3) (x3 := x4) (x4 := x5) ih k_a0 (show 2 ≤ (x3).toInt by first | assumption | omega) (show (x3).toInt ≤ 16 by first | assumption | omega) (show 0 ≤ (x4).toInt by first | assumption | omega) (show (x4).toInt ≤ (x5).toInt by first | assumption | omega) (show (x5).toInt ≤ (x4).toInt + 2000 by first | assumption | omega) (show (x5).toInt ≤ (q_I δ 12 36 a0).toInt by first | assumption | omega) (show (q_I δ 12 36 a0).toInt + 2000 * LGf (x3).toInt ≤ 12000 by first | assumption | omega) (show (x3).toInt ≤ (k : Int) by first | assumption | omega) (show (x4).toInt < (x5).toInt by first | assumption | omega) I) (fun r16 hr17 => ?_)
          obtain ⟨i18, ⟨u22, u23, u24⟩, p19, p20, p21⟩ := hr17
          have u25 := kp_t kp_r u22
          have v26 : q_V r16.2 = q_V δ := (u23).trans rfl
          have v27 := kr_t (kr_r (ad := ad)) u24
          have f28 := cb_12_36 i18 k_a0
          have f29 := ti_b r16.1
          have f30 := ti_b r16.1
          exact ok_some (show RI ad h.1 δ0 r16.2 ∧ (kp [(12, 36)] δ r16.2 ∧ q_V r16.2 = q_V δ ∧ kr ad [119] δ r16.2) ∧ (q_I r16.2 12 36 a0).toInt = (q_I δ 12 36 a0).toInt ∧ 1 ≤ (r16.1).toInt ∧ (r16.1).toInt ≤ VBf (x3).toInt from ⟨i18, ⟨kp_w (by decide) u25, v26, kr_w (by decide) v27⟩, by first | assumption | omega, by first | assumption | omega, by first | assumption | omega⟩)
        · have c31 : x1.toInt ≠ (0 : Int) := o_ne h14
          refine ok_ite (fun h32 => ?_) (fun h32 => ?_)
          · have c33 : x1.toInt = (1 : Int) := o_eq h32
            refine ok_bind (k_bX12_touchDrop L hN (a0 := a0) (x1 := x2) (x2 := x3) (x3 := x4) (x4 := x5) ih k_a0 (show 2 ≤ (x3).toInt by first | assumption | omega) (show (x3).toInt ≤ 16 by first | assumption | omega) (show 0 ≤ (x4).toInt by first | assumption | omega) (show (x4).toInt ≤ (x5).toInt by first | assumption | omega) (show (x5).toInt ≤ (x4).toInt + 2000 by first | assumption | omega) (show (x5).toInt ≤ (q_I δ 12 36 a0).toInt by first | assumption | omega) (show (q_I δ 12 36 a0).toInt + 2000 * LGf (x3).toInt ≤ 12000 by first | assumption | omega) (show (x3).toInt ≤ (k : Int) by first | assumption | omega) (show (x4).toInt < (x5).toInt by first | assumption | omega) I) (fun r34 hr35 => ?_)
            obtain ⟨i36, ⟨u40, u41, u42⟩, p37, p38, p39⟩ := hr35
            have u43 := kp_t kp_r u40
            have v44 : q_V r34.2 = q_V δ := (u41).trans rfl
            have v45 := kr_t (kr_r (ad := ad)) u42
            have f46 := cb_12_36 i36 k_a0
            have f47 := ti_b r34.1
            have f48 := ti_b r34.1
            exact ok_some (show RI ad h.1 δ0 r34.2 ∧ (kp [(12, 36)] δ r34.2 ∧ q_V r34.2 = q_V δ ∧ kr ad [119] δ r34.2) ∧ (q_I r34.2 12 36 a0).toInt = (q_I δ 12 36 a0).toInt ∧ 1 ≤ (r34.1).toInt ∧ (r34.1).toInt ≤ VBf (x3).toInt from ⟨i36, ⟨kp_w (by decide) u43, v44, kr_w (by decide) v45⟩, by first | assumption | omega, by first | assumption | omega, by first | assumption | omega⟩)
          · have c49 : x1.toInt ≠ (1 : Int) := o_ne h32
            obtain ⟨b50, o51, k52, n53, w54⟩ := gO_12_35 L k_a0
            obtain rfl := gS_12_35 L k_a0 o51
            refine ok_at o51 ?_
            have t55 := ti_tn x4
            refine ok_gd (fun hc56 => ?_) ?_
            · rcases hc56 with hc56 | hc56
              · have c57 : x4.toInt < (0 : Int) := o_lt hc56
                omega
              · omega
            have f60 := ti_b (q_R δ (Ad ad 119) x4.toNatClampNeg)
            refine ok_biv (fun vx58 e59 => ?_)
            have f61 : vx58.toInt = (q_R δ (Ad ad 119) x4.toNatClampNeg).toInt := congrArg Int32.toInt e59
            refine ok_at o51 ?_
            first | (have q63 := te_subc (c := 1) (n := 1) rfl x5 (by omega) (by omega); obtain ⟨f64, f65, f66⟩ := q63) | (obtain ⟨q63, f64, f65, f66⟩ := ti_subc (c := 1) (n := 1) rfl x5)
            have t67 := ti_tn (x5 - (1 : Int32))
            refine ok_gd (fun hc68 => ?_) ?_
            · rcases hc68 with hc68 | hc68
              · have c69 : (x5 - (1 : Int32)).toInt < (0 : Int) := o_lt hc68
                omega
              · omega
            have f72 := ti_b (q_R δ (Ad ad 119) (x5 - (1 : Int32)).toNatClampNeg)
            refine ok_biv (fun vx70 e71 => ?_)
            have f73 : vx70.toInt = (q_R δ (Ad ad 119) (x5 - (1 : Int32)).toNatClampNeg).toInt := congrArg Int32.toInt e71
            refine ok_ite (fun h74 => ?_) (fun h74 => ?_)
            · have c75 : x1.toInt = (2 : Int) := o_eq h74
              have f76 := ti_b x2
              refine ok_ite (fun h77 => ?_) (fun h77 => ?_)
              · have c78 : x2.toInt ≤ vx58.toInt := o_le h77
                unfold J_X12_touch_98
                unfold J_X12_touch_115
                exact ok_some (show RI ad h.1 δ0 δ ∧ (kp [(12, 36)] δ δ ∧ q_V δ = q_V δ ∧ kr ad [119] δ δ) ∧ (q_I δ 12 36 a0).toInt = (q_I δ 12 36 a0).toInt ∧ 1 ≤ (1 : Int) ∧ (1 : Int) ≤ VBf (x3).toInt from ⟨I, ⟨kp_w (by decide) kp_r, rfl, kr_w (by decide) (kr_r (ad := ad))⟩, by first | assumption | omega, by first | assumption | omega, by first | assumption | omega⟩)
              · have c79 : vx58.toInt < x2.toInt := o_nle h77
                refine ok_ite (fun h80 => ?_) (fun h80 => ?_)
                · have c81 : vx70.toInt ≤ x2.toInt := o_le h80
                  unfold J_X12_touch_98
                  unfold J_X12_touch_115
                  exact ok_some (show RI ad h.1 δ0 δ ∧ (kp [(12, 36)] δ δ ∧ q_V δ = q_V δ ∧ kr ad [119] δ δ) ∧ (q_I δ 12 36 a0).toInt = (q_I δ 12 36 a0).toInt ∧ 1 ≤ (1 : Int) ∧ (1 : Int) ≤ VBf (x3).toInt from ⟨I, ⟨kp_w (by decide) kp_r, rfl, kr_w (by decide) (kr_r (ad := ad))⟩, by first | assumption | omega, by first | assumption | omega, by first | assumption | omega⟩)
                · have c82 : x2.toInt < vx70.toInt := o_nle h80
                  refine ok_bind (k_X12_roomMany L hN (a0 := a0) (x1 := x2) (x2 := x3) (x3 := x4) (x4 := x5) k_a0 (show 2 ≤ (x3).toInt by first | assumption | omega) (show (x3).toInt ≤ 16 by first | assumption | omega) (show 0 ≤ (x4).toInt by first | assumption | omega) (show (x4).toInt ≤ (x5).toInt by first | assumption | omega) (show (x5).toInt ≤ 14000 by first | assumption | omega) I) (fun r83 hr84 => ?_)
                  have i85 := hr84
                  try rw [i85]
                  have f86 := ti_b r83.1
                  refine ok_ite (fun h87 => ?_) (fun h87 => ?_)
                  · have c88 : r83.1.toInt = (0 : Int) := o_eq h87
                    unfold J_X12_touch_98
                    unfold J_X12_touch_115
                    exact ok_some (show RI ad h.1 δ0 δ ∧ (kp [(12, 36)] δ δ ∧ q_V δ = q_V δ ∧ kr ad [119] δ δ) ∧ (q_I δ 12 36 a0).toInt = (q_I δ 12 36 a0).toInt ∧ 1 ≤ (1 : Int) ∧ (1 : Int) ≤ VBf (x3).toInt from ⟨I, ⟨kp_w (by decide) kp_r, rfl, kr_w (by decide) (kr_r (ad := ad))⟩, by first | assumption | omega, by first | assumption | omega, by first | assumption | omega⟩)
                  · have c89 : r83.1.toInt ≠ (0 : Int) := o_ne h87
                    refine ok_bind (k_bX12_inRoom L hN (a0 := a0) (x1 := (2 : Int32)) (x2 := x2) (x3 := x3) (x4 := x4) (x5 := x5) ih k_a0 (show 2 ≤ (x3).toInt by first | assumption | omega) (show (x3).toInt ≤ 16 by first | assumption | omega) (show 0 ≤ (x4).toInt by first | assumption | omega) (show (x4).toInt ≤ (x5).toInt by first | assumption | omega) (show (x5).toInt ≤ (x4).toInt + 2000 by first | assumption | omega) (show (x5).toInt ≤ (q_I δ 12 36 a0).toInt by first | assumption | omega) (show (q_I δ 12 36 a0).toInt + 2000 * LGf (x3).toInt ≤ 12000 by first | assumption | omega) (show (x3).toInt ≤ (k : Int) by first | assumption | omega) I) (fun r90 hr91 => ?_)
                    obtain ⟨i92, ⟨u96, u97, u98⟩, p93, p94, p95⟩ := hr91
                    have u99 := kp_t kp_r u96
                    have v100 : q_V r90.2 = q_V δ := (u97).trans rfl
                    have v101 := kr_t (kr_r (ad := ad)) u98
                    have f102 := cb_12_36 i92 k_a0
                    have f103 := ti_b r90.1
                    have f104 := ti_b r90.1
                    unfold J_X12_touch_115
                    first | (have q106 := te_cadd (c := 1) (n := 1) rfl r90.1 (by omega) (by omega); obtain ⟨f107, f108, f109⟩ := q106) | (obtain ⟨q106, f107, f108, f109⟩ := ti_cadd (c := 1) (n := 1) rfl r90.1)
                    exact ok_some (show RI ad h.1 δ0 r90.2 ∧ (kp [(12, 36)] δ r90.2 ∧ q_V r90.2 = q_V δ ∧ kr ad [119] δ r90.2) ∧ (q_I r90.2 12 36 a0).toInt = (q_I δ 12 36 a0).toInt ∧ 1 ≤ (((1 : Int32) + r90.1)).toInt ∧ (((1 : Int32) + r90.1)).toInt ≤ VBf (x3).toInt from ⟨i92, ⟨kp_w (by decide) u99, v100, kr_w (by decide) v101⟩, by first | assumption | omega, by first | assumption | omega, by first | assumption | omega⟩)
            · have c110 : x1.toInt ≠ (2 : Int) := o_ne h74
              refine ok_ite (fun h111 => ?_) (fun h111 => ?_)
              · have c112 : x1.toInt = (3 : Int) := o_eq h111
                have f113 := ti_b x2
                refine ok_ite (fun h114 => ?_) (fun h114 => ?_)
                · have c115 : x2.toInt < vx58.toInt := o_lt h114
                  unfold J_X12_touch_133
                  unfold J_X12_touch_158
                  refine ok_ite (fun h116 => ?_) (fun h116 => ?_)
                  · have c117 : (1 : Int) = (0 : Int) := o_eq h116
                    first | (have q119 := te_sub x5 x4 (by omega) (by omega); obtain ⟨f120, f121, f122⟩ := q119) | (obtain ⟨q119, f120, f121, f122⟩ := ti_sub x5 x4)
                    refine ok_ite (fun h123 => ?_) (fun h123 => ?_)
                    · have c124 : (3 : Int) ≤ (x5 - x4).toInt := o_le h123
                      refine ok_bind (k_X12_lowerBits L hN (a0 := a0) (x1 := x3) k_a0 (show 2 ≤ (x3).toInt by first | assumption | omega) (show (x3).toInt ≤ 16 by first | assumption | omega) I) (fun r125 hr126 => ?_)
                      obtain ⟨i127, p128, p129, p130, p131, p132, p133⟩ := hr126
                      try rw [i127]
                      have f134 := ti_b r125.1
                      have f135 := lgb (r125.1).toInt
                      have f136 := lgb ((x3 - r125.1)).toInt
                      first | (have q138 := te_sub x3 r125.1 (by omega) (by omega); obtain ⟨f139, f140, f141⟩ := q138) | (obtain ⟨q138, f139, f140, f141⟩ := ti_sub x3 r125.1)
                      have f142 := ti_b r125.1
                      refine ok_bind (k_X12_roomMany L hN (a0 := a0) (x1 := x2) (x2 := x3) (x3 := x4) (x4 := x5) k_a0 (show 2 ≤ (x3).toInt by first | assumption | omega) (show (x3).toInt ≤ 16 by first | assumption | omega) (show 0 ≤ (x4).toInt by first | assumption | omega) (show (x4).toInt ≤ (x5).toInt by first | assumption | omega) (show (x5).toInt ≤ 14000 by first | assumption | omega) I) (fun r143 hr144 => ?_)
                      have i145 := hr144
                      try rw [i145]
                      have f146 := ti_b r143.1
                      refine ok_ite (fun h147 => ?_) (fun h147 => ?_)
                      · have c148 : r143.1.toInt ≤ (0 : Int) := o_le h147
                        refine ok_mono (kj_X12_touch_267 L hN (a0 := a0) (x1 := x1) (x2 := x2) (x3 := x3) (x4 := x4) (x5 := x5) (x9v := (1 : Int32)) (x10v := r125.1) ih k_a0 (show 2 ≤ (x3).toInt by first | assumption | omega) (show (x3).toInt ≤ 16 by first | assumption | omega) (show 0 ≤ (x4).toInt by first | assumption | omega) (show (x4).toInt ≤ (x5).toInt by first | assumption | omega) (show (x5).toInt ≤ (x4).toInt + 2000 by first | assumption | omega) (show (x5).toInt ≤ (q_I δ 12 36 a0).toInt by first | assumption | omega) (show (q_I δ 12 36 a0).toInt + 2000 * LGf (x3).toInt ≤ 12000 by first | assumption | omega) (show (x3).toInt ≤ (k : Int) by first | assumption | omega) (show (x4).toInt < (x5).toInt by first | assumption | omega) (show (x4).toInt + 3 ≤ (x5).toInt by first | assumption | omega) (show 1 ≤ (1 : Int) by first | assumption | omega) (show (1 : Int) ≤ 2 by first | assumption | omega) I) (fun r149 hr150 => ?_)
                        obtain ⟨i151, ⟨u155, u156, u157⟩, p152, p153, p154⟩ := hr150
                        have u158 := kp_t kp_r u155
                        have v159 : q_V r149.2 = q_V δ := (u156).trans rfl
                        have v160 := kr_t (kr_r (ad := ad)) u157
                        have f161 := cb_12_36 i151 k_a0
                        have f162 := ti_b r149.1
                        have f163 := ti_b r149.1
                        exact ⟨by assumption, ⟨kp_w (by decide) u158, v159, kr_w (by decide) v160⟩, by first | assumption | omega, by first | assumption | omega, by first | assumption | omega⟩
                      · have c164 : (0 : Int) < r143.1.toInt := o_nle h147
                        refine ok_biv (fun vx165 e166 => ?_)
                        first | (have q167 := te_cadd (c := 1) (n := 1) rfl (1 : Int32) (by omega) (by omega); rw [← e166] at q167; obtain ⟨f168, f169, f170⟩ := q167) | (obtain ⟨q167, f168, f169, f170⟩ : ∃ q : Int, vx165.toInt = (1 : Int) + (1 : Int) + 4294967296 * q ∧ -2147483648 ≤ vx165.toInt ∧ vx165.toInt ≤ 2147483647 := by rw [e166]; exact ti_cadd (c := 1) (n := 1) rfl (1 : Int32))
                        have f173 := ti_b (x2 &&& (((1 : Int32) <<< (r125.1 &&& 31)) - (1 : Int32)))
                        refine ok_biv (fun vx171 e172 => ?_)
                        have f174 : vx171.toInt = (x2 &&& (((1 : Int32) <<< (r125.1 &&& 31)) - (1 : Int32))).toInt := congrArg Int32.toInt e172
                        refine ok_ite (fun h175 => ?_) (fun h175 => ?_)
                        · have c176 : x1.toInt = (3 : Int) := o_eq h175
                          refine ok_bind (k_X12_roomEnd L hN (a0 := a0) (x1 := x2) (x2 := x3) (x3 := x4) (x4 := x5) (x5 := (0 : Int32)) k_a0 (show 2 ≤ (x3).toInt by first | assumption | omega) (show (x3).toInt ≤ 16 by first | assumption | omega) (show 0 ≤ (x4).toInt by first | assumption | omega) (show (x4).toInt ≤ (x5).toInt by first | assumption | omega) (show (x5).toInt ≤ 14000 by first | assumption | omega) I) (fun r177 hr178 => ?_)
                          have i179 := hr178
                          try rw [i179]
                          have f180 := ti_b r177.1
                          refine ok_ite (fun h181 => ?_) (fun h181 => ?_)
                          · have c182 : r177.1.toInt ≤ vx171.toInt := o_le h181
                            refine ok_mono (kj_X12_touch_267 L hN (a0 := a0) (x1 := x1) (x2 := x2) (x3 := x3) (x4 := x4) (x5 := x5) (x9v := vx165) (x10v := r125.1) ih k_a0 (show 2 ≤ (x3).toInt by first | assumption | omega) (show (x3).toInt ≤ 16 by first | assumption | omega) (show 0 ≤ (x4).toInt by first | assumption | omega) (show (x4).toInt ≤ (x5).toInt by first | assumption | omega) (show (x5).toInt ≤ (x4).toInt + 2000 by first | assumption | omega) (show (x5).toInt ≤ (q_I δ 12 36 a0).toInt by first | assumption | omega) (show (q_I δ 12 36 a0).toInt + 2000 * LGf (x3).toInt ≤ 12000 by first | assumption | omega) (show (x3).toInt ≤ (k : Int) by first | assumption | omega) (show (x4).toInt < (x5).toInt by first | assumption | omega) (show (x4).toInt + 3 ≤ (x5).toInt by first | assumption | omega) (show 1 ≤ (vx165).toInt by first | assumption | omega) (show (vx165).toInt ≤ 2 by first | assumption | omega) I) (fun r183 hr184 => ?_)
                            obtain ⟨i185, ⟨u189, u190, u191⟩, p186, p187, p188⟩ := hr184
                            have u192 := kp_t kp_r u189
                            have v193 : q_V r183.2 = q_V δ := (u190).trans rfl
                            have v194 := kr_t (kr_r (ad := ad)) u191
                            have f195 := cb_12_36 i185 k_a0
                            have f196 := ti_b r183.1
                            have f197 := ti_b r183.1
                            exact ⟨by assumption, ⟨kp_w (by decide) u192, v193, kr_w (by decide) v194⟩, by first | assumption | omega, by first | assumption | omega, by first | assumption | omega⟩
                          · have c198 : vx171.toInt < r177.1.toInt := o_nle h181
                            unfold J_X12_touch_252
                            refine ok_bind (k_bX12_inRoom L hN (a0 := a0) (x1 := x1) (x2 := x2) (x3 := x3) (x4 := x4) (x5 := x5) ih k_a0 (show 2 ≤ (x3).toInt by first | assumption | omega) (show (x3).toInt ≤ 16 by first | assumption | omega) (show 0 ≤ (x4).toInt by first | assumption | omega) (show (x4).toInt ≤ (x5).toInt by first | assumption | omega) (show (x5).toInt ≤ (x4).toInt + 2000 by first | assumption | omega) (show (x5).toInt ≤ (q_I δ 12 36 a0).toInt by first | assumption | omega) (show (q_I δ 12 36 a0).toInt + 2000 * LGf (x3).toInt ≤ 12000 by first | assumption | omega) (show (x3).toInt ≤ (k : Int) by first | assumption | omega) I) (fun r199 hr200 => ?_)
                            obtain ⟨i201, ⟨u205, u206, u207⟩, p202, p203, p204⟩ := hr200
                            have u208 := kp_t kp_r u205
                            have v209 : q_V r199.2 = q_V δ := (u206).trans rfl
                            have v210 := kr_t (kr_r (ad := ad)) u207
                            have f211 := cb_12_36 i201 k_a0
                            have f212 := ti_b r199.1
                            have f213 := ti_b r199.1
                            first | (have q215 := te_add vx165 r199.1 (by omega) (by omega); obtain ⟨f216, f217, f218⟩ := q215) | (obtain ⟨q215, f216, f217, f218⟩ := ti_add vx165 r199.1)
                            exact ok_some (show RI ad h.1 δ0 r199.2 ∧ (kp [(12, 36)] δ r199.2 ∧ q_V r199.2 = q_V δ ∧ kr ad [119] δ r199.2) ∧ (q_I r199.2 12 36 a0).toInt = (q_I δ 12 36 a0).toInt ∧ 1 ≤ ((vx165 + r199.1)).toInt ∧ ((vx165 + r199.1)).toInt ≤ VBf (x3).toInt from ⟨i201, ⟨kp_w (by decide) u208, v209, kr_w (by decide) v210⟩, by first | assumption | omega, by first | assumption | omega, by first | assumption | omega⟩)
                        · have c219 : x1.toInt ≠ (3 : Int) := o_ne h175
                          refine ok_bind (k_X12_roomEnd L hN (a0 := a0) (x1 := x2) (x2 := x3) (x3 := x4) (x4 := x5) (x5 := (1 : Int32)) k_a0 (show 2 ≤ (x3).toInt by first | assumption | omega) (show (x3).toInt ≤ 16 by first | assumption | omega) (show 0 ≤ (x4).toInt by first | assumption | omega) (show (x4).toInt ≤ (x5).toInt by first | assumption | omega) (show (x5).toInt ≤ 14000 by first | assumption | omega) I) (fun r220 hr221 => ?_)
                          have i222 := hr221
                          try rw [i222]
                          have f223 := ti_b r220.1
                          refine ok_ite (fun h224 => ?_) (fun h224 => ?_)
                          · have c225 : vx171.toInt ≤ r220.1.toInt := o_le h224
                            refine ok_mono (kj_X12_touch_267 L hN (a0 := a0) (x1 := x1) (x2 := x2) (x3 := x3) (x4 := x4) (x5 := x5) (x9v := vx165) (x10v := r125.1) ih k_a0 (show 2 ≤ (x3).toInt by first | assumption | omega) (show (x3).toInt ≤ 16 by first | assumption | omega) (show 0 ≤ (x4).toInt by first | assumption | omega) (show (x4).toInt ≤ (x5).toInt by first | assumption | omega) (show (x5).toInt ≤ (x4).toInt + 2000 by first | assumption | omega) (show (x5).toInt ≤ (q_I δ 12 36 a0).toInt by first | assumption | omega) (show (q_I δ 12 36 a0).toInt + 2000 * LGf (x3).toInt ≤ 12000 by first | assumption | omega) (show (x3).toInt ≤ (k : Int) by first | assumption | omega) (show (x4).toInt < (x5).toInt by first | assumption | omega) (show (x4).toInt + 3 ≤ (x5).toInt by first | assumption | omega) (show 1 ≤ (vx165).toInt by first | assumption | omega) (show (vx165).toInt ≤ 2 by first | assumption | omega) I) (fun r226 hr227 => ?_)
                            obtain ⟨i228, ⟨u232, u233, u234⟩, p229, p230, p231⟩ := hr227
                            have u235 := kp_t kp_r u232
                            have v236 : q_V r226.2 = q_V δ := (u233).trans rfl
                            have v237 := kr_t (kr_r (ad := ad)) u234
                            have f238 := cb_12_36 i228 k_a0
                            have f239 := ti_b r226.1
                            have f240 := ti_b r226.1
                            exact ⟨by assumption, ⟨kp_w (by decide) u235, v236, kr_w (by decide) v237⟩, by first | assumption | omega, by first | assumption | omega, by first | assumption | omega⟩
                          · have c241 : r220.1.toInt < vx171.toInt := o_nle h224
                            unfold J_X12_touch_252
                            refine ok_bind (k_bX12_inRoom L hN (a0 := a0) (x1 := x1) (x2 := x2) (x3 := x3) (x4 := x4) (x5 := x5) ih k_a0 (show 2 ≤ (x3).toInt by first | assumption | omega) (show (x3).toInt ≤ 16 by first | assumption | omega) (show 0 ≤ (x4).toInt by first | assumption | omega) (show (x4).toInt ≤ (x5).toInt by first | assumption | omega) (show (x5).toInt ≤ (x4).toInt + 2000 by first | assumption | omega) (show (x5).toInt ≤ (q_I δ 12 36 a0).toInt by first | assumption | omega) (show (q_I δ 12 36 a0).toInt + 2000 * LGf (x3).toInt ≤ 12000 by first | assumption | omega) (show (x3).toInt ≤ (k : Int) by first | assumption | omega) I) (fun r242 hr243 => ?_)
                            obtain ⟨i244, ⟨u248, u249, u250⟩, p245, p246, p247⟩ := hr243
                            have u251 := kp_t kp_r u248
                            have v252 : q_V r242.2 = q_V δ := (u249).trans rfl
                            have v253 := kr_t (kr_r (ad := ad)) u250
                            have f254 := cb_12_36 i244 k_a0
                            have f255 := ti_b r242.1
                            have f256 := ti_b r242.1
                            first | (have q258 := te_add vx165 r242.1 (by omega) (by omega); obtain ⟨f259, f260, f261⟩ := q258) | (obtain ⟨q258, f259, f260, f261⟩ := ti_add vx165 r242.1)
                            exact ok_some (show RI ad h.1 δ0 r242.2 ∧ (kp [(12, 36)] δ r242.2 ∧ q_V r242.2 = q_V δ ∧ kr ad [119] δ r242.2) ∧ (q_I r242.2 12 36 a0).toInt = (q_I δ 12 36 a0).toInt ∧ 1 ≤ ((vx165 + r242.1)).toInt ∧ ((vx165 + r242.1)).toInt ≤ VBf (x3).toInt from ⟨i244, ⟨kp_w (by decide) u251, v252, kr_w (by decide) v253⟩, by first | assumption | omega, by first | assumption | omega, by first | assumption | omega⟩)
                    · have c262 : (x5 - x4).toInt < (3 : Int) := o_nle h123
                      unfold J_X12_touch_174
                      exact ok_some (show RI ad h.1 δ0 δ ∧ (kp [(12, 36)] δ δ ∧ q_V δ = q_V δ ∧ kr ad [119] δ δ) ∧ (q_I δ 12 36 a0).toInt = (q_I δ 12 36 a0).toInt ∧ 1 ≤ (1 : Int) ∧ (1 : Int) ≤ VBf (x3).toInt from ⟨I, ⟨kp_w (by decide) kp_r, rfl, kr_w (by decide) (kr_r (ad := ad))⟩, by first | assumption | omega, by first | assumption | omega, by first | assumption | omega⟩)
                  · have c263 : (1 : Int) ≠ (0 : Int) := o_ne h116
                    unfold J_X12_touch_174
                    exact ok_some (show RI ad h.1 δ0 δ ∧ (kp [(12, 36)] δ δ ∧ q_V δ = q_V δ ∧ kr ad [119] δ δ) ∧ (q_I δ 12 36 a0).toInt = (q_I δ 12 36 a0).toInt ∧ 1 ≤ (1 : Int) ∧ (1 : Int) ≤ VBf (x3).toInt from ⟨I, ⟨kp_w (by decide) kp_r, rfl, kr_w (by decide) (kr_r (ad := ad))⟩, by first | assumption | omega, by first | assumption | omega, by first | assumption | omega⟩)
                · have c264 : vx58.toInt ≤ x2.toInt := o_nlt h114
                  refine ok_ite (fun h265 => ?_) (fun h265 => ?_)
                  · have c266 : x2.toInt < vx70.toInt := o_lt h265
                    unfold J_X12_touch_158
                    refine ok_ite (fun h267 => ?_) (fun h267 => ?_)
                    · have c268 : (0 : Int) = (0 : Int) := o_eq h267
                      first | (have q270 := te_sub x5 x4 (by omega) (by omega); obtain ⟨f271, f272, f273⟩ := q270) | (obtain ⟨q270, f271, f272, f273⟩ := ti_sub x5 x4)
                      refine ok_ite (fun h274 => ?_) (fun h274 => ?_)
                      · have c275 : (3 : Int) ≤ (x5 - x4).toInt := o_le h274
                        refine ok_bind (k_X12_lowerBits L hN (a0 := a0) (x1 := x3) k_a0 (show 2 ≤ (x3).toInt by first | assumption | omega) (show (x3).toInt ≤ 16 by first | assumption | omega) I) (fun r276 hr277 => ?_)
                        obtain ⟨i278, p279, p280, p281, p282, p283, p284⟩ := hr277
                        try rw [i278]
                        have f285 := ti_b r276.1
                        have f286 := lgb (r276.1).toInt
                        have f287 := lgb ((x3 - r276.1)).toInt
                        first | (have q289 := te_sub x3 r276.1 (by omega) (by omega); obtain ⟨f290, f291, f292⟩ := q289) | (obtain ⟨q289, f290, f291, f292⟩ := ti_sub x3 r276.1)
                        have f293 := ti_b r276.1
                        refine ok_bind (k_X12_roomMany L hN (a0 := a0) (x1 := x2) (x2 := x3) (x3 := x4) (x4 := x5) k_a0 (show 2 ≤ (x3).toInt by first | assumption | omega) (show (x3).toInt ≤ 16 by first | assumption | omega) (show 0 ≤ (x4).toInt by first | assumption | omega) (show (x4).toInt ≤ (x5).toInt by first | assumption | omega) (show (x5).toInt ≤ 14000 by first | assumption | omega) I) (fun r294 hr295 => ?_)
                        have i296 := hr295
                        try rw [i296]
                        have f297 := ti_b r294.1
                        refine ok_ite (fun h298 => ?_) (fun h298 => ?_)
                        · have c299 : r294.1.toInt ≤ (0 : Int) := o_le h298
                          refine ok_mono (kj_X12_touch_267 L hN (a0 := a0) (x1 := x1) (x2 := x2) (x3 := x3) (x4 := x4) (x5 := x5) (x9v := (1 : Int32)) (x10v := r276.1) ih k_a0 (show 2 ≤ (x3).toInt by first | assumption | omega) (show (x3).toInt ≤ 16 by first | assumption | omega) (show 0 ≤ (x4).toInt by first | assumption | omega) (show (x4).toInt ≤ (x5).toInt by first | assumption | omega) (show (x5).toInt ≤ (x4).toInt + 2000 by first | assumption | omega) (show (x5).toInt ≤ (q_I δ 12 36 a0).toInt by first | assumption | omega) (show (q_I δ 12 36 a0).toInt + 2000 * LGf (x3).toInt ≤ 12000 by first | assumption | omega) (show (x3).toInt ≤ (k : Int) by first | assumption | omega) (show (x4).toInt < (x5).toInt by first | assumption | omega) (show (x4).toInt + 3 ≤ (x5).toInt by first | assumption | omega) (show 1 ≤ (1 : Int) by first | assumption | omega) (show (1 : Int) ≤ 2 by first | assumption | omega) I) (fun r300 hr301 => ?_)
                          obtain ⟨i302, ⟨u306, u307, u308⟩, p303, p304, p305⟩ := hr301
                          have u309 := kp_t kp_r u306
                          have v310 : q_V r300.2 = q_V δ := (u307).trans rfl
                          have v311 := kr_t (kr_r (ad := ad)) u308
                          have f312 := cb_12_36 i302 k_a0
                          have f313 := ti_b r300.1
                          have f314 := ti_b r300.1
                          exact ⟨by assumption, ⟨kp_w (by decide) u309, v310, kr_w (by decide) v311⟩, by first | assumption | omega, by first | assumption | omega, by first | assumption | omega⟩
                        · have c315 : (0 : Int) < r294.1.toInt := o_nle h298
                          refine ok_biv (fun vx316 e317 => ?_)
                          first | (have q318 := te_cadd (c := 1) (n := 1) rfl (1 : Int32) (by omega) (by omega); rw [← e317] at q318; obtain ⟨f319, f320, f321⟩ := q318) | (obtain ⟨q318, f319, f320, f321⟩ : ∃ q : Int, vx316.toInt = (1 : Int) + (1 : Int) + 4294967296 * q ∧ -2147483648 ≤ vx316.toInt ∧ vx316.toInt ≤ 2147483647 := by rw [e317]; exact ti_cadd (c := 1) (n := 1) rfl (1 : Int32))
                          have f324 := ti_b (x2 &&& (((1 : Int32) <<< (r276.1 &&& 31)) - (1 : Int32)))
                          refine ok_biv (fun vx322 e323 => ?_)
                          have f325 : vx322.toInt = (x2 &&& (((1 : Int32) <<< (r276.1 &&& 31)) - (1 : Int32))).toInt := congrArg Int32.toInt e323
                          refine ok_ite (fun h326 => ?_) (fun h326 => ?_)
                          · have c327 : x1.toInt = (3 : Int) := o_eq h326
                            refine ok_bind (k_X12_roomEnd L hN (a0 := a0) (x1 := x2) (x2 := x3) (x3 := x4) (x4 := x5) (x5 := (0 : Int32)) k_a0 (show 2 ≤ (x3).toInt by first | assumption | omega) (show (x3).toInt ≤ 16 by first | assumption | omega) (show 0 ≤ (x4).toInt by first | assumption | omega) (show (x4).toInt ≤ (x5).toInt by first | assumption | omega) (show (x5).toInt ≤ 14000 by first | assumption | omega) I) (fun r328 hr329 => ?_)
                            have i330 := hr329
                            try rw [i330]
                            have f331 := ti_b r328.1
                            refine ok_ite (fun h332 => ?_) (fun h332 => ?_)
                            · have c333 : r328.1.toInt ≤ vx322.toInt := o_le h332
                              refine ok_mono (kj_X12_touch_267 L hN (a0 := a0) (x1 := x1) (x2 := x2) (x3 := x3) (x4 := x4) (x5 := x5) (x9v := vx316) (x10v := r276.1) ih k_a0 (show 2 ≤ (x3).toInt by first | assumption | omega) (show (x3).toInt ≤ 16 by first | assumption | omega) (show 0 ≤ (x4).toInt by first | assumption | omega) (show (x4).toInt ≤ (x5).toInt by first | assumption | omega) (show (x5).toInt ≤ (x4).toInt + 2000 by first | assumption | omega) (show (x5).toInt ≤ (q_I δ 12 36 a0).toInt by first | assumption | omega) (show (q_I δ 12 36 a0).toInt + 2000 * LGf (x3).toInt ≤ 12000 by first | assumption | omega) (show (x3).toInt ≤ (k : Int) by first | assumption | omega) (show (x4).toInt < (x5).toInt by first | assumption | omega) (show (x4).toInt + 3 ≤ (x5).toInt by first | assumption | omega) (show 1 ≤ (vx316).toInt by first | assumption | omega) (show (vx316).toInt ≤ 2 by first | assumption | omega) I) (fun r334 hr335 => ?_)
                              obtain ⟨i336, ⟨u340, u341, u342⟩, p337, p338, p339⟩ := hr335
                              have u343 := kp_t kp_r u340
                              have v344 : q_V r334.2 = q_V δ := (u341).trans rfl
                              have v345 := kr_t (kr_r (ad := ad)) u342
                              have f346 := cb_12_36 i336 k_a0
                              have f347 := ti_b r334.1
                              have f348 := ti_b r334.1
                              exact ⟨by assumption, ⟨kp_w (by decide) u343, v344, kr_w (by decide) v345⟩, by first | assumption | omega, by first | assumption | omega, by first | assumption | omega⟩
                            · have c349 : vx322.toInt < r328.1.toInt := o_nle h332
                              unfold J_X12_touch_252
                              refine ok_bind (k_bX12_inRoom L hN (a0 := a0) (x1 := x1) (x2 := x2) (x3 := x3) (x4 := x4) (x5 := x5) ih k_a0 (show 2 ≤ (x3).toInt by first | assumption | omega) (show (x3).toInt ≤ 16 by first | assumption | omega) (show 0 ≤ (x4).toInt by first | assumption | omega) (show (x4).toInt ≤ (x5).toInt by first | assumption | omega) (show (x5).toInt ≤ (x4).toInt + 2000 by first | assumption | omega) (show (x5).toInt ≤ (q_I δ 12 36 a0).toInt by first | assumption | omega) (show (q_I δ 12 36 a0).toInt + 2000 * LGf (x3).toInt ≤ 12000 by first | assumption | omega) (show (x3).toInt ≤ (k : Int) by first | assumption | omega) I) (fun r350 hr351 => ?_)
                              obtain ⟨i352, ⟨u356, u357, u358⟩, p353, p354, p355⟩ := hr351
                              have u359 := kp_t kp_r u356
                              have v360 : q_V r350.2 = q_V δ := (u357).trans rfl
                              have v361 := kr_t (kr_r (ad := ad)) u358
                              have f362 := cb_12_36 i352 k_a0
                              have f363 := ti_b r350.1
                              have f364 := ti_b r350.1
                              first | (have q366 := te_add vx316 r350.1 (by omega) (by omega); obtain ⟨f367, f368, f369⟩ := q366) | (obtain ⟨q366, f367, f368, f369⟩ := ti_add vx316 r350.1)
                              exact ok_some (show RI ad h.1 δ0 r350.2 ∧ (kp [(12, 36)] δ r350.2 ∧ q_V r350.2 = q_V δ ∧ kr ad [119] δ r350.2) ∧ (q_I r350.2 12 36 a0).toInt = (q_I δ 12 36 a0).toInt ∧ 1 ≤ ((vx316 + r350.1)).toInt ∧ ((vx316 + r350.1)).toInt ≤ VBf (x3).toInt from ⟨i352, ⟨kp_w (by decide) u359, v360, kr_w (by decide) v361⟩, by first | assumption | omega, by first | assumption | omega, by first | assumption | omega⟩)
                          · have c370 : x1.toInt ≠ (3 : Int) := o_ne h326
                            refine ok_bind (k_X12_roomEnd L hN (a0 := a0) (x1 := x2) (x2 := x3) (x3 := x4) (x4 := x5) (x5 := (1 : Int32)) k_a0 (show 2 ≤ (x3).toInt by first | assumption | omega) (show (x3).toInt ≤ 16 by first | assumption | omega) (show 0 ≤ (x4).toInt by first | assumption | omega) (show (x4).toInt ≤ (x5).toInt by first | assumption | omega) (show (x5).toInt ≤ 14000 by first | assumption | omega) I) (fun r371 hr372 => ?_)
                            have i373 := hr372
                            try rw [i373]
                            have f374 := ti_b r371.1
                            refine ok_ite (fun h375 => ?_) (fun h375 => ?_)
                            · have c376 : vx322.toInt ≤ r371.1.toInt := o_le h375
                              refine ok_mono (kj_X12_touch_267 L hN (a0 := a0) (x1 := x1) (x2 := x2) (x3 := x3) (x4 := x4) (x5 := x5) (x9v := vx316) (x10v := r276.1) ih k_a0 (show 2 ≤ (x3).toInt by first | assumption | omega) (show (x3).toInt ≤ 16 by first | assumption | omega) (show 0 ≤ (x4).toInt by first | assumption | omega) (show (x4).toInt ≤ (x5).toInt by first | assumption | omega) (show (x5).toInt ≤ (x4).toInt + 2000 by first | assumption | omega) (show (x5).toInt ≤ (q_I δ 12 36 a0).toInt by first | assumption | omega) (show (q_I δ 12 36 a0).toInt + 2000 * LGf (x3).toInt ≤ 12000 by first | assumption | omega) (show (x3).toInt ≤ (k : Int) by first | assumption | omega) (show (x4).toInt < (x5).toInt by first | assumption | omega) (show (x4).toInt + 3 ≤ (x5).toInt by first | assumption | omega) (show 1 ≤ (vx316).toInt by first | assumption | omega) (show (vx316).toInt ≤ 2 by first | assumption | omega) I) (fun r377 hr378 => ?_)
                              obtain ⟨i379, ⟨u383, u384, u385⟩, p380, p381, p382⟩ := hr378
                              have u386 := kp_t kp_r u383
                              have v387 : q_V r377.2 = q_V δ := (u384).trans rfl
                              have v388 := kr_t (kr_r (ad := ad)) u385
                              have f389 := cb_12_36 i379 k_a0
                              have f390 := ti_b r377.1
                              have f391 := ti_b r377.1
                              exact ⟨by assumption, ⟨kp_w (by decide) u386, v387, kr_w (by decide) v388⟩, by first | assumption | omega, by first | assumption | omega, by first | assumption | omega⟩
                            · have c392 : r371.1.toInt < vx322.toInt := o_nle h375
                              unfold J_X12_touch_252
                              refine ok_bind (k_bX12_inRoom L hN (a0 := a0) (x1 := x1) (x2 := x2) (x3 := x3) (x4 := x4) (x5 := x5) ih k_a0 (show 2 ≤ (x3).toInt by first | assumption | omega) (show (x3).toInt ≤ 16 by first | assumption | omega) (show 0 ≤ (x4).toInt by first | assumption | omega) (show (x4).toInt ≤ (x5).toInt by first | assumption | omega) (show (x5).toInt ≤ (x4).toInt + 2000 by first | assumption | omega) (show (x5).toInt ≤ (q_I δ 12 36 a0).toInt by first | assumption | omega) (show (q_I δ 12 36 a0).toInt + 2000 * LGf (x3).toInt ≤ 12000 by first | assumption | omega) (show (x3).toInt ≤ (k : Int) by first | assumption | omega) I) (fun r393 hr394 => ?_)
                              obtain ⟨i395, ⟨u399, u400, u401⟩, p396, p397, p398⟩ := hr394
                              have u402 := kp_t kp_r u399
                              have v403 : q_V r393.2 = q_V δ := (u400).trans rfl
                              have v404 := kr_t (kr_r (ad := ad)) u401
                              have f405 := cb_12_36 i395 k_a0
                              have f406 := ti_b r393.1
                              have f407 := ti_b r393.1
                              first | (have q409 := te_add vx316 r393.1 (by omega) (by omega); obtain ⟨f410, f411, f412⟩ := q409) | (obtain ⟨q409, f410, f411, f412⟩ := ti_add vx316 r393.1)
                              exact ok_some (show RI ad h.1 δ0 r393.2 ∧ (kp [(12, 36)] δ r393.2 ∧ q_V r393.2 = q_V δ ∧ kr ad [119] δ r393.2) ∧ (q_I r393.2 12 36 a0).toInt = (q_I δ 12 36 a0).toInt ∧ 1 ≤ ((vx316 + r393.1)).toInt ∧ ((vx316 + r393.1)).toInt ≤ VBf (x3).toInt from ⟨i395, ⟨kp_w (by decide) u402, v403, kr_w (by decide) v404⟩, by first | assumption | omega, by first | assumption | omega, by first | assumption | omega⟩)
                      · have c413 : (x5 - x4).toInt < (3 : Int) := o_nle h274
                        unfold J_X12_touch_174
                        exact ok_some (show RI ad h.1 δ0 δ ∧ (kp [(12, 36)] δ δ ∧ q_V δ = q_V δ ∧ kr ad [119] δ δ) ∧ (q_I δ 12 36 a0).toInt = (q_I δ 12 36 a0).toInt ∧ 1 ≤ (1 : Int) ∧ (1 : Int) ≤ VBf (x3).toInt from ⟨I, ⟨kp_w (by decide) kp_r, rfl, kr_w (by decide) (kr_r (ad := ad))⟩, by first | assumption | omega, by first | assumption | omega, by first | assumption | omega⟩)
                    · have c414 : (0 : Int) ≠ (0 : Int) := o_ne h267
                      unfold J_X12_touch_174
                      exact ok_some (show RI ad h.1 δ0 δ ∧ (kp [(12, 36)] δ δ ∧ q_V δ = q_V δ ∧ kr ad [119] δ δ) ∧ (q_I δ 12 36 a0).toInt = (q_I δ 12 36 a0).toInt ∧ 1 ≤ (1 : Int) ∧ (1 : Int) ≤ VBf (x3).toInt from ⟨I, ⟨kp_w (by decide) kp_r, rfl, kr_w (by decide) (kr_r (ad := ad))⟩, by first | assumption | omega, by first | assumption | omega, by first | assumption | omega⟩)
                  · have c415 : vx70.toInt ≤ x2.toInt := o_nlt h265
                    unfold J_X12_touch_133
                    unfold J_X12_touch_158
                    refine ok_ite (fun h416 => ?_) (fun h416 => ?_)
                    · have c417 : (1 : Int) = (0 : Int) := o_eq h416
                      first | (have q419 := te_sub x5 x4 (by omega) (by omega); obtain ⟨f420, f421, f422⟩ := q419) | (obtain ⟨q419, f420, f421, f422⟩ := ti_sub x5 x4)
                      refine ok_ite (fun h423 => ?_) (fun h423 => ?_)
                      · have c424 : (3 : Int) ≤ (x5 - x4).toInt := o_le h423
                        refine ok_bind (k_X12_lowerBits L hN (a0 := a0) (x1 := x3) k_a0 (show 2 ≤ (x3).toInt by first | assumption | omega) (show (x3).toInt ≤ 16 by first | assumption | omega) I) (fun r425 hr426 => ?_)
                        obtain ⟨i427, p428, p429, p430, p431, p432, p433⟩ := hr426
                        try rw [i427]
                        have f434 := ti_b r425.1
                        have f435 := lgb (r425.1).toInt
                        have f436 := lgb ((x3 - r425.1)).toInt
                        first | (have q438 := te_sub x3 r425.1 (by omega) (by omega); obtain ⟨f439, f440, f441⟩ := q438) | (obtain ⟨q438, f439, f440, f441⟩ := ti_sub x3 r425.1)
                        have f442 := ti_b r425.1
                        refine ok_bind (k_X12_roomMany L hN (a0 := a0) (x1 := x2) (x2 := x3) (x3 := x4) (x4 := x5) k_a0 (show 2 ≤ (x3).toInt by first | assumption | omega) (show (x3).toInt ≤ 16 by first | assumption | omega) (show 0 ≤ (x4).toInt by first | assumption | omega) (show (x4).toInt ≤ (x5).toInt by first | assumption | omega) (show (x5).toInt ≤ 14000 by first | assumption | omega) I) (fun r443 hr444 => ?_)
                        have i445 := hr444
                        try rw [i445]
                        have f446 := ti_b r443.1
                        refine ok_ite (fun h447 => ?_) (fun h447 => ?_)
                        · have c448 : r443.1.toInt ≤ (0 : Int) := o_le h447
                          refine ok_mono (kj_X12_touch_267 L hN (a0 := a0) (x1 := x1) (x2 := x2) (x3 := x3) (x4 := x4) (x5 := x5) (x9v := (1 : Int32)) (x10v := r425.1) ih k_a0 (show 2 ≤ (x3).toInt by first | assumption | omega) (show (x3).toInt ≤ 16 by first | assumption | omega) (show 0 ≤ (x4).toInt by first | assumption | omega) (show (x4).toInt ≤ (x5).toInt by first | assumption | omega) (show (x5).toInt ≤ (x4).toInt + 2000 by first | assumption | omega) (show (x5).toInt ≤ (q_I δ 12 36 a0).toInt by first | assumption | omega) (show (q_I δ 12 36 a0).toInt + 2000 * LGf (x3).toInt ≤ 12000 by first | assumption | omega) (show (x3).toInt ≤ (k : Int) by first | assumption | omega) (show (x4).toInt < (x5).toInt by first | assumption | omega) (show (x4).toInt + 3 ≤ (x5).toInt by first | assumption | omega) (show 1 ≤ (1 : Int) by first | assumption | omega) (show (1 : Int) ≤ 2 by first | assumption | omega) I) (fun r449 hr450 => ?_)
                          obtain ⟨i451, ⟨u455, u456, u457⟩, p452, p453, p454⟩ := hr450
                          have u458 := kp_t kp_r u455
                          have v459 : q_V r449.2 = q_V δ := (u456).trans rfl
                          have v460 := kr_t (kr_r (ad := ad)) u457
                          have f461 := cb_12_36 i451 k_a0
                          have f462 := ti_b r449.1
                          have f463 := ti_b r449.1
                          exact ⟨by assumption, ⟨kp_w (by decide) u458, v459, kr_w (by decide) v460⟩, by first | assumption | omega, by first | assumption | omega, by first | assumption | omega⟩
                        · have c464 : (0 : Int) < r443.1.toInt := o_nle h447
                          refine ok_biv (fun vx465 e466 => ?_)
                          first | (have q467 := te_cadd (c := 1) (n := 1) rfl (1 : Int32) (by omega) (by omega); rw [← e466] at q467; obtain ⟨f468, f469, f470⟩ := q467) | (obtain ⟨q467, f468, f469, f470⟩ : ∃ q : Int, vx465.toInt = (1 : Int) + (1 : Int) + 4294967296 * q ∧ -2147483648 ≤ vx465.toInt ∧ vx465.toInt ≤ 2147483647 := by rw [e466]; exact ti_cadd (c := 1) (n := 1) rfl (1 : Int32))
                          have f473 := ti_b (x2 &&& (((1 : Int32) <<< (r425.1 &&& 31)) - (1 : Int32)))
                          refine ok_biv (fun vx471 e472 => ?_)
                          have f474 : vx471.toInt = (x2 &&& (((1 : Int32) <<< (r425.1 &&& 31)) - (1 : Int32))).toInt := congrArg Int32.toInt e472
                          refine ok_ite (fun h475 => ?_) (fun h475 => ?_)
                          · have c476 : x1.toInt = (3 : Int) := o_eq h475
                            refine ok_bind (k_X12_roomEnd L hN (a0 := a0) (x1 := x2) (x2 := x3) (x3 := x4) (x4 := x5) (x5 := (0 : Int32)) k_a0 (show 2 ≤ (x3).toInt by first | assumption | omega) (show (x3).toInt ≤ 16 by first | assumption | omega) (show 0 ≤ (x4).toInt by first | assumption | omega) (show (x4).toInt ≤ (x5).toInt by first | assumption | omega) (show (x5).toInt ≤ 14000 by first | assumption | omega) I) (fun r477 hr478 => ?_)
                            have i479 := hr478
                            try rw [i479]
                            have f480 := ti_b r477.1
                            refine ok_ite (fun h481 => ?_) (fun h481 => ?_)
                            · have c482 : r477.1.toInt ≤ vx471.toInt := o_le h481
                              refine ok_mono (kj_X12_touch_267 L hN (a0 := a0) (x1 := x1) (x2 := x2) (x3 := x3) (x4 := x4) (x5 := x5) (x9v := vx465) (x10v := r425.1) ih k_a0 (show 2 ≤ (x3).toInt by first | assumption | omega) (show (x3).toInt ≤ 16 by first | assumption | omega) (show 0 ≤ (x4).toInt by first | assumption | omega) (show (x4).toInt ≤ (x5).toInt by first | assumption | omega) (show (x5).toInt ≤ (x4).toInt + 2000 by first | assumption | omega) (show (x5).toInt ≤ (q_I δ 12 36 a0).toInt by first | assumption | omega) (show (q_I δ 12 36 a0).toInt + 2000 * LGf (x3).toInt ≤ 12000 by first | assumption | omega) (show (x3).toInt ≤ (k : Int) by first | assumption | omega) (show (x4).toInt < (x5).toInt by first | assumption | omega) (show (x4).toInt + 3 ≤ (x5).toInt by first | assumption | omega) (show 1 ≤ (vx465).toInt by first | assumption | omega) (show (vx465).toInt ≤ 2 by first | assumption | omega) I) (fun r483 hr484 => ?_)
                              obtain ⟨i485, ⟨u489, u490, u491⟩, p486, p487, p488⟩ := hr484
                              have u492 := kp_t kp_r u489
                              have v493 : q_V r483.2 = q_V δ := (u490).trans rfl
                              have v494 := kr_t (kr_r (ad := ad)) u491
                              have f495 := cb_12_36 i485 k_a0
                              have f496 := ti_b r483.1
                              have f497 := ti_b r483.1
                              exact ⟨by assumption, ⟨kp_w (by decide) u492, v493, kr_w (by decide) v494⟩, by first | assumption | omega, by first | assumption | omega, by first | assumption | omega⟩
                            · have c498 : vx471.toInt < r477.1.toInt := o_nle h481
                              unfold J_X12_touch_252
                              refine ok_bind (k_bX12_inRoom L hN (a0 := a0) (x1 := x1) (x2 := x2) (x3 := x3) (x4 := x4) (x5 := x5) ih k_a0 (show 2 ≤ (x3).toInt by first | assumption | omega) (show (x3).toInt ≤ 16 by first | assumption | omega) (show 0 ≤ (x4).toInt by first | assumption | omega) (show (x4).toInt ≤ (x5).toInt by first | assumption | omega) (show (x5).toInt ≤ (x4).toInt + 2000 by first | assumption | omega) (show (x5).toInt ≤ (q_I δ 12 36 a0).toInt by first | assumption | omega) (show (q_I δ 12 36 a0).toInt + 2000 * LGf (x3).toInt ≤ 12000 by first | assumption | omega) (show (x3).toInt ≤ (k : Int) by first | assumption | omega) I) (fun r499 hr500 => ?_)
                              obtain ⟨i501, ⟨u505, u506, u507⟩, p502, p503, p504⟩ := hr500
                              have u508 := kp_t kp_r u505
                              have v509 : q_V r499.2 = q_V δ := (u506).trans rfl
                              have v510 := kr_t (kr_r (ad := ad)) u507
                              have f511 := cb_12_36 i501 k_a0
                              have f512 := ti_b r499.1
                              have f513 := ti_b r499.1
                              first | (have q515 := te_add vx465 r499.1 (by omega) (by omega); obtain ⟨f516, f517, f518⟩ := q515) | (obtain ⟨q515, f516, f517, f518⟩ := ti_add vx465 r499.1)
                              exact ok_some (show RI ad h.1 δ0 r499.2 ∧ (kp [(12, 36)] δ r499.2 ∧ q_V r499.2 = q_V δ ∧ kr ad [119] δ r499.2) ∧ (q_I r499.2 12 36 a0).toInt = (q_I δ 12 36 a0).toInt ∧ 1 ≤ ((vx465 + r499.1)).toInt ∧ ((vx465 + r499.1)).toInt ≤ VBf (x3).toInt from ⟨i501, ⟨kp_w (by decide) u508, v509, kr_w (by decide) v510⟩, by first | assumption | omega, by first | assumption | omega, by first | assumption | omega⟩)
                          · have c519 : x1.toInt ≠ (3 : Int) := o_ne h475
                            refine ok_bind (k_X12_roomEnd L hN (a0 := a0) (x1 := x2) (x2 := x3) (x3 := x4) (x4 := x5) (x5 := (1 : Int32)) k_a0 (show 2 ≤ (x3).toInt by first | assumption | omega) (show (x3).toInt ≤ 16 by first | assumption | omega) (show 0 ≤ (x4).toInt by first | assumption | omega) (show (x4).toInt ≤ (x5).toInt by first | assumption | omega) (show (x5).toInt ≤ 14000 by first | assumption | omega) I) (fun r520 hr521 => ?_)
                            have i522 := hr521
                            try rw [i522]
                            have f523 := ti_b r520.1
                            refine ok_ite (fun h524 => ?_) (fun h524 => ?_)
                            · have c525 : vx471.toInt ≤ r520.1.toInt := o_le h524
                              refine ok_mono (kj_X12_touch_267 L hN (a0 := a0) (x1 := x1) (x2 := x2) (x3 := x3) (x4 := x4) (x5 := x5) (x9v := vx465) (x10v := r425.1) ih k_a0 (show 2 ≤ (x3).toInt by first | assumption | omega) (show (x3).toInt ≤ 16 by first | assumption | omega) (show 0 ≤ (x4).toInt by first | assumption | omega) (show (x4).toInt ≤ (x5).toInt by first | assumption | omega) (show (x5).toInt ≤ (x4).toInt + 2000 by first | assumption | omega) (show (x5).toInt ≤ (q_I δ 12 36 a0).toInt by first | assumption | omega) (show (q_I δ 12 36 a0).toInt + 2000 * LGf (x3).toInt ≤ 12000 by first | assumption | omega) (show (x3).toInt ≤ (k : Int) by first | assumption | omega) (show (x4).toInt < (x5).toInt by first | assumption | omega) (show (x4).toInt + 3 ≤ (x5).toInt by first | assumption | omega) (show 1 ≤ (vx465).toInt by first | assumption | omega) (show (vx465).toInt ≤ 2 by first | assumption | omega) I) (fun r526 hr527 => ?_)
                              obtain ⟨i528, ⟨u532, u533, u534⟩, p529, p530, p531⟩ := hr527
                              have u535 := kp_t kp_r u532
                              have v536 : q_V r526.2 = q_V δ := (u533).trans rfl
                              have v537 := kr_t (kr_r (ad := ad)) u534
                              have f538 := cb_12_36 i528 k_a0
                              have f539 := ti_b r526.1
                              have f540 := ti_b r526.1
                              exact ⟨by assumption, ⟨kp_w (by decide) u535, v536, kr_w (by decide) v537⟩, by first | assumption | omega, by first | assumption | omega, by first | assumption | omega⟩
                            · have c541 : r520.1.toInt < vx471.toInt := o_nle h524
                              unfold J_X12_touch_252
                              refine ok_bind (k_bX12_inRoom L hN (a0 := a0) (x1 := x1) (x2 := x2) (x3 := x3) (x4 := x4) (x5 := x5) ih k_a0 (show 2 ≤ (x3).toInt by first | assumption | omega) (show (x3).toInt ≤ 16 by first | assumption | omega) (show 0 ≤ (x4).toInt by first | assumption | omega) (show (x4).toInt ≤ (x5).toInt by first | assumption | omega) (show (x5).toInt ≤ (x4).toInt + 2000 by first | assumption | omega) (show (x5).toInt ≤ (q_I δ 12 36 a0).toInt by first | assumption | omega) (show (q_I δ 12 36 a0).toInt + 2000 * LGf (x3).toInt ≤ 12000 by first | assumption | omega) (show (x3).toInt ≤ (k : Int) by first | assumption | omega) I) (fun r542 hr543 => ?_)
                              obtain ⟨i544, ⟨u548, u549, u550⟩, p545, p546, p547⟩ := hr543
                              have u551 := kp_t kp_r u548
                              have v552 : q_V r542.2 = q_V δ := (u549).trans rfl
                              have v553 := kr_t (kr_r (ad := ad)) u550
                              have f554 := cb_12_36 i544 k_a0
                              have f555 := ti_b r542.1
                              have f556 := ti_b r542.1
                              first | (have q558 := te_add vx465 r542.1 (by omega) (by omega); obtain ⟨f559, f560, f561⟩ := q558) | (obtain ⟨q558, f559, f560, f561⟩ := ti_add vx465 r542.1)
                              exact ok_some (show RI ad h.1 δ0 r542.2 ∧ (kp [(12, 36)] δ r542.2 ∧ q_V r542.2 = q_V δ ∧ kr ad [119] δ r542.2) ∧ (q_I r542.2 12 36 a0).toInt = (q_I δ 12 36 a0).toInt ∧ 1 ≤ ((vx465 + r542.1)).toInt ∧ ((vx465 + r542.1)).toInt ≤ VBf (x3).toInt from ⟨i544, ⟨kp_w (by decide) u551, v552, kr_w (by decide) v553⟩, by first | assumption | omega, by first | assumption | omega, by first | assumption | omega⟩)
                      · have c562 : (x5 - x4).toInt < (3 : Int) := o_nle h423
                        unfold J_X12_touch_174
                        exact ok_some (show RI ad h.1 δ0 δ ∧ (kp [(12, 36)] δ δ ∧ q_V δ = q_V δ ∧ kr ad [119] δ δ) ∧ (q_I δ 12 36 a0).toInt = (q_I δ 12 36 a0).toInt ∧ 1 ≤ (1 : Int) ∧ (1 : Int) ≤ VBf (x3).toInt from ⟨I, ⟨kp_w (by decide) kp_r, rfl, kr_w (by decide) (kr_r (ad := ad))⟩, by first | assumption | omega, by first | assumption | omega, by first | assumption | omega⟩)
                    · have c563 : (1 : Int) ≠ (0 : Int) := o_ne h416
                      unfold J_X12_touch_174
                      exact ok_some (show RI ad h.1 δ0 δ ∧ (kp [(12, 36)] δ δ ∧ q_V δ = q_V δ ∧ kr ad [119] δ δ) ∧ (q_I δ 12 36 a0).toInt = (q_I δ 12 36 a0).toInt ∧ 1 ≤ (1 : Int) ∧ (1 : Int) ≤ VBf (x3).toInt from ⟨I, ⟨kp_w (by decide) kp_r, rfl, kr_w (by decide) (kr_r (ad := ad))⟩, by first | assumption | omega, by first | assumption | omega, by first | assumption | omega⟩)
              · have c564 : x1.toInt ≠ (3 : Int) := o_ne h111
                have f565 := ti_b x2
                refine ok_ite (fun h566 => ?_) (fun h566 => ?_)
                · have c567 : vx70.toInt < x2.toInt := o_lt h566
                  unfold J_X12_touch_153
                  unfold J_X12_touch_158
                  refine ok_ite (fun h568 => ?_) (fun h568 => ?_)
                  · have c569 : (1 : Int) = (0 : Int) := o_eq h568
                    first | (have q571 := te_sub x5 x4 (by omega) (by omega); obtain ⟨f572, f573, f574⟩ := q571) | (obtain ⟨q571, f572, f573, f574⟩ := ti_sub x5 x4)
                    refine ok_ite (fun h575 => ?_) (fun h575 => ?_)
                    · have c576 : (3 : Int) ≤ (x5 - x4).toInt := o_le h575
                      refine ok_bind (k_X12_lowerBits L hN (a0 := a0) (x1 := x3) k_a0 (show 2 ≤ (x3).toInt by first | assumption | omega) (show (x3).toInt ≤ 16 by first | assumption | omega) I) (fun r577 hr578 => ?_)
                      obtain ⟨i579, p580, p581, p582, p583, p584, p585⟩ := hr578
                      try rw [i579]
                      have f586 := ti_b r577.1
                      have f587 := lgb (r577.1).toInt
                      have f588 := lgb ((x3 - r577.1)).toInt
                      first | (have q590 := te_sub x3 r577.1 (by omega) (by omega); obtain ⟨f591, f592, f593⟩ := q590) | (obtain ⟨q590, f591, f592, f593⟩ := ti_sub x3 r577.1)
                      have f594 := ti_b r577.1
                      refine ok_bind (k_X12_roomMany L hN (a0 := a0) (x1 := x2) (x2 := x3) (x3 := x4) (x4 := x5) k_a0 (show 2 ≤ (x3).toInt by first | assumption | omega) (show (x3).toInt ≤ 16 by first | assumption | omega) (show 0 ≤ (x4).toInt by first | assumption | omega) (show (x4).toInt ≤ (x5).toInt by first | assumption | omega) (show (x5).toInt ≤ 14000 by first | assumption | omega) I) (fun r595 hr596 => ?_)
                      have i597 := hr596
                      try rw [i597]
                      have f598 := ti_b r595.1
                      refine ok_ite (fun h599 => ?_) (fun h599 => ?_)
                      · have c600 : r595.1.toInt ≤ (0 : Int) := o_le h599
                        refine ok_mono (kj_X12_touch_267 L hN (a0 := a0) (x1 := x1) (x2 := x2) (x3 := x3) (x4 := x4) (x5 := x5) (x9v := (1 : Int32)) (x10v := r577.1) ih k_a0 (show 2 ≤ (x3).toInt by first | assumption | omega) (show (x3).toInt ≤ 16 by first | assumption | omega) (show 0 ≤ (x4).toInt by first | assumption | omega) (show (x4).toInt ≤ (x5).toInt by first | assumption | omega) (show (x5).toInt ≤ (x4).toInt + 2000 by first | assumption | omega) (show (x5).toInt ≤ (q_I δ 12 36 a0).toInt by first | assumption | omega) (show (q_I δ 12 36 a0).toInt + 2000 * LGf (x3).toInt ≤ 12000 by first | assumption | omega) (show (x3).toInt ≤ (k : Int) by first | assumption | omega) (show (x4).toInt < (x5).toInt by first | assumption | omega) (show (x4).toInt + 3 ≤ (x5).toInt by first | assumption | omega) (show 1 ≤ (1 : Int) by first | assumption | omega) (show (1 : Int) ≤ 2 by first | assumption | omega) I) (fun r601 hr602 => ?_)
                        obtain ⟨i603, ⟨u607, u608, u609⟩, p604, p605, p606⟩ := hr602
                        have u610 := kp_t kp_r u607
                        have v611 : q_V r601.2 = q_V δ := (u608).trans rfl
                        have v612 := kr_t (kr_r (ad := ad)) u609
                        have f613 := cb_12_36 i603 k_a0
                        have f614 := ti_b r601.1
                        have f615 := ti_b r601.1
                        exact ⟨by assumption, ⟨kp_w (by decide) u610, v611, kr_w (by decide) v612⟩, by first | assumption | omega, by first | assumption | omega, by first | assumption | omega⟩
                      · have c616 : (0 : Int) < r595.1.toInt := o_nle h599
                        refine ok_biv (fun vx617 e618 => ?_)
                        first | (have q619 := te_cadd (c := 1) (n := 1) rfl (1 : Int32) (by omega) (by omega); rw [← e618] at q619; obtain ⟨f620, f621, f622⟩ := q619) | (obtain ⟨q619, f620, f621, f622⟩ : ∃ q : Int, vx617.toInt = (1 : Int) + (1 : Int) + 4294967296 * q ∧ -2147483648 ≤ vx617.toInt ∧ vx617.toInt ≤ 2147483647 := by rw [e618]; exact ti_cadd (c := 1) (n := 1) rfl (1 : Int32))
                        have f625 := ti_b (x2 &&& (((1 : Int32) <<< (r577.1 &&& 31)) - (1 : Int32)))
                        refine ok_biv (fun vx623 e624 => ?_)
                        have f626 : vx623.toInt = (x2 &&& (((1 : Int32) <<< (r577.1 &&& 31)) - (1 : Int32))).toInt := congrArg Int32.toInt e624
                        refine ok_ite (fun h627 => ?_) (fun h627 => ?_)
                        · have c628 : x1.toInt = (3 : Int) := o_eq h627
                          refine ok_bind (k_X12_roomEnd L hN (a0 := a0) (x1 := x2) (x2 := x3) (x3 := x4) (x4 := x5) (x5 := (0 : Int32)) k_a0 (show 2 ≤ (x3).toInt by first | assumption | omega) (show (x3).toInt ≤ 16 by first | assumption | omega) (show 0 ≤ (x4).toInt by first | assumption | omega) (show (x4).toInt ≤ (x5).toInt by first | assumption | omega) (show (x5).toInt ≤ 14000 by first | assumption | omega) I) (fun r629 hr630 => ?_)
                          have i631 := hr630
                          try rw [i631]
                          have f632 := ti_b r629.1
                          refine ok_ite (fun h633 => ?_) (fun h633 => ?_)
                          · have c634 : r629.1.toInt ≤ vx623.toInt := o_le h633
                            refine ok_mono (kj_X12_touch_267 L hN (a0 := a0) (x1 := x1) (x2 := x2) (x3 := x3) (x4 := x4) (x5 := x5) (x9v := vx617) (x10v := r577.1) ih k_a0 (show 2 ≤ (x3).toInt by first | assumption | omega) (show (x3).toInt ≤ 16 by first | assumption | omega) (show 0 ≤ (x4).toInt by first | assumption | omega) (show (x4).toInt ≤ (x5).toInt by first | assumption | omega) (show (x5).toInt ≤ (x4).toInt + 2000 by first | assumption | omega) (show (x5).toInt ≤ (q_I δ 12 36 a0).toInt by first | assumption | omega) (show (q_I δ 12 36 a0).toInt + 2000 * LGf (x3).toInt ≤ 12000 by first | assumption | omega) (show (x3).toInt ≤ (k : Int) by first | assumption | omega) (show (x4).toInt < (x5).toInt by first | assumption | omega) (show (x4).toInt + 3 ≤ (x5).toInt by first | assumption | omega) (show 1 ≤ (vx617).toInt by first | assumption | omega) (show (vx617).toInt ≤ 2 by first | assumption | omega) I) (fun r635 hr636 => ?_)
                            obtain ⟨i637, ⟨u641, u642, u643⟩, p638, p639, p640⟩ := hr636
                            have u644 := kp_t kp_r u641
                            have v645 : q_V r635.2 = q_V δ := (u642).trans rfl
                            have v646 := kr_t (kr_r (ad := ad)) u643
                            have f647 := cb_12_36 i637 k_a0
                            have f648 := ti_b r635.1
                            have f649 := ti_b r635.1
                            exact ⟨by assumption, ⟨kp_w (by decide) u644, v645, kr_w (by decide) v646⟩, by first | assumption | omega, by first | assumption | omega, by first | assumption | omega⟩
                          · have c650 : vx623.toInt < r629.1.toInt := o_nle h633
                            unfold J_X12_touch_252
                            refine ok_bind (k_bX12_inRoom L hN (a0 := a0) (x1 := x1) (x2 := x2) (x3 := x3) (x4 := x4) (x5 := x5) ih k_a0 (show 2 ≤ (x3).toInt by first | assumption | omega) (show (x3).toInt ≤ 16 by first | assumption | omega) (show 0 ≤ (x4).toInt by first | assumption | omega) (show (x4).toInt ≤ (x5).toInt by first | assumption | omega) (show (x5).toInt ≤ (x4).toInt + 2000 by first | assumption | omega) (show (x5).toInt ≤ (q_I δ 12 36 a0).toInt by first | assumption | omega) (show (q_I δ 12 36 a0).toInt + 2000 * LGf (x3).toInt ≤ 12000 by first | assumption | omega) (show (x3).toInt ≤ (k : Int) by first | assumption | omega) I) (fun r651 hr652 => ?_)
                            obtain ⟨i653, ⟨u657, u658, u659⟩, p654, p655, p656⟩ := hr652
                            have u660 := kp_t kp_r u657
                            have v661 : q_V r651.2 = q_V δ := (u658).trans rfl
                            have v662 := kr_t (kr_r (ad := ad)) u659
                            have f663 := cb_12_36 i653 k_a0
                            have f664 := ti_b r651.1
                            have f665 := ti_b r651.1
                            first | (have q667 := te_add vx617 r651.1 (by omega) (by omega); obtain ⟨f668, f669, f670⟩ := q667) | (obtain ⟨q667, f668, f669, f670⟩ := ti_add vx617 r651.1)
                            exact ok_some (show RI ad h.1 δ0 r651.2 ∧ (kp [(12, 36)] δ r651.2 ∧ q_V r651.2 = q_V δ ∧ kr ad [119] δ r651.2) ∧ (q_I r651.2 12 36 a0).toInt = (q_I δ 12 36 a0).toInt ∧ 1 ≤ ((vx617 + r651.1)).toInt ∧ ((vx617 + r651.1)).toInt ≤ VBf (x3).toInt from ⟨i653, ⟨kp_w (by decide) u660, v661, kr_w (by decide) v662⟩, by first | assumption | omega, by first | assumption | omega, by first | assumption | omega⟩)
                        · have c671 : x1.toInt ≠ (3 : Int) := o_ne h627
                          refine ok_bind (k_X12_roomEnd L hN (a0 := a0) (x1 := x2) (x2 := x3) (x3 := x4) (x4 := x5) (x5 := (1 : Int32)) k_a0 (show 2 ≤ (x3).toInt by first | assumption | omega) (show (x3).toInt ≤ 16 by first | assumption | omega) (show 0 ≤ (x4).toInt by first | assumption | omega) (show (x4).toInt ≤ (x5).toInt by first | assumption | omega) (show (x5).toInt ≤ 14000 by first | assumption | omega) I) (fun r672 hr673 => ?_)
                          have i674 := hr673
                          try rw [i674]
                          have f675 := ti_b r672.1
                          refine ok_ite (fun h676 => ?_) (fun h676 => ?_)
                          · have c677 : vx623.toInt ≤ r672.1.toInt := o_le h676
                            refine ok_mono (kj_X12_touch_267 L hN (a0 := a0) (x1 := x1) (x2 := x2) (x3 := x3) (x4 := x4) (x5 := x5) (x9v := vx617) (x10v := r577.1) ih k_a0 (show 2 ≤ (x3).toInt by first | assumption | omega) (show (x3).toInt ≤ 16 by first | assumption | omega) (show 0 ≤ (x4).toInt by first | assumption | omega) (show (x4).toInt ≤ (x5).toInt by first | assumption | omega) (show (x5).toInt ≤ (x4).toInt + 2000 by first | assumption | omega) (show (x5).toInt ≤ (q_I δ 12 36 a0).toInt by first | assumption | omega) (show (q_I δ 12 36 a0).toInt + 2000 * LGf (x3).toInt ≤ 12000 by first | assumption | omega) (show (x3).toInt ≤ (k : Int) by first | assumption | omega) (show (x4).toInt < (x5).toInt by first | assumption | omega) (show (x4).toInt + 3 ≤ (x5).toInt by first | assumption | omega) (show 1 ≤ (vx617).toInt by first | assumption | omega) (show (vx617).toInt ≤ 2 by first | assumption | omega) I) (fun r678 hr679 => ?_)
                            obtain ⟨i680, ⟨u684, u685, u686⟩, p681, p682, p683⟩ := hr679
                            have u687 := kp_t kp_r u684
                            have v688 : q_V r678.2 = q_V δ := (u685).trans rfl
                            have v689 := kr_t (kr_r (ad := ad)) u686
                            have f690 := cb_12_36 i680 k_a0
                            have f691 := ti_b r678.1
                            have f692 := ti_b r678.1
                            exact ⟨by assumption, ⟨kp_w (by decide) u687, v688, kr_w (by decide) v689⟩, by first | assumption | omega, by first | assumption | omega, by first | assumption | omega⟩
                          · have c693 : r672.1.toInt < vx623.toInt := o_nle h676
                            unfold J_X12_touch_252
                            refine ok_bind (k_bX12_inRoom L hN (a0 := a0) (x1 := x1) (x2 := x2) (x3 := x3) (x4 := x4) (x5 := x5) ih k_a0 (show 2 ≤ (x3).toInt by first | assumption | omega) (show (x3).toInt ≤ 16 by first | assumption | omega) (show 0 ≤ (x4).toInt by first | assumption | omega) (show (x4).toInt ≤ (x5).toInt by first | assumption | omega) (show (x5).toInt ≤ (x4).toInt + 2000 by first | assumption | omega) (show (x5).toInt ≤ (q_I δ 12 36 a0).toInt by first | assumption | omega) (show (q_I δ 12 36 a0).toInt + 2000 * LGf (x3).toInt ≤ 12000 by first | assumption | omega) (show (x3).toInt ≤ (k : Int) by first | assumption | omega) I) (fun r694 hr695 => ?_)
                            obtain ⟨i696, ⟨u700, u701, u702⟩, p697, p698, p699⟩ := hr695
                            have u703 := kp_t kp_r u700
                            have v704 : q_V r694.2 = q_V δ := (u701).trans rfl
                            have v705 := kr_t (kr_r (ad := ad)) u702
                            have f706 := cb_12_36 i696 k_a0
                            have f707 := ti_b r694.1
                            have f708 := ti_b r694.1
                            first | (have q710 := te_add vx617 r694.1 (by omega) (by omega); obtain ⟨f711, f712, f713⟩ := q710) | (obtain ⟨q710, f711, f712, f713⟩ := ti_add vx617 r694.1)
                            exact ok_some (show RI ad h.1 δ0 r694.2 ∧ (kp [(12, 36)] δ r694.2 ∧ q_V r694.2 = q_V δ ∧ kr ad [119] δ r694.2) ∧ (q_I r694.2 12 36 a0).toInt = (q_I δ 12 36 a0).toInt ∧ 1 ≤ ((vx617 + r694.1)).toInt ∧ ((vx617 + r694.1)).toInt ≤ VBf (x3).toInt from ⟨i696, ⟨kp_w (by decide) u703, v704, kr_w (by decide) v705⟩, by first | assumption | omega, by first | assumption | omega, by first | assumption | omega⟩)
                    · have c714 : (x5 - x4).toInt < (3 : Int) := o_nle h575
                      unfold J_X12_touch_174
                      exact ok_some (show RI ad h.1 δ0 δ ∧ (kp [(12, 36)] δ δ ∧ q_V δ = q_V δ ∧ kr ad [119] δ δ) ∧ (q_I δ 12 36 a0).toInt = (q_I δ 12 36 a0).toInt ∧ 1 ≤ (1 : Int) ∧ (1 : Int) ≤ VBf (x3).toInt from ⟨I, ⟨kp_w (by decide) kp_r, rfl, kr_w (by decide) (kr_r (ad := ad))⟩, by first | assumption | omega, by first | assumption | omega, by first | assumption | omega⟩)
                  · have c715 : (1 : Int) ≠ (0 : Int) := o_ne h568
                    unfold J_X12_touch_174
                    exact ok_some (show RI ad h.1 δ0 δ ∧ (kp [(12, 36)] δ δ ∧ q_V δ = q_V δ ∧ kr ad [119] δ δ) ∧ (q_I δ 12 36 a0).toInt = (q_I δ 12 36 a0).toInt ∧ 1 ≤ (1 : Int) ∧ (1 : Int) ≤ VBf (x3).toInt from ⟨I, ⟨kp_w (by decide) kp_r, rfl, kr_w (by decide) (kr_r (ad := ad))⟩, by first | assumption | omega, by first | assumption | omega, by first | assumption | omega⟩)
                · have c716 : x2.toInt ≤ vx70.toInt := o_nlt h566
                  refine ok_ite (fun h717 => ?_) (fun h717 => ?_)
                  · have c718 : vx58.toInt < x2.toInt := o_lt h717
                    unfold J_X12_touch_158
                    refine ok_ite (fun h719 => ?_) (fun h719 => ?_)
                    · have c720 : (0 : Int) = (0 : Int) := o_eq h719
                      first | (have q722 := te_sub x5 x4 (by omega) (by omega); obtain ⟨f723, f724, f725⟩ := q722) | (obtain ⟨q722, f723, f724, f725⟩ := ti_sub x5 x4)
                      refine ok_ite (fun h726 => ?_) (fun h726 => ?_)
                      · have c727 : (3 : Int) ≤ (x5 - x4).toInt := o_le h726
                        refine ok_bind (k_X12_lowerBits L hN (a0 := a0) (x1 := x3) k_a0 (show 2 ≤ (x3).toInt by first | assumption | omega) (show (x3).toInt ≤ 16 by first | assumption | omega) I) (fun r728 hr729 => ?_)
                        obtain ⟨i730, p731, p732, p733, p734, p735, p736⟩ := hr729
                        try rw [i730]
                        have f737 := ti_b r728.1
                        have f738 := lgb (r728.1).toInt
                        have f739 := lgb ((x3 - r728.1)).toInt
                        first | (have q741 := te_sub x3 r728.1 (by omega) (by omega); obtain ⟨f742, f743, f744⟩ := q741) | (obtain ⟨q741, f742, f743, f744⟩ := ti_sub x3 r728.1)
                        have f745 := ti_b r728.1
                        refine ok_bind (k_X12_roomMany L hN (a0 := a0) (x1 := x2) (x2 := x3) (x3 := x4) (x4 := x5) k_a0 (show 2 ≤ (x3).toInt by first | assumption | omega) (show (x3).toInt ≤ 16 by first | assumption | omega) (show 0 ≤ (x4).toInt by first | assumption | omega) (show (x4).toInt ≤ (x5).toInt by first | assumption | omega) (show (x5).toInt ≤ 14000 by first | assumption | omega) I) (fun r746 hr747 => ?_)
                        have i748 := hr747
                        try rw [i748]
                        have f749 := ti_b r746.1
                        refine ok_ite (fun h750 => ?_) (fun h750 => ?_)
                        · have c751 : r746.1.toInt ≤ (0 : Int) := o_le h750
                          refine ok_mono (kj_X12_touch_267 L hN (a0 := a0) (x1 := x1) (x2 := x2) (x3 := x3) (x4 := x4) (x5 := x5) (x9v := (1 : Int32)) (x10v := r728.1) ih k_a0 (show 2 ≤ (x3).toInt by first | assumption | omega) (show (x3).toInt ≤ 16 by first | assumption | omega) (show 0 ≤ (x4).toInt by first | assumption | omega) (show (x4).toInt ≤ (x5).toInt by first | assumption | omega) (show (x5).toInt ≤ (x4).toInt + 2000 by first | assumption | omega) (show (x5).toInt ≤ (q_I δ 12 36 a0).toInt by first | assumption | omega) (show (q_I δ 12 36 a0).toInt + 2000 * LGf (x3).toInt ≤ 12000 by first | assumption | omega) (show (x3).toInt ≤ (k : Int) by first | assumption | omega) (show (x4).toInt < (x5).toInt by first | assumption | omega) (show (x4).toInt + 3 ≤ (x5).toInt by first | assumption | omega) (show 1 ≤ (1 : Int) by first | assumption | omega) (show (1 : Int) ≤ 2 by first | assumption | omega) I) (fun r752 hr753 => ?_)
                          obtain ⟨i754, ⟨u758, u759, u760⟩, p755, p756, p757⟩ := hr753
                          have u761 := kp_t kp_r u758
                          have v762 : q_V r752.2 = q_V δ := (u759).trans rfl
                          have v763 := kr_t (kr_r (ad := ad)) u760
                          have f764 := cb_12_36 i754 k_a0
                          have f765 := ti_b r752.1
                          have f766 := ti_b r752.1
                          exact ⟨by assumption, ⟨kp_w (by decide) u761, v762, kr_w (by decide) v763⟩, by first | assumption | omega, by first | assumption | omega, by first | assumption | omega⟩
                        · have c767 : (0 : Int) < r746.1.toInt := o_nle h750
                          refine ok_biv (fun vx768 e769 => ?_)
                          first | (have q770 := te_cadd (c := 1) (n := 1) rfl (1 : Int32) (by omega) (by omega); rw [← e769] at q770; obtain ⟨f771, f772, f773⟩ := q770) | (obtain ⟨q770, f771, f772, f773⟩ : ∃ q : Int, vx768.toInt = (1 : Int) + (1 : Int) + 4294967296 * q ∧ -2147483648 ≤ vx768.toInt ∧ vx768.toInt ≤ 2147483647 := by rw [e769]; exact ti_cadd (c := 1) (n := 1) rfl (1 : Int32))
                          have f776 := ti_b (x2 &&& (((1 : Int32) <<< (r728.1 &&& 31)) - (1 : Int32)))
                          refine ok_biv (fun vx774 e775 => ?_)
                          have f777 : vx774.toInt = (x2 &&& (((1 : Int32) <<< (r728.1 &&& 31)) - (1 : Int32))).toInt := congrArg Int32.toInt e775
                          refine ok_ite (fun h778 => ?_) (fun h778 => ?_)
                          · have c779 : x1.toInt = (3 : Int) := o_eq h778
                            refine ok_bind (k_X12_roomEnd L hN (a0 := a0) (x1 := x2) (x2 := x3) (x3 := x4) (x4 := x5) (x5 := (0 : Int32)) k_a0 (show 2 ≤ (x3).toInt by first | assumption | omega) (show (x3).toInt ≤ 16 by first | assumption | omega) (show 0 ≤ (x4).toInt by first | assumption | omega) (show (x4).toInt ≤ (x5).toInt by first | assumption | omega) (show (x5).toInt ≤ 14000 by first | assumption | omega) I) (fun r780 hr781 => ?_)
                            have i782 := hr781
                            try rw [i782]
                            have f783 := ti_b r780.1
                            refine ok_ite (fun h784 => ?_) (fun h784 => ?_)
                            · have c785 : r780.1.toInt ≤ vx774.toInt := o_le h784
                              refine ok_mono (kj_X12_touch_267 L hN (a0 := a0) (x1 := x1) (x2 := x2) (x3 := x3) (x4 := x4) (x5 := x5) (x9v := vx768) (x10v := r728.1) ih k_a0 (show 2 ≤ (x3).toInt by first | assumption | omega) (show (x3).toInt ≤ 16 by first | assumption | omega) (show 0 ≤ (x4).toInt by first | assumption | omega) (show (x4).toInt ≤ (x5).toInt by first | assumption | omega) (show (x5).toInt ≤ (x4).toInt + 2000 by first | assumption | omega) (show (x5).toInt ≤ (q_I δ 12 36 a0).toInt by first | assumption | omega) (show (q_I δ 12 36 a0).toInt + 2000 * LGf (x3).toInt ≤ 12000 by first | assumption | omega) (show (x3).toInt ≤ (k : Int) by first | assumption | omega) (show (x4).toInt < (x5).toInt by first | assumption | omega) (show (x4).toInt + 3 ≤ (x5).toInt by first | assumption | omega) (show 1 ≤ (vx768).toInt by first | assumption | omega) (show (vx768).toInt ≤ 2 by first | assumption | omega) I) (fun r786 hr787 => ?_)
                              obtain ⟨i788, ⟨u792, u793, u794⟩, p789, p790, p791⟩ := hr787
                              have u795 := kp_t kp_r u792
                              have v796 : q_V r786.2 = q_V δ := (u793).trans rfl
                              have v797 := kr_t (kr_r (ad := ad)) u794
                              have f798 := cb_12_36 i788 k_a0
                              have f799 := ti_b r786.1
                              have f800 := ti_b r786.1
                              exact ⟨by assumption, ⟨kp_w (by decide) u795, v796, kr_w (by decide) v797⟩, by first | assumption | omega, by first | assumption | omega, by first | assumption | omega⟩
                            · have c801 : vx774.toInt < r780.1.toInt := o_nle h784
                              unfold J_X12_touch_252
                              refine ok_bind (k_bX12_inRoom L hN (a0 := a0) (x1 := x1) (x2 := x2) (x3 := x3) (x4 := x4) (x5 := x5) ih k_a0 (show 2 ≤ (x3).toInt by first | assumption | omega) (show (x3).toInt ≤ 16 by first | assumption | omega) (show 0 ≤ (x4).toInt by first | assumption | omega) (show (x4).toInt ≤ (x5).toInt by first | assumption | omega) (show (x5).toInt ≤ (x4).toInt + 2000 by first | assumption | omega) (show (x5).toInt ≤ (q_I δ 12 36 a0).toInt by first | assumption | omega) (show (q_I δ 12 36 a0).toInt + 2000 * LGf (x3).toInt ≤ 12000 by first | assumption | omega) (show (x3).toInt ≤ (k : Int) by first | assumption | omega) I) (fun r802 hr803 => ?_)
                              obtain ⟨i804, ⟨u808, u809, u810⟩, p805, p806, p807⟩ := hr803
                              have u811 := kp_t kp_r u808
                              have v812 : q_V r802.2 = q_V δ := (u809).trans rfl
                              have v813 := kr_t (kr_r (ad := ad)) u810
                              have f814 := cb_12_36 i804 k_a0
                              have f815 := ti_b r802.1
                              have f816 := ti_b r802.1
                              first | (have q818 := te_add vx768 r802.1 (by omega) (by omega); obtain ⟨f819, f820, f821⟩ := q818) | (obtain ⟨q818, f819, f820, f821⟩ := ti_add vx768 r802.1)
                              exact ok_some (show RI ad h.1 δ0 r802.2 ∧ (kp [(12, 36)] δ r802.2 ∧ q_V r802.2 = q_V δ ∧ kr ad [119] δ r802.2) ∧ (q_I r802.2 12 36 a0).toInt = (q_I δ 12 36 a0).toInt ∧ 1 ≤ ((vx768 + r802.1)).toInt ∧ ((vx768 + r802.1)).toInt ≤ VBf (x3).toInt from ⟨i804, ⟨kp_w (by decide) u811, v812, kr_w (by decide) v813⟩, by first | assumption | omega, by first | assumption | omega, by first | assumption | omega⟩)
                          · have c822 : x1.toInt ≠ (3 : Int) := o_ne h778
                            refine ok_bind (k_X12_roomEnd L hN (a0 := a0) (x1 := x2) (x2 := x3) (x3 := x4) (x4 := x5) (x5 := (1 : Int32)) k_a0 (show 2 ≤ (x3).toInt by first | assumption | omega) (show (x3).toInt ≤ 16 by first | assumption | omega) (show 0 ≤ (x4).toInt by first | assumption | omega) (show (x4).toInt ≤ (x5).toInt by first | assumption | omega) (show (x5).toInt ≤ 14000 by first | assumption | omega) I) (fun r823 hr824 => ?_)
                            have i825 := hr824
                            try rw [i825]
                            have f826 := ti_b r823.1
                            refine ok_ite (fun h827 => ?_) (fun h827 => ?_)
                            · have c828 : vx774.toInt ≤ r823.1.toInt := o_le h827
                              refine ok_mono (kj_X12_touch_267 L hN (a0 := a0) (x1 := x1) (x2 := x2) (x3 := x3) (x4 := x4) (x5 := x5) (x9v := vx768) (x10v := r728.1) ih k_a0 (show 2 ≤ (x3).toInt by first | assumption | omega) (show (x3).toInt ≤ 16 by first | assumption | omega) (show 0 ≤ (x4).toInt by first | assumption | omega) (show (x4).toInt ≤ (x5).toInt by first | assumption | omega) (show (x5).toInt ≤ (x4).toInt + 2000 by first | assumption | omega) (show (x5).toInt ≤ (q_I δ 12 36 a0).toInt by first | assumption | omega) (show (q_I δ 12 36 a0).toInt + 2000 * LGf (x3).toInt ≤ 12000 by first | assumption | omega) (show (x3).toInt ≤ (k : Int) by first | assumption | omega) (show (x4).toInt < (x5).toInt by first | assumption | omega) (show (x4).toInt + 3 ≤ (x5).toInt by first | assumption | omega) (show 1 ≤ (vx768).toInt by first | assumption | omega) (show (vx768).toInt ≤ 2 by first | assumption | omega) I) (fun r829 hr830 => ?_)
                              obtain ⟨i831, ⟨u835, u836, u837⟩, p832, p833, p834⟩ := hr830
                              have u838 := kp_t kp_r u835
                              have v839 : q_V r829.2 = q_V δ := (u836).trans rfl
                              have v840 := kr_t (kr_r (ad := ad)) u837
                              have f841 := cb_12_36 i831 k_a0
                              have f842 := ti_b r829.1
                              have f843 := ti_b r829.1
                              exact ⟨by assumption, ⟨kp_w (by decide) u838, v839, kr_w (by decide) v840⟩, by first | assumption | omega, by first | assumption | omega, by first | assumption | omega⟩
                            · have c844 : r823.1.toInt < vx774.toInt := o_nle h827
                              unfold J_X12_touch_252
                              refine ok_bind (k_bX12_inRoom L hN (a0 := a0) (x1 := x1) (x2 := x2) (x3 := x3) (x4 := x4) (x5 := x5) ih k_a0 (show 2 ≤ (x3).toInt by first | assumption | omega) (show (x3).toInt ≤ 16 by first | assumption | omega) (show 0 ≤ (x4).toInt by first | assumption | omega) (show (x4).toInt ≤ (x5).toInt by first | assumption | omega) (show (x5).toInt ≤ (x4).toInt + 2000 by first | assumption | omega) (show (x5).toInt ≤ (q_I δ 12 36 a0).toInt by first | assumption | omega) (show (q_I δ 12 36 a0).toInt + 2000 * LGf (x3).toInt ≤ 12000 by first | assumption | omega) (show (x3).toInt ≤ (k : Int) by first | assumption | omega) I) (fun r845 hr846 => ?_)
                              obtain ⟨i847, ⟨u851, u852, u853⟩, p848, p849, p850⟩ := hr846
                              have u854 := kp_t kp_r u851
                              have v855 : q_V r845.2 = q_V δ := (u852).trans rfl
                              have v856 := kr_t (kr_r (ad := ad)) u853
                              have f857 := cb_12_36 i847 k_a0
                              have f858 := ti_b r845.1
                              have f859 := ti_b r845.1
                              first | (have q861 := te_add vx768 r845.1 (by omega) (by omega); obtain ⟨f862, f863, f864⟩ := q861) | (obtain ⟨q861, f862, f863, f864⟩ := ti_add vx768 r845.1)
                              exact ok_some (show RI ad h.1 δ0 r845.2 ∧ (kp [(12, 36)] δ r845.2 ∧ q_V r845.2 = q_V δ ∧ kr ad [119] δ r845.2) ∧ (q_I r845.2 12 36 a0).toInt = (q_I δ 12 36 a0).toInt ∧ 1 ≤ ((vx768 + r845.1)).toInt ∧ ((vx768 + r845.1)).toInt ≤ VBf (x3).toInt from ⟨i847, ⟨kp_w (by decide) u854, v855, kr_w (by decide) v856⟩, by first | assumption | omega, by first | assumption | omega, by first | assumption | omega⟩)
                      · have c865 : (x5 - x4).toInt < (3 : Int) := o_nle h726
                        unfold J_X12_touch_174
                        exact ok_some (show RI ad h.1 δ0 δ ∧ (kp [(12, 36)] δ δ ∧ q_V δ = q_V δ ∧ kr ad [119] δ δ) ∧ (q_I δ 12 36 a0).toInt = (q_I δ 12 36 a0).toInt ∧ 1 ≤ (1 : Int) ∧ (1 : Int) ≤ VBf (x3).toInt from ⟨I, ⟨kp_w (by decide) kp_r, rfl, kr_w (by decide) (kr_r (ad := ad))⟩, by first | assumption | omega, by first | assumption | omega, by first | assumption | omega⟩)
                    · have c866 : (0 : Int) ≠ (0 : Int) := o_ne h719
                      unfold J_X12_touch_174
                      exact ok_some (show RI ad h.1 δ0 δ ∧ (kp [(12, 36)] δ δ ∧ q_V δ = q_V δ ∧ kr ad [119] δ δ) ∧ (q_I δ 12 36 a0).toInt = (q_I δ 12 36 a0).toInt ∧ 1 ≤ (1 : Int) ∧ (1 : Int) ≤ VBf (x3).toInt from ⟨I, ⟨kp_w (by decide) kp_r, rfl, kr_w (by decide) (kr_r (ad := ad))⟩, by first | assumption | omega, by first | assumption | omega, by first | assumption | omega⟩)
                  · have c867 : x2.toInt ≤ vx58.toInt := o_nlt h717
                    unfold J_X12_touch_153
                    unfold J_X12_touch_158
                    refine ok_ite (fun h868 => ?_) (fun h868 => ?_)
                    · have c869 : (1 : Int) = (0 : Int) := o_eq h868
                      first | (have q871 := te_sub x5 x4 (by omega) (by omega); obtain ⟨f872, f873, f874⟩ := q871) | (obtain ⟨q871, f872, f873, f874⟩ := ti_sub x5 x4)
                      refine ok_ite (fun h875 => ?_) (fun h875 => ?_)
                      · have c876 : (3 : Int) ≤ (x5 - x4).toInt := o_le h875
                        refine ok_bind (k_X12_lowerBits L hN (a0 := a0) (x1 := x3) k_a0 (show 2 ≤ (x3).toInt by first | assumption | omega) (show (x3).toInt ≤ 16 by first | assumption | omega) I) (fun r877 hr878 => ?_)
                        obtain ⟨i879, p880, p881, p882, p883, p884, p885⟩ := hr878
                        try rw [i879]
                        have f886 := ti_b r877.1
                        have f887 := lgb (r877.1).toInt
                        have f888 := lgb ((x3 - r877.1)).toInt
                        first | (have q890 := te_sub x3 r877.1 (by omega) (by omega); obtain ⟨f891, f892, f893⟩ := q890) | (obtain ⟨q890, f891, f892, f893⟩ := ti_sub x3 r877.1)
                        have f894 := ti_b r877.1
                        refine ok_bind (k_X12_roomMany L hN (a0 := a0) (x1 := x2) (x2 := x3) (x3 := x4) (x4 := x5) k_a0 (show 2 ≤ (x3).toInt by first | assumption | omega) (show (x3).toInt ≤ 16 by first | assumption | omega) (show 0 ≤ (x4).toInt by first | assumption | omega) (show (x4).toInt ≤ (x5).toInt by first | assumption | omega) (show (x5).toInt ≤ 14000 by first | assumption | omega) I) (fun r895 hr896 => ?_)
                        have i897 := hr896
                        try rw [i897]
                        have f898 := ti_b r895.1
                        refine ok_ite (fun h899 => ?_) (fun h899 => ?_)
                        · have c900 : r895.1.toInt ≤ (0 : Int) := o_le h899
                          refine ok_mono (kj_X12_touch_267 L hN (a0 := a0) (x1 := x1) (x2 := x2) (x3 := x3) (x4 := x4) (x5 := x5) (x9v := (1 : Int32)) (x10v := r877.1) ih k_a0 (show 2 ≤ (x3).toInt by first | assumption | omega) (show (x3).toInt ≤ 16 by first | assumption | omega) (show 0 ≤ (x4).toInt by first | assumption | omega) (show (x4).toInt ≤ (x5).toInt by first | assumption | omega) (show (x5).toInt ≤ (x4).toInt + 2000 by first | assumption | omega) (show (x5).toInt ≤ (q_I δ 12 36 a0).toInt by first | assumption | omega) (show (q_I δ 12 36 a0).toInt + 2000 * LGf (x3).toInt ≤ 12000 by first | assumption | omega) (show (x3).toInt ≤ (k : Int) by first | assumption | omega) (show (x4).toInt < (x5).toInt by first | assumption | omega) (show (x4).toInt + 3 ≤ (x5).toInt by first | assumption | omega) (show 1 ≤ (1 : Int) by first | assumption | omega) (show (1 : Int) ≤ 2 by first | assumption | omega) I) (fun r901 hr902 => ?_)
                          obtain ⟨i903, ⟨u907, u908, u909⟩, p904, p905, p906⟩ := hr902
                          have u910 := kp_t kp_r u907
                          have v911 : q_V r901.2 = q_V δ := (u908).trans rfl
                          have v912 := kr_t (kr_r (ad := ad)) u909
                          have f913 := cb_12_36 i903 k_a0
                          have f914 := ti_b r901.1
                          have f915 := ti_b r901.1
                          exact ⟨by assumption, ⟨kp_w (by decide) u910, v911, kr_w (by decide) v912⟩, by first | assumption | omega, by first | assumption | omega, by first | assumption | omega⟩
                        · have c916 : (0 : Int) < r895.1.toInt := o_nle h899
                          refine ok_biv (fun vx917 e918 => ?_)
                          first | (have q919 := te_cadd (c := 1) (n := 1) rfl (1 : Int32) (by omega) (by omega); rw [← e918] at q919; obtain ⟨f920, f921, f922⟩ := q919) | (obtain ⟨q919, f920, f921, f922⟩ : ∃ q : Int, vx917.toInt = (1 : Int) + (1 : Int) + 4294967296 * q ∧ -2147483648 ≤ vx917.toInt ∧ vx917.toInt ≤ 2147483647 := by rw [e918]; exact ti_cadd (c := 1) (n := 1) rfl (1 : Int32))
                          have f925 := ti_b (x2 &&& (((1 : Int32) <<< (r877.1 &&& 31)) - (1 : Int32)))
                          refine ok_biv (fun vx923 e924 => ?_)
                          have f926 : vx923.toInt = (x2 &&& (((1 : Int32) <<< (r877.1 &&& 31)) - (1 : Int32))).toInt := congrArg Int32.toInt e924
                          refine ok_ite (fun h927 => ?_) (fun h927 => ?_)
                          · have c928 : x1.toInt = (3 : Int) := o_eq h927
                            refine ok_bind (k_X12_roomEnd L hN (a0 := a0) (x1 := x2) (x2 := x3) (x3 := x4) (x4 := x5) (x5 := (0 : Int32)) k_a0 (show 2 ≤ (x3).toInt by first | assumption | omega) (show (x3).toInt ≤ 16 by first | assumption | omega) (show 0 ≤ (x4).toInt by first | assumption | omega) (show (x4).toInt ≤ (x5).toInt by first | assumption | omega) (show (x5).toInt ≤ 14000 by first | assumption | omega) I) (fun r929 hr930 => ?_)
                            have i931 := hr930
                            try rw [i931]
                            have f932 := ti_b r929.1
                            refine ok_ite (fun h933 => ?_) (fun h933 => ?_)
                            · have c934 : r929.1.toInt ≤ vx923.toInt := o_le h933
                              refine ok_mono (kj_X12_touch_267 L hN (a0 := a0) (x1 := x1) (x2 := x2) (x3 := x3) (x4 := x4) (x5 := x5) (x9v := vx917) (x10v := r877.1) ih k_a0 (show 2 ≤ (x3).toInt by first | assumption | omega) (show (x3).toInt ≤ 16 by first | assumption | omega) (show 0 ≤ (x4).toInt by first | assumption | omega) (show (x4).toInt ≤ (x5).toInt by first | assumption | omega) (show (x5).toInt ≤ (x4).toInt + 2000 by first | assumption | omega) (show (x5).toInt ≤ (q_I δ 12 36 a0).toInt by first | assumption | omega) (show (q_I δ 12 36 a0).toInt + 2000 * LGf (x3).toInt ≤ 12000 by first | assumption | omega) (show (x3).toInt ≤ (k : Int) by first | assumption | omega) (show (x4).toInt < (x5).toInt by first | assumption | omega) (show (x4).toInt + 3 ≤ (x5).toInt by first | assumption | omega) (show 1 ≤ (vx917).toInt by first | assumption | omega) (show (vx917).toInt ≤ 2 by first | assumption | omega) I) (fun r935 hr936 => ?_)
                              obtain ⟨i937, ⟨u941, u942, u943⟩, p938, p939, p940⟩ := hr936
                              have u944 := kp_t kp_r u941
                              have v945 : q_V r935.2 = q_V δ := (u942).trans rfl
                              have v946 := kr_t (kr_r (ad := ad)) u943
                              have f947 := cb_12_36 i937 k_a0
                              have f948 := ti_b r935.1
                              have f949 := ti_b r935.1
                              exact ⟨by assumption, ⟨kp_w (by decide) u944, v945, kr_w (by decide) v946⟩, by first | assumption | omega, by first | assumption | omega, by first | assumption | omega⟩
                            · have c950 : vx923.toInt < r929.1.toInt := o_nle h933
                              unfold J_X12_touch_252
                              refine ok_bind (k_bX12_inRoom L hN (a0 := a0) (x1 := x1) (x2 := x2) (x3 := x3) (x4 := x4) (x5 := x5) ih k_a0 (show 2 ≤ (x3).toInt by first | assumption | omega) (show (x3).toInt ≤ 16 by first | assumption | omega) (show 0 ≤ (x4).toInt by first | assumption | omega) (show (x4).toInt ≤ (x5).toInt by first | assumption | omega) (show (x5).toInt ≤ (x4).toInt + 2000 by first | assumption | omega) (show (x5).toInt ≤ (q_I δ 12 36 a0).toInt by first | assumption | omega) (show (q_I δ 12 36 a0).toInt + 2000 * LGf (x3).toInt ≤ 12000 by first | assumption | omega) (show (x3).toInt ≤ (k : Int) by first | assumption | omega) I) (fun r951 hr952 => ?_)
                              obtain ⟨i953, ⟨u957, u958, u959⟩, p954, p955, p956⟩ := hr952
                              have u960 := kp_t kp_r u957
                              have v961 : q_V r951.2 = q_V δ := (u958).trans rfl
                              have v962 := kr_t (kr_r (ad := ad)) u959
                              have f963 := cb_12_36 i953 k_a0
                              have f964 := ti_b r951.1
                              have f965 := ti_b r951.1
                              first | (have q967 := te_add vx917 r951.1 (by omega) (by omega); obtain ⟨f968, f969, f970⟩ := q967) | (obtain ⟨q967, f968, f969, f970⟩ := ti_add vx917 r951.1)
                              exact ok_some (show RI ad h.1 δ0 r951.2 ∧ (kp [(12, 36)] δ r951.2 ∧ q_V r951.2 = q_V δ ∧ kr ad [119] δ r951.2) ∧ (q_I r951.2 12 36 a0).toInt = (q_I δ 12 36 a0).toInt ∧ 1 ≤ ((vx917 + r951.1)).toInt ∧ ((vx917 + r951.1)).toInt ≤ VBf (x3).toInt from ⟨i953, ⟨kp_w (by decide) u960, v961, kr_w (by decide) v962⟩, by first | assumption | omega, by first | assumption | omega, by first | assumption | omega⟩)
                          · have c971 : x1.toInt ≠ (3 : Int) := o_ne h927
                            refine ok_bind (k_X12_roomEnd L hN (a0 := a0) (x1 := x2) (x2 := x3) (x3 := x4) (x4 := x5) (x5 := (1 : Int32)) k_a0 (show 2 ≤ (x3).toInt by first | assumption | omega) (show (x3).toInt ≤ 16 by first | assumption | omega) (show 0 ≤ (x4).toInt by first | assumption | omega) (show (x4).toInt ≤ (x5).toInt by first | assumption | omega) (show (x5).toInt ≤ 14000 by first | assumption | omega) I) (fun r972 hr973 => ?_)
                            have i974 := hr973
                            try rw [i974]
                            have f975 := ti_b r972.1
                            refine ok_ite (fun h976 => ?_) (fun h976 => ?_)
                            · have c977 : vx923.toInt ≤ r972.1.toInt := o_le h976
                              refine ok_mono (kj_X12_touch_267 L hN (a0 := a0) (x1 := x1) (x2 := x2) (x3 := x3) (x4 := x4) (x5 := x5) (x9v := vx917) (x10v := r877.1) ih k_a0 (show 2 ≤ (x3).toInt by first | assumption | omega) (show (x3).toInt ≤ 16 by first | assumption | omega) (show 0 ≤ (x4).toInt by first | assumption | omega) (show (x4).toInt ≤ (x5).toInt by first | assumption | omega) (show (x5).toInt ≤ (x4).toInt + 2000 by first | assumption | omega) (show (x5).toInt ≤ (q_I δ 12 36 a0).toInt by first | assumption | omega) (show (q_I δ 12 36 a0).toInt + 2000 * LGf (x3).toInt ≤ 12000 by first | assumption | omega) (show (x3).toInt ≤ (k : Int) by first | assumption | omega) (show (x4).toInt < (x5).toInt by first | assumption | omega) (show (x4).toInt + 3 ≤ (x5).toInt by first | assumption | omega) (show 1 ≤ (vx917).toInt by first | assumption | omega) (show (vx917).toInt ≤ 2 by first | assumption | omega) I) (fun r978 hr979 => ?_)
                              obtain ⟨i980, ⟨u984, u985, u986⟩, p981, p982, p983⟩ := hr979
                              have u987 := kp_t kp_r u984
                              have v988 : q_V r978.2 = q_V δ := (u985).trans rfl
                              have v989 := kr_t (kr_r (ad := ad)) u986
                              have f990 := cb_12_36 i980 k_a0
                              have f991 := ti_b r978.1
                              have f992 := ti_b r978.1
                              exact ⟨by assumption, ⟨kp_w (by decide) u987, v988, kr_w (by decide) v989⟩, by first | assumption | omega, by first | assumption | omega, by first | assumption | omega⟩
                            · have c993 : r972.1.toInt < vx923.toInt := o_nle h976
                              unfold J_X12_touch_252
                              refine ok_bind (k_bX12_inRoom L hN (a0 := a0) (x1 := x1) (x2 := x2) (x3 := x3) (x4 := x4) (x5 := x5) ih k_a0 (show 2 ≤ (x3).toInt by first | assumption | omega) (show (x3).toInt ≤ 16 by first | assumption | omega) (show 0 ≤ (x4).toInt by first | assumption | omega) (show (x4).toInt ≤ (x5).toInt by first | assumption | omega) (show (x5).toInt ≤ (x4).toInt + 2000 by first | assumption | omega) (show (x5).toInt ≤ (q_I δ 12 36 a0).toInt by first | assumption | omega) (show (q_I δ 12 36 a0).toInt + 2000 * LGf (x3).toInt ≤ 12000 by first | assumption | omega) (show (x3).toInt ≤ (k : Int) by first | assumption | omega) I) (fun r994 hr995 => ?_)
                              obtain ⟨i996, ⟨u1000, u1001, u1002⟩, p997, p998, p999⟩ := hr995
                              have u1003 := kp_t kp_r u1000
                              have v1004 : q_V r994.2 = q_V δ := (u1001).trans rfl
                              have v1005 := kr_t (kr_r (ad := ad)) u1002
                              have f1006 := cb_12_36 i996 k_a0
                              have f1007 := ti_b r994.1
                              have f1008 := ti_b r994.1
                              first | (have q1010 := te_add vx917 r994.1 (by omega) (by omega); obtain ⟨f1011, f1012, f1013⟩ := q1010) | (obtain ⟨q1010, f1011, f1012, f1013⟩ := ti_add vx917 r994.1)
                              exact ok_some (show RI ad h.1 δ0 r994.2 ∧ (kp [(12, 36)] δ r994.2 ∧ q_V r994.2 = q_V δ ∧ kr ad [119] δ r994.2) ∧ (q_I r994.2 12 36 a0).toInt = (q_I δ 12 36 a0).toInt ∧ 1 ≤ ((vx917 + r994.1)).toInt ∧ ((vx917 + r994.1)).toInt ≤ VBf (x3).toInt from ⟨i996, ⟨kp_w (by decide) u1003, v1004, kr_w (by decide) v1005⟩, by first | assumption | omega, by first | assumption | omega, by first | assumption | omega⟩)
                      · have c1014 : (x5 - x4).toInt < (3 : Int) := o_nle h875
                        unfold J_X12_touch_174
                        exact ok_some (show RI ad h.1 δ0 δ ∧ (kp [(12, 36)] δ δ ∧ q_V δ = q_V δ ∧ kr ad [119] δ δ) ∧ (q_I δ 12 36 a0).toInt = (q_I δ 12 36 a0).toInt ∧ 1 ≤ (1 : Int) ∧ (1 : Int) ≤ VBf (x3).toInt from ⟨I, ⟨kp_w (by decide) kp_r, rfl, kr_w (by decide) (kr_r (ad := ad))⟩, by first | assumption | omega, by first | assumption | omega, by first | assumption | omega⟩)
                    · have c1015 : (1 : Int) ≠ (0 : Int) := o_ne h868
                      unfold J_X12_touch_174
                      exact ok_some (show RI ad h.1 δ0 δ ∧ (kp [(12, 36)] δ δ ∧ q_V δ = q_V δ ∧ kr ad [119] δ δ) ∧ (q_I δ 12 36 a0).toInt = (q_I δ 12 36 a0).toInt ∧ 1 ≤ (1 : Int) ∧ (1 : Int) ≤ VBf (x3).toInt from ⟨I, ⟨kp_w (by decide) kp_r, rfl, kr_w (by decide) (kr_r (ad := ad))⟩, by first | assumption | omega, by first | assumption | omega, by first | assumption | omega⟩)
set_option maxHeartbeats 4000000 in
theorem k_X12_touch {ad : List Nat} {h : hp} (L : Lay TLx ad h) {δ0 : dp} {N : Nat} (hN : 10000000 ≤ N) {a0 : Nat} {x1 : Int32} {x2 : Int32} {x3 : Int32} {x4 : Int32} {x5 : Int32} (k_a0 : q_K h.1 a0 = 12) {δ : dp} (z0 : 1 ≤ (x3).toInt) (z1 : (x3).toInt ≤ 16) (z2 : 0 ≤ (x4).toInt) (z3 : (x4).toInt ≤ (x5).toInt) (z4 : (x5).toInt ≤ (x4).toInt + 2000) (z5 : (x5).toInt ≤ (q_I δ 12 36 a0).toInt) (z6 : (q_I δ 12 36 a0).toInt + 2000 * LGf (x3).toInt ≤ 12000) (hd : (x3).toInt < 20) (I : RI ad h.1 δ0 δ) : ok (D_X12_touch N h.1 a0 x1 x2 x3 x4 x5 δ) (fun r => RI ad h.1 δ0 r.2 ∧ (kp [(12, 36)] δ r.2 ∧ q_V r.2 = q_V δ ∧ kr ad [119] δ r.2) ∧ (q_I r.2 12 36 a0).toInt = (q_I δ 12 36 a0).toInt ∧ 1 ≤ (r.1).toInt ∧ (r.1).toInt ≤ VBf (x3).toInt) := ke_X12_touch L hN 20 a0 x1 x2 x3 x4 x5 δ k_a0 z0 z1 z2 z3 z4 z5 z6 hd I
