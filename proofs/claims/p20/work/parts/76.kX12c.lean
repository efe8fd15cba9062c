/-! how deep a row of bits is halved -/
def LGf (w : Int) : Int := if w ≤ 1 then 0 else if w ≤ 2 then 1 else if w ≤ 4 then 2 else if w ≤ 8 then 3 else 4
def HVf (w : Int) : Int := if w ≤ 1 then -1 else if w ≤ 2 then 1 else if w ≤ 4 then 5 else if w ≤ 8 then 13 else 29
def VBf (w : Int) : Int := 3 + 2 * HVf w
theorem lgb (w : Int) : 0 ≤ LGf w ∧ LGf w ≤ 4 ∧ VBf w = 3 + 2 * HVf w ∧ -1 ≤ HVf w ∧ HVf w ≤ 29 ∧ (2 ≤ w → 1 ≤ HVf w) := by
  refine ⟨?_, ?_, rfl, ?_, ?_, fun h => ?_⟩
  · unfold LGf; (repeat' split) <;> omega
  · unfold LGf; (repeat' split) <;> omega
  · unfold HVf; (repeat' split) <;> omega
  · unfold HVf; (repeat' split) <;> omega
  · unfold HVf; (repeat' split) <;> omega
theorem lg_1 {v w : Int} (h1 : 2 ≤ w) (h2 : w ≤ 16) (h3 : 2 * v ≤ w + 1) : LGf v + 1 ≤ LGf w := by
  unfold LGf; (repeat' split) <;> omega
theorem lg_2 {v w : Int} (h1 : 2 ≤ w) (h2 : w ≤ 16) (h3 : 2 * v ≤ w + 1) : VBf v ≤ HVf w := by
  unfold VBf HVf; (repeat' split) <;> omega
theorem lg_all {v w : Int} (h1 : 2 ≤ w) (h2 : w ≤ 16) (h3 : w ≤ 2 * v + 1) (h4 : 2 * v ≤ w + 1) : LGf v + 1 ≤ LGf w ∧ LGf (w - v) + 1 ≤ LGf w ∧ VBf v ≤ HVf w ∧ VBf (w - v) ≤ HVf w :=
  ⟨lg_1 h1 h2 h4, lg_1 h1 h2 (by omega), lg_2 h1 h2 h4, lg_2 h1 h2 (by omega)⟩
set_option maxHeartbeats 4000000 in
theorem k0_X12_lowerBits {ad : List Nat} {h : hp} (L : Lay TLx ad h) {δ0 : dp} {N : Nat} (hN : 10000000 ≤ N) {a0 : Nat} {x1 : Int32} (k_a0 : q_K h.1 a0 = 12) {δ : dp} (z0 : 2 ≤ (x1).toInt) (z1 : (x1).toInt ≤ 16) (I : RI ad h.1 δ0 δ) : ok (D_X12_lowerBits N h.1 a0 x1 δ) (fun r => r.2 = δ ∧ (x1).toInt ≤ 2 * (r.1).toInt + 1 ∧ 2 * (r.1).toInt ≤ (x1).toInt + 1) := by
  unfold D_X12_lowerBits
  have f1 := ti_b x1
  have f3 := ti_div (c := 2) (n := 2) rfl (by decide) x1
  have f4 := ti_b (x1 / (2 : Int32))
  first | (have q5 := te_mulr (c := 2) (n := 2) rfl (x1 / (2 : Int32)) (by omega) (by omega); obtain ⟨f6, f7, f8⟩ := q5) | (obtain ⟨q5, f6, f7, f8⟩ := ti_mulr (c := 2) (n := 2) rfl (x1 / (2 : Int32)))
  first | (have q10 := te_sub x1 (x1 / (2 : Int32) * (2 : Int32)) (by omega) (by omega); obtain ⟨f11, f12, f13⟩ := q10) | (obtain ⟨q10, f11, f12, f13⟩ := ti_sub x1 (x1 / (2 : Int32) * (2 : Int32)))
  refine ok_ite (fun h14 => ?_) (fun h14 => ?_)
  · have c15 : (x1 - x1 / (2 : Int32) * (2 : Int32)).toInt = (0 : Int) := o_eq h14
    unfold J_X12_lowerBits_30
    exact ok_some (show δ = δ ∧ (x1).toInt ≤ 2 * ((x1 / (2 : Int32))).toInt + 1 ∧ 2 * ((x1 / (2 : Int32))).toInt ≤ (x1).toInt + 1 from ⟨rfl, by first | with_reducible assumption | omega, by first | with_reducible assumption | omega⟩)
  · have c16 : (x1 - x1 / (2 : Int32) * (2 : Int32)).toInt ≠ (0 : Int) := o_ne h14
    have f17 := cb_12_12 I k_a0
    refine ok_ite (fun h18 => ?_) (fun h18 => ?_)
    · have c19 : (q_I δ 12 12 a0).toInt = (0 : Int) := o_eq h18
      unfold J_X12_lowerBits_30
      first | (have q21 := te_addc (c := 1) (n := 1) rfl (x1 / (2 : Int32)) (by omega) (by omega); obtain ⟨f22, f23, f24⟩ := q21) | (obtain ⟨q21, f22, f23, f24⟩ := ti_addc (c := 1) (n := 1) rfl (x1 / (2 : Int32)))
      exact ok_some (show δ = δ ∧ (x1).toInt ≤ 2 * (((x1 / (2 : Int32)) + (1 : Int32))).toInt + 1 ∧ 2 * (((x1 / (2 : Int32)) + (1 : Int32))).toInt ≤ (x1).toInt + 1 from ⟨rfl, by first | with_reducible assumption | omega, by first | with_reducible assumption | omega⟩)
    · have c25 : (q_I δ 12 12 a0).toInt ≠ (0 : Int) := o_ne h18
      unfold J_X12_lowerBits_30
      exact ok_some (show δ = δ ∧ (x1).toInt ≤ 2 * ((x1 / (2 : Int32))).toInt + 1 ∧ 2 * ((x1 / (2 : Int32))).toInt ≤ (x1).toInt + 1 from ⟨rfl, by first | with_reducible assumption | omega, by first | with_reducible assumption | omega⟩)
set_option maxHeartbeats 4000000 in
theorem k_X12_lowerBits {ad : List Nat} {h : hp} (L : Lay TLx ad h) {δ0 : dp} {N : Nat} (hN : 10000000 ≤ N) {a0 : Nat} {x1 : Int32} (k_a0 : q_K h.1 a0 = 12) {δ : dp} (z0 : 2 ≤ (x1).toInt) (z1 : (x1).toInt ≤ 16) (I : RI ad h.1 δ0 δ) : ok (D_X12_lowerBits N h.1 a0 x1 δ) (fun r => r.2 = δ ∧ 1 ≤ (r.1).toInt ∧ (r.1).toInt < (x1).toInt ∧ LGf (r.1).toInt + 1 ≤ LGf (x1).toInt ∧ LGf ((x1 - r.1)).toInt + 1 ≤ LGf (x1).toInt ∧ VBf (r.1).toInt ≤ HVf (x1).toInt ∧ VBf ((x1 - r.1)).toInt ≤ HVf (x1).toInt) := by
  refine ok_mono (k0_X12_lowerBits L hN k_a0 z0 z1 I) (fun r hr => ?_)
  obtain ⟨e, p1, p2⟩ := hr
  obtain ⟨q1, q2, q3, q4⟩ := lg_all z0 z1 p1 p2
  have t := (te_sub x1 r.1 (by omega) (by omega)).1
  rw [t]
  exact ⟨e, by omega, by omega, q1, q2, q3, q4⟩
/-! 76.kX12c (by gen_safe.py) -/
set_option maxHeartbeats 4000000 in
theorem kl_X12_lists_11 {ad : List Nat} {h : hp} (L : Lay TLx ad h) {δ0 : dp} {N : Nat} (hN : 10000000 ≤ N) {a0 : Nat} {x1 : Int32} {x2 : Int32} {x3 : Int32} (k_a0 : q_K h.1 a0 = 12) : ∀ (n : Nat) (x4v : Int32) (x5v : Int32) (δ : dp), RI ad h.1 δ0 δ → 0 ≤ (x1).toInt → (x1).toInt ≤ (x2).toInt → (x2).toInt ≤ (x1).toInt + 2000 → (x1).toInt + 1 ≤ (x5v).toInt → (x5v).toInt ≤ (x2).toInt + 1 → (x2).toInt ≤ (x4v).toInt → (x4v).toInt ≤ 12000 → (x4v).toInt ≤ (q_I δ 12 36 a0).toInt → (q_I δ 12 36 a0).toInt ≤ (x4v).toInt + (x5v).toInt - (x1).toInt - 1 → (x2).toInt + 1 - (x5v).toInt < (n : Int) → ok (L_X12_lists_11 N h.1 a0 x1 x2 x3 n x4v x5v δ) (fun r => RI ad h.1 δ0 r.2 ∧ (kp [(12, 36)] δ r.2 ∧ q_V r.2 = q_V δ ∧ kr ad [119] δ r.2) ∧ (r.1).toInt = (x4v).toInt ∧ (q_I δ 12 36 a0).toInt ≤ (q_I r.2 12 36 a0).toInt ∧ (q_I r.2 12 36 a0).toInt ≤ (x4v).toInt + 2000) := by
  intro n
  induction n with
  | zero =>
    intro x4v x5v δ I j0 j1 j2 j3 j4 j5 j6 j7 j8 hm
    have f1 := ti_b x1
    have f2 := ti_b x2
    have f3 := ti_b x5v
    have f4 := ti_b x4v
    have f5 := cb_12_36 I k_a0
    exfalso; omega
  | succ n ih =>
    intro x4v x5v δ I j0 j1 j2 j3 j4 j5 j6 j7 j8 hm
    unfold L_X12_lists_11
    have f1 := ti_b x1
    have f2 := ti_b x2
    have f3 := ti_b x5v
    have f4 := ti_b x4v
    have f5 := cb_12_36 I k_a0
    first | (have q7 := te_subc (c := 1) (n := 1) rfl x2 (by omega) (by omega); obtain ⟨f8, f9, f10⟩ := q7) | (obtain ⟨q7, f8, f9, f10⟩ := ti_subc (c := 1) (n := 1) rfl x2)
    refine ok_ite (fun h11 => ?_) (fun h11 => ?_)
    · have c12 : (x2 - (1 : Int32)).toInt ≤ x5v.toInt := o_le h11
      exact ok_some (show RI ad h.1 δ0 δ ∧ (kp [(12, 36)] δ δ ∧ q_V δ = q_V δ ∧ kr ad [119] δ δ) ∧ (x4v).toInt = (x4v).toInt ∧ (q_I δ 12 36 a0).toInt ≤ (q_I δ 12 36 a0).toInt ∧ (q_I δ 12 36 a0).toInt ≤ (x4v).toInt + 2000 from ⟨I, ⟨kp_w (by decide) kp_r, rfl, kr_w (by decide) (kr_r (ad := ad))⟩, by first | with_reducible assumption | omega, by first | with_reducible assumption | omega, by first | with_reducible assumption | omega⟩)
    · have c13 : x5v.toInt < (x2 - (1 : Int32)).toInt := o_nle h11
      obtain ⟨b14, o15, k16, n17, w18⟩ := gO_12_35 L k_a0
      obtain rfl := gS_12_35 L k_a0 o15
      refine ok_at o15 ?_
      have t19 := ti_tn x5v
      refine ok_gd (fun hc20 => ?_) ?_
      · rcases hc20 with hc20 | hc20
        · have c21 : x5v.toInt < (0 : Int) := o_lt hc20
          omega
        · omega
      have f24 := ti_b ((q_R δ (Ad ad 119) x5v.toNatClampNeg) >>> (x3 &&& 31))
      refine ok_biv (fun vx22 e23 => ?_)
      have f25 : vx22.toInt = ((q_R δ (Ad ad 119) x5v.toNatClampNeg) >>> (x3 &&& 31)).toInt := congrArg Int32.toInt e23
      refine ok_ite (fun h26 => ?_) (fun h26 => ?_)
      · have c27 : (q_I δ 12 36 a0).toInt ≤ x4v.toInt := o_le h26
        unfold J_X12_lists_58
        refine ok_at o15 ?_
        have t28 := ti_tn (q_I δ 12 36 a0)
        refine ok_gd (fun hc29 => ?_) ?_
        · rcases hc29 with hc29 | hc29
          · have c30 : (q_I δ 12 36 a0).toInt < (0 : Int) := o_lt hc29
            omega
          · omega
        refine ok_bdv (fun d31 e32 => ?_)
        have i33 : RI ad h.1 δ0 d31 := by rw [e32]; exact RI.sR L I w18
        have u34 := kp_N kp_r (show q_I d31 = q_I δ by rw [e32]; rfl)
        have v35 : q_V d31 = q_V δ := ((show q_V d31 = q_V δ by rw [e32]; rfl)).trans rfl
        have v36 := kr_s L (by decide) (kr_r (ad := ad)) e32
        have f40 : (q_I d31 12 36 a0).toInt = (q_I δ 12 36 a0).toInt := congrArg Int32.toInt (by rw [e32]; rfl)
        first | (have q42 := te_addc (c := 1) (n := 1) rfl (q_I d31 12 36 a0) (by omega) (by omega); obtain ⟨f43, f44, f45⟩ := q42) | (obtain ⟨q42, f43, f44, f45⟩ := ti_addc (c := 1) (n := 1) rfl (q_I d31 12 36 a0))
        refine ok_bdv (fun d37 e38 => ?_)
        have i39 : RI ad h.1 δ0 d37 := by rw [e38]; exact cs_12_36 L i33 k_a0 (show 0 ≤ ((q_I d31 12 36 a0) + (1 : Int32)).toInt by omega) (show ((q_I d31 12 36 a0) + (1 : Int32)).toInt ≤ 14000 by omega)
        have u46 := kp_I u34 e38
        have v47 : q_V d37 = q_V δ := ((show q_V d37 = q_V d31 by rw [e38]; rfl)).trans v35
        have v48 := kr_N v36 (show q_R d37 = q_R d31 by rw [e38]; rfl)
        unfold J_X12_lists_79
        refine ok_biv (fun vx49 e50 => ?_)
        first | (have q51 := te_addc (c := 1) (n := 1) rfl x5v (by omega) (by omega); rw [← e50] at q51; obtain ⟨f52, f53, f54⟩ := q51) | (obtain ⟨q51, f52, f53, f54⟩ : ∃ q : Int, vx49.toInt = x5v.toInt + (1 : Int) + 4294967296 * q ∧ -2147483648 ≤ vx49.toInt ∧ vx49.toInt ≤ 2147483647 := by rw [e50]; exact ti_addc (c := 1) (n := 1) rfl x5v)
        have f55 := cb_12_36 i39 k_a0
        have f56 : (q_I d37 12 36 a0).toInt = ((q_I d31 12 36 a0) + (1 : Int32)).toInt := congrArg Int32.toInt (show q_I d37 12 36 a0 = ((q_I d31 12 36 a0) + (1 : Int32)) by rw [e38]; exact rI_s)
        refine ok_mono (ih x4v vx49 d37 i39 (show 0 ≤ (x1).toInt by first | with_reducible assumption | omega) (show (x1).toInt ≤ (x2).toInt by first | with_reducible assumption | omega) (show (x2).toInt ≤ (x1).toInt + 2000 by first | with_reducible assumption | omega) (show (x1).toInt + 1 ≤ (vx49).toInt by first | with_reducible assumption | omega) (show (vx49).toInt ≤ (x2).toInt + 1 by first | with_reducible assumption | omega) (show (x2).toInt ≤ (x4v).toInt by first | with_reducible assumption | omega) (show (x4v).toInt ≤ 12000 by first | with_reducible assumption | omega) (show (x4v).toInt ≤ (q_I d37 12 36 a0).toInt by first | with_reducible assumption | omega) (show (q_I d37 12 36 a0).toInt ≤ (x4v).toInt + (vx49).toInt - (x1).toInt - 1 by first | with_reducible assumption | omega) (show (x2).toInt + 1 - (vx49).toInt < _ by omega)) (fun r57 hr58 => ?_)
        obtain ⟨i59, ⟨u63, u64, u65⟩, p60, p61, p62⟩ := hr58
        have u66 := kp_t u46 u63
        have v67 : q_V r57.2 = q_V δ := (u64).trans v47
        have v68 := kr_t v48 u65
        have f69 := ti_b r57.1
        have f70 := cb_12_36 i59 k_a0
        exact ⟨by first | with_reducible assumption | assumption, ⟨kp_w (by decide) u66, v67, kr_w (by decide) v68⟩, by first | with_reducible assumption | omega, by first | with_reducible assumption | omega, by first | with_reducible assumption | omega⟩
      · have c71 : x4v.toInt < (q_I δ 12 36 a0).toInt := o_nle h26
        refine ok_at o15 ?_
        first | (have q73 := te_subc (c := 1) (n := 1) rfl (q_I δ 12 36 a0) (by omega) (by omega); obtain ⟨f74, f75, f76⟩ := q73) | (obtain ⟨q73, f74, f75, f76⟩ := ti_subc (c := 1) (n := 1) rfl (q_I δ 12 36 a0))
        have t77 := ti_tn ((q_I δ 12 36 a0) - (1 : Int32))
        refine ok_gd (fun hc78 => ?_) ?_
        · rcases hc78 with hc78 | hc78
          · have c79 : ((q_I δ 12 36 a0) - (1 : Int32)).toInt < (0 : Int) := o_lt hc78
            omega
          · omega
        have f80 := ti_b (q_R δ (Ad ad 119) ((q_I δ 12 36 a0) - (1 : Int32)).toNatClampNeg)
        refine ok_ite (fun h81 => ?_) (fun h81 => ?_)
        · have c82 : (q_R δ (Ad ad 119) ((q_I δ 12 36 a0) - (1 : Int32)).toNatClampNeg).toInt = vx22.toInt := o_eq h81
          unfold J_X12_lists_79
          refine ok_biv (fun vx83 e84 => ?_)
          first | (have q85 := te_addc (c := 1) (n := 1) rfl x5v (by omega) (by omega); rw [← e84] at q85; obtain ⟨f86, f87, f88⟩ := q85) | (obtain ⟨q85, f86, f87, f88⟩ : ∃ q : Int, vx83.toInt = x5v.toInt + (1 : Int) + 4294967296 * q ∧ -2147483648 ≤ vx83.toInt ∧ vx83.toInt ≤ 2147483647 := by rw [e84]; exact ti_addc (c := 1) (n := 1) rfl x5v)
          refine ok_mono (ih x4v vx83 δ I (show 0 ≤ (x1).toInt by first | with_reducible assumption | omega) (show (x1).toInt ≤ (x2).toInt by first | with_reducible assumption | omega) (show (x2).toInt ≤ (x1).toInt + 2000 by first | with_reducible assumption | omega) (show (x1).toInt + 1 ≤ (vx83).toInt by first | with_reducible assumption | omega) (show (vx83).toInt ≤ (x2).toInt + 1 by first | with_reducible assumption | omega) (show (x2).toInt ≤ (x4v).toInt by first | with_reducible assumption | omega) (show (x4v).toInt ≤ 12000 by first | with_reducible assumption | omega) (show (x4v).toInt ≤ (q_I δ 12 36 a0).toInt by first | with_reducible assumption | omega) (show (q_I δ 12 36 a0).toInt ≤ (x4v).toInt + (vx83).toInt - (x1).toInt - 1 by first | with_reducible assumption | omega) (show (x2).toInt + 1 - (vx83).toInt < _ by omega)) (fun r89 hr90 => ?_)
          obtain ⟨i91, ⟨u95, u96, u97⟩, p92, p93, p94⟩ := hr90
          have u98 := kp_t kp_r u95
          have v99 : q_V r89.2 = q_V δ := (u96).trans rfl
          have v100 := kr_t (kr_r (ad := ad)) u97
          have f101 := ti_b r89.1
          have f102 := cb_12_36 i91 k_a0
          exact ⟨by first | with_reducible assumption | assumption, ⟨kp_w (by decide) u98, v99, kr_w (by decide) v100⟩, by first | with_reducible assumption | omega, by first | with_reducible assumption | omega, by first | with_reducible assumption | omega⟩
        · have c103 : (q_R δ (Ad ad 119) ((q_I δ 12 36 a0) - (1 : Int32)).toNatClampNeg).toInt ≠ vx22.toInt := o_ne h81
          unfold J_X12_lists_58
          refine ok_at o15 ?_
          have t104 := ti_tn (q_I δ 12 36 a0)
          refine ok_gd (fun hc105 => ?_) ?_
          · rcases hc105 with hc105 | hc105
            · have c106 : (q_I δ 12 36 a0).toInt < (0 : Int) := o_lt hc105
              omega
            · omega
          refine ok_bdv (fun d107 e108 => ?_)
          have i109 : RI ad h.1 δ0 d107 := by rw [e108]; exact RI.sR L I w18
          have u110 := kp_N kp_r (show q_I d107 = q_I δ by rw [e108]; rfl)
          have v111 : q_V d107 = q_V δ := ((show q_V d107 = q_V δ by rw [e108]; rfl)).trans rfl
          have v112 := kr_s L (by decide) (kr_r (ad := ad)) e108
          have f116 : (q_I d107 12 36 a0).toInt = (q_I δ 12 36 a0).toInt := congrArg Int32.toInt (by rw [e108]; rfl)
          first | (have q118 := te_addc (c := 1) (n := 1) rfl (q_I d107 12 36 a0) (by omega) (by omega); obtain ⟨f119, f120, f121⟩ := q118) | (obtain ⟨q118, f119, f120, f121⟩ := ti_addc (c := 1) (n := 1) rfl (q_I d107 12 36 a0))
          refine ok_bdv (fun d113 e114 => ?_)
          have i115 : RI ad h.1 δ0 d113 := by rw [e114]; exact cs_12_36 L i109 k_a0 (show 0 ≤ ((q_I d107 12 36 a0) + (1 : Int32)).toInt by omega) (show ((q_I d107 12 36 a0) + (1 : Int32)).toInt ≤ 14000 by omega)
          have u122 := kp_I u110 e114
          have v123 : q_V d113 = q_V δ := ((show q_V d113 = q_V d107 by rw [e114]; rfl)).trans v111
          have v124 := kr_N v112 (show q_R d113 = q_R d107 by rw [e114]; rfl)
          unfold J_X12_lists_79
          refine ok_biv (fun vx125 e126 => ?_)
          first | (have q127 := te_addc (c := 1) (n := 1) rfl x5v (by omega) (by omega); rw [← e126] at q127; obtain ⟨f128, f129, f130⟩ := q127) | (obtain ⟨q127, f128, f129, f130⟩ : ∃ q : Int, vx125.toInt = x5v.toInt + (1 : Int) + 4294967296 * q ∧ -2147483648 ≤ vx125.toInt ∧ vx125.toInt ≤ 2147483647 := by rw [e126]; exact ti_addc (c := 1) (n := 1) rfl x5v)
          have f131 := cb_12_36 i115 k_a0
          have f132 : (q_I d113 12 36 a0).toInt = ((q_I d107 12 36 a0) + (1 : Int32)).toInt := congrArg Int32.toInt (show q_I d113 12 36 a0 = ((q_I d107 12 36 a0) + (1 : Int32)) by rw [e114]; exact rI_s)
          refine ok_mono (ih x4v vx125 d113 i115 (show 0 ≤ (x1).toInt by first | with_reducible assumption | omega) (show (x1).toInt ≤ (x2).toInt by first | with_reducible assumption | omega) (show (x2).toInt ≤ (x1).toInt + 2000 by first | with_reducible assumption | omega) (show (x1).toInt + 1 ≤ (vx125).toInt by first | with_reducible assumption | omega) (show (vx125).toInt ≤ (x2).toInt + 1 by first | with_reducible assumption | omega) (show (x2).toInt ≤ (x4v).toInt by first | with_reducible assumption | omega) (show (x4v).toInt ≤ 12000 by first | with_reducible assumption | omega) (show (x4v).toInt ≤ (q_I d113 12 36 a0).toInt by first | with_reducible assumption | omega) (show (q_I d113 12 36 a0).toInt ≤ (x4v).toInt + (vx125).toInt - (x1).toInt - 1 by first | with_reducible assumption | omega) (show (x2).toInt + 1 - (vx125).toInt < _ by omega)) (fun r133 hr134 => ?_)
          obtain ⟨i135, ⟨u139, u140, u141⟩, p136, p137, p138⟩ := hr134
          have u142 := kp_t u122 u139
          have v143 : q_V r133.2 = q_V δ := (u140).trans v123
          have v144 := kr_t v124 u141
          have f145 := ti_b r133.1
          have f146 := cb_12_36 i135 k_a0
          exact ⟨by first | with_reducible assumption | assumption, ⟨kp_w (by decide) u142, v143, kr_w (by decide) v144⟩, by first | with_reducible assumption | omega, by first | with_reducible assumption | omega, by first | with_reducible assumption | omega⟩
set_option maxHeartbeats 4000000 in
theorem k_X12_lists {ad : List Nat} {h : hp} (L : Lay TLx ad h) {δ0 : dp} {N : Nat} (hN : 10000000 ≤ N) {a0 : Nat} {x1 : Int32} {x2 : Int32} {x3 : Int32} (k_a0 : q_K h.1 a0 = 12) {δ : dp} (z0 : 0 ≤ (x1).toInt) (z1 : (x1).toInt ≤ (x2).toInt) (z2 : (x2).toInt ≤ (x1).toInt + 2000) (z3 : (x2).toInt ≤ (q_I δ 12 36 a0).toInt) (z4 : (q_I δ 12 36 a0).toInt ≤ 12000) (I : RI ad h.1 δ0 δ) : ok (D_X12_lists N h.1 a0 x1 x2 x3 δ) (fun r => RI ad h.1 δ0 r.2 ∧ (kp [(12, 36)] δ r.2 ∧ q_V r.2 = q_V δ ∧ kr ad [119] δ r.2) ∧ (r.1).toInt = (q_I δ 12 36 a0).toInt ∧ (q_I δ 12 36 a0).toInt ≤ (q_I r.2 12 36 a0).toInt ∧ (q_I r.2 12 36 a0).toInt ≤ (q_I δ 12 36 a0).toInt + 2000) := by
  unfold D_X12_lists
  have f1 := ti_b x1
  have f2 := ti_b x2
  have f3 := cb_12_36 I k_a0
  refine ok_biv (fun vx4 e5 => ?_)
  have f6 : vx4.toInt = (q_I δ 12 36 a0).toInt := congrArg Int32.toInt e5
  refine ok_biv (fun vx7 e8 => ?_)
  first | (have q9 := te_addc (c := 1) (n := 1) rfl x1 (by omega) (by omega); rw [← e8] at q9; obtain ⟨f10, f11, f12⟩ := q9) | (obtain ⟨q9, f10, f11, f12⟩ : ∃ q : Int, vx7.toInt = x1.toInt + (1 : Int) + 4294967296 * q ∧ -2147483648 ≤ vx7.toInt ∧ vx7.toInt ≤ 2147483647 := by rw [e8]; exact ti_addc (c := 1) (n := 1) rfl x1)
  refine ok_mono (kl_X12_lists_11 L hN   k_a0 _ vx4 vx7 δ I (show 0 ≤ (x1).toInt by first | with_reducible assumption | omega) (show (x1).toInt ≤ (x2).toInt by first | with_reducible assumption | omega) (show (x2).toInt ≤ (x1).toInt + 2000 by first | with_reducible assumption | omega) (show (x1).toInt + 1 ≤ (vx7).toInt by first | with_reducible assumption | omega) (show (vx7).toInt ≤ (x2).toInt + 1 by first | with_reducible assumption | omega) (show (x2).toInt ≤ (vx4).toInt by first | with_reducible assumption | omega) (show (vx4).toInt ≤ 12000 by first | with_reducible assumption | omega) (show (vx4).toInt ≤ (q_I δ 12 36 a0).toInt by first | with_reducible assumption | omega) (show (q_I δ 12 36 a0).toInt ≤ (vx4).toInt + (vx7).toInt - (x1).toInt - 1 by first | with_reducible assumption | omega) (show (x2).toInt + 1 - (vx7).toInt < _ by omega)) (fun r13 hr14 => ?_)
  obtain ⟨i15, ⟨u19, u20, u21⟩, p16, p17, p18⟩ := hr14
  have u22 := kp_t kp_r u19
  have v23 : q_V r13.2 = q_V δ := (u20).trans rfl
  have v24 := kr_t (kr_r (ad := ad)) u21
  have f25 := ti_b r13.1
  have f26 := cb_12_36 i15 k_a0
  exact ⟨by first | with_reducible assumption | assumption, ⟨kp_w (by decide) u22, v23, kr_w (by decide) v24⟩, by first | with_reducible assumption | omega, by first | with_reducible assumption | omega, by first | with_reducible assumption | omega⟩
set_option maxHeartbeats 4000000 in
theorem kl_X12_rooms_11 {ad : List Nat} {h : hp} (L : Lay TLx ad h) {δ0 : dp} {N : Nat} (hN : 10000000 ≤ N) {a0 : Nat} {x1 : Int32} {x2 : Int32} {x3 : Int32} {x4 : Int32} (k_a0 : q_K h.1 a0 = 12) : ∀ (n : Nat) (x5v : Int32) (x6v : Int32) (δ : dp), RI ad h.1 δ0 δ → 0 ≤ (x1).toInt → (x1).toInt ≤ (x2).toInt → (x2).toInt ≤ (x1).toInt + 2000 → (x1).toInt + 1 ≤ (x6v).toInt → (x6v).toInt ≤ (x2).toInt + 1 → (x2).toInt ≤ (x5v).toInt → (x5v).toInt ≤ 12000 → (x5v).toInt ≤ (q_I δ 12 36 a0).toInt → (q_I δ 12 36 a0).toInt ≤ (x5v).toInt + (x6v).toInt - (x1).toInt - 1 → (x2).toInt + 1 - (x6v).toInt < (n : Int) → ok (L_X12_rooms_11 N h.1 a0 x1 x2 x3 x4 n x5v x6v δ) (fun r => RI ad h.1 δ0 r.2 ∧ (kp [(12, 36)] δ r.2 ∧ q_V r.2 = q_V δ ∧ kr ad [119] δ r.2) ∧ (r.1).toInt = (x5v).toInt ∧ (q_I δ 12 36 a0).toInt ≤ (q_I r.2 12 36 a0).toInt ∧ (q_I r.2 12 36 a0).toInt ≤ (x5v).toInt + 2000) := by
  intro n
  induction n with
  | zero =>
    intro x5v x6v δ I j0 j1 j2 j3 j4 j5 j6 j7 j8 hm
    have f1 := ti_b x1
    have f2 := ti_b x2
    have f3 := ti_b x6v
    have f4 := ti_b x5v
    have f5 := cb_12_36 I k_a0
    exfalso; omega
  | succ n ih =>
    intro x5v x6v δ I j0 j1 j2 j3 j4 j5 j6 j7 j8 hm
    unfold L_X12_rooms_11
    have f1 := ti_b x1
    have f2 := ti_b x2
    have f3 := ti_b x6v
    have f4 := ti_b x5v
    have f5 := cb_12_36 I k_a0
    first | (have q7 := te_subc (c := 1) (n := 1) rfl x2 (by omega) (by omega); obtain ⟨f8, f9, f10⟩ := q7) | (obtain ⟨q7, f8, f9, f10⟩ := ti_subc (c := 1) (n := 1) rfl x2)
    refine ok_ite (fun h11 => ?_) (fun h11 => ?_)
    · have c12 : (x2 - (1 : Int32)).toInt ≤ x6v.toInt := o_le h11
      exact ok_some (show RI ad h.1 δ0 δ ∧ (kp [(12, 36)] δ δ ∧ q_V δ = q_V δ ∧ kr ad [119] δ δ) ∧ (x5v).toInt = (x5v).toInt ∧ (q_I δ 12 36 a0).toInt ≤ (q_I δ 12 36 a0).toInt ∧ (q_I δ 12 36 a0).toInt ≤ (x5v).toInt + 2000 from ⟨I, ⟨kp_w (by decide) kp_r, rfl, kr_w (by decide) (kr_r (ad := ad))⟩, by first | with_reducible assumption | omega, by first | with_reducible assumption | omega, by first | with_reducible assumption | omega⟩)
    · have c13 : x6v.toInt < (x2 - (1 : Int32)).toInt := o_nle h11
      obtain ⟨b14, o15, k16, n17, w18⟩ := gO_12_35 L k_a0
      obtain rfl := gS_12_35 L k_a0 o15
      refine ok_at o15 ?_
      have t19 := ti_tn x6v
      refine ok_gd (fun hc20 => ?_) ?_
      · rcases hc20 with hc20 | hc20
        · have c21 : x6v.toInt < (0 : Int) := o_lt hc20
          omega
        · omega
      have f22 := ti_b ((q_R δ (Ad ad 119) x6v.toNatClampNeg) >>> (x3 &&& 31))
      have f23 := ti_b x4
      refine ok_ite (fun h24 => ?_) (fun h24 => ?_)
      · have c25 : ((q_R δ (Ad ad 119) x6v.toNatClampNeg) >>> (x3 &&& 31)).toInt = x4.toInt := o_eq h24
        refine ok_at o15 ?_
        refine ok_at o15 ?_
        refine ok_gd (fun hc26 => ?_) ?_
        · rcases hc26 with hc26 | hc26
          · have c27 : x6v.toInt < (0 : Int) := o_lt hc26
            omega
          · omega
        have t28 := ti_tn (q_I δ 12 36 a0)
        refine ok_gd (fun hc29 => ?_) ?_
        · rcases hc29 with hc29 | hc29
          · have c30 : (q_I δ 12 36 a0).toInt < (0 : Int) := o_lt hc29
            omega
          · omega
        refine ok_bdv (fun d31 e32 => ?_)
        have i33 : RI ad h.1 δ0 d31 := by rw [e32]; exact RI.sR L I w18
        have u34 := kp_N kp_r (show q_I d31 = q_I δ by rw [e32]; rfl)
        have v35 : q_V d31 = q_V δ := ((show q_V d31 = q_V δ by rw [e32]; rfl)).trans rfl
        have v36 := kr_s L (by decide) (kr_r (ad := ad)) e32
        have f40 : (q_I d31 12 36 a0).toInt = (q_I δ 12 36 a0).toInt := congrArg Int32.toInt (by rw [e32]; rfl)
        first | (have q42 := te_addc (c := 1) (n := 1) rfl (q_I d31 12 36 a0) (by omega) (by omega); obtain ⟨f43, f44, f45⟩ := q42) | (obtain ⟨q42, f43, f44, f45⟩ := ti_addc (c := 1) (n := 1) rfl (q_I d31 12 36 a0))
        refine ok_bdv (fun d37 e38 => ?_)
        have i39 : RI ad h.1 δ0 d37 := by rw [e38]; exact cs_12_36 L i33 k_a0 (show 0 ≤ ((q_I d31 12 36 a0) + (1 : Int32)).toInt by omega) (show ((q_I d31 12 36 a0) + (1 : Int32)).toInt ≤ 14000 by omega)
        have u46 := kp_I u34 e38
        have v47 : q_V d37 = q_V δ := ((show q_V d37 = q_V d31 by rw [e38]; rfl)).trans v35
        have v48 := kr_N v36 (show q_R d37 = q_R d31 by rw [e38]; rfl)
        unfold J_X12_rooms_68
        refine ok_biv (fun vx49 e50 => ?_)
        first | (have q51 := te_addc (c := 1) (n := 1) rfl x6v (by omega) (by omega); rw [← e50] at q51; obtain ⟨f52, f53, f54⟩ := q51) | (obtain ⟨q51, f52, f53, f54⟩ : ∃ q : Int, vx49.toInt = x6v.toInt + (1 : Int) + 4294967296 * q ∧ -2147483648 ≤ vx49.toInt ∧ vx49.toInt ≤ 2147483647 := by rw [e50]; exact ti_addc (c := 1) (n := 1) rfl x6v)
        have f55 := cb_12_36 i39 k_a0
        have f56 : (q_I d37 12 36 a0).toInt = ((q_I d31 12 36 a0) + (1 : Int32)).toInt := congrArg Int32.toInt (show q_I d37 12 36 a0 = ((q_I d31 12 36 a0) + (1 : Int32)) by rw [e38]; exact rI_s)
        refine ok_mono (ih x5v vx49 d37 i39 (show 0 ≤ (x1).toInt by first | with_reducible assumption | omega) (show (x1).toInt ≤ (x2).toInt by first | with_reducible assumption | omega) (show (x2).toInt ≤ (x1).toInt + 2000 by first | with_reducible assumption | omega) (show (x1).toInt + 1 ≤ (vx49).toInt by first | with_reducible assumption | omega) (show (vx49).toInt ≤ (x2).toInt + 1 by first | with_reducible assumption | omega) (show (x2).toInt ≤ (x5v).toInt by first | with_reducible assumption | omega) (show (x5v).toInt ≤ 12000 by first | with_reducible assumption | omega) (show (x5v).toInt ≤ (q_I d37 12 36 a0).toInt by first | with_reducible assumption | omega) (show (q_I d37 12 36 a0).toInt ≤ (x5v).toInt + (vx49).toInt - (x1).toInt - 1 by first | with_reducible assumption | omega) (show (x2).toInt + 1 - (vx49).toInt < _ by omega)) (fun r57 hr58 => ?_)
        obtain ⟨i59, ⟨u63, u64, u65⟩, p60, p61, p62⟩ := hr58
        have u66 := kp_t u46 u63
        have v67 : q_V r57.2 = q_V δ := (u64).trans v47
        have v68 := kr_t v48 u65
        have f69 := ti_b r57.1
        have f70 := cb_12_36 i59 k_a0
        exact ⟨by first | with_reducible assumption | assumption, ⟨kp_w (by decide) u66, v67, kr_w (by decide) v68⟩, by first | with_reducible assumption | omega, by first | with_reducible assumption | omega, by first | with_reducible assumption | omega⟩
      · have c71 : ((q_R δ (Ad ad 119) x6v.toNatClampNeg) >>> (x3 &&& 31)).toInt ≠ x4.toInt := o_ne h24
        unfold J_X12_rooms_68
        refine ok_biv (fun vx72 e73 => ?_)
        first | (have q74 := te_addc (c := 1) (n := 1) rfl x6v (by omega) (by omega); rw [← e73] at q74; obtain ⟨f75, f76, f77⟩ := q74) | (obtain ⟨q74, f75, f76, f77⟩ : ∃ q : Int, vx72.toInt = x6v.toInt + (1 : Int) + 4294967296 * q ∧ -2147483648 ≤ vx72.toInt ∧ vx72.toInt ≤ 2147483647 := by rw [e73]; exact ti_addc (c := 1) (n := 1) rfl x6v)
        refine ok_mono (ih x5v vx72 δ I (show 0 ≤ (x1).toInt by first | with_reducible assumption | omega) (show (x1).toInt ≤ (x2).toInt by first | with_reducible assumption | omega) (show (x2).toInt ≤ (x1).toInt + 2000 by first | with_reducible assumption | omega) (show (x1).toInt + 1 ≤ (vx72).toInt by first | with_reducible assumption | omega) (show (vx72).toInt ≤ (x2).toInt + 1 by first | with_reducible assumption | omega) (show (x2).toInt ≤ (x5v).toInt by first | with_reducible assumption | omega) (show (x5v).toInt ≤ 12000 by first | with_reducible assumption | omega) (show (x5v).toInt ≤ (q_I δ 12 36 a0).toInt by first | with_reducible assumption | omega) (show (q_I δ 12 36 a0).toInt ≤ (x5v).toInt + (vx72).toInt - (x1).toInt - 1 by first | with_reducible assumption | omega) (show (x2).toInt + 1 - (vx72).toInt < _ by omega)) (fun r78 hr79 => ?_)
        obtain ⟨i80, ⟨u84, u85, u86⟩, p81, p82, p83⟩ := hr79
        have u87 := kp_t kp_r u84
        have v88 : q_V r78.2 = q_V δ := (u85).trans rfl
        have v89 := kr_t (kr_r (ad := ad)) u86
        have f90 := ti_b r78.1
        have f91 := cb_12_36 i80 k_a0
        exact ⟨by first | with_reducible assumption | assumption, ⟨kp_w (by decide) u87, v88, kr_w (by decide) v89⟩, by first | with_reducible assumption | omega, by first | with_reducible assumption | omega, by first | with_reducible assumption | omega⟩
set_option maxHeartbeats 4000000 in
theorem k_X12_rooms {ad : List Nat} {h : hp} (L : Lay TLx ad h) {δ0 : dp} {N : Nat} (hN : 10000000 ≤ N) {a0 : Nat} {x1 : Int32} {x2 : Int32} {x3 : Int32} {x4 : Int32} (k_a0 : q_K h.1 a0 = 12) {δ : dp} (z0 : 0 ≤ (x1).toInt) (z1 : (x1).toInt ≤ (x2).toInt) (z2 : (x2).toInt ≤ (x1).toInt + 2000) (z3 : (x2).toInt ≤ (q_I δ 12 36 a0).toInt) (z4 : (q_I δ 12 36 a0).toInt ≤ 12000) (I : RI ad h.1 δ0 δ) : ok (D_X12_rooms N h.1 a0 x1 x2 x3 x4 δ) (fun r => RI ad h.1 δ0 r.2 ∧ (kp [(12, 36)] δ r.2 ∧ q_V r.2 = q_V δ ∧ kr ad [119] δ r.2) ∧ (r.1).toInt = (q_I δ 12 36 a0).toInt ∧ (q_I δ 12 36 a0).toInt ≤ (q_I r.2 12 36 a0).toInt ∧ (q_I r.2 12 36 a0).toInt ≤ (q_I δ 12 36 a0).toInt + 2000) := by
  unfold D_X12_rooms
  have f1 := ti_b x1
  have f2 := ti_b x2
  have f3 := cb_12_36 I k_a0
  refine ok_biv (fun vx4 e5 => ?_)
  have f6 : vx4.toInt = (q_I δ 12 36 a0).toInt := congrArg Int32.toInt e5
  refine ok_biv (fun vx7 e8 => ?_)
  first | (have q9 := te_addc (c := 1) (n := 1) rfl x1 (by omega) (by omega); rw [← e8] at q9; obtain ⟨f10, f11, f12⟩ := q9) | (obtain ⟨q9, f10, f11, f12⟩ : ∃ q : Int, vx7.toInt = x1.toInt + (1 : Int) + 4294967296 * q ∧ -2147483648 ≤ vx7.toInt ∧ vx7.toInt ≤ 2147483647 := by rw [e8]; exact ti_addc (c := 1) (n := 1) rfl x1)
  refine ok_mono (kl_X12_rooms_11 L hN   k_a0 _ vx4 vx7 δ I (show 0 ≤ (x1).toInt by first | with_reducible assumption | omega) (show (x1).toInt ≤ (x2).toInt by first | with_reducible assumption | omega) (show (x2).toInt ≤ (x1).toInt + 2000 by first | with_reducible assumption | omega) (show (x1).toInt + 1 ≤ (vx7).toInt by first | with_reducible assumption | omega) (show (vx7).toInt ≤ (x2).toInt + 1 by first | with_reducible assumption | omega) (show (x2).toInt ≤ (vx4).toInt by first | with_reducible assumption | omega) (show (vx4).toInt ≤ 12000 by first | with_reducible assumption | omega) (show (vx4).toInt ≤ (q_I δ 12 36 a0).toInt by first | with_reducible assumption | omega) (show (q_I δ 12 36 a0).toInt ≤ (vx4).toInt + (vx7).toInt - (x1).toInt - 1 by first | with_reducible assumption | omega) (show (x2).toInt + 1 - (vx7).toInt < _ by omega)) (fun r13 hr14 => ?_)
  obtain ⟨i15, ⟨u19, u20, u21⟩, p16, p17, p18⟩ := hr14
  have u22 := kp_t kp_r u19
  have v23 : q_V r13.2 = q_V δ := (u20).trans rfl
  have v24 := kr_t (kr_r (ad := ad)) u21
  have f25 := ti_b r13.1
  have f26 := cb_12_36 i15 k_a0
  exact ⟨by first | with_reducible assumption | assumption, ⟨kp_w (by decide) u22, v23, kr_w (by decide) v24⟩, by first | with_reducible assumption | omega, by first | with_reducible assumption | omega, by first | with_reducible assumption | omega⟩
set_option maxHeartbeats 4000000 in
theorem kl_X12_roomMany_15 {ad : List Nat} {h : hp} (L : Lay TLx ad h) {δ0 : dp} {N : Nat} (hN : 10000000 ≤ N) {a0 : Nat} {x1 : Int32} {x2 : Int32} {x3 : Int32} {x4 : Int32} (k_a0 : q_K h.1 a0 = 12) : ∀ (n : Nat) (x5v : Int32) (x6v : Int32) (x7v : Int32) (δ : dp), RI ad h.1 δ0 δ → 0 ≤ (x3).toInt → (x3).toInt ≤ (x4).toInt → (x4).toInt ≤ 14000 → 1 ≤ (x7v).toInt → (x7v).toInt ≤ (x4).toInt + 1 → (x4).toInt + 1 - (x7v).toInt < (n : Int) → ok (L_X12_roomMany_15 N h.1 a0 x1 x2 x3 x4 n x5v x6v x7v δ) (fun r => r.2 = δ) := by
  intro n
  induction n with
  | zero =>
    intro x5v x6v x7v δ I j0 j1 j2 j3 j4 hm
    have f1 := ti_b x3
    have f2 := ti_b x4
    have f3 := ti_b x7v
    exfalso; omega
  | succ n ih =>
    intro x5v x6v x7v δ I j0 j1 j2 j3 j4 hm
    unfold L_X12_roomMany_15
    have f1 := ti_b x3
    have f2 := ti_b x4
    have f3 := ti_b x7v
    first | (have q5 := te_subc (c := 1) (n := 1) rfl x4 (by omega) (by omega); obtain ⟨f6, f7, f8⟩ := q5) | (obtain ⟨q5, f6, f7, f8⟩ := ti_subc (c := 1) (n := 1) rfl x4)
    refine ok_ite (fun h9 => ?_) (fun h9 => ?_)
    · have c10 : (x4 - (1 : Int32)).toInt ≤ x7v.toInt := o_le h9
      exact ok_some (show δ = δ from rfl)
    · have c11 : x7v.toInt < (x4 - (1 : Int32)).toInt := o_nle h9
      obtain ⟨b12, o13, k14, n15, w16⟩ := gO_12_35 L k_a0
      obtain rfl := gS_12_35 L k_a0 o13
      refine ok_at o13 ?_
      have t17 := ti_tn x7v
      refine ok_gd (fun hc18 => ?_) ?_
      · rcases hc18 with hc18 | hc18
        · have c19 : x7v.toInt < (0 : Int) := o_lt hc18
          omega
        · omega
      have f20 := ti_b ((q_R δ (Ad ad 119) x7v.toNatClampNeg) >>> (x5v &&& 31))
      have f21 := ti_b (x1 >>> (x5v &&& 31))
      refine ok_ite (fun h22 => ?_) (fun h22 => ?_)
      · have c23 : ((q_R δ (Ad ad 119) x7v.toNatClampNeg) >>> (x5v &&& 31)).toInt = (x1 >>> (x5v &&& 31)).toInt := o_eq h22
        unfold J_X12_roomMany_48
        have f26 := ti_b x6v
        refine ok_biv (fun vx24 e25 => ?_)
        first | (have q27 := te_addc (c := 1) (n := 1) rfl x6v (by omega) (by omega); rw [← e25] at q27; obtain ⟨f28, f29, f30⟩ := q27) | (obtain ⟨q27, f28, f29, f30⟩ : ∃ q : Int, vx24.toInt = x6v.toInt + (1 : Int) + 4294967296 * q ∧ -2147483648 ≤ vx24.toInt ∧ vx24.toInt ≤ 2147483647 := by rw [e25]; exact ti_addc (c := 1) (n := 1) rfl x6v)
        refine ok_biv (fun vx31 e32 => ?_)
        first | (have q33 := te_addc (c := 1) (n := 1) rfl x7v (by omega) (by omega); rw [← e32] at q33; obtain ⟨f34, f35, f36⟩ := q33) | (obtain ⟨q33, f34, f35, f36⟩ : ∃ q : Int, vx31.toInt = x7v.toInt + (1 : Int) + 4294967296 * q ∧ -2147483648 ≤ vx31.toInt ∧ vx31.toInt ≤ 2147483647 := by rw [e32]; exact ti_addc (c := 1) (n := 1) rfl x7v)
        refine ok_mono (ih x5v vx24 vx31 δ I (show 0 ≤ (x3).toInt by first | with_reducible assumption | omega) (show (x3).toInt ≤ (x4).toInt by first | with_reducible assumption | omega) (show (x4).toInt ≤ 14000 by first | with_reducible assumption | omega) (show 1 ≤ (vx31).toInt by first | with_reducible assumption | omega) (show (vx31).toInt ≤ (x4).toInt + 1 by first | with_reducible assumption | omega) (show (x4).toInt + 1 - (vx31).toInt < _ by omega)) (fun r37 hr38 => ?_)
        have i39 := hr38
        have f40 := ti_b r37.1
        exact by assumption
      · have c41 : ((q_R δ (Ad ad 119) x7v.toNatClampNeg) >>> (x5v &&& 31)).toInt ≠ (x1 >>> (x5v &&& 31)).toInt := o_ne h22
        unfold J_X12_roomMany_48
        have f44 := ti_b x6v
        refine ok_biv (fun vx42 e43 => ?_)
        first | (have q45 := te_addc (c := 0) (n := 0) rfl x6v (by omega) (by omega); rw [← e43] at q45; obtain ⟨f46, f47, f48⟩ := q45) | (obtain ⟨q45, f46, f47, f48⟩ : ∃ q : Int, vx42.toInt = x6v.toInt + (0 : Int) + 4294967296 * q ∧ -2147483648 ≤ vx42.toInt ∧ vx42.toInt ≤ 2147483647 := by rw [e43]; exact ti_addc (c := 0) (n := 0) rfl x6v)
        refine ok_biv (fun vx49 e50 => ?_)
        first | (have q51 := te_addc (c := 1) (n := 1) rfl x7v (by omega) (by omega); rw [← e50] at q51; obtain ⟨f52, f53, f54⟩ := q51) | (obtain ⟨q51, f52, f53, f54⟩ : ∃ q : Int, vx49.toInt = x7v.toInt + (1 : Int) + 4294967296 * q ∧ -2147483648 ≤ vx49.toInt ∧ vx49.toInt ≤ 2147483647 := by rw [e50]; exact ti_addc (c := 1) (n := 1) rfl x7v)
        refine ok_mono (ih x5v vx42 vx49 δ I (show 0 ≤ (x3).toInt by first | with_reducible assumption | omega) (show (x3).toInt ≤ (x4).toInt by first | with_reducible assumption | omega) (show (x4).toInt ≤ 14000 by first | with_reducible assumption | omega) (show 1 ≤ (vx49).toInt by first | with_reducible assumption | omega) (show (vx49).toInt ≤ (x4).toInt + 1 by first | with_reducible assumption | omega) (show (x4).toInt + 1 - (vx49).toInt < _ by omega)) (fun r55 hr56 => ?_)
        have i57 := hr56
        have f58 := ti_b r55.1
        exact by assumption
set_option maxHeartbeats 4000000 in
theorem k_X12_roomMany {ad : List Nat} {h : hp} (L : Lay TLx ad h) {δ0 : dp} {N : Nat} (hN : 10000000 ≤ N) {a0 : Nat} {x1 : Int32} {x2 : Int32} {x3 : Int32} {x4 : Int32} (k_a0 : q_K h.1 a0 = 12) {δ : dp} (z0 : 2 ≤ (x2).toInt) (z1 : (x2).toInt ≤ 16) (z2 : 0 ≤ (x3).toInt) (z3 : (x3).toInt ≤ (x4).toInt) (z4 : (x4).toInt ≤ 14000) (I : RI ad h.1 δ0 δ) : ok (D_X12_roomMany N h.1 a0 x1 x2 x3 x4 δ) (fun r => r.2 = δ) := by
  unfold D_X12_roomMany
  have f1 := ti_b x2
  have f2 := ti_b x3
  have f3 := ti_b x4
  refine ok_bind (k_X12_lowerBits L hN (a0 := a0) (x1 := x2) k_a0 (show 2 ≤ (x2).toInt by first | with_reducible assumption | omega) (show (x2).toInt ≤ 16 by first | with_reducible assumption | omega) I) (fun r4 hr5 => ?_)
  obtain ⟨i6, p7, p8, p9, p10, p11, p12⟩ := hr5
  try rw [i6]
  have f13 := ti_b r4.1
  have f14 := lgb (r4.1).toInt
  have f15 := lgb (x2).toInt
  have f16 := lgb ((x2 - r4.1)).toInt
  first | (have q18 := te_sub x2 r4.1 (by omega) (by omega); obtain ⟨f19, f20, f21⟩ := q18) | (obtain ⟨q18, f19, f20, f21⟩ := ti_sub x2 r4.1)
  refine ok_biv (fun vx22 e23 => ?_)
  first | (have q24 := te_addc (c := 1) (n := 1) rfl x3 (by omega) (by omega); rw [← e23] at q24; obtain ⟨f25, f26, f27⟩ := q24) | (obtain ⟨q24, f25, f26, f27⟩ : ∃ q : Int, vx22.toInt = x3.toInt + (1 : Int) + 4294967296 * q ∧ -2147483648 ≤ vx22.toInt ∧ vx22.toInt ≤ 2147483647 := by rw [e23]; exact ti_addc (c := 1) (n := 1) rfl x3)
  refine ok_mono (kl_X12_roomMany_15 L hN   k_a0 _ r4.1 (0 : Int32) vx22 δ I (show 0 ≤ (x3).toInt by first | with_reducible assumption | omega) (show (x3).toInt ≤ (x4).toInt by first | with_reducible assumption | omega) (show (x4).toInt ≤ 14000 by first | with_reducible assumption | omega) (show 1 ≤ (vx22).toInt by first | with_reducible assumption | omega) (show (vx22).toInt ≤ (x4).toInt + 1 by first | with_reducible assumption | omega) (show (x4).toInt + 1 - (vx22).toInt < _ by omega)) (fun r28 hr29 => ?_)
  have i30 := hr29
  have f31 := ti_b r28.1
  exact by assumption
set_option maxHeartbeats 4000000 in
theorem kl_X12_roomEnd_15 {ad : List Nat} {h : hp} (L : Lay TLx ad h) {δ0 : dp} {N : Nat} (hN : 10000000 ≤ N) {a0 : Nat} {x1 : Int32} {x2 : Int32} {x3 : Int32} {x4 : Int32} {x5 : Int32} (k_a0 : q_K h.1 a0 = 12) : ∀ (n : Nat) (x6v : Int32) (x7v : Int32) (x8v : Int32) (δ : dp), RI ad h.1 δ0 δ → 0 ≤ (x3).toInt → (x3).toInt ≤ (x4).toInt → (x4).toInt ≤ 14000 → 1 ≤ (x8v).toInt → (x8v).toInt ≤ (x4).toInt + 1 → (x4).toInt + 1 - (x8v).toInt < (n : Int) → ok (L_X12_roomEnd_15 N h.1 a0 x1 x2 x3 x4 x5 n x6v x7v x8v δ) (fun r => r.2 = δ) := by
  intro n
  induction n with
  | zero =>
    intro x6v x7v x8v δ I j0 j1 j2 j3 j4 hm
    have f1 := ti_b x3
    have f2 := ti_b x4
    have f3 := ti_b x8v
    exfalso; omega
  | succ n ih =>
    intro x6v x7v x8v δ I j0 j1 j2 j3 j4 hm
    unfold L_X12_roomEnd_15
    have f1 := ti_b x3
    have f2 := ti_b x4
    have f3 := ti_b x8v
    first | (have q5 := te_subc (c := 1) (n := 1) rfl x4 (by omega) (by omega); obtain ⟨f6, f7, f8⟩ := q5) | (obtain ⟨q5, f6, f7, f8⟩ := ti_subc (c := 1) (n := 1) rfl x4)
    refine ok_ite (fun h9 => ?_) (fun h9 => ?_)
    · have c10 : (x4 - (1 : Int32)).toInt ≤ x8v.toInt := o_le h9
      exact ok_some (show δ = δ from rfl)
    · have c11 : x8v.toInt < (x4 - (1 : Int32)).toInt := o_nle h9
      obtain ⟨b12, o13, k14, n15, w16⟩ := gO_12_35 L k_a0
      obtain rfl := gS_12_35 L k_a0 o13
      refine ok_at o13 ?_
      have t17 := ti_tn x8v
      refine ok_gd (fun hc18 => ?_) ?_
      · rcases hc18 with hc18 | hc18
        · have c19 : x8v.toInt < (0 : Int) := o_lt hc18
          omega
        · omega
      have f20 := ti_b ((q_R δ (Ad ad 119) x8v.toNatClampNeg) >>> (x6v &&& 31))
      have f21 := ti_b (x1 >>> (x6v &&& 31))
      refine ok_ite (fun h22 => ?_) (fun h22 => ?_)
      · have c23 : ((q_R δ (Ad ad 119) x8v.toNatClampNeg) >>> (x6v &&& 31)).toInt = (x1 >>> (x6v &&& 31)).toInt := o_eq h22
        have f24 := ti_b x7v
        refine ok_ite (fun h25 => ?_) (fun h25 => ?_)
        · have c26 : x7v.toInt = (-1 : Int) := o_eq h25
          unfold J_X12_roomEnd_55
          refine ok_at o13 ?_
          refine ok_gd (fun hc27 => ?_) ?_
          · rcases hc27 with hc27 | hc27
            · have c28 : x8v.toInt < (0 : Int) := o_lt hc27
              omega
            · omega
          have f31 := ti_b ((q_R δ (Ad ad 119) x8v.toNatClampNeg) &&& (((1 : Int32) <<< (x6v &&& 31)) - (1 : Int32)))
          refine ok_biv (fun vx29 e30 => ?_)
          have f32 : vx29.toInt = ((q_R δ (Ad ad 119) x8v.toNatClampNeg) &&& (((1 : Int32) <<< (x6v &&& 31)) - (1 : Int32))).toInt := congrArg Int32.toInt e30
          unfold J_X12_roomEnd_71
          refine ok_biv (fun vx33 e34 => ?_)
          first | (have q35 := te_addc (c := 1) (n := 1) rfl x8v (by omega) (by omega); rw [← e34] at q35; obtain ⟨f36, f37, f38⟩ := q35) | (obtain ⟨q35, f36, f37, f38⟩ : ∃ q : Int, vx33.toInt = x8v.toInt + (1 : Int) + 4294967296 * q ∧ -2147483648 ≤ vx33.toInt ∧ vx33.toInt ≤ 2147483647 := by rw [e34]; exact ti_addc (c := 1) (n := 1) rfl x8v)
          refine ok_mono (ih x6v vx29 vx33 δ I (show 0 ≤ (x3).toInt by first | with_reducible assumption | omega) (show (x3).toInt ≤ (x4).toInt by first | with_reducible assumption | omega) (show (x4).toInt ≤ 14000 by first | with_reducible assumption | omega) (show 1 ≤ (vx33).toInt by first | with_reducible assumption | omega) (show (vx33).toInt ≤ (x4).toInt + 1 by first | with_reducible assumption | omega) (show (x4).toInt + 1 - (vx33).toInt < _ by omega)) (fun r39 hr40 => ?_)
          have i41 := hr40
          have f42 := ti_b r39.1
          exact by assumption
        · have c43 : x7v.toInt ≠ (-1 : Int) := o_ne h25
          have f44 := ti_b x5
          refine ok_ite (fun h45 => ?_) (fun h45 => ?_)
          · have c46 : x5.toInt = (0 : Int) := o_eq h45
            unfold J_X12_roomEnd_55
            refine ok_at o13 ?_
            refine ok_gd (fun hc47 => ?_) ?_
            · rcases hc47 with hc47 | hc47
              · have c48 : x8v.toInt < (0 : Int) := o_lt hc47
                omega
              · omega
            have f51 := ti_b ((q_R δ (Ad ad 119) x8v.toNatClampNeg) &&& (((1 : Int32) <<< (x6v &&& 31)) - (1 : Int32)))
            refine ok_biv (fun vx49 e50 => ?_)
            have f52 : vx49.toInt = ((q_R δ (Ad ad 119) x8v.toNatClampNeg) &&& (((1 : Int32) <<< (x6v &&& 31)) - (1 : Int32))).toInt := congrArg Int32.toInt e50
            unfold J_X12_roomEnd_71
            refine ok_biv (fun vx53 e54 => ?_)
            first | (have q55 := te_addc (c := 1) (n := 1) rfl x8v (by omega) (by omega); rw [← e54] at q55; obtain ⟨f56, f57, f58⟩ := q55) | (obtain ⟨q55, f56, f57, f58⟩ : ∃ q : Int, vx53.toInt = x8v.toInt + (1 : Int) + 4294967296 * q ∧ -2147483648 ≤ vx53.toInt ∧ vx53.toInt ≤ 2147483647 := by rw [e54]; exact ti_addc (c := 1) (n := 1) rfl x8v)
            refine ok_mono (ih x6v vx49 vx53 δ I (show 0 ≤ (x3).toInt by first | with_reducible assumption | omega) (show (x3).toInt ≤ (x4).toInt by first | with_reducible assumption | omega) (show (x4).toInt ≤ 14000 by first | with_reducible assumption | omega) (show 1 ≤ (vx53).toInt by first | with_reducible assumption | omega) (show (vx53).toInt ≤ (x4).toInt + 1 by first | with_reducible assumption | omega) (show (x4).toInt + 1 - (vx53).toInt < _ by omega)) (fun r59 hr60 => ?_)
            have i61 := hr60
            have f62 := ti_b r59.1
            exact by assumption
          · have c63 : x5.toInt ≠ (0 : Int) := o_ne h45
            unfold J_X12_roomEnd_71
            refine ok_biv (fun vx64 e65 => ?_)
            first | (have q66 := te_addc (c := 1) (n := 1) rfl x8v (by omega) (by omega); rw [← e65] at q66; obtain ⟨f67, f68, f69⟩ := q66) | (obtain ⟨q66, f67, f68, f69⟩ : ∃ q : Int, vx64.toInt = x8v.toInt + (1 : Int) + 4294967296 * q ∧ -2147483648 ≤ vx64.toInt ∧ vx64.toInt ≤ 2147483647 := by rw [e65]; exact ti_addc (c := 1) (n := 1) rfl x8v)
            refine ok_mono (ih x6v x7v vx64 δ I (show 0 ≤ (x3).toInt by first | with_reducible assumption | omega) (show (x3).toInt ≤ (x4).toInt by first | with_reducible assumption | omega) (show (x4).toInt ≤ 14000 by first | with_reducible assumption | omega) (show 1 ≤ (vx64).toInt by first | with_reducible assumption | omega) (show (vx64).toInt ≤ (x4).toInt + 1 by first | with_reducible assumption | omega) (show (x4).toInt + 1 - (vx64).toInt < _ by omega)) (fun r70 hr71 => ?_)
            have i72 := hr71
            have f73 := ti_b r70.1
            exact by assumption
      · have c74 : ((q_R δ (Ad ad 119) x8v.toNatClampNeg) >>> (x6v &&& 31)).toInt ≠ (x1 >>> (x6v &&& 31)).toInt := o_ne h22
        unfold J_X12_roomEnd_71
        refine ok_biv (fun vx75 e76 => ?_)
        first | (have q77 := te_addc (c := 1) (n := 1) rfl x8v (by omega) (by omega); rw [← e76] at q77; obtain ⟨f78, f79, f80⟩ := q77) | (obtain ⟨q77, f78, f79, f80⟩ : ∃ q : Int, vx75.toInt = x8v.toInt + (1 : Int) + 4294967296 * q ∧ -2147483648 ≤ vx75.toInt ∧ vx75.toInt ≤ 2147483647 := by rw [e76]; exact ti_addc (c := 1) (n := 1) rfl x8v)
        refine ok_mono (ih x6v x7v vx75 δ I (show 0 ≤ (x3).toInt by first | with_reducible assumption | omega) (show (x3).toInt ≤ (x4).toInt by first | with_reducible assumption | omega) (show (x4).toInt ≤ 14000 by first | with_reducible assumption | omega) (show 1 ≤ (vx75).toInt by first | with_reducible assumption | omega) (show (vx75).toInt ≤ (x4).toInt + 1 by first | with_reducible assumption | omega) (show (x4).toInt + 1 - (vx75).toInt < _ by omega)) (fun r81 hr82 => ?_)
        have i83 := hr82
        have f84 := ti_b r81.1
        exact by assumption
set_option maxHeartbeats 4000000 in
theorem k_X12_roomEnd {ad : List Nat} {h : hp} (L : Lay TLx ad h) {δ0 : dp} {N : Nat} (hN : 10000000 ≤ N) {a0 : Nat} {x1 : Int32} {x2 : Int32} {x3 : Int32} {x4 : Int32} {x5 : Int32} (k_a0 : q_K h.1 a0 = 12) {δ : dp} (z0 : 2 ≤ (x2).toInt) (z1 : (x2).toInt ≤ 16) (z2 : 0 ≤ (x3).toInt) (z3 : (x3).toInt ≤ (x4).toInt) (z4 : (x4).toInt ≤ 14000) (I : RI ad h.1 δ0 δ) : ok (D_X12_roomEnd N h.1 a0 x1 x2 x3 x4 x5 δ) (fun r => r.2 = δ) := by
  unfold D_X12_roomEnd
  have f1 := ti_b x2
  have f2 := ti_b x3
  have f3 := ti_b x4
  refine ok_bind (k_X12_lowerBits L hN (a0 := a0) (x1 := x2) k_a0 (show 2 ≤ (x2).toInt by first | with_reducible assumption | omega) (show (x2).toInt ≤ 16 by first | with_reducible assumption | omega) I) (fun r4 hr5 => ?_)
  obtain ⟨i6, p7, p8, p9, p10, p11, p12⟩ := hr5
  try rw [i6]
  have f13 := ti_b r4.1
  have f14 := lgb (r4.1).toInt
  have f15 := lgb (x2).toInt
  have f16 := lgb ((x2 - r4.1)).toInt
  first | (have q18 := te_sub x2 r4.1 (by omega) (by omega); obtain ⟨f19, f20, f21⟩ := q18) | (obtain ⟨q18, f19, f20, f21⟩ := ti_sub x2 r4.1)
  refine ok_biv (fun vx22 e23 => ?_)
  first | (have q24 := te_addc (c := 1) (n := 1) rfl x3 (by omega) (by omega); rw [← e23] at q24; obtain ⟨f25, f26, f27⟩ := q24) | (obtain ⟨q24, f25, f26, f27⟩ : ∃ q : Int, vx22.toInt = x3.toInt + (1 : Int) + 4294967296 * q ∧ -2147483648 ≤ vx22.toInt ∧ vx22.toInt ≤ 2147483647 := by rw [e23]; exact ti_addc (c := 1) (n := 1) rfl x3)
  refine ok_mono (kl_X12_roomEnd_15 L hN   k_a0 _ r4.1 (-1 : Int32) vx22 δ I (show 0 ≤ (x3).toInt by first | with_reducible assumption | omega) (show (x3).toInt ≤ (x4).toInt by first | with_reducible assumption | omega) (show (x4).toInt ≤ 14000 by first | with_reducible assumption | omega) (show 1 ≤ (vx22).toInt by first | with_reducible assumption | omega) (show (vx22).toInt ≤ (x4).toInt + 1 by first | with_reducible assumption | omega) (show (x4).toInt + 1 - (vx22).toInt < _ by omega)) (fun r28 hr29 => ?_)
  have i30 := hr29
  have f31 := ti_b r28.1
  exact by assumption
set_option maxHeartbeats 4000000 in
theorem kl_X12_isInside_5 {ad : List Nat} {h : hp} (L : Lay TLx ad h) {δ0 : dp} {N : Nat} (hN : 10000000 ≤ N) {a0 : Nat} {x1 : Int32} {x2 : Int32} {x3 : Int32} (k_a0 : q_K h.1 a0 = 12) : ∀ (n : Nat) (x4v : Int32) (δ : dp), RI ad h.1 δ0 δ → 0 ≤ (x2).toInt → (x2).toInt ≤ (x3).toInt → (x3).toInt ≤ 14000 → 1 ≤ (x4v).toInt → (x4v).toInt ≤ (x3).toInt + 1 → (x3).toInt + 1 - (x4v).toInt < (n : Int) → ok (L_X12_isInside_5 N h.1 a0 x1 x2 x3 n x4v δ) (fun r => r.2 = δ ∧ bo (r.1)) := by
  intro n
  induction n with
  | zero =>
    intro x4v δ I j0 j1 j2 j3 j4 hm
    have f1 := ti_b x2
    have f2 := ti_b x3
    have f3 := ti_b x4v
    exfalso; omega
  | succ n ih =>
    intro x4v δ I j0 j1 j2 j3 j4 hm
    unfold L_X12_isInside_5
    have f1 := ti_b x2
    have f2 := ti_b x3
    have f3 := ti_b x4v
    first | (have q5 := te_subc (c := 1) (n := 1) rfl x3 (by omega) (by omega); obtain ⟨f6, f7, f8⟩ := q5) | (obtain ⟨q5, f6, f7, f8⟩ := ti_subc (c := 1) (n := 1) rfl x3)
    refine ok_ite (fun h9 => ?_) (fun h9 => ?_)
    · have c10 : (x3 - (1 : Int32)).toInt ≤ x4v.toInt := o_le h9
      refine ok_gp (by decide) ?_
      exact ok_some (show δ = δ ∧ bo ((0 : Int32)) from ⟨rfl, bo_0⟩)
    · have c11 : x4v.toInt < (x3 - (1 : Int32)).toInt := o_nle h9
      obtain ⟨b12, o13, k14, n15, w16⟩ := gO_12_35 L k_a0
      obtain rfl := gS_12_35 L k_a0 o13
      refine ok_at o13 ?_
      have t17 := ti_tn x4v
      refine ok_gd (fun hc18 => ?_) ?_
      · rcases hc18 with hc18 | hc18
        · have c19 : x4v.toInt < (0 : Int) := o_lt hc18
          omega
        · omega
      have f20 := ti_b (q_R δ (Ad ad 119) x4v.toNatClampNeg)
      have f21 := ti_b x1
      refine ok_ite (fun h22 => ?_) (fun h22 => ?_)
      · have c23 : (q_R δ (Ad ad 119) x4v.toNatClampNeg).toInt = x1.toInt := o_eq h22
        refine ok_gp (by decide) ?_
        exact ok_some (show δ = δ ∧ bo ((1 : Int32)) from ⟨rfl, bo_1⟩)
      · have c24 : (q_R δ (Ad ad 119) x4v.toNatClampNeg).toInt ≠ x1.toInt := o_ne h22
        refine ok_biv (fun vx25 e26 => ?_)
        first | (have q27 := te_addc (c := 1) (n := 1) rfl x4v (by omega) (by omega); rw [← e26] at q27; obtain ⟨f28, f29, f30⟩ := q27) | (obtain ⟨q27, f28, f29, f30⟩ : ∃ q : Int, vx25.toInt = x4v.toInt + (1 : Int) + 4294967296 * q ∧ -2147483648 ≤ vx25.toInt ∧ vx25.toInt ≤ 2147483647 := by rw [e26]; exact ti_addc (c := 1) (n := 1) rfl x4v)
        refine ok_mono (ih vx25 δ I (show 0 ≤ (x2).toInt by first | with_reducible assumption | omega) (show (x2).toInt ≤ (x3).toInt by first | with_reducible assumption | omega) (show (x3).toInt ≤ 14000 by first | with_reducible assumption | omega) (show 1 ≤ (vx25).toInt by first | with_reducible assumption | omega) (show (vx25).toInt ≤ (x3).toInt + 1 by first | with_reducible assumption | omega) (show (x3).toInt + 1 - (vx25).toInt < _ by omega)) (fun r31 hr32 => ?_)
        obtain ⟨i33, p34⟩ := hr32
        have f35 := bo_l p34
        have f36 := ti_b r31.1
        exact ⟨by first | with_reducible assumption | assumption, by first | with_reducible assumption | omega⟩
set_option maxHeartbeats 4000000 in
theorem k_X12_isInside {ad : List Nat} {h : hp} (L : Lay TLx ad h) {δ0 : dp} {N : Nat} (hN : 10000000 ≤ N) {a0 : Nat} {x1 : Int32} {x2 : Int32} {x3 : Int32} (k_a0 : q_K h.1 a0 = 12) {δ : dp} (z0 : 0 ≤ (x2).toInt) (z1 : (x2).toInt ≤ (x3).toInt) (z2 : (x3).toInt ≤ 14000) (I : RI ad h.1 δ0 δ) : ok (D_X12_isInside N h.1 a0 x1 x2 x3 δ) (fun r => r.2 = δ ∧ bo (r.1)) := by
  unfold D_X12_isInside
  have f1 := ti_b x2
  have f2 := ti_b x3
  refine ok_biv (fun vx3 e4 => ?_)
  first | (have q5 := te_addc (c := 1) (n := 1) rfl x2 (by omega) (by omega); rw [← e4] at q5; obtain ⟨f6, f7, f8⟩ := q5) | (obtain ⟨q5, f6, f7, f8⟩ : ∃ q : Int, vx3.toInt = x2.toInt + (1 : Int) + 4294967296 * q ∧ -2147483648 ≤ vx3.toInt ∧ vx3.toInt ≤ 2147483647 := by rw [e4]; exact ti_addc (c := 1) (n := 1) rfl x2)
  refine ok_mono (kl_X12_isInside_5 L hN   k_a0 _ vx3 δ I (show 0 ≤ (x2).toInt by first | with_reducible assumption | omega) (show (x2).toInt ≤ (x3).toInt by first | with_reducible assumption | omega) (show (x3).toInt ≤ 14000 by first | with_reducible assumption | omega) (show 1 ≤ (vx3).toInt by first | with_reducible assumption | omega) (show (vx3).toInt ≤ (x3).toInt + 1 by first | with_reducible assumption | omega) (show (x3).toInt + 1 - (vx3).toInt < _ by omega)) (fun r9 hr10 => ?_)
  obtain ⟨i11, p12⟩ := hr10
  have f13 := bo_l p12
  have f14 := ti_b r9.1
  exact ⟨by first | with_reducible assumption | assumption, by first | with_reducible assumption | omega⟩
set_option maxHeartbeats 4000000 in
theorem kl_X12_lays_7 {ad : List Nat} {h : hp} (L : Lay TLx ad h) {δ0 : dp} {N : Nat} (hN : 10000000 ≤ N) {a0 : Nat} {x1 : Int32} (k_a0 : q_K h.1 a0 = 12) : ∀ (n : Nat) (x2v : Int32) (δ : dp), RI ad h.1 δ0 δ → 0 ≤ (x1).toInt → (x1).toInt ≤ 3 → 0 ≤ (x2v).toInt → (x2v).toInt ≤ 2000 → (q_I δ 12 36 a0).toInt = (x2v).toInt → 2000 - (x2v).toInt < (n : Int) → ok (L_X12_lays_7 N h.1 a0 x1 n x2v δ) (fun r => RI ad h.1 δ0 r ∧ (kp [(12, 36)] δ r ∧ q_V r = q_V δ ∧ kr ad [119] δ r) ∧ (q_I r 12 36 a0).toInt ≤ 2000) := by
  intro n
  induction n with
  | zero =>
    intro x2v δ I j0 j1 j2 j3 j4 hm
    have f1 := ti_b x1
    have f2 := ti_b x2v
    have f3 := cb_12_36 I k_a0
    exfalso; omega
  | succ n ih =>
    intro x2v δ I j0 j1 j2 j3 j4 hm
    unfold L_X12_lays_7
    have f1 := ti_b x1
    have f2 := ti_b x2v
    have f3 := cb_12_36 I k_a0
    obtain ⟨b4, o5, k6, n7⟩ := gO_12_14 L k_a0
    obtain rfl := gS_12_14 L k_a0 o5
    refine ok_at o5 ?_
    have t8 := ti_tn x1
    refine ok_gd (fun hc9 => ?_) ?_
    · rcases hc9 with hc9 | hc9
      · have c10 : x1.toInt < (0 : Int) := o_lt hc9
        omega
      · omega
    have f11 := rb_103 L I x1.toNatClampNeg
    refine ok_ite (fun h12 => ?_) (fun h12 => ?_)
    · have c13 : (q_R δ (Ad ad 103) x1.toNatClampNeg).toInt ≤ x2v.toInt := o_le h12
      exact ok_some (show RI ad h.1 δ0 δ ∧ (kp [(12, 36)] δ δ ∧ q_V δ = q_V δ ∧ kr ad [119] δ δ) ∧ (q_I δ 12 36 a0).toInt ≤ 2000 from ⟨I, ⟨kp_w (by decide) kp_r, rfl, kr_w (by decide) (kr_r (ad := ad))⟩, by first | with_reducible assumption | omega⟩)
    · have c14 : x2v.toInt < (q_R δ (Ad ad 103) x1.toNatClampNeg).toInt := o_nle h12
      obtain ⟨b15, o16, k17, n18, w19⟩ := gO_12_35 L k_a0
      obtain rfl := gS_12_35 L k_a0 o16
      refine ok_at o16 ?_
      obtain ⟨b20, o21, k22, n23, w24⟩ := gO_12_13 L k_a0
      obtain rfl := gS_12_13 L k_a0 o21
      refine ok_at o21 ?_
      first | (have q26 := te_mulc (c := 2000) (n := 2000) rfl x1 (by omega) (by omega); obtain ⟨f27, f28, f29⟩ := q26) | (obtain ⟨q26, f27, f28, f29⟩ := ti_mulc (c := 2000) (n := 2000) rfl x1)
      first | (have q31 := te_add ((2000 : Int32) * x1) x2v (by omega) (by omega); obtain ⟨f32, f33, f34⟩ := q31) | (obtain ⟨q31, f32, f33, f34⟩ := ti_add ((2000 : Int32) * x1) x2v)
      have t35 := ti_tn (((2000 : Int32) * x1) + x2v)
      refine ok_gd (fun hc36 => ?_) ?_
      · rcases hc36 with hc36 | hc36
        · have c37 : (((2000 : Int32) * x1) + x2v).toInt < (0 : Int) := o_lt hc36
          omega
        · omega
      have t38 := ti_tn (q_I δ 12 36 a0)
      refine ok_gd (fun hc39 => ?_) ?_
      · rcases hc39 with hc39 | hc39
        · have c40 : (q_I δ 12 36 a0).toInt < (0 : Int) := o_lt hc39
          omega
        · omega
      refine ok_bdv (fun d41 e42 => ?_)
      have i43 : RI ad h.1 δ0 d41 := by rw [e42]; exact RI.sR L I w19
      have u44 := kp_N kp_r (show q_I d41 = q_I δ by rw [e42]; rfl)
      have v45 : q_V d41 = q_V δ := ((show q_V d41 = q_V δ by rw [e42]; rfl)).trans rfl
      have v46 := kr_s L (by decide) (kr_r (ad := ad)) e42
      have f50 : (q_I d41 12 36 a0).toInt = (q_I δ 12 36 a0).toInt := congrArg Int32.toInt (by rw [e42]; rfl)
      first | (have q52 := te_addc (c := 1) (n := 1) rfl (q_I d41 12 36 a0) (by omega) (by omega); obtain ⟨f53, f54, f55⟩ := q52) | (obtain ⟨q52, f53, f54, f55⟩ := ti_addc (c := 1) (n := 1) rfl (q_I d41 12 36 a0))
      refine ok_bdv (fun d47 e48 => ?_)
      have i49 : RI ad h.1 δ0 d47 := by rw [e48]; exact cs_12_36 L i43 k_a0 (show 0 ≤ ((q_I d41 12 36 a0) + (1 : Int32)).toInt by omega) (show ((q_I d41 12 36 a0) + (1 : Int32)).toInt ≤ 14000 by omega)
      have u56 := kp_I u44 e48
      have v57 : q_V d47 = q_V δ := ((show q_V d47 = q_V d41 by rw [e48]; rfl)).trans v45
      have v58 := kr_N v46 (show q_R d47 = q_R d41 by rw [e48]; rfl)
      refine ok_biv (fun vx59 e60 => ?_)
      first | (have q61 := te_addc (c := 1) (n := 1) rfl x2v (by omega) (by omega); rw [← e60] at q61; obtain ⟨f62, f63, f64⟩ := q61) | (obtain ⟨q61, f62, f63, f64⟩ : ∃ q : Int, vx59.toInt = x2v.toInt + (1 : Int) + 4294967296 * q ∧ -2147483648 ≤ vx59.toInt ∧ vx59.toInt ≤ 2147483647 := by rw [e60]; exact ti_addc (c := 1) (n := 1) rfl x2v)
      have f65 := cb_12_36 i49 k_a0
      have f66 : (q_I d47 12 36 a0).toInt = ((q_I d41 12 36 a0) + (1 : Int32)).toInt := congrArg Int32.toInt (show q_I d47 12 36 a0 = ((q_I d41 12 36 a0) + (1 : Int32)) by rw [e48]; exact rI_s)
      refine ok_mono (ih vx59 d47 i49 (show 0 ≤ (x1).toInt by first | with_reducible assumption | omega) (show (x1).toInt ≤ 3 by first | with_reducible assumption | omega) (show 0 ≤ (vx59).toInt by first | with_reducible assumption | omega) (show (vx59).toInt ≤ 2000 by first | with_reducible assumption | omega) (show (q_I d47 12 36 a0).toInt = (vx59).toInt by first | with_reducible assumption | omega) (show 2000 - (vx59).toInt < _ by omega)) (fun r67 hr68 => ?_)
      obtain ⟨i69, ⟨u71, u72, u73⟩, p70⟩ := hr68
      have u74 := kp_t u56 u71
      have v75 : q_V r67 = q_V δ := (u72).trans v57
      have v76 := kr_t v58 u73
      have f77 := cb_12_36 i69 k_a0
      exact ⟨by first | with_reducible assumption | assumption, ⟨kp_w (by decide) u74, v75, kr_w (by decide) v76⟩, by first | with_reducible assumption | omega⟩
set_option maxHeartbeats 4000000 in
theorem k_X12_lays {ad : List Nat} {h : hp} (L : Lay TLx ad h) {δ0 : dp} {N : Nat} (hN : 10000000 ≤ N) {a0 : Nat} {x1 : Int32} (k_a0 : q_K h.1 a0 = 12) {δ : dp} (z0 : 0 ≤ (x1).toInt) (z1 : (x1).toInt ≤ 3) (I : RI ad h.1 δ0 δ) : ok (D_X12_lays N h.1 a0 x1 δ) (fun r => RI ad h.1 δ0 r ∧ (kp [(12, 36)] δ r ∧ q_V r = q_V δ ∧ kr ad [119] δ r) ∧ (q_I r 12 36 a0).toInt ≤ 2000) := by
  unfold D_X12_lays
  have f1 := ti_b x1
  refine ok_bdv (fun d2 e3 => ?_)
  have i4 : RI ad h.1 δ0 d2 := by rw [e3]; exact cs_12_36 L I k_a0 (show 0 ≤ (0 : Int) by omega) (show (0 : Int) ≤ 14000 by omega)
  have u5 := kp_I kp_r e3
  have v6 : q_V d2 = q_V δ := ((show q_V d2 = q_V δ by rw [e3]; rfl)).trans rfl
  have v7 := kr_N (kr_r (ad := ad)) (show q_R d2 = q_R δ by rw [e3]; rfl)
  have f8 := cb_12_36 i4 k_a0
  have f9 : (q_I d2 12 36 a0).toInt = (0 : Int) := congrArg Int32.toInt (show q_I d2 12 36 a0 = (0 : Int32) by rw [e3]; exact rI_s)
  refine ok_mono (kl_X12_lays_7 L hN   k_a0 _ (0 : Int32) d2 i4 (show 0 ≤ (x1).toInt by first | with_reducible assumption | omega) (show (x1).toInt ≤ 3 by first | with_reducible assumption | omega) (show 0 ≤ (0 : Int) by first | with_reducible assumption | omega) (show (0 : Int) ≤ 2000 by first | with_reducible assumption | omega) (show (q_I d2 12 36 a0).toInt = (0 : Int) by first | with_reducible assumption | omega) (show 2000 - (0 : Int) < _ by omega)) (fun r10 hr11 => ?_)
  obtain ⟨i12, ⟨u14, u15, u16⟩, p13⟩ := hr11
  have u17 := kp_t u5 u14
  have v18 : q_V r10 = q_V δ := (u15).trans v6
  have v19 := kr_t v7 u16
  have f20 := cb_12_36 i12 k_a0
  exact ⟨by first | with_reducible assumption | assumption, ⟨kp_w (by decide) u17, v18, kr_w (by decide) v19⟩, by first | with_reducible assumption | omega⟩
set_option maxHeartbeats 4000000 in
theorem k_bX12_inList {ad : List Nat} {h : hp} (L : Lay TLx ad h) {δ0 : dp} {N : Nat} (hN : 10000000 ≤ N) {T : Nat → Int32 → Int32 → Int32 → Int32 → Int32 → dp → Option (Int32 × dp)} {K : Int} (hT : ∀ (a0 : Nat) (x1 : Int32) (x2 : Int32) (x3 : Int32) (x4 : Int32) (x5 : Int32) (δ : dp), q_K h.1 a0 = 12 → 1 ≤ (x3).toInt → (x3).toInt ≤ 16 → 0 ≤ (x4).toInt → (x4).toInt ≤ (x5).toInt → (x5).toInt ≤ (x4).toInt + 2000 → (x5).toInt ≤ (q_I δ 12 36 a0).toInt → (q_I δ 12 36 a0).toInt + 2000 * LGf (x3).toInt ≤ 12000 → (x3).toInt < K → RI ad h.1 δ0 δ → ok (T a0 x1 x2 x3 x4 x5 δ) (fun r => RI ad h.1 δ0 r.2 ∧ (kp [(12, 36)] δ r.2 ∧ q_V r.2 = q_V δ ∧ kr ad [119] δ r.2) ∧ (q_I r.2 12 36 a0).toInt = (q_I δ 12 36 a0).toInt ∧ 1 ≤ (r.1).toInt ∧ (r.1).toInt ≤ VBf (x3).toInt)) {a0 : Nat} {x1 : Int32} {x2 : Int32} {x3 : Int32} {x4 : Int32} {x5 : Int32} (k_a0 : q_K h.1 a0 = 12) {δ : dp} (z0 : 2 ≤ (x3).toInt) (z1 : (x3).toInt ≤ 16) (z2 : 0 ≤ (x4).toInt) (z3 : (x4).toInt ≤ (x5).toInt) (z4 : (x5).toInt ≤ (x4).toInt + 2000) (z5 : (x5).toInt ≤ (q_I δ 12 36 a0).toInt) (z6 : (q_I δ 12 36 a0).toInt + 2000 * LGf (x3).toInt ≤ 12000) (z7 : (x3).toInt ≤ K) (I : RI ad h.1 δ0 δ) : ok (B_X12_inList N h.1 T a0 x1 x2 x3 x4 x5 δ) (fun r => RI ad h.1 δ0 r.2 ∧ (kp [(12, 36)] δ r.2 ∧ q_V r.2 = q_V δ ∧ kr ad [119] δ r.2) ∧ (q_I r.2 12 36 a0).toInt = (q_I δ 12 36 a0).toInt ∧ 1 ≤ (r.1).toInt ∧ (r.1).toInt ≤ HVf (x3).toInt) := by
  unfold B_X12_inList
  have f1 := lgb (x3).toInt
  have f2 := ti_b x3
  have f3 := ti_b x4
  have f4 := ti_b x5
  have f5 := cb_12_36 I k_a0
  refine ok_bind (k_X12_lowerBits L hN (a0 := a0) (x1 := x3) k_a0 (show 2 ≤ (x3).toInt by first | with_reducible assumption | omega) (show (x3).toInt ≤ 16 by first | with_reducible assumption | omega) I) (fun r6 hr7 => ?_)
  obtain ⟨i8, p9, p10, p11, p12, p13, p14⟩ := hr7
  try rw [i8]
  have f15 := ti_b r6.1
  have f16 := lgb (r6.1).toInt
  have f17 := lgb ((x3 - r6.1)).toInt
  first | (have q19 := te_sub x3 r6.1 (by omega) (by omega); obtain ⟨f20, f21, f22⟩ := q19) | (obtain ⟨q19, f20, f21, f22⟩ := ti_sub x3 r6.1)
  refine ok_bind (k_X12_lists L hN (a0 := a0) (x1 := x4) (x2 := x5) (x3 := r6.1) k_a0 (show 0 ≤ (x4).toInt by first | with_reducible assumption | omega) (show (x4).toInt ≤ (x5).toInt by first | with_reducible assumption | omega) (show (x5).toInt ≤ (x4).toInt + 2000 by first | with_reducible assumption | omega) (show (x5).toInt ≤ (q_I δ 12 36 a0).toInt by first | with_reducible assumption | omega) (show (q_I δ 12 36 a0).toInt ≤ 12000 by first | with_reducible assumption | omega) I) (fun r23 hr24 => ?_)
  obtain ⟨i25, ⟨u29, u30, u31⟩, p26, p27, p28⟩ := hr24
  have u32 := kp_t kp_r u29
  have v33 : q_V r23.2 = q_V δ := (u30).trans rfl
  have v34 := kr_t (kr_r (ad := ad)) u31
  have f35 := ti_b r23.1
  have f36 := cb_12_36 i25 k_a0
  refine ok_bind (hT a0 x1 (x2 >>> (r6.1 &&& 31)) (x3 - r6.1) r23.1 (q_I r23.2 12 36 a0) r23.2 k_a0 (show 1 ≤ ((x3 - r6.1)).toInt by first | with_reducible assumption | omega) (show ((x3 - r6.1)).toInt ≤ 16 by first | with_reducible assumption | omega) (show 0 ≤ (r23.1).toInt by first | with_reducible assumption | omega) (show (r23.1).toInt ≤ ((q_I r23.2 12 36 a0)).toInt by first | with_reducible assumption | omega) (show ((q_I r23.2 12 36 a0)).toInt ≤ (r23.1).toInt + 2000 by first | with_reducible assumption | omega) (show ((q_I r23.2 12 36 a0)).toInt ≤ (q_I r23.2 12 36 a0).toInt by first | with_reducible assumption | omega) (show (q_I r23.2 12 36 a0).toInt + 2000 * LGf ((x3 - r6.1)).toInt ≤ 12000 by first | with_reducible assumption | omega) (show ((x3 - r6.1)).toInt < _ by first | with_reducible assumption | omega) i25) (fun r37 hr38 => ?_)
  obtain ⟨i39, ⟨u43, u44, u45⟩, p40, p41, p42⟩ := hr38
  have u46 := kp_t u32 u43
  have v47 : q_V r37.2 = q_V δ := (u44).trans v33
  have v48 := kr_t v34 u45
  have f49 := cb_12_36 i39 k_a0
  have f50 := ti_b r37.1
  refine ok_bdv (fun d51 e52 => ?_)
  have i53 : RI ad h.1 δ0 d51 := by rw [e52]; exact cs_12_36 L i39 k_a0 (show 0 ≤ r23.1.toInt by omega) (show r23.1.toInt ≤ 14000 by omega)
  have u54 := kp_I u46 e52
  have v55 : q_V d51 = q_V δ := ((show q_V d51 = q_V r37.2 by rw [e52]; rfl)).trans v47
  have v56 := kr_N v48 (show q_R d51 = q_R r37.2 by rw [e52]; rfl)
  have f57 := cb_12_36 i53 k_a0
  have f58 : (q_I d51 12 36 a0).toInt = r23.1.toInt := congrArg Int32.toInt (show q_I d51 12 36 a0 = r23.1 by rw [e52]; exact rI_s)
  exact ok_some (show RI ad h.1 δ0 d51 ∧ (kp [(12, 36)] δ d51 ∧ q_V d51 = q_V δ ∧ kr ad [119] δ d51) ∧ (q_I d51 12 36 a0).toInt = (q_I δ 12 36 a0).toInt ∧ 1 ≤ (r37.1).toInt ∧ (r37.1).toInt ≤ HVf (x3).toInt from ⟨i53, ⟨kp_w (by decide) u54, v55, kr_w (by decide) v56⟩, by first | with_reducible assumption | omega, by first | with_reducible assumption | omega, by first | with_reducible assumption | omega⟩)
set_option maxHeartbeats 4000000 in
theorem k_bX12_inRoom {ad : List Nat} {h : hp} (L : Lay TLx ad h) {δ0 : dp} {N : Nat} (hN : 10000000 ≤ N) {T : Nat → Int32 → Int32 → Int32 → Int32 → Int32 → dp → Option (Int32 × dp)} {K : Int} (hT : ∀ (a0 : Nat) (x1 : Int32) (x2 : Int32) (x3 : Int32) (x4 : Int32) (x5 : Int32) (δ : dp), q_K h.1 a0 = 12 → 1 ≤ (x3).toInt → (x3).toInt ≤ 16 → 0 ≤ (x4).toInt → (x4).toInt ≤ (x5).toInt → (x5).toInt ≤ (x4).toInt + 2000 → (x5).toInt ≤ (q_I δ 12 36 a0).toInt → (q_I δ 12 36 a0).toInt + 2000 * LGf (x3).toInt ≤ 12000 → (x3).toInt < K → RI ad h.1 δ0 δ → ok (T a0 x1 x2 x3 x4 x5 δ) (fun r => RI ad h.1 δ0 r.2 ∧ (kp [(12, 36)] δ r.2 ∧ q_V r.2 = q_V δ ∧ kr ad [119] δ r.2) ∧ (q_I r.2 12 36 a0).toInt = (q_I δ 12 36 a0).toInt ∧ 1 ≤ (r.1).toInt ∧ (r.1).toInt ≤ VBf (x3).toInt)) {a0 : Nat} {x1 : Int32} {x2 : Int32} {x3 : Int32} {x4 : Int32} {x5 : Int32} (k_a0 : q_K h.1 a0 = 12) {δ : dp} (z0 : 2 ≤ (x3).toInt) (z1 : (x3).toInt ≤ 16) (z2 : 0 ≤ (x4).toInt) (z3 : (x4).toInt ≤ (x5).toInt) (z4 : (x5).toInt ≤ (x4).toInt + 2000) (z5 : (x5).toInt ≤ (q_I δ 12 36 a0).toInt) (z6 : (q_I δ 12 36 a0).toInt + 2000 * LGf (x3).toInt ≤ 12000) (z7 : (x3).toInt ≤ K) (I : RI ad h.1 δ0 δ) : ok (B_X12_inRoom N h.1 T a0 x1 x2 x3 x4 x5 δ) (fun r => RI ad h.1 δ0 r.2 ∧ (kp [(12, 36)] δ r.2 ∧ q_V r.2 = q_V δ ∧ kr ad [119] δ r.2) ∧ (q_I r.2 12 36 a0).toInt = (q_I δ 12 36 a0).toInt ∧ 1 ≤ (r.1).toInt ∧ (r.1).toInt ≤ HVf (x3).toInt) := by
  unfold B_X12_inRoom
  have f1 := lgb (x3).toInt
  have f2 := ti_b x3
  have f3 := ti_b x4
  have f4 := ti_b x5
  have f5 := cb_12_36 I k_a0
  refine ok_bind (k_X12_lowerBits L hN (a0 := a0) (x1 := x3) k_a0 (show 2 ≤ (x3).toInt by first | with_reducible assumption | omega) (show (x3).toInt ≤ 16 by first | with_reducible assumption | omega) I) (fun r6 hr7 => ?_)
  obtain ⟨i8, p9, p10, p11, p12, p13, p14⟩ := hr7
  try rw [i8]
  have f15 := ti_b r6.1
  have f16 := lgb (r6.1).toInt
  have f17 := lgb ((x3 - r6.1)).toInt
  first | (have q19 := te_sub x3 r6.1 (by omega) (by omega); obtain ⟨f20, f21, f22⟩ := q19) | (obtain ⟨q19, f20, f21, f22⟩ := ti_sub x3 r6.1)
  refine ok_bind (k_X12_rooms L hN (a0 := a0) (x1 := x4) (x2 := x5) (x3 := r6.1) (x4 := (x2 >>> (r6.1 &&& 31))) k_a0 (show 0 ≤ (x4).toInt by first | with_reducible assumption | omega) (show (x4).toInt ≤ (x5).toInt by first | with_reducible assumption | omega) (show (x5).toInt ≤ (x4).toInt + 2000 by first | with_reducible assumption | omega) (show (x5).toInt ≤ (q_I δ 12 36 a0).toInt by first | with_reducible assumption | omega) (show (q_I δ 12 36 a0).toInt ≤ 12000 by first | with_reducible assumption | omega) I) (fun r23 hr24 => ?_)
  obtain ⟨i25, ⟨u29, u30, u31⟩, p26, p27, p28⟩ := hr24
  have u32 := kp_t kp_r u29
  have v33 : q_V r23.2 = q_V δ := (u30).trans rfl
  have v34 := kr_t (kr_r (ad := ad)) u31
  have f35 := ti_b r23.1
  have f36 := cb_12_36 i25 k_a0
  refine ok_bind (hT a0 x1 (x2 &&& (((1 : Int32) <<< (r6.1 &&& 31)) - (1 : Int32))) r6.1 r23.1 (q_I r23.2 12 36 a0) r23.2 k_a0 (show 1 ≤ (r6.1).toInt by first | with_reducible assumption | omega) (show (r6.1).toInt ≤ 16 by first | with_reducible assumption | omega) (show 0 ≤ (r23.1).toInt by first | with_reducible assumption | omega) (show (r23.1).toInt ≤ ((q_I r23.2 12 36 a0)).toInt by first | with_reducible assumption | omega) (show ((q_I r23.2 12 36 a0)).toInt ≤ (r23.1).toInt + 2000 by first | with_reducible assumption | omega) (show ((q_I r23.2 12 36 a0)).toInt ≤ (q_I r23.2 12 36 a0).toInt by first | with_reducible assumption | omega) (show (q_I r23.2 12 36 a0).toInt + 2000 * LGf (r6.1).toInt ≤ 12000 by first | with_reducible assumption | omega) (show (r6.1).toInt < _ by first | with_reducible assumption | omega) i25) (fun r37 hr38 => ?_)
  obtain ⟨i39, ⟨u43, u44, u45⟩, p40, p41, p42⟩ := hr38
  have u46 := kp_t u32 u43
  have v47 : q_V r37.2 = q_V δ := (u44).trans v33
  have v48 := kr_t v34 u45
  have f49 := cb_12_36 i39 k_a0
  have f50 := ti_b r37.1
  refine ok_bdv (fun d51 e52 => ?_)
  have i53 : RI ad h.1 δ0 d51 := by rw [e52]; exact cs_12_36 L i39 k_a0 (show 0 ≤ r23.1.toInt by omega) (show r23.1.toInt ≤ 14000 by omega)
  have u54 := kp_I u46 e52
  have v55 : q_V d51 = q_V δ := ((show q_V d51 = q_V r37.2 by rw [e52]; rfl)).trans v47
  have v56 := kr_N v48 (show q_R d51 = q_R r37.2 by rw [e52]; rfl)
  have f57 := cb_12_36 i53 k_a0
  have f58 : (q_I d51 12 36 a0).toInt = r23.1.toInt := congrArg Int32.toInt (show q_I d51 12 36 a0 = r23.1 by rw [e52]; exact rI_s)
  exact ok_some (show RI ad h.1 δ0 d51 ∧ (kp [(12, 36)] δ d51 ∧ q_V d51 = q_V δ ∧ kr ad [119] δ d51) ∧ (q_I d51 12 36 a0).toInt = (q_I δ 12 36 a0).toInt ∧ 1 ≤ (r37.1).toInt ∧ (r37.1).toInt ≤ HVf (x3).toInt from ⟨i53, ⟨kp_w (by decide) u54, v55, kr_w (by decide) v56⟩, by first | with_reducible assumption | omega, by first | with_reducible assumption | omega, by first | with_reducible assumption | omega⟩)
set_option maxHeartbeats 4000000 in
theorem kj_X12_touchPut_64 {ad : List Nat} {h : hp} (L : Lay TLx ad h) {δ0 : dp} {N : Nat} (hN : 10000000 ≤ N) {T : Nat → Int32 → Int32 → Int32 → Int32 → Int32 → dp → Option (Int32 × dp)} {K : Int} (hT : ∀ (a0 : Nat) (x1 : Int32) (x2 : Int32) (x3 : Int32) (x4 : Int32) (x5 : Int32) (δ : dp), q_K h.1 a0 = 12 → 1 ≤ (x3).toInt → (x3).toInt ≤ 16 → 0 ≤ (x4).toInt → (x4).toInt ≤ (x5).toInt → (x5).toInt ≤ (x4).toInt + 2000 → (x5).toInt ≤ (q_I δ 12 36 a0).toInt → (q_I δ 12 36 a0).toInt + 2000 * LGf (x3).toInt ≤ 12000 → (x3).toInt < K → RI ad h.1 δ0 δ → ok (T a0 x1 x2 x3 x4 x5 δ) (fun r => RI ad h.1 δ0 r.2 ∧ (kp [(12, 36)] δ r.2 ∧ q_V r.2 = q_V δ ∧ kr ad [119] δ r.2) ∧ (q_I r.2 12 36 a0).toInt = (q_I δ 12 36 a0).toInt ∧ 1 ≤ (r.1).toInt ∧ (r.1).toInt ≤ VBf (x3).toInt)) {a0 : Nat} {x1 : Int32} {x2 : Int32} {x3 : Int32} {x4 : Int32} {xs0 : Int32} (k_a0 : q_K h.1 a0 = 12) {δ : dp} (z0 : 2 ≤ (x2).toInt) (z1 : (x2).toInt ≤ 16) (z2 : 0 ≤ (x3).toInt) (z3 : (x3).toInt ≤ (x4).toInt) (z4 : (x4).toInt ≤ (x3).toInt + 2000) (z5 : (x4).toInt ≤ (q_I δ 12 36 a0).toInt) (z6 : (q_I δ 12 36 a0).toInt + 2000 * LGf (x2).toInt ≤ 12000) (z7 : (x2).toInt ≤ K) (z8 : (x3).toInt < (x4).toInt) (I : RI ad h.1 δ0 δ) : ok (J_X12_touchPut_64 N h.1 T a0 x1 x2 x3 x4 xs0 δ) (fun r => RI ad h.1 δ0 r.2 ∧ (kp [(12, 36)] δ r.2 ∧ q_V r.2 = q_V δ ∧ kr ad [119] δ r.2) ∧ (q_I r.2 12 36 a0).toInt = (q_I δ 12 36 a0).toInt ∧ 1 ≤ (r.1).toInt ∧ (r.1).toInt ≤ VBf (x2).toInt) := by
  unfold J_X12_touchPut_64
  have f1 := lgb (x2).toInt
  have f2 := ti_b x2
  have f3 := ti_b x3
  have f4 := ti_b x4
  have f5 := cb_12_36 I k_a0
  refine ok_bind (k_X12_roomMany L hN (a0 := a0) (x1 := xs0) (x2 := x2) (x3 := x3) (x4 := x4) k_a0 (show 2 ≤ (x2).toInt by first | with_reducible assumption | omega) (show (x2).toInt ≤ 16 by first | with_reducible assumption | omega) (show 0 ≤ (x3).toInt by first | with_reducible assumption | omega) (show (x3).toInt ≤ (x4).toInt by first | with_reducible assumption | omega) (show (x4).toInt ≤ 14000 by first | with_reducible assumption | omega) I) (fun r6 hr7 => ?_)
  have i8 := hr7
  try rw [i8]
  have f9 := ti_b r6.1
  refine ok_ite (fun h10 => ?_) (fun h10 => ?_)
  · have c11 : r6.1.toInt = (0 : Int) := o_eq h10
    refine ok_bind (k_bX12_inList L hN (a0 := a0) (x1 := (0 : Int32)) (x2 := xs0) (x3 := x2) (x4 := x3) (x5 := x4) hT k_a0 (show 2 ≤ (x2).toInt by first | with_reducible assumption | omega) (show (x2).toInt ≤ 16 by first | with_reducible assumption | omega) (show 0 ≤ (x3).toInt by first | with_reducible assumption | omega) (show (x3).toInt ≤ (x4).toInt by first | with_reducible assumption | omega) (show (x4).toInt ≤ (x3).toInt + 2000 by first | with_reducible assumption | omega) (show (x4).toInt ≤ (q_I δ 12 36 a0).toInt by first | with_reducible assumption | omega) (show (q_I δ 12 36 a0).toInt + 2000 * LGf (x2).toInt ≤ 12000 by first | with_reducible assumption | omega) (show (x2).toInt ≤ K by first | with_reducible assumption | omega) I) (fun r12 hr13 => ?_)
    obtain ⟨i14, ⟨u18, u19, u20⟩, p15, p16, p17⟩ := hr13
    have u21 := kp_t kp_r u18
    have v22 : q_V r12.2 = q_V δ := (u19).trans rfl
    have v23 := kr_t (kr_r (ad := ad)) u20
    have f24 := cb_12_36 i14 k_a0
    have f25 := ti_b r12.1
    unfold J_X12_touchPut_108
    first | (have q27 := te_cadd (c := 2) (n := 2) rfl r12.1 (by omega) (by omega); obtain ⟨f28, f29, f30⟩ := q27) | (obtain ⟨q27, f28, f29, f30⟩ := ti_cadd (c := 2) (n := 2) rfl r12.1)
    exact ok_some (show RI ad h.1 δ0 r12.2 ∧ (kp [(12, 36)] δ r12.2 ∧ q_V r12.2 = q_V δ ∧ kr ad [119] δ r12.2) ∧ (q_I r12.2 12 36 a0).toInt = (q_I δ 12 36 a0).toInt ∧ 1 ≤ (((2 : Int32) + r12.1)).toInt ∧ (((2 : Int32) + r12.1)).toInt ≤ VBf (x2).toInt from ⟨i14, ⟨kp_w (by decide) u21, v22, kr_w (by decide) v23⟩, by first | with_reducible assumption | omega, by first | with_reducible assumption | omega, by first | with_reducible assumption | omega⟩)
  · have c31 : r6.1.toInt ≠ (0 : Int) := o_ne h10
    refine ok_bind (k_bX12_inRoom L hN (a0 := a0) (x1 := (0 : Int32)) (x2 := xs0) (x3 := x2) (x4 := x3) (x5 := x4) hT k_a0 (show 2 ≤ (x2).toInt by first | with_reducible assumption | omega) (show (x2).toInt ≤ 16 by first | with_reducible assumption | omega) (show 0 ≤ (x3).toInt by first | with_reducible assumption | omega) (show (x3).toInt ≤ (x4).toInt by first | with_reducible assumption | omega) (show (x4).toInt ≤ (x3).toInt + 2000 by first | with_reducible assumption | omega) (show (x4).toInt ≤ (q_I δ 12 36 a0).toInt by first | with_reducible assumption | omega) (show (q_I δ 12 36 a0).toInt + 2000 * LGf (x2).toInt ≤ 12000 by first | with_reducible assumption | omega) (show (x2).toInt ≤ K by first | with_reducible assumption | omega) I) (fun r32 hr33 => ?_)
    obtain ⟨i34, ⟨u38, u39, u40⟩, p35, p36, p37⟩ := hr33
    have u41 := kp_t kp_r u38
    have v42 : q_V r32.2 = q_V δ := (u39).trans rfl
    have v43 := kr_t (kr_r (ad := ad)) u40
    have f44 := cb_12_36 i34 k_a0
    have f45 := ti_b r32.1
    unfold J_X12_touchPut_108
    first | (have q47 := te_cadd (c := 1) (n := 1) rfl r32.1 (by omega) (by omega); obtain ⟨f48, f49, f50⟩ := q47) | (obtain ⟨q47, f48, f49, f50⟩ := ti_cadd (c := 1) (n := 1) rfl r32.1)
    exact ok_some (show RI ad h.1 δ0 r32.2 ∧ (kp [(12, 36)] δ r32.2 ∧ q_V r32.2 = q_V δ ∧ kr ad [119] δ r32.2) ∧ (q_I r32.2 12 36 a0).toInt = (q_I δ 12 36 a0).toInt ∧ 1 ≤ (((1 : Int32) + r32.1)).toInt ∧ (((1 : Int32) + r32.1)).toInt ≤ VBf (x2).toInt from ⟨i34, ⟨kp_w (by decide) u41, v42, kr_w (by decide) v43⟩, by first | with_reducible assumption | omega, by first | with_reducible assumption | omega, by first | with_reducible assumption | omega⟩)
set_option maxHeartbeats 4000000 in
theorem k_bX12_touchPut {ad : List Nat} {h : hp} (L : Lay TLx ad h) {δ0 : dp} {N : Nat} (hN : 10000000 ≤ N) {T : Nat → Int32 → Int32 → Int32 → Int32 → Int32 → dp → Option (Int32 × dp)} {K : Int} (hT : ∀ (a0 : Nat) (x1 : Int32) (x2 : Int32) (x3 : Int32) (x4 : Int32) (x5 : Int32) (δ : dp), q_K h.1 a0 = 12 → 1 ≤ (x3).toInt → (x3).toInt ≤ 16 → 0 ≤ (x4).toInt → (x4).toInt ≤ (x5).toInt → (x5).toInt ≤ (x4).toInt + 2000 → (x5).toInt ≤ (q_I δ 12 36 a0).toInt → (q_I δ 12 36 a0).toInt + 2000 * LGf (x3).toInt ≤ 12000 → (x3).toInt < K → RI ad h.1 δ0 δ → ok (T a0 x1 x2 x3 x4 x5 δ) (fun r => RI ad h.1 δ0 r.2 ∧ (kp [(12, 36)] δ r.2 ∧ q_V r.2 = q_V δ ∧ kr ad [119] δ r.2) ∧ (q_I r.2 12 36 a0).toInt = (q_I δ 12 36 a0).toInt ∧ 1 ≤ (r.1).toInt ∧ (r.1).toInt ≤ VBf (x3).toInt)) {a0 : Nat} {x1 : Int32} {x2 : Int32} {x3 : Int32} {x4 : Int32} (k_a0 : q_K h.1 a0 = 12) {δ : dp} (z0 : 2 ≤ (x2).toInt) (z1 : (x2).toInt ≤ 16) (z2 : 0 ≤ (x3).toInt) (z3 : (x3).toInt ≤ (x4).toInt) (z4 : (x4).toInt ≤ (x3).toInt + 2000) (z5 : (x4).toInt ≤ (q_I δ 12 36 a0).toInt) (z6 : (q_I δ 12 36 a0).toInt + 2000 * LGf (x2).toInt ≤ 12000) (z7 : (x2).toInt ≤ K) (z8 : (x3).toInt < (x4).toInt) (I : RI ad h.1 δ0 δ) : ok (B_X12_touchPut N h.1 T a0 x1 x2 x3 x4 δ) (fun r => RI ad h.1 δ0 r.2 ∧ (kp [(12, 36)] δ r.2 ∧ q_V r.2 = q_V δ ∧ kr ad [119] δ r.2) ∧ (q_I r.2 12 36 a0).toInt = (q_I δ 12 36 a0).toInt ∧ 1 ≤ (r.1).toInt ∧ (r.1).toInt ≤ VBf (x2).toInt) := by
  unfold B_X12_touchPut
  have f1 := lgb (x2).toInt
  have f2 := ti_b x2
  have f3 := ti_b x3
  have f4 := ti_b x4
  have f5 := cb_12_36 I k_a0
  obtain ⟨b6, o7, k8, n9, w10⟩ := gO_12_35 L k_a0
  obtain rfl := gS_12_35 L k_a0 o7
  refine ok_at o7 ?_
  have t11 := ti_tn x3
  refine ok_gd (fun hc12 => ?_) ?_
  · rcases hc12 with hc12 | hc12
    · have c13 : x3.toInt < (0 : Int) := o_lt hc12
      omega
    · omega
  have f16 := ti_b (q_R δ (Ad ad 119) x3.toNatClampNeg)
  refine ok_biv (fun vx14 e15 => ?_)
  have f17 : vx14.toInt = (q_R δ (Ad ad 119) x3.toNatClampNeg).toInt := congrArg Int32.toInt e15
  refine ok_at o7 ?_
  first | (have q19 := te_subc (c := 1) (n := 1) rfl x4 (by omega) (by omega); obtain ⟨f20, f21, f22⟩ := q19) | (obtain ⟨q19, f20, f21, f22⟩ := ti_subc (c := 1) (n := 1) rfl x4)
  have t23 := ti_tn (x4 - (1 : Int32))
  refine ok_gd (fun hc24 => ?_) ?_
  · rcases hc24 with hc24 | hc24
    · have c25 : (x4 - (1 : Int32)).toInt < (0 : Int) := o_lt hc24
      omega
    · omega
  have f28 := ti_b (q_R δ (Ad ad 119) (x4 - (1 : Int32)).toNatClampNeg)
  refine ok_biv (fun vx26 e27 => ?_)
  have f29 : vx26.toInt = (q_R δ (Ad ad 119) (x4 - (1 : Int32)).toNatClampNeg).toInt := congrArg Int32.toInt e27
  have f30 := ti_b x1
  refine ok_ite (fun h31 => ?_) (fun h31 => ?_)
  · have c32 : x1.toInt = vx14.toInt := o_eq h31
    unfold J_X12_touchPut_39
    exact ok_some (show RI ad h.1 δ0 δ ∧ (kp [(12, 36)] δ δ ∧ q_V δ = q_V δ ∧ kr ad [119] δ δ) ∧ (q_I δ 12 36 a0).toInt = (q_I δ 12 36 a0).toInt ∧ 1 ≤ (1 : Int) ∧ (1 : Int) ≤ VBf (x2).toInt from ⟨I, ⟨kp_w (by decide) kp_r, rfl, kr_w (by decide) (kr_r (ad := ad))⟩, by first | with_reducible assumption | omega, by first | with_reducible assumption | omega, by first | with_reducible assumption | omega⟩)
  · have c33 : x1.toInt ≠ vx14.toInt := o_ne h31
    refine ok_ite (fun h34 => ?_) (fun h34 => ?_)
    · have c35 : x1.toInt = vx26.toInt := o_eq h34
      unfold J_X12_touchPut_39
      exact ok_some (show RI ad h.1 δ0 δ ∧ (kp [(12, 36)] δ δ ∧ q_V δ = q_V δ ∧ kr ad [119] δ δ) ∧ (q_I δ 12 36 a0).toInt = (q_I δ 12 36 a0).toInt ∧ 1 ≤ (1 : Int) ∧ (1 : Int) ≤ VBf (x2).toInt from ⟨I, ⟨kp_w (by decide) kp_r, rfl, kr_w (by decide) (kr_r (ad := ad))⟩, by first | with_reducible assumption | omega, by first | with_reducible assumption | omega, by first | with_reducible assumption | omega⟩)
    · have c36 : x1.toInt ≠ vx26.toInt := o_ne h34
      first | (have q38 := te_sub x4 x3 (by omega) (by omega); obtain ⟨f39, f40, f41⟩ := q38) | (obtain ⟨q38, f39, f40, f41⟩ := ti_sub x4 x3)
      refine ok_ite (fun h42 => ?_) (fun h42 => ?_)
      · have c43 : (x4 - x3).toInt = (1 : Int) := o_eq h42
        unfold J_X12_touchPut_39
        exact ok_some (show RI ad h.1 δ0 δ ∧ (kp [(12, 36)] δ δ ∧ q_V δ = q_V δ ∧ kr ad [119] δ δ) ∧ (q_I δ 12 36 a0).toInt = (q_I δ 12 36 a0).toInt ∧ 1 ≤ (1 : Int) ∧ (1 : Int) ≤ VBf (x2).toInt from ⟨I, ⟨kp_w (by decide) kp_r, rfl, kr_w (by decide) (kr_r (ad := ad))⟩, by first | with_reducible assumption | omega, by first | with_reducible assumption | omega, by first | with_reducible assumption | omega⟩)
      · have c44 : (x4 - x3).toInt ≠ (1 : Int) := o_ne h42
        refine ok_ite (fun h45 => ?_) (fun h45 => ?_)
        · have c46 : vx14.toInt ≤ x1.toInt := o_le h45
          refine ok_ite (fun h47 => ?_) (fun h47 => ?_)
          · have c48 : x1.toInt ≤ vx26.toInt := o_le h47
            refine ok_mono (kj_X12_touchPut_64 L hN (a0 := a0) (x1 := x1) (x2 := x2) (x3 := x3) (x4 := x4) (xs0 := x1) hT k_a0 (show 2 ≤ (x2).toInt by first | with_reducible assumption | omega) (show (x2).toInt ≤ 16 by first | with_reducible assumption | omega) (show 0 ≤ (x3).toInt by first | with_reducible assumption | omega) (show (x3).toInt ≤ (x4).toInt by first | with_reducible assumption | omega) (show (x4).toInt ≤ (x3).toInt + 2000 by first | with_reducible assumption | omega) (show (x4).toInt ≤ (q_I δ 12 36 a0).toInt by first | with_reducible assumption | omega) (show (q_I δ 12 36 a0).toInt + 2000 * LGf (x2).toInt ≤ 12000 by first | with_reducible assumption | omega) (show (x2).toInt ≤ K by first | with_reducible assumption | omega) (show (x3).toInt < (x4).toInt by first | with_reducible assumption | omega) I) (fun r49 hr50 => ?_)
            obtain ⟨i51, ⟨u55, u56, u57⟩, p52, p53, p54⟩ := hr50
            have u58 := kp_t kp_r u55
            have v59 : q_V r49.2 = q_V δ := (u56).trans rfl
            have v60 := kr_t (kr_r (ad := ad)) u57
            have f61 := cb_12_36 i51 k_a0
            have f62 := ti_b r49.1
            exact ⟨by first | with_reducible assumption | assumption, ⟨kp_w (by decide) u58, v59, kr_w (by decide) v60⟩, by first | with_reducible assumption | omega, by first | with_reducible assumption | omega, by first | with_reducible assumption | omega⟩
          · have c63 : vx26.toInt < x1.toInt := o_nle h47
            refine ok_mono (kj_X12_touchPut_64 L hN (a0 := a0) (x1 := x1) (x2 := x2) (x3 := x3) (x4 := x4) (xs0 := vx26) hT k_a0 (show 2 ≤ (x2).toInt by first | with_reducible assumption | omega) (show (x2).toInt ≤ 16 by first | with_reducible assumption | omega) (show 0 ≤ (x3).toInt by first | with_reducible assumption | omega) (show (x3).toInt ≤ (x4).toInt by first | with_reducible assumption | omega) (show (x4).toInt ≤ (x3).toInt + 2000 by first | with_reducible assumption | omega) (show (x4).toInt ≤ (q_I δ 12 36 a0).toInt by first | with_reducible assumption | omega) (show (q_I δ 12 36 a0).toInt + 2000 * LGf (x2).toInt ≤ 12000 by first | with_reducible assumption | omega) (show (x2).toInt ≤ K by first | with_reducible assumption | omega) (show (x3).toInt < (x4).toInt by first | with_reducible assumption | omega) I) (fun r64 hr65 => ?_)
            obtain ⟨i66, ⟨u70, u71, u72⟩, p67, p68, p69⟩ := hr65
            have u73 := kp_t kp_r u70
            have v74 : q_V r64.2 = q_V δ := (u71).trans rfl
            have v75 := kr_t (kr_r (ad := ad)) u72
            have f76 := cb_12_36 i66 k_a0
            have f77 := ti_b r64.1
            exact ⟨by first | with_reducible assumption | assumption, ⟨kp_w (by decide) u73, v74, kr_w (by decide) v75⟩, by first | with_reducible assumption | omega, by first | with_reducible assumption | omega, by first | with_reducible assumption | omega⟩
        · have c78 : x1.toInt < vx14.toInt := o_nle h45
          refine ok_mono (kj_X12_touchPut_64 L hN (a0 := a0) (x1 := x1) (x2 := x2) (x3 := x3) (x4 := x4) (xs0 := vx14) hT k_a0 (show 2 ≤ (x2).toInt by first | with_reducible assumption | omega) (show (x2).toInt ≤ 16 by first | with_reducible assumption | omega) (show 0 ≤ (x3).toInt by first | with_reducible assumption | omega) (show (x3).toInt ≤ (x4).toInt by first | with_reducible assumption | omega) (show (x4).toInt ≤ (x3).toInt + 2000 by first | with_reducible assumption | omega) (show (x4).toInt ≤ (q_I δ 12 36 a0).toInt by first | with_reducible assumption | omega) (show (q_I δ 12 36 a0).toInt + 2000 * LGf (x2).toInt ≤ 12000 by first | with_reducible assumption | omega) (show (x2).toInt ≤ K by first | with_reducible assumption | omega) (show (x3).toInt < (x4).toInt by first | with_reducible assumption | omega) I) (fun r79 hr80 => ?_)
          obtain ⟨i81, ⟨u85, u86, u87⟩, p82, p83, p84⟩ := hr80
          have u88 := kp_t kp_r u85
          have v89 : q_V r79.2 = q_V δ := (u86).trans rfl
          have v90 := kr_t (kr_r (ad := ad)) u87
          have f91 := cb_12_36 i81 k_a0
          have f92 := ti_b r79.1
          exact ⟨by first | with_reducible assumption | assumption, ⟨kp_w (by decide) u88, v89, kr_w (by decide) v90⟩, by first | with_reducible assumption | omega, by first | with_reducible assumption | omega, by first | with_reducible assumption | omega⟩
set_option maxHeartbeats 4000000 in
theorem kj_X12_touchDrop_121 {ad : List Nat} {h : hp} (L : Lay TLx ad h) {δ0 : dp} {N : Nat} (hN : 10000000 ≤ N) {T : Nat → Int32 → Int32 → Int32 → Int32 → Int32 → dp → Option (Int32 × dp)} {K : Int} (hT : ∀ (a0 : Nat) (x1 : Int32) (x2 : Int32) (x3 : Int32) (x4 : Int32) (x5 : Int32) (δ : dp), q_K h.1 a0 = 12 → 1 ≤ (x3).toInt → (x3).toInt ≤ 16 → 0 ≤ (x4).toInt → (x4).toInt ≤ (x5).toInt → (x5).toInt ≤ (x4).toInt + 2000 → (x5).toInt ≤ (q_I δ 12 36 a0).toInt → (q_I δ 12 36 a0).toInt + 2000 * LGf (x3).toInt ≤ 12000 → (x3).toInt < K → RI ad h.1 δ0 δ → ok (T a0 x1 x2 x3 x4 x5 δ) (fun r => RI ad h.1 δ0 r.2 ∧ (kp [(12, 36)] δ r.2 ∧ q_V r.2 = q_V δ ∧ kr ad [119] δ r.2) ∧ (q_I r.2 12 36 a0).toInt = (q_I δ 12 36 a0).toInt ∧ 1 ≤ (r.1).toInt ∧ (r.1).toInt ≤ VBf (x3).toInt)) {a0 : Nat} {x1 : Int32} {x2 : Int32} {x3 : Int32} {x4 : Int32} {xs0 : Int32} {x8v : Int32} (k_a0 : q_K h.1 a0 = 12) {δ : dp} (z0 : 2 ≤ (x2).toInt) (z1 : (x2).toInt ≤ 16) (z2 : 0 ≤ (x3).toInt) (z3 : (x3).toInt ≤ (x4).toInt) (z4 : (x4).toInt ≤ (x3).toInt + 2000) (z5 : (x4).toInt ≤ (q_I δ 12 36 a0).toInt) (z6 : (q_I δ 12 36 a0).toInt + 2000 * LGf (x2).toInt ≤ 12000) (z7 : (x2).toInt ≤ K) (z8 : (x3).toInt < (x4).toInt) (z9 : 1 ≤ (x8v).toInt) (z10 : (x8v).toInt ≤ 3) (I : RI ad h.1 δ0 δ) : ok (J_X12_touchDrop_121 N h.1 T a0 x1 x2 x3 x4 xs0 x8v δ) (fun r => RI ad h.1 δ0 r.2 ∧ (kp [(12, 36)] δ r.2 ∧ q_V r.2 = q_V δ ∧ kr ad [119] δ r.2) ∧ (q_I r.2 12 36 a0).toInt = (q_I δ 12 36 a0).toInt ∧ 1 ≤ (r.1).toInt ∧ (r.1).toInt ≤ VBf (x2).toInt) := by
  unfold J_X12_touchDrop_121
  have f1 := lgb (x2).toInt
  have f2 := ti_b x2
  have f3 := ti_b x3
  have f4 := ti_b x4
  have f5 := cb_12_36 I k_a0
  have f6 := ti_b x8v
  refine ok_bind (k_X12_roomMany L hN (a0 := a0) (x1 := xs0) (x2 := x2) (x3 := x3) (x4 := x4) k_a0 (show 2 ≤ (x2).toInt by first | with_reducible assumption | omega) (show (x2).toInt ≤ 16 by first | with_reducible assumption | omega) (show 0 ≤ (x3).toInt by first | with_reducible assumption | omega) (show (x3).toInt ≤ (x4).toInt by first | with_reducible assumption | omega) (show (x4).toInt ≤ 14000 by first | with_reducible assumption | omega) I) (fun r7 hr8 => ?_)
  have i9 := hr8
  try rw [i9]
  have f10 := ti_b r7.1
  refine ok_ite (fun h11 => ?_) (fun h11 => ?_)
  · have c12 : r7.1.toInt = (0 : Int) := o_eq h11
    exact ok_some (show RI ad h.1 δ0 δ ∧ (kp [(12, 36)] δ δ ∧ q_V δ = q_V δ ∧ kr ad [119] δ δ) ∧ (q_I δ 12 36 a0).toInt = (q_I δ 12 36 a0).toInt ∧ 1 ≤ (x8v).toInt ∧ (x8v).toInt ≤ VBf (x2).toInt from ⟨I, ⟨kp_w (by decide) kp_r, rfl, kr_w (by decide) (kr_r (ad := ad))⟩, by first | with_reducible assumption | omega, by first | with_reducible assumption | omega, by first | with_reducible assumption | omega⟩)
  · have c13 : r7.1.toInt ≠ (0 : Int) := o_ne h11
    refine ok_ite (fun h14 => ?_) (fun h14 => ?_)
    · have c15 : r7.1.toInt = (1 : Int) := o_eq h14
      refine ok_bind (k_X12_isInside L hN (a0 := a0) (x1 := xs0) (x2 := x3) (x3 := x4) k_a0 (show 0 ≤ (x3).toInt by first | with_reducible assumption | omega) (show (x3).toInt ≤ (x4).toInt by first | with_reducible assumption | omega) (show (x4).toInt ≤ 14000 by first | with_reducible assumption | omega) I) (fun r16 hr17 => ?_)
      obtain ⟨i18, p19⟩ := hr17
      try rw [i18]
      have f20 := bo_l p19
      have f21 := ti_b r16.1
      refine ok_ite (fun h22 => ?_) (fun h22 => ?_)
      · have c23 : r16.1.toInt = (0 : Int) := o_eq h22
        unfold J_X12_touchDrop_165
        unfold J_X12_touchDrop_166
        refine ok_bind (k_bX12_inRoom L hN (a0 := a0) (x1 := (1 : Int32)) (x2 := xs0) (x3 := x2) (x4 := x3) (x5 := x4) hT k_a0 (show 2 ≤ (x2).toInt by first | with_reducible assumption | omega) (show (x2).toInt ≤ 16 by first | with_reducible assumption | omega) (show 0 ≤ (x3).toInt by first | with_reducible assumption | omega) (show (x3).toInt ≤ (x4).toInt by first | with_reducible assumption | omega) (show (x4).toInt ≤ (x3).toInt + 2000 by first | with_reducible assumption | omega) (show (x4).toInt ≤ (q_I δ 12 36 a0).toInt by first | with_reducible assumption | omega) (show (q_I δ 12 36 a0).toInt + 2000 * LGf (x2).toInt ≤ 12000 by first | with_reducible assumption | omega) (show (x2).toInt ≤ K by first | with_reducible assumption | omega) I) (fun r24 hr25 => ?_)
        obtain ⟨i26, ⟨u30, u31, u32⟩, p27, p28, p29⟩ := hr25
        have u33 := kp_t kp_r u30
        have v34 : q_V r24.2 = q_V δ := (u31).trans rfl
        have v35 := kr_t (kr_r (ad := ad)) u32
        have f36 := cb_12_36 i26 k_a0
        have f37 := ti_b r24.1
        refine ok_ite (fun h38 => ?_) (fun h38 => ?_)
        · have c39 : (0 : Int) = (0 : Int) := o_eq h38
          unfold J_X12_touchDrop_202
          first | (have q41 := te_add x8v r24.1 (by omega) (by omega); obtain ⟨f42, f43, f44⟩ := q41) | (obtain ⟨q41, f42, f43, f44⟩ := ti_add x8v r24.1)
          first | (have q46 := te_addc (c := 0) (n := 0) rfl (x8v + r24.1) (by omega) (by omega); obtain ⟨f47, f48, f49⟩ := q46) | (obtain ⟨q46, f47, f48, f49⟩ := ti_addc (c := 0) (n := 0) rfl (x8v + r24.1))
          exact ok_some (show RI ad h.1 δ0 r24.2 ∧ (kp [(12, 36)] δ r24.2 ∧ q_V r24.2 = q_V δ ∧ kr ad [119] δ r24.2) ∧ (q_I r24.2 12 36 a0).toInt = (q_I δ 12 36 a0).toInt ∧ 1 ≤ (((x8v + r24.1) + (0 : Int32))).toInt ∧ (((x8v + r24.1) + (0 : Int32))).toInt ≤ VBf (x2).toInt from ⟨i26, ⟨kp_w (by decide) u33, v34, kr_w (by decide) v35⟩, by first | with_reducible assumption | omega, by first | with_reducible assumption | omega, by first | with_reducible assumption | omega⟩)
        · have c50 : (0 : Int) ≠ (0 : Int) := o_ne h38
          refine ok_bind (k_bX12_inList L hN (a0 := a0) (x1 := (1 : Int32)) (x2 := xs0) (x3 := x2) (x4 := x3) (x5 := x4) hT k_a0 (show 2 ≤ (x2).toInt by first | with_reducible assumption | omega) (show (x2).toInt ≤ 16 by first | with_reducible assumption | omega) (show 0 ≤ (x3).toInt by first | with_reducible assumption | omega) (show (x3).toInt ≤ (x4).toInt by first | with_reducible assumption | omega) (show (x4).toInt ≤ (x3).toInt + 2000 by first | with_reducible assumption | omega) (show (x4).toInt ≤ (q_I r24.2 12 36 a0).toInt by first | with_reducible assumption | omega) (show (q_I r24.2 12 36 a0).toInt + 2000 * LGf (x2).toInt ≤ 12000 by first | with_reducible assumption | omega) (show (x2).toInt ≤ K by first | with_reducible assumption | omega) i26) (fun r51 hr52 => ?_)
          obtain ⟨i53, ⟨u57, u58, u59⟩, p54, p55, p56⟩ := hr52
          have u60 := kp_t u33 u57
          have v61 : q_V r51.2 = q_V δ := (u58).trans v34
          have v62 := kr_t v35 u59
          have f63 := cb_12_36 i53 k_a0
          have f64 := ti_b r51.1
          unfold J_X12_touchDrop_202
          first | (have q66 := te_add x8v r24.1 (by omega) (by omega); obtain ⟨f67, f68, f69⟩ := q66) | (obtain ⟨q66, f67, f68, f69⟩ := ti_add x8v r24.1)
          first | (have q71 := te_add (x8v + r24.1) r51.1 (by omega) (by omega); obtain ⟨f72, f73, f74⟩ := q71) | (obtain ⟨q71, f72, f73, f74⟩ := ti_add (x8v + r24.1) r51.1)
          exact ok_some (show RI ad h.1 δ0 r51.2 ∧ (kp [(12, 36)] δ r51.2 ∧ q_V r51.2 = q_V δ ∧ kr ad [119] δ r51.2) ∧ (q_I r51.2 12 36 a0).toInt = (q_I δ 12 36 a0).toInt ∧ 1 ≤ (((x8v + r24.1) + r51.1)).toInt ∧ (((x8v + r24.1) + r51.1)).toInt ≤ VBf (x2).toInt from ⟨i53, ⟨kp_w (by decide) u60, v61, kr_w (by decide) v62⟩, by first | with_reducible assumption | omega, by first | with_reducible assumption | omega, by first | with_reducible assumption | omega⟩)
      · have c75 : r16.1.toInt ≠ (0 : Int) := o_ne h22
        unfold J_X12_touchDrop_166
        refine ok_bind (k_bX12_inRoom L hN (a0 := a0) (x1 := (1 : Int32)) (x2 := xs0) (x3 := x2) (x4 := x3) (x5 := x4) hT k_a0 (show 2 ≤ (x2).toInt by first | with_reducible assumption | omega) (show (x2).toInt ≤ 16 by first | with_reducible assumption | omega) (show 0 ≤ (x3).toInt by first | with_reducible assumption | omega) (show (x3).toInt ≤ (x4).toInt by first | with_reducible assumption | omega) (show (x4).toInt ≤ (x3).toInt + 2000 by first | with_reducible assumption | omega) (show (x4).toInt ≤ (q_I δ 12 36 a0).toInt by first | with_reducible assumption | omega) (show (q_I δ 12 36 a0).toInt + 2000 * LGf (x2).toInt ≤ 12000 by first | with_reducible assumption | omega) (show (x2).toInt ≤ K by first | with_reducible assumption | omega) I) (fun r76 hr77 => ?_)
        obtain ⟨i78, ⟨u82, u83, u84⟩, p79, p80, p81⟩ := hr77
        have u85 := kp_t kp_r u82
        have v86 : q_V r76.2 = q_V δ := (u83).trans rfl
        have v87 := kr_t (kr_r (ad := ad)) u84
        have f88 := cb_12_36 i78 k_a0
        have f89 := ti_b r76.1
        refine ok_ite (fun h90 => ?_) (fun h90 => ?_)
        · have c91 : (1 : Int) = (0 : Int) := o_eq h90
          unfold J_X12_touchDrop_202
          first | (have q93 := te_add x8v r76.1 (by omega) (by omega); obtain ⟨f94, f95, f96⟩ := q93) | (obtain ⟨q93, f94, f95, f96⟩ := ti_add x8v r76.1)
          first | (have q98 := te_addc (c := 0) (n := 0) rfl (x8v + r76.1) (by omega) (by omega); obtain ⟨f99, f100, f101⟩ := q98) | (obtain ⟨q98, f99, f100, f101⟩ := ti_addc (c := 0) (n := 0) rfl (x8v + r76.1))
          exact ok_some (show RI ad h.1 δ0 r76.2 ∧ (kp [(12, 36)] δ r76.2 ∧ q_V r76.2 = q_V δ ∧ kr ad [119] δ r76.2) ∧ (q_I r76.2 12 36 a0).toInt = (q_I δ 12 36 a0).toInt ∧ 1 ≤ (((x8v + r76.1) + (0 : Int32))).toInt ∧ (((x8v + r76.1) + (0 : Int32))).toInt ≤ VBf (x2).toInt from ⟨i78, ⟨kp_w (by decide) u85, v86, kr_w (by decide) v87⟩, by first | with_reducible assumption | omega, by first | with_reducible assumption | omega, by first | with_reducible assumption | omega⟩)
        · have c102 : (1 : Int) ≠ (0 : Int) := o_ne h90
          refine ok_bind (k_bX12_inList L hN (a0 := a0) (x1 := (1 : Int32)) (x2 := xs0) (x3 := x2) (x4 := x3) (x5 := x4) hT k_a0 (show 2 ≤ (x2).toInt by first | with_reducible assumption | omega) (show (x2).toInt ≤ 16 by first | with_reducible assumption | omega) (show 0 ≤ (x3).toInt by first | with_reducible assumption | omega) (show (x3).toInt ≤ (x4).toInt by first | with_reducible assumption | omega) (show (x4).toInt ≤ (x3).toInt + 2000 by first | with_reducible assumption | omega) (show (x4).toInt ≤ (q_I r76.2 12 36 a0).toInt by first | with_reducible assumption | omega) (show (q_I r76.2 12 36 a0).toInt + 2000 * LGf (x2).toInt ≤ 12000 by first | with_reducible assumption | omega) (show (x2).toInt ≤ K by first | with_reducible assumption | omega) i78) (fun r103 hr104 => ?_)
          obtain ⟨i105, ⟨u109, u110, u111⟩, p106, p107, p108⟩ := hr104
          have u112 := kp_t u85 u109
          have v113 : q_V r103.2 = q_V δ := (u110).trans v86
          have v114 := kr_t v87 u111
          have f115 := cb_12_36 i105 k_a0
          have f116 := ti_b r103.1
          unfold J_X12_touchDrop_202
          first | (have q118 := te_add x8v r76.1 (by omega) (by omega); obtain ⟨f119, f120, f121⟩ := q118) | (obtain ⟨q118, f119, f120, f121⟩ := ti_add x8v r76.1)
          first | (have q123 := te_add (x8v + r76.1) r103.1 (by omega) (by omega); obtain ⟨f124, f125, f126⟩ := q123) | (obtain ⟨q123, f124, f125, f126⟩ := ti_add (x8v + r76.1) r103.1)
          exact ok_some (show RI ad h.1 δ0 r103.2 ∧ (kp [(12, 36)] δ r103.2 ∧ q_V r103.2 = q_V δ ∧ kr ad [119] δ r103.2) ∧ (q_I r103.2 12 36 a0).toInt = (q_I δ 12 36 a0).toInt ∧ 1 ≤ (((x8v + r76.1) + r103.1)).toInt ∧ (((x8v + r76.1) + r103.1)).toInt ≤ VBf (x2).toInt from ⟨i105, ⟨kp_w (by decide) u112, v113, kr_w (by decide) v114⟩, by first | with_reducible assumption | omega, by first | with_reducible assumption | omega, by first | with_reducible assumption | omega⟩)
    · have c127 : r7.1.toInt ≠ (1 : Int) := o_ne h14
      unfold J_X12_touchDrop_165
      unfold J_X12_touchDrop_166
      refine ok_bind (k_bX12_inRoom L hN (a0 := a0) (x1 := (1 : Int32)) (x2 := xs0) (x3 := x2) (x4 := x3) (x5 := x4) hT k_a0 (show 2 ≤ (x2).toInt by first | with_reducible assumption | omega) (show (x2).toInt ≤ 16 by first | with_reducible assumption | omega) (show 0 ≤ (x3).toInt by first | with_reducible assumption | omega) (show (x3).toInt ≤ (x4).toInt by first | with_reducible assumption | omega) (show (x4).toInt ≤ (x3).toInt + 2000 by first | with_reducible assumption | omega) (show (x4).toInt ≤ (q_I δ 12 36 a0).toInt by first | with_reducible assumption | omega) (show (q_I δ 12 36 a0).toInt + 2000 * LGf (x2).toInt ≤ 12000 by first | with_reducible assumption | omega) (show (x2).toInt ≤ K by first | with_reducible assumption | omega) I) (fun r128 hr129 => ?_)
      obtain ⟨i130, ⟨u134, u135, u136⟩, p131, p132, p133⟩ := hr129
      have u137 := kp_t kp_r u134
      have v138 : q_V r128.2 = q_V δ := (u135).trans rfl
      have v139 := kr_t (kr_r (ad := ad)) u136
      have f140 := cb_12_36 i130 k_a0
      have f141 := ti_b r128.1
      refine ok_ite (fun h142 => ?_) (fun h142 => ?_)
      · have c143 : (0 : Int) = (0 : Int) := o_eq h142
        unfold J_X12_touchDrop_202
        first | (have q145 := te_add x8v r128.1 (by omega) (by omega); obtain ⟨f146, f147, f148⟩ := q145) | (obtain ⟨q145, f146, f147, f148⟩ := ti_add x8v r128.1)
        first | (have q150 := te_addc (c := 0) (n := 0) rfl (x8v + r128.1) (by omega) (by omega); obtain ⟨f151, f152, f153⟩ := q150) | (obtain ⟨q150, f151, f152, f153⟩ := ti_addc (c := 0) (n := 0) rfl (x8v + r128.1))
        exact ok_some (show RI ad h.1 δ0 r128.2 ∧ (kp [(12, 36)] δ r128.2 ∧ q_V r128.2 = q_V δ ∧ kr ad [119] δ r128.2) ∧ (q_I r128.2 12 36 a0).toInt = (q_I δ 12 36 a0).toInt ∧ 1 ≤ (((x8v + r128.1) + (0 : Int32))).toInt ∧ (((x8v + r128.1) + (0 : Int32))).toInt ≤ VBf (x2).toInt from ⟨i130, ⟨kp_w (by decide) u137, v138, kr_w (by decide) v139⟩, by first | with_reducible assumption | omega, by first | with_reducible assumption | omega, by first | with_reducible assumption | omega⟩)
      · have c154 : (0 : Int) ≠ (0 : Int) := o_ne h142
        refine ok_bind (k_bX12_inList L hN (a0 := a0) (x1 := (1 : Int32)) (x2 := xs0) (x3 := x2) (x4 := x3) (x5 := x4) hT k_a0 (show 2 ≤ (x2).toInt by first | with_reducible assumption | omega) (show (x2).toInt ≤ 16 by first | with_reducible assumption | omega) (show 0 ≤ (x3).toInt by first | with_reducible assumption | omega) (show (x3).toInt ≤ (x4).toInt by first | with_reducible assumption | omega) (show (x4).toInt ≤ (x3).toInt + 2000 by first | with_reducible assumption | omega) (show (x4).toInt ≤ (q_I r128.2 12 36 a0).toInt by first | with_reducible assumption | omega) (show (q_I r128.2 12 36 a0).toInt + 2000 * LGf (x2).toInt ≤ 12000 by first | with_reducible assumption | omega) (show (x2).toInt ≤ K by first | with_reducible assumption | omega) i130) (fun r155 hr156 => ?_)
        obtain ⟨i157, ⟨u161, u162, u163⟩, p158, p159, p160⟩ := hr156
        have u164 := kp_t u137 u161
        have v165 : q_V r155.2 = q_V δ := (u162).trans v138
        have v166 := kr_t v139 u163
        have f167 := cb_12_36 i157 k_a0
        have f168 := ti_b r155.1
        unfold J_X12_touchDrop_202
        first | (have q170 := te_add x8v r128.1 (by omega) (by omega); obtain ⟨f171, f172, f173⟩ := q170) | (obtain ⟨q170, f171, f172, f173⟩ := ti_add x8v r128.1)
        first | (have q175 := te_add (x8v + r128.1) r155.1 (by omega) (by omega); obtain ⟨f176, f177, f178⟩ := q175) | (obtain ⟨q175, f176, f177, f178⟩ := ti_add (x8v + r128.1) r155.1)
        exact ok_some (show RI ad h.1 δ0 r155.2 ∧ (kp [(12, 36)] δ r155.2 ∧ q_V r155.2 = q_V δ ∧ kr ad [119] δ r155.2) ∧ (q_I r155.2 12 36 a0).toInt = (q_I δ 12 36 a0).toInt ∧ 1 ≤ (((x8v + r128.1) + r155.1)).toInt ∧ (((x8v + r128.1) + r155.1)).toInt ≤ VBf (x2).toInt from ⟨i157, ⟨kp_w (by decide) u164, v165, kr_w (by decide) v166⟩, by first | with_reducible assumption | omega, by first | with_reducible assumption | omega, by first | with_reducible assumption | omega⟩)
set_option maxHeartbeats 4000000 in
theorem kj_X12_touchDrop_36 {ad : List Nat} {h : hp} (L : Lay TLx ad h) {δ0 : dp} {N : Nat} (hN : 10000000 ≤ N) {T : Nat → Int32 → Int32 → Int32 → Int32 → Int32 → dp → Option (Int32 × dp)} {K : Int} (hT : ∀ (a0 : Nat) (x1 : Int32) (x2 : Int32) (x3 : Int32) (x4 : Int32) (x5 : Int32) (δ : dp), q_K h.1 a0 = 12 → 1 ≤ (x3).toInt → (x3).toInt ≤ 16 → 0 ≤ (x4).toInt → (x4).toInt ≤ (x5).toInt → (x5).toInt ≤ (x4).toInt + 2000 → (x5).toInt ≤ (q_I δ 12 36 a0).toInt → (q_I δ 12 36 a0).toInt + 2000 * LGf (x3).toInt ≤ 12000 → (x3).toInt < K → RI ad h.1 δ0 δ → ok (T a0 x1 x2 x3 x4 x5 δ) (fun r => RI ad h.1 δ0 r.2 ∧ (kp [(12, 36)] δ r.2 ∧ q_V r.2 = q_V δ ∧ kr ad [119] δ r.2) ∧ (q_I r.2 12 36 a0).toInt = (q_I δ 12 36 a0).toInt ∧ 1 ≤ (r.1).toInt ∧ (r.1).toInt ≤ VBf (x3).toInt)) {a0 : Nat} {x1 : Int32} {x2 : Int32} {x3 : Int32} {x4 : Int32} {xs0 : Int32} {x5v : Int32} {x6v : Int32} (k_a0 : q_K h.1 a0 = 12) {δ : dp} (z0 : 2 ≤ (x2).toInt) (z1 : (x2).toInt ≤ 16) (z2 : 0 ≤ (x3).toInt) (z3 : (x3).toInt ≤ (x4).toInt) (z4 : (x4).toInt ≤ (x3).toInt + 2000) (z5 : (x4).toInt ≤ (q_I δ 12 36 a0).toInt) (z6 : (q_I δ 12 36 a0).toInt + 2000 * LGf (x2).toInt ≤ 12000) (z7 : (x2).toInt ≤ K) (z8 : (x3).toInt < (x4).toInt) (z9 : 0 ≤ (xs0).toInt) (z10 : (xs0).toInt ≤ 1) (I : RI ad h.1 δ0 δ) : ok (J_X12_touchDrop_36 N h.1 T a0 x1 x2 x3 x4 xs0 x5v x6v δ) (fun r => RI ad h.1 δ0 r.2 ∧ (kp [(12, 36)] δ r.2 ∧ q_V r.2 = q_V δ ∧ kr ad [119] δ r.2) ∧ (q_I r.2 12 36 a0).toInt = (q_I δ 12 36 a0).toInt ∧ 1 ≤ (r.1).toInt ∧ (r.1).toInt ≤ VBf (x2).toInt) := by
  unfold J_X12_touchDrop_36
  have f1 := lgb (x2).toInt
  have f2 := ti_b x2
  have f3 := ti_b x3
  have f4 := ti_b x4
  have f5 := cb_12_36 I k_a0
  have f6 := ti_b xs0
  have f7 := ti_b x1
  have f8 := ti_b x5v
  refine ok_ite (fun h9 => ?_) (fun h9 => ?_)
  · have c10 : x1.toInt < x5v.toInt := o_lt h9
    unfold J_X12_touchDrop_71
    exact ok_some (show RI ad h.1 δ0 δ ∧ (kp [(12, 36)] δ δ ∧ q_V δ = q_V δ ∧ kr ad [119] δ δ) ∧ (q_I δ 12 36 a0).toInt = (q_I δ 12 36 a0).toInt ∧ 1 ≤ (1 : Int) ∧ (1 : Int) ≤ VBf (x2).toInt from ⟨I, ⟨kp_w (by decide) kp_r, rfl, kr_w (by decide) (kr_r (ad := ad))⟩, by first | with_reducible assumption | omega, by first | with_reducible assumption | omega, by first | with_reducible assumption | omega⟩)
  · have c11 : x5v.toInt ≤ x1.toInt := o_nlt h9
    have f12 := ti_b x6v
    refine ok_ite (fun h13 => ?_) (fun h13 => ?_)
    · have c14 : x6v.toInt < x1.toInt := o_lt h13
      unfold J_X12_touchDrop_71
      exact ok_some (show RI ad h.1 δ0 δ ∧ (kp [(12, 36)] δ δ ∧ q_V δ = q_V δ ∧ kr ad [119] δ δ) ∧ (q_I δ 12 36 a0).toInt = (q_I δ 12 36 a0).toInt ∧ 1 ≤ (1 : Int) ∧ (1 : Int) ≤ VBf (x2).toInt from ⟨I, ⟨kp_w (by decide) kp_r, rfl, kr_w (by decide) (kr_r (ad := ad))⟩, by first | with_reducible assumption | omega, by first | with_reducible assumption | omega, by first | with_reducible assumption | omega⟩)
    · have c15 : x1.toInt ≤ x6v.toInt := o_nlt h13
      first | (have q17 := te_sub x4 x3 (by omega) (by omega); obtain ⟨f18, f19, f20⟩ := q17) | (obtain ⟨q17, f18, f19, f20⟩ := ti_sub x4 x3)
      refine ok_ite (fun h21 => ?_) (fun h21 => ?_)
      · have c22 : (x4 - x3).toInt = (1 : Int) := o_eq h21
        unfold J_X12_touchDrop_71
        exact ok_some (show RI ad h.1 δ0 δ ∧ (kp [(12, 36)] δ δ ∧ q_V δ = q_V δ ∧ kr ad [119] δ δ) ∧ (q_I δ 12 36 a0).toInt = (q_I δ 12 36 a0).toInt ∧ 1 ≤ (1 : Int) ∧ (1 : Int) ≤ VBf (x2).toInt from ⟨I, ⟨kp_w (by decide) kp_r, rfl, kr_w (by decide) (kr_r (ad := ad))⟩, by first | with_reducible assumption | omega, by first | with_reducible assumption | omega, by first | with_reducible assumption | omega⟩)
      · have c23 : (x4 - x3).toInt ≠ (1 : Int) := o_ne h21
        refine ok_ite (fun h24 => ?_) (fun h24 => ?_)
        · have c25 : xs0.toInt = (0 : Int) := o_eq h24
          unfold J_X12_touchDrop_73
          refine ok_ite (fun h26 => ?_) (fun h26 => ?_)
          · have c27 : xs0.toInt = (0 : Int) := o_eq h26
            unfold J_X12_touchDrop_83
            refine ok_ite (fun h28 => ?_) (fun h28 => ?_)
            · have c29 : x1.toInt = x5v.toInt := o_eq h28
              obtain ⟨b30, o31, k32, n33, w34⟩ := gO_12_35 L k_a0
              obtain rfl := gS_12_35 L k_a0 o31
              refine ok_at o31 ?_
              first | (have q36 := te_addc (c := 1) (n := 1) rfl x3 (by omega) (by omega); obtain ⟨f37, f38, f39⟩ := q36) | (obtain ⟨q36, f37, f38, f39⟩ := ti_addc (c := 1) (n := 1) rfl x3)
              have t40 := ti_tn (x3 + (1 : Int32))
              refine ok_gd (fun hc41 => ?_) ?_
              · rcases hc41 with hc41 | hc41
                · have c42 : (x3 + (1 : Int32)).toInt < (0 : Int) := o_lt hc41
                  omega
                · omega
              refine ok_mono (kj_X12_touchDrop_121 L hN (a0 := a0) (x1 := x1) (x2 := x2) (x3 := x3) (x4 := x4) (xs0 := (q_R δ (Ad ad 119) (x3 + (1 : Int32)).toNatClampNeg)) (x8v := (1 : Int32)) hT k_a0 (show 2 ≤ (x2).toInt by first | with_reducible assumption | omega) (show (x2).toInt ≤ 16 by first | with_reducible assumption | omega) (show 0 ≤ (x3).toInt by first | with_reducible assumption | omega) (show (x3).toInt ≤ (x4).toInt by first | with_reducible assumption | omega) (show (x4).toInt ≤ (x3).toInt + 2000 by first | with_reducible assumption | omega) (show (x4).toInt ≤ (q_I δ 12 36 a0).toInt by first | with_reducible assumption | omega) (show (q_I δ 12 36 a0).toInt + 2000 * LGf (x2).toInt ≤ 12000 by first | with_reducible assumption | omega) (show (x2).toInt ≤ K by first | with_reducible assumption | omega) (show (x3).toInt < (x4).toInt by first | with_reducible assumption | omega) (show 1 ≤ (1 : Int) by first | with_reducible assumption | omega) (show (1 : Int) ≤ 3 by first | with_reducible assumption | omega) I) (fun r43 hr44 => ?_)
              obtain ⟨i45, ⟨u49, u50, u51⟩, p46, p47, p48⟩ := hr44
              have u52 := kp_t kp_r u49
              have v53 : q_V r43.2 = q_V δ := (u50).trans rfl
              have v54 := kr_t (kr_r (ad := ad)) u51
              have f55 := cb_12_36 i45 k_a0
              have f56 := ti_b r43.1
              exact ⟨by first | with_reducible assumption | assumption, ⟨kp_w (by decide) u52, v53, kr_w (by decide) v54⟩, by first | with_reducible assumption | omega, by first | with_reducible assumption | omega, by first | with_reducible assumption | omega⟩
            · have c57 : x1.toInt ≠ x5v.toInt := o_ne h28
              refine ok_ite (fun h58 => ?_) (fun h58 => ?_)
              · have c59 : x1.toInt = x6v.toInt := o_eq h58
                obtain ⟨b60, o61, k62, n63, w64⟩ := gO_12_35 L k_a0
                obtain rfl := gS_12_35 L k_a0 o61
                refine ok_at o61 ?_
                first | (have q66 := te_subc (c := 2) (n := 2) rfl x4 (by omega) (by omega); obtain ⟨f67, f68, f69⟩ := q66) | (obtain ⟨q66, f67, f68, f69⟩ := ti_subc (c := 2) (n := 2) rfl x4)
                have t70 := ti_tn (x4 - (2 : Int32))
                refine ok_gd (fun hc71 => ?_) ?_
                · rcases hc71 with hc71 | hc71
                  · have c72 : (x4 - (2 : Int32)).toInt < (0 : Int) := o_lt hc71
                    omega
                  · omega
                refine ok_mono (kj_X12_touchDrop_121 L hN (a0 := a0) (x1 := x1) (x2 := x2) (x3 := x3) (x4 := x4) (xs0 := (q_R δ (Ad ad 119) (x4 - (2 : Int32)).toNatClampNeg)) (x8v := (1 : Int32)) hT k_a0 (show 2 ≤ (x2).toInt by first | with_reducible assumption | omega) (show (x2).toInt ≤ 16 by first | with_reducible assumption | omega) (show 0 ≤ (x3).toInt by first | with_reducible assumption | omega) (show (x3).toInt ≤ (x4).toInt by first | with_reducible assumption | omega) (show (x4).toInt ≤ (x3).toInt + 2000 by first | with_reducible assumption | omega) (show (x4).toInt ≤ (q_I δ 12 36 a0).toInt by first | with_reducible assumption | omega) (show (q_I δ 12 36 a0).toInt + 2000 * LGf (x2).toInt ≤ 12000 by first | with_reducible assumption | omega) (show (x2).toInt ≤ K by first | with_reducible assumption | omega) (show (x3).toInt < (x4).toInt by first | with_reducible assumption | omega) (show 1 ≤ (1 : Int) by first | with_reducible assumption | omega) (show (1 : Int) ≤ 3 by first | with_reducible assumption | omega) I) (fun r73 hr74 => ?_)
                obtain ⟨i75, ⟨u79, u80, u81⟩, p76, p77, p78⟩ := hr74
                have u82 := kp_t kp_r u79
                have v83 : q_V r73.2 = q_V δ := (u80).trans rfl
                have v84 := kr_t (kr_r (ad := ad)) u81
                have f85 := cb_12_36 i75 k_a0
                have f86 := ti_b r73.1
                exact ⟨by first | with_reducible assumption | assumption, ⟨kp_w (by decide) u82, v83, kr_w (by decide) v84⟩, by first | with_reducible assumption | omega, by first | with_reducible assumption | omega, by first | with_reducible assumption | omega⟩
              · have c87 : x1.toInt ≠ x6v.toInt := o_ne h58
                refine ok_mono (kj_X12_touchDrop_121 L hN (a0 := a0) (x1 := x1) (x2 := x2) (x3 := x3) (x4 := x4) (xs0 := x1) (x8v := (1 : Int32)) hT k_a0 (show 2 ≤ (x2).toInt by first | with_reducible assumption | omega) (show (x2).toInt ≤ 16 by first | with_reducible assumption | omega) (show 0 ≤ (x3).toInt by first | with_reducible assumption | omega) (show (x3).toInt ≤ (x4).toInt by first | with_reducible assumption | omega) (show (x4).toInt ≤ (x3).toInt + 2000 by first | with_reducible assumption | omega) (show (x4).toInt ≤ (q_I δ 12 36 a0).toInt by first | with_reducible assumption | omega) (show (q_I δ 12 36 a0).toInt + 2000 * LGf (x2).toInt ≤ 12000 by first | with_reducible assumption | omega) (show (x2).toInt ≤ K by first | with_reducible assumption | omega) (show (x3).toInt < (x4).toInt by first | with_reducible assumption | omega) (show 1 ≤ (1 : Int) by first | with_reducible assumption | omega) (show (1 : Int) ≤ 3 by first | with_reducible assumption | omega) I) (fun r88 hr89 => ?_)
                obtain ⟨i90, ⟨u94, u95, u96⟩, p91, p92, p93⟩ := hr89
                have u97 := kp_t kp_r u94
                have v98 : q_V r88.2 = q_V δ := (u95).trans rfl
                have v99 := kr_t (kr_r (ad := ad)) u96
                have f100 := cb_12_36 i90 k_a0
                have f101 := ti_b r88.1
                exact ⟨by first | with_reducible assumption | assumption, ⟨kp_w (by decide) u97, v98, kr_w (by decide) v99⟩, by first | with_reducible assumption | omega, by first | with_reducible assumption | omega, by first | with_reducible assumption | omega⟩
          · have c102 : xs0.toInt ≠ (0 : Int) := o_ne h26
            unfold J_X12_touchDrop_83
            refine ok_ite (fun h103 => ?_) (fun h103 => ?_)
            · have c104 : x1.toInt = x5v.toInt := o_eq h103
              obtain ⟨b105, o106, k107, n108, w109⟩ := gO_12_35 L k_a0
              obtain rfl := gS_12_35 L k_a0 o106
              refine ok_at o106 ?_
              first | (have q111 := te_addc (c := 1) (n := 1) rfl x3 (by omega) (by omega); obtain ⟨f112, f113, f114⟩ := q111) | (obtain ⟨q111, f112, f113, f114⟩ := ti_addc (c := 1) (n := 1) rfl x3)
              have t115 := ti_tn (x3 + (1 : Int32))
              refine ok_gd (fun hc116 => ?_) ?_
              · rcases hc116 with hc116 | hc116
                · have c117 : (x3 + (1 : Int32)).toInt < (0 : Int) := o_lt hc116
                  omega
                · omega
              refine ok_mono (kj_X12_touchDrop_121 L hN (a0 := a0) (x1 := x1) (x2 := x2) (x3 := x3) (x4 := x4) (xs0 := (q_R δ (Ad ad 119) (x3 + (1 : Int32)).toNatClampNeg)) (x8v := (3 : Int32)) hT k_a0 (show 2 ≤ (x2).toInt by first | with_reducible assumption | omega) (show (x2).toInt ≤ 16 by first | with_reducible assumption | omega) (show 0 ≤ (x3).toInt by first | with_reducible assumption | omega) (show (x3).toInt ≤ (x4).toInt by first | with_reducible assumption | omega) (show (x4).toInt ≤ (x3).toInt + 2000 by first | with_reducible assumption | omega) (show (x4).toInt ≤ (q_I δ 12 36 a0).toInt by first | with_reducible assumption | omega) (show (q_I δ 12 36 a0).toInt + 2000 * LGf (x2).toInt ≤ 12000 by first | with_reducible assumption | omega) (show (x2).toInt ≤ K by first | with_reducible assumption | omega) (show (x3).toInt < (x4).toInt by first | with_reducible assumption | omega) (show 1 ≤ (3 : Int) by first | with_reducible assumption | omega) (show (3 : Int) ≤ 3 by first | with_reducible assumption | omega) I) (fun r118 hr119 => ?_)
              obtain ⟨i120, ⟨u124, u125, u126⟩, p121, p122, p123⟩ := hr119
              have u127 := kp_t kp_r u124
              have v128 : q_V r118.2 = q_V δ := (u125).trans rfl
              have v129 := kr_t (kr_r (ad := ad)) u126
              have f130 := cb_12_36 i120 k_a0
              have f131 := ti_b r118.1
              exact ⟨by first | with_reducible assumption | assumption, ⟨kp_w (by decide) u127, v128, kr_w (by decide) v129⟩, by first | with_reducible assumption | omega, by first | with_reducible assumption | omega, by first | with_reducible assumption | omega⟩
            · have c132 : x1.toInt ≠ x5v.toInt := o_ne h103
              refine ok_ite (fun h133 => ?_) (fun h133 => ?_)
              · have c134 : x1.toInt = x6v.toInt := o_eq h133
                obtain ⟨b135, o136, k137, n138, w139⟩ := gO_12_35 L k_a0
                obtain rfl := gS_12_35 L k_a0 o136
                refine ok_at o136 ?_
                first | (have q141 := te_subc (c := 2) (n := 2) rfl x4 (by omega) (by omega); obtain ⟨f142, f143, f144⟩ := q141) | (obtain ⟨q141, f142, f143, f144⟩ := ti_subc (c := 2) (n := 2) rfl x4)
                have t145 := ti_tn (x4 - (2 : Int32))
                refine ok_gd (fun hc146 => ?_) ?_
                · rcases hc146 with hc146 | hc146
                  · have c147 : (x4 - (2 : Int32)).toInt < (0 : Int) := o_lt hc146
                    omega
                  · omega
                refine ok_mono (kj_X12_touchDrop_121 L hN (a0 := a0) (x1 := x1) (x2 := x2) (x3 := x3) (x4 := x4) (xs0 := (q_R δ (Ad ad 119) (x4 - (2 : Int32)).toNatClampNeg)) (x8v := (3 : Int32)) hT k_a0 (show 2 ≤ (x2).toInt by first | with_reducible assumption | omega) (show (x2).toInt ≤ 16 by first | with_reducible assumption | omega) (show 0 ≤ (x3).toInt by first | with_reducible assumption | omega) (show (x3).toInt ≤ (x4).toInt by first | with_reducible assumption | omega) (show (x4).toInt ≤ (x3).toInt + 2000 by first | with_reducible assumption | omega) (show (x4).toInt ≤ (q_I δ 12 36 a0).toInt by first | with_reducible assumption | omega) (show (q_I δ 12 36 a0).toInt + 2000 * LGf (x2).toInt ≤ 12000 by first | with_reducible assumption | omega) (show (x2).toInt ≤ K by first | with_reducible assumption | omega) (show (x3).toInt < (x4).toInt by first | with_reducible assumption | omega) (show 1 ≤ (3 : Int) by first | with_reducible assumption | omega) (show (3 : Int) ≤ 3 by first | with_reducible assumption | omega) I) (fun r148 hr149 => ?_)
                obtain ⟨i150, ⟨u154, u155, u156⟩, p151, p152, p153⟩ := hr149
                have u157 := kp_t kp_r u154
                have v158 : q_V r148.2 = q_V δ := (u155).trans rfl
                have v159 := kr_t (kr_r (ad := ad)) u156
                have f160 := cb_12_36 i150 k_a0
                have f161 := ti_b r148.1
                exact ⟨by first | with_reducible assumption | assumption, ⟨kp_w (by decide) u157, v158, kr_w (by decide) v159⟩, by first | with_reducible assumption | omega, by first | with_reducible assumption | omega, by first | with_reducible assumption | omega⟩
              · have c162 : x1.toInt ≠ x6v.toInt := o_ne h133
                refine ok_mono (kj_X12_touchDrop_121 L hN (a0 := a0) (x1 := x1) (x2 := x2) (x3 := x3) (x4 := x4) (xs0 := x1) (x8v := (3 : Int32)) hT k_a0 (show 2 ≤ (x2).toInt by first | with_reducible assumption | omega) (show (x2).toInt ≤ 16 by first | with_reducible assumption | omega) (show 0 ≤ (x3).toInt by first | with_reducible assumption | omega) (show (x3).toInt ≤ (x4).toInt by first | with_reducible assumption | omega) (show (x4).toInt ≤ (x3).toInt + 2000 by first | with_reducible assumption | omega) (show (x4).toInt ≤ (q_I δ 12 36 a0).toInt by first | with_reducible assumption | omega) (show (q_I δ 12 36 a0).toInt + 2000 * LGf (x2).toInt ≤ 12000 by first | with_reducible assumption | omega) (show (x2).toInt ≤ K by first | with_reducible assumption | omega) (show (x3).toInt < (x4).toInt by first | with_reducible assumption | omega) (show 1 ≤ (3 : Int) by first | with_reducible assumption | omega) (show (3 : Int) ≤ 3 by first | with_reducible assumption | omega) I) (fun r163 hr164 => ?_)
                obtain ⟨i165, ⟨u169, u170, u171⟩, p166, p167, p168⟩ := hr164
                have u172 := kp_t kp_r u169
                have v173 : q_V r163.2 = q_V δ := (u170).trans rfl
                have v174 := kr_t (kr_r (ad := ad)) u171
                have f175 := cb_12_36 i165 k_a0
                have f176 := ti_b r163.1
                exact ⟨by first | with_reducible assumption | assumption, ⟨kp_w (by decide) u172, v173, kr_w (by decide) v174⟩, by first | with_reducible assumption | omega, by first | with_reducible assumption | omega, by first | with_reducible assumption | omega⟩
        · have c177 : xs0.toInt ≠ (0 : Int) := o_ne h24
          refine ok_ite (fun h178 => ?_) (fun h178 => ?_)
          · have c179 : (x4 - x3).toInt = (2 : Int) := o_eq h178
            unfold J_X12_touchDrop_71
            exact ok_some (show RI ad h.1 δ0 δ ∧ (kp [(12, 36)] δ δ ∧ q_V δ = q_V δ ∧ kr ad [119] δ δ) ∧ (q_I δ 12 36 a0).toInt = (q_I δ 12 36 a0).toInt ∧ 1 ≤ (1 : Int) ∧ (1 : Int) ≤ VBf (x2).toInt from ⟨I, ⟨kp_w (by decide) kp_r, rfl, kr_w (by decide) (kr_r (ad := ad))⟩, by first | with_reducible assumption | omega, by first | with_reducible assumption | omega, by first | with_reducible assumption | omega⟩)
          · have c180 : (x4 - x3).toInt ≠ (2 : Int) := o_ne h178
            unfold J_X12_touchDrop_73
            refine ok_ite (fun h181 => ?_) (fun h181 => ?_)
            · have c182 : xs0.toInt = (0 : Int) := o_eq h181
              unfold J_X12_touchDrop_83
              refine ok_ite (fun h183 => ?_) (fun h183 => ?_)
              · have c184 : x1.toInt = x5v.toInt := o_eq h183
                obtain ⟨b185, o186, k187, n188, w189⟩ := gO_12_35 L k_a0
                obtain rfl := gS_12_35 L k_a0 o186
                refine ok_at o186 ?_
                first | (have q191 := te_addc (c := 1) (n := 1) rfl x3 (by omega) (by omega); obtain ⟨f192, f193, f194⟩ := q191) | (obtain ⟨q191, f192, f193, f194⟩ := ti_addc (c := 1) (n := 1) rfl x3)
                have t195 := ti_tn (x3 + (1 : Int32))
                refine ok_gd (fun hc196 => ?_) ?_
                · rcases hc196 with hc196 | hc196
                  · have c197 : (x3 + (1 : Int32)).toInt < (0 : Int) := o_lt hc196
                    omega
                  · omega
                refine ok_mono (kj_X12_touchDrop_121 L hN (a0 := a0) (x1 := x1) (x2 := x2) (x3 := x3) (x4 := x4) (xs0 := (q_R δ (Ad ad 119) (x3 + (1 : Int32)).toNatClampNeg)) (x8v := (1 : Int32)) hT k_a0 (show 2 ≤ (x2).toInt by first | with_reducible assumption | omega) (show (x2).toInt ≤ 16 by first | with_reducible assumption | omega) (show 0 ≤ (x3).toInt by first | with_reducible assumption | omega) (show (x3).toInt ≤ (x4).toInt by first | with_reducible assumption | omega) (show (x4).toInt ≤ (x3).toInt + 2000 by first | with_reducible assumption | omega) (show (x4).toInt ≤ (q_I δ 12 36 a0).toInt by first | with_reducible assumption | omega) (show (q_I δ 12 36 a0).toInt + 2000 * LGf (x2).toInt ≤ 12000 by first | with_reducible assumption | omega) (show (x2).toInt ≤ K by first | with_reducible assumption | omega) (show (x3).toInt < (x4).toInt by first | with_reducible assumption | omega) (show 1 ≤ (1 : Int) by first | with_reducible assumption | omega) (show (1 : Int) ≤ 3 by first | with_reducible assumption | omega) I) (fun r198 hr199 => ?_)
                obtain ⟨i200, ⟨u204, u205, u206⟩, p201, p202, p203⟩ := hr199
                have u207 := kp_t kp_r u204
                have v208 : q_V r198.2 = q_V δ := (u205).trans rfl
                have v209 := kr_t (kr_r (ad := ad)) u206
                have f210 := cb_12_36 i200 k_a0
                have f211 := ti_b r198.1
                exact ⟨by first | with_reducible assumption | assumption, ⟨kp_w (by decide) u207, v208, kr_w (by decide) v209⟩, by first | with_reducible assumption | omega, by first | with_reducible assumption | omega, by first | with_reducible assumption | omega⟩
              · have c212 : x1.toInt ≠ x5v.toInt := o_ne h183
                refine ok_ite (fun h213 => ?_) (fun h213 => ?_)
                · have c214 : x1.toInt = x6v.toInt := o_eq h213
                  obtain ⟨b215, o216, k217, n218, w219⟩ := gO_12_35 L k_a0
                  obtain rfl := gS_12_35 L k_a0 o216
                  refine ok_at o216 ?_
                  first | (have q221 := te_subc (c := 2) (n := 2) rfl x4 (by omega) (by omega); obtain ⟨f222, f223, f224⟩ := q221) | (obtain ⟨q221, f222, f223, f224⟩ := ti_subc (c := 2) (n := 2) rfl x4)
                  have t225 := ti_tn (x4 - (2 : Int32))
                  refine ok_gd (fun hc226 => ?_) ?_
                  · rcases hc226 with hc226 | hc226
                    · have c227 : (x4 - (2 : Int32)).toInt < (0 : Int) := o_lt hc226
                      omega
                    · omega
                  refine ok_mono (kj_X12_touchDrop_121 L hN (a0 := a0) (x1 := x1) (x2 := x2) (x3 := x3) (x4 := x4) (xs0 := (q_R δ (Ad ad 119) (x4 - (2 : Int32)).toNatClampNeg)) (x8v := (1 : Int32)) hT k_a0 (show 2 ≤ (x2).toInt by first | with_reducible assumption | omega) (show (x2).toInt ≤ 16 by first | with_reducible assumption | omega) (show 0 ≤ (x3).toInt by first | with_reducible assumption | omega) (show (x3).toInt ≤ (x4).toInt by first | with_reducible assumption | omega) (show (x4).toInt ≤ (x3).toInt + 2000 by first | with_reducible assumption | omega) (show (x4).toInt ≤ (q_I δ 12 36 a0).toInt by first | with_reducible assumption | omega) (show (q_I δ 12 36 a0).toInt + 2000 * LGf (x2).toInt ≤ 12000 by first | with_reducible assumption | omega) (show (x2).toInt ≤ K by first | with_reducible assumption | omega) (show (x3).toInt < (x4).toInt by first | with_reducible assumption | omega) (show 1 ≤ (1 : Int) by first | with_reducible assumption | omega) (show (1 : Int) ≤ 3 by first | with_reducible assumption | omega) I) (fun r228 hr229 => ?_)
                  obtain ⟨i230, ⟨u234, u235, u236⟩, p231, p232, p233⟩ := hr229
                  have u237 := kp_t kp_r u234
                  have v238 : q_V r228.2 = q_V δ := (u235).trans rfl
                  have v239 := kr_t (kr_r (ad := ad)) u236
                  have f240 := cb_12_36 i230 k_a0
                  have f241 := ti_b r228.1
                  exact ⟨by first | with_reducible assumption | assumption, ⟨kp_w (by decide) u237, v238, kr_w (by decide) v239⟩, by first | with_reducible assumption | omega, by first | with_reducible assumption | omega, by first | with_reducible assumption | omega⟩
                · have c242 : x1.toInt ≠ x6v.toInt := o_ne h213
                  refine ok_mono (kj_X12_touchDrop_121 L hN (a0 := a0) (x1 := x1) (x2 := x2) (x3 := x3) (x4 := x4) (xs0 := x1) (x8v := (1 : Int32)) hT k_a0 (show 2 ≤ (x2).toInt by first | with_reducible assumption | omega) (show (x2).toInt ≤ 16 by first | with_reducible assumption | omega) (show 0 ≤ (x3).toInt by first | with_reducible assumption | omega) (show (x3).toInt ≤ (x4).toInt by first | with_reducible assumption | omega) (show (x4).toInt ≤ (x3).toInt + 2000 by first | with_reducible assumption | omega) (show (x4).toInt ≤ (q_I δ 12 36 a0).toInt by first | with_reducible assumption | omega) (show (q_I δ 12 36 a0).toInt + 2000 * LGf (x2).toInt ≤ 12000 by first | with_reducible assumption | omega) (show (x2).toInt ≤ K by first | with_reducible assumption | omega) (show (x3).toInt < (x4).toInt by first | with_reducible assumption | omega) (show 1 ≤ (1 : Int) by first | with_reducible assumption | omega) (show (1 : Int) ≤ 3 by first | with_reducible assumption | omega) I) (fun r243 hr244 => ?_)
                  obtain ⟨i245, ⟨u249, u250, u251⟩, p246, p247, p248⟩ := hr244
                  have u252 := kp_t kp_r u249
                  have v253 : q_V r243.2 = q_V δ := (u250).trans rfl
                  have v254 := kr_t (kr_r (ad := ad)) u251
                  have f255 := cb_12_36 i245 k_a0
                  have f256 := ti_b r243.1
                  exact ⟨by first | with_reducible assumption | assumption, ⟨kp_w (by decide) u252, v253, kr_w (by decide) v254⟩, by first | with_reducible assumption | omega, by first | with_reducible assumption | omega, by first | with_reducible assumption | omega⟩
            · have c257 : xs0.toInt ≠ (0 : Int) := o_ne h181
              unfold J_X12_touchDrop_83
              refine ok_ite (fun h258 => ?_) (fun h258 => ?_)
              · have c259 : x1.toInt = x5v.toInt := o_eq h258
                obtain ⟨b260, o261, k262, n263, w264⟩ := gO_12_35 L k_a0
                obtain rfl := gS_12_35 L k_a0 o261
                refine ok_at o261 ?_
                first | (have q266 := te_addc (c := 1) (n := 1) rfl x3 (by omega) (by omega); obtain ⟨f267, f268, f269⟩ := q266) | (obtain ⟨q266, f267, f268, f269⟩ := ti_addc (c := 1) (n := 1) rfl x3)
                have t270 := ti_tn (x3 + (1 : Int32))
                refine ok_gd (fun hc271 => ?_) ?_
                · rcases hc271 with hc271 | hc271
                  · have c272 : (x3 + (1 : Int32)).toInt < (0 : Int) := o_lt hc271
                    omega
                  · omega
                refine ok_mono (kj_X12_touchDrop_121 L hN (a0 := a0) (x1 := x1) (x2 := x2) (x3 := x3) (x4 := x4) (xs0 := (q_R δ (Ad ad 119) (x3 + (1 : Int32)).toNatClampNeg)) (x8v := (3 : Int32)) hT k_a0 (show 2 ≤ (x2).toInt by first | with_reducible assumption | omega) (show (x2).toInt ≤ 16 by first | with_reducible assumption | omega) (show 0 ≤ (x3).toInt by first | with_reducible assumption | omega) (show (x3).toInt ≤ (x4).toInt by first | with_reducible assumption | omega) (show (x4).toInt ≤ (x3).toInt + 2000 by first | with_reducible assumption | omega) (show (x4).toInt ≤ (q_I δ 12 36 a0).toInt by first | with_reducible assumption | omega) (show (q_I δ 12 36 a0).toInt + 2000 * LGf (x2).toInt ≤ 12000 by first | with_reducible assumption | omega) (show (x2).toInt ≤ K by first | with_reducible assumption | omega) (show (x3).toInt < (x4).toInt by first | with_reducible assumption | omega) (show 1 ≤ (3 : Int) by first | with_reducible assumption | omega) (show (3 : Int) ≤ 3 by first | with_reducible assumption | omega) I) (fun r273 hr274 => ?_)
                obtain ⟨i275, ⟨u279, u280, u281⟩, p276, p277, p278⟩ := hr274
                have u282 := kp_t kp_r u279
                have v283 : q_V r273.2 = q_V δ := (u280).trans rfl
                have v284 := kr_t (kr_r (ad := ad)) u281
                have f285 := cb_12_36 i275 k_a0
                have f286 := ti_b r273.1
                exact ⟨by first | with_reducible assumption | assumption, ⟨kp_w (by decide) u282, v283, kr_w (by decide) v284⟩, by first | with_reducible assumption | omega, by first | with_reducible assumption | omega, by first | with_reducible assumption | omega⟩
              · have c287 : x1.toInt ≠ x5v.toInt := o_ne h258
                refine ok_ite (fun h288 => ?_) (fun h288 => ?_)
                · have c289 : x1.toInt = x6v.toInt := o_eq h288
                  obtain ⟨b290, o291, k292, n293, w294⟩ := gO_12_35 L k_a0
                  obtain rfl := gS_12_35 L k_a0 o291
                  refine ok_at o291 ?_
                  first | (have q296 := te_subc (c := 2) (n := 2) rfl x4 (by omega) (by omega); obtain ⟨f297, f298, f299⟩ := q296) | (obtain ⟨q296, f297, f298, f299⟩ := ti_subc (c := 2) (n := 2) rfl x4)
                  have t300 := ti_tn (x4 - (2 : Int32))
                  refine ok_gd (fun hc301 => ?_) ?_
                  · rcases hc301 with hc301 | hc301
                    · have c302 : (x4 - (2 : Int32)).toInt < (0 : Int) := o_lt hc301
                      omega
                    · omega
                  refine ok_mono (kj_X12_touchDrop_121 L hN (a0 := a0) (x1 := x1) (x2 := x2) (x3 := x3) (x4 := x4) (xs0 := (q_R δ (Ad ad 119) (x4 - (2 : Int32)).toNatClampNeg)) (x8v := (3 : Int32)) hT k_a0 (show 2 ≤ (x2).toInt by first | with_reducible assumption | omega) (show (x2).toInt ≤ 16 by first | with_reducible assumption | omega) (show 0 ≤ (x3).toInt by first | with_reducible assumption | omega) (show (x3).toInt ≤ (x4).toInt by first | with_reducible assumption | omega) (show (x4).toInt ≤ (x3).toInt + 2000 by first | with_reducible assumption | omega) (show (x4).toInt ≤ (q_I δ 12 36 a0).toInt by first | with_reducible assumption | omega) (show (q_I δ 12 36 a0).toInt + 2000 * LGf (x2).toInt ≤ 12000 by first | with_reducible assumption | omega) (show (x2).toInt ≤ K by first | with_reducible assumption | omega) (show (x3).toInt < (x4).toInt by first | with_reducible assumption | omega) (show 1 ≤ (3 : Int) by first | with_reducible assumption | omega) (show (3 : Int) ≤ 3 by first | with_reducible assumption | omega) I) (fun r303 hr304 => ?_)
                  obtain ⟨i305, ⟨u309, u310, u311⟩, p306, p307, p308⟩ := hr304
                  have u312 := kp_t kp_r u309
                  have v313 : q_V r303.2 = q_V δ := (u310).trans rfl
                  have v314 := kr_t (kr_r (ad := ad)) u311
                  have f315 := cb_12_36 i305 k_a0
                  have f316 := ti_b r303.1
                  exact ⟨by first | with_reducible assumption | assumption, ⟨kp_w (by decide) u312, v313, kr_w (by decide) v314⟩, by first | with_reducible assumption | omega, by first | with_reducible assumption | omega, by first | with_reducible assumption | omega⟩
                · have c317 : x1.toInt ≠ x6v.toInt := o_ne h288
                  refine ok_mono (kj_X12_touchDrop_121 L hN (a0 := a0) (x1 := x1) (x2 := x2) (x3 := x3) (x4 := x4) (xs0 := x1) (x8v := (3 : Int32)) hT k_a0 (show 2 ≤ (x2).toInt by first | with_reducible assumption | omega) (show (x2).toInt ≤ 16 by first | with_reducible assumption | omega) (show 0 ≤ (x3).toInt by first | with_reducible assumption | omega) (show (x3).toInt ≤ (x4).toInt by first | with_reducible assumption | omega) (show (x4).toInt ≤ (x3).toInt + 2000 by first | with_reducible assumption | omega) (show (x4).toInt ≤ (q_I δ 12 36 a0).toInt by first | with_reducible assumption | omega) (show (q_I δ 12 36 a0).toInt + 2000 * LGf (x2).toInt ≤ 12000 by first | with_reducible assumption | omega) (show (x2).toInt ≤ K by first | with_reducible assumption | omega) (show (x3).toInt < (x4).toInt by first | with_reducible assumption | omega) (show 1 ≤ (3 : Int) by first | with_reducible assumption | omega) (show (3 : Int) ≤ 3 by first | with_reducible assumption | omega) I) (fun r318 hr319 => ?_)
                  obtain ⟨i320, ⟨u324, u325, u326⟩, p321, p322, p323⟩ := hr319
                  have u327 := kp_t kp_r u324
                  have v328 : q_V r318.2 = q_V δ := (u325).trans rfl
                  have v329 := kr_t (kr_r (ad := ad)) u326
                  have f330 := cb_12_36 i320 k_a0
                  have f331 := ti_b r318.1
                  exact ⟨by first | with_reducible assumption | assumption, ⟨kp_w (by decide) u327, v328, kr_w (by decide) v329⟩, by first | with_reducible assumption | omega, by first | with_reducible assumption | omega, by first | with_reducible assumption | omega⟩
set_option maxHeartbeats 4000000 in
theorem k_bX12_touchDrop {ad : List Nat} {h : hp} (L : Lay TLx ad h) {δ0 : dp} {N : Nat} (hN : 10000000 ≤ N) {T : Nat → Int32 → Int32 → Int32 → Int32 → Int32 → dp → Option (Int32 × dp)} {K : Int} (hT : ∀ (a0 : Nat) (x1 : Int32) (x2 : Int32) (x3 : Int32) (x4 : Int32) (x5 : Int32) (δ : dp), q_K h.1 a0 = 12 → 1 ≤ (x3).toInt → (x3).toInt ≤ 16 → 0 ≤ (x4).toInt → (x4).toInt ≤ (x5).toInt → (x5).toInt ≤ (x4).toInt + 2000 → (x5).toInt ≤ (q_I δ 12 36 a0).toInt → (q_I δ 12 36 a0).toInt + 2000 * LGf (x3).toInt ≤ 12000 → (x3).toInt < K → RI ad h.1 δ0 δ → ok (T a0 x1 x2 x3 x4 x5 δ) (fun r => RI ad h.1 δ0 r.2 ∧ (kp [(12, 36)] δ r.2 ∧ q_V r.2 = q_V δ ∧ kr ad [119] δ r.2) ∧ (q_I r.2 12 36 a0).toInt = (q_I δ 12 36 a0).toInt ∧ 1 ≤ (r.1).toInt ∧ (r.1).toInt ≤ VBf (x3).toInt)) {a0 : Nat} {x1 : Int32} {x2 : Int32} {x3 : Int32} {x4 : Int32} (k_a0 : q_K h.1 a0 = 12) {δ : dp} (z0 : 2 ≤ (x2).toInt) (z1 : (x2).toInt ≤ 16) (z2 : 0 ≤ (x3).toInt) (z3 : (x3).toInt ≤ (x4).toInt) (z4 : (x4).toInt ≤ (x3).toInt + 2000) (z5 : (x4).toInt ≤ (q_I δ 12 36 a0).toInt) (z6 : (q_I δ 12 36 a0).toInt + 2000 * LGf (x2).toInt ≤ 12000) (z7 : (x2).toInt ≤ K) (z8 : (x3).toInt < (x4).toInt) (I : RI ad h.1 δ0 δ) : ok (B_X12_touchDrop N h.1 T a0 x1 x2 x3 x4 δ) (fun r => RI ad h.1 δ0 r.2 ∧ (kp [(12, 36)] δ r.2 ∧ q_V r.2 = q_V δ ∧ kr ad [119] δ r.2) ∧ (q_I r.2 12 36 a0).toInt = (q_I δ 12 36 a0).toInt ∧ 1 ≤ (r.1).toInt ∧ (r.1).toInt ≤ VBf (x2).toInt) := by
  unfold B_X12_touchDrop
  have f1 := lgb (x2).toInt
  have f2 := ti_b x2
  have f3 := ti_b x3
  have f4 := ti_b x4
  have f5 := cb_12_36 I k_a0
  obtain ⟨b6, o7, k8, n9, w10⟩ := gO_12_35 L k_a0
  obtain rfl := gS_12_35 L k_a0 o7
  refine ok_at o7 ?_
  have t11 := ti_tn x3
  refine ok_gd (fun hc12 => ?_) ?_
  · rcases hc12 with hc12 | hc12
    · have c13 : x3.toInt < (0 : Int) := o_lt hc12
      omega
    · omega
  have f16 := ti_b (q_R δ (Ad ad 119) x3.toNatClampNeg)
  refine ok_biv (fun vx14 e15 => ?_)
  have f17 : vx14.toInt = (q_R δ (Ad ad 119) x3.toNatClampNeg).toInt := congrArg Int32.toInt e15
  refine ok_at o7 ?_
  first | (have q19 := te_subc (c := 1) (n := 1) rfl x4 (by omega) (by omega); obtain ⟨f20, f21, f22⟩ := q19) | (obtain ⟨q19, f20, f21, f22⟩ := ti_subc (c := 1) (n := 1) rfl x4)
  have t23 := ti_tn (x4 - (1 : Int32))
  refine ok_gd (fun hc24 => ?_) ?_
  · rcases hc24 with hc24 | hc24
    · have c25 : (x4 - (1 : Int32)).toInt < (0 : Int) := o_lt hc24
      omega
    · omega
  have f28 := ti_b (q_R δ (Ad ad 119) (x4 - (1 : Int32)).toNatClampNeg)
  refine ok_biv (fun vx26 e27 => ?_)
  have f29 : vx26.toInt = (q_R δ (Ad ad 119) (x4 - (1 : Int32)).toNatClampNeg).toInt := congrArg Int32.toInt e27
  have f30 := ti_b x1
  refine ok_ite (fun h31 => ?_) (fun h31 => ?_)
  · have c32 : x1.toInt = vx14.toInt := o_eq h31
    unfold J_X12_touchDrop_31
    refine ok_mono (kj_X12_touchDrop_36 L hN (a0 := a0) (x1 := x1) (x2 := x2) (x3 := x3) (x4 := x4) (xs0 := (1 : Int32)) (x5v := vx14) (x6v := vx26) hT k_a0 (show 2 ≤ (x2).toInt by first | with_reducible assumption | omega) (show (x2).toInt ≤ 16 by first | with_reducible assumption | omega) (show 0 ≤ (x3).toInt by first | with_reducible assumption | omega) (show (x3).toInt ≤ (x4).toInt by first | with_reducible assumption | omega) (show (x4).toInt ≤ (x3).toInt + 2000 by first | with_reducible assumption | omega) (show (x4).toInt ≤ (q_I δ 12 36 a0).toInt by first | with_reducible assumption | omega) (show (q_I δ 12 36 a0).toInt + 2000 * LGf (x2).toInt ≤ 12000 by first | with_reducible assumption | omega) (show (x2).toInt ≤ K by first | with_reducible assumption | omega) (show (x3).toInt < (x4).toInt by first | with_reducible assumption | omega) (show 0 ≤ (1 : Int) by first | with_reducible assumption | omega) (show (1 : Int) ≤ 1 by first | with_reducible assumption | omega) I) (fun r33 hr34 => ?_)
    obtain ⟨i35, ⟨u39, u40, u41⟩, p36, p37, p38⟩ := hr34
    have u42 := kp_t kp_r u39
    have v43 : q_V r33.2 = q_V δ := (u40).trans rfl
    have v44 := kr_t (kr_r (ad := ad)) u41
    have f45 := cb_12_36 i35 k_a0
    have f46 := ti_b r33.1
    exact ⟨by first | with_reducible assumption | assumption, ⟨kp_w (by decide) u42, v43, kr_w (by decide) v44⟩, by first | with_reducible assumption | omega, by first | with_reducible assumption | omega, by first | with_reducible assumption | omega⟩
  · have c47 : x1.toInt ≠ vx14.toInt := o_ne h31
    refine ok_ite (fun h48 => ?_) (fun h48 => ?_)
    · have c49 : x1.toInt = vx26.toInt := o_eq h48
      unfold J_X12_touchDrop_31
      refine ok_mono (kj_X12_touchDrop_36 L hN (a0 := a0) (x1 := x1) (x2 := x2) (x3 := x3) (x4 := x4) (xs0 := (1 : Int32)) (x5v := vx14) (x6v := vx26) hT k_a0 (show 2 ≤ (x2).toInt by first | with_reducible assumption | omega) (show (x2).toInt ≤ 16 by first | with_reducible assumption | omega) (show 0 ≤ (x3).toInt by first | with_reducible assumption | omega) (show (x3).toInt ≤ (x4).toInt by first | with_reducible assumption | omega) (show (x4).toInt ≤ (x3).toInt + 2000 by first | with_reducible assumption | omega) (show (x4).toInt ≤ (q_I δ 12 36 a0).toInt by first | with_reducible assumption | omega) (show (q_I δ 12 36 a0).toInt + 2000 * LGf (x2).toInt ≤ 12000 by first | with_reducible assumption | omega) (show (x2).toInt ≤ K by first | with_reducible assumption | omega) (show (x3).toInt < (x4).toInt by first | with_reducible assumption | omega) (show 0 ≤ (1 : Int) by first | with_reducible assumption | omega) (show (1 : Int) ≤ 1 by first | with_reducible assumption | omega) I) (fun r50 hr51 => ?_)
      obtain ⟨i52, ⟨u56, u57, u58⟩, p53, p54, p55⟩ := hr51
      have u59 := kp_t kp_r u56
      have v60 : q_V r50.2 = q_V δ := (u57).trans rfl
      have v61 := kr_t (kr_r (ad := ad)) u58
      have f62 := cb_12_36 i52 k_a0
      have f63 := ti_b r50.1
      exact ⟨by first | with_reducible assumption | assumption, ⟨kp_w (by decide) u59, v60, kr_w (by decide) v61⟩, by first | with_reducible assumption | omega, by first | with_reducible assumption | omega, by first | with_reducible assumption | omega⟩
    · have c64 : x1.toInt ≠ vx26.toInt := o_ne h48
      refine ok_mono (kj_X12_touchDrop_36 L hN (a0 := a0) (x1 := x1) (x2 := x2) (x3 := x3) (x4 := x4) (xs0 := (0 : Int32)) (x5v := vx14) (x6v := vx26) hT k_a0 (show 2 ≤ (x2).toInt by first | with_reducible assumption | omega) (show (x2).toInt ≤ 16 by first | with_reducible assumption | omega) (show 0 ≤ (x3).toInt by first | with_reducible assumption | omega) (show (x3).toInt ≤ (x4).toInt by first | with_reducible assumption | omega) (show (x4).toInt ≤ (x3).toInt + 2000 by first | with_reducible assumption | omega) (show (x4).toInt ≤ (q_I δ 12 36 a0).toInt by first | with_reducible assumption | omega) (show (q_I δ 12 36 a0).toInt + 2000 * LGf (x2).toInt ≤ 12000 by first | with_reducible assumption | omega) (show (x2).toInt ≤ K by first | with_reducible assumption | omega) (show (x3).toInt < (x4).toInt by first | with_reducible assumption | omega) (show 0 ≤ (0 : Int) by first | with_reducible assumption | omega) (show (0 : Int) ≤ 1 by first | with_reducible assumption | omega) I) (fun r65 hr66 => ?_)
      obtain ⟨i67, ⟨u71, u72, u73⟩, p68, p69, p70⟩ := hr66
      have u74 := kp_t kp_r u71
      have v75 : q_V r65.2 = q_V δ := (u72).trans rfl
      have v76 := kr_t (kr_r (ad := ad)) u73
      have f77 := cb_12_36 i67 k_a0
      have f78 := ti_b r65.1
      exact ⟨by first | with_reducible assumption | assumption, ⟨kp_w (by decide) u74, v75, kr_w (by decide) v76⟩, by first | with_reducible assumption | omega, by first | with_reducible assumption | omega, by first | with_reducible assumption | omega⟩
set_option maxHeartbeats 4000000 in
theorem kj_X12_touch_267 {ad : List Nat} {h : hp} (L : Lay TLx ad h) {δ0 : dp} {N : Nat} (hN : 10000000 ≤ N) {T : Nat → Int32 → Int32 → Int32 → Int32 → Int32 → dp → Option (Int32 × dp)} {K : Int} (hT : ∀ (a0 : Nat) (x1 : Int32) (x2 : Int32) (x3 : Int32) (x4 : Int32) (x5 : Int32) (δ : dp), q_K h.1 a0 = 12 → 1 ≤ (x3).toInt → (x3).toInt ≤ 16 → 0 ≤ (x4).toInt → (x4).toInt ≤ (x5).toInt → (x5).toInt ≤ (x4).toInt + 2000 → (x5).toInt ≤ (q_I δ 12 36 a0).toInt → (q_I δ 12 36 a0).toInt + 2000 * LGf (x3).toInt ≤ 12000 → (x3).toInt < K → RI ad h.1 δ0 δ → ok (T a0 x1 x2 x3 x4 x5 δ) (fun r => RI ad h.1 δ0 r.2 ∧ (kp [(12, 36)] δ r.2 ∧ q_V r.2 = q_V δ ∧ kr ad [119] δ r.2) ∧ (q_I r.2 12 36 a0).toInt = (q_I δ 12 36 a0).toInt ∧ 1 ≤ (r.1).toInt ∧ (r.1).toInt ≤ VBf (x3).toInt)) {a0 : Nat} {x1 : Int32} {x2 : Int32} {x3 : Int32} {x4 : Int32} {x5 : Int32} {x9v : Int32} {x10v : Int32} (k_a0 : q_K h.1 a0 = 12) {δ : dp} (z0 : 2 ≤ (x3).toInt) (z1 : (x3).toInt ≤ 16) (z2 : 0 ≤ (x4).toInt) (z3 : (x4).toInt ≤ (x5).toInt) (z4 : (x5).toInt ≤ (x4).toInt + 2000) (z5 : (x5).toInt ≤ (q_I δ 12 36 a0).toInt) (z6 : (q_I δ 12 36 a0).toInt + 2000 * LGf (x3).toInt ≤ 12000) (z7 : (x3).toInt ≤ K) (z8 : (x4).toInt < (x5).toInt) (z9 : (x4).toInt + 3 ≤ (x5).toInt) (z10 : 1 ≤ (x9v).toInt) (z11 : (x9v).toInt ≤ 2) (I : RI ad h.1 δ0 δ) : ok (J_X12_touch_267 N h.1 T a0 x1 x2 x3 x4 x5 x9v x10v δ) (fun r => RI ad h.1 δ0 r.2 ∧ (kp [(12, 36)] δ r.2 ∧ q_V r.2 = q_V δ ∧ kr ad [119] δ r.2) ∧ (q_I r.2 12 36 a0).toInt = (q_I δ 12 36 a0).toInt ∧ 1 ≤ (r.1).toInt ∧ (r.1).toInt ≤ VBf (x3).toInt) := by
  unfold J_X12_touch_267
  have f1 := lgb (x3).toInt
  have f2 := ti_b x3
  have f3 := ti_b x4
  have f4 := ti_b x5
  have f5 := cb_12_36 I k_a0
  have f6 := ti_b x9v
  have f7 := ti_b x1
  refine ok_ite (fun h8 => ?_) (fun h8 => ?_)
  · have c9 : x1.toInt = (3 : Int) := o_eq h8
    obtain ⟨b10, o11, k12, n13, w14⟩ := gO_12_35 L k_a0
    obtain rfl := gS_12_35 L k_a0 o11
    refine ok_at o11 ?_
    first | (have q16 := te_subc (c := 2) (n := 2) rfl x5 (by omega) (by omega); obtain ⟨f17, f18, f19⟩ := q16) | (obtain ⟨q16, f17, f18, f19⟩ := ti_subc (c := 2) (n := 2) rfl x5)
    have t20 := ti_tn (x5 - (2 : Int32))
    refine ok_gd (fun hc21 => ?_) ?_
    · rcases hc21 with hc21 | hc21
      · have c22 : (x5 - (2 : Int32)).toInt < (0 : Int) := o_lt hc21
        omega
      · omega
    have f23 := ti_b ((q_R δ (Ad ad 119) (x5 - (2 : Int32)).toNatClampNeg) >>> (x10v &&& 31))
    have f24 := ti_b (x2 >>> (x10v &&& 31))
    refine ok_ite (fun h25 => ?_) (fun h25 => ?_)
    · have c26 : ((q_R δ (Ad ad 119) (x5 - (2 : Int32)).toNatClampNeg) >>> (x10v &&& 31)).toInt ≤ (x2 >>> (x10v &&& 31)).toInt := o_le h25
      unfold J_X12_touch_323
      refine ok_bind (k_bX12_inList L hN (a0 := a0) (x1 := x1) (x2 := x2) (x3 := x3) (x4 := x4) (x5 := x5) hT k_a0 (show 2 ≤ (x3).toInt by first | with_reducible assumption | omega) (show (x3).toInt ≤ 16 by first | with_reducible assumption | omega) (show 0 ≤ (x4).toInt by first | with_reducible assumption | omega) (show (x4).toInt ≤ (x5).toInt by first | with_reducible assumption | omega) (show (x5).toInt ≤ (x4).toInt + 2000 by first | with_reducible assumption | omega) (show (x5).toInt ≤ (q_I δ 12 36 a0).toInt by first | with_reducible assumption | omega) (show (q_I δ 12 36 a0).toInt + 2000 * LGf (x3).toInt ≤ 12000 by first | with_reducible assumption | omega) (show (x3).toInt ≤ K by first | with_reducible assumption | omega) I) (fun r27 hr28 => ?_)
      obtain ⟨i29, ⟨u33, u34, u35⟩, p30, p31, p32⟩ := hr28
      have u36 := kp_t kp_r u33
      have v37 : q_V r27.2 = q_V δ := (u34).trans rfl
      have v38 := kr_t (kr_r (ad := ad)) u35
      have f39 := cb_12_36 i29 k_a0
      have f40 := ti_b r27.1
      refine ok_ite (fun h41 => ?_) (fun h41 => ?_)
      · have c42 : (0 : Int) = (0 : Int) := o_eq h41
        unfold J_X12_touch_349
        first | (have q44 := te_add x9v r27.1 (by omega) (by omega); obtain ⟨f45, f46, f47⟩ := q44) | (obtain ⟨q44, f45, f46, f47⟩ := ti_add x9v r27.1)
        first | (have q49 := te_addc (c := 0) (n := 0) rfl (x9v + r27.1) (by omega) (by omega); obtain ⟨f50, f51, f52⟩ := q49) | (obtain ⟨q49, f50, f51, f52⟩ := ti_addc (c := 0) (n := 0) rfl (x9v + r27.1))
        exact ok_some (show RI ad h.1 δ0 r27.2 ∧ (kp [(12, 36)] δ r27.2 ∧ q_V r27.2 = q_V δ ∧ kr ad [119] δ r27.2) ∧ (q_I r27.2 12 36 a0).toInt = (q_I δ 12 36 a0).toInt ∧ 1 ≤ (((x9v + r27.1) + (0 : Int32))).toInt ∧ (((x9v + r27.1) + (0 : Int32))).toInt ≤ VBf (x3).toInt from ⟨i29, ⟨kp_w (by decide) u36, v37, kr_w (by decide) v38⟩, by first | with_reducible assumption | omega, by first | with_reducible assumption | omega, by first | with_reducible assumption | omega⟩)
      · have c53 : (0 : Int) ≠ (0 : Int) := o_ne h41
        unfold J_X12_touch_349
        first | (have q55 := te_add x9v r27.1 (by omega) (by omega); obtain ⟨f56, f57, f58⟩ := q55) | (obtain ⟨q55, f56, f57, f58⟩ := ti_add x9v r27.1)
        first | (have q60 := te_addc (c := 1) (n := 1) rfl (x9v + r27.1) (by omega) (by omega); obtain ⟨f61, f62, f63⟩ := q60) | (obtain ⟨q60, f61, f62, f63⟩ := ti_addc (c := 1) (n := 1) rfl (x9v + r27.1))
        exact ok_some (show RI ad h.1 δ0 r27.2 ∧ (kp [(12, 36)] δ r27.2 ∧ q_V r27.2 = q_V δ ∧ kr ad [119] δ r27.2) ∧ (q_I r27.2 12 36 a0).toInt = (q_I δ 12 36 a0).toInt ∧ 1 ≤ (((x9v + r27.1) + (1 : Int32))).toInt ∧ (((x9v + r27.1) + (1 : Int32))).toInt ≤ VBf (x3).toInt from ⟨i29, ⟨kp_w (by decide) u36, v37, kr_w (by decide) v38⟩, by first | with_reducible assumption | omega, by first | with_reducible assumption | omega, by first | with_reducible assumption | omega⟩)
    · have c64 : (x2 >>> (x10v &&& 31)).toInt < ((q_R δ (Ad ad 119) (x5 - (2 : Int32)).toNatClampNeg) >>> (x10v &&& 31)).toInt := o_nle h25
      unfold J_X12_touch_323
      refine ok_bind (k_bX12_inList L hN (a0 := a0) (x1 := x1) (x2 := x2) (x3 := x3) (x4 := x4) (x5 := x5) hT k_a0 (show 2 ≤ (x3).toInt by first | with_reducible assumption | omega) (show (x3).toInt ≤ 16 by first | with_reducible assumption | omega) (show 0 ≤ (x4).toInt by first | with_reducible assumption | omega) (show (x4).toInt ≤ (x5).toInt by first | with_reducible assumption | omega) (show (x5).toInt ≤ (x4).toInt + 2000 by first | with_reducible assumption | omega) (show (x5).toInt ≤ (q_I δ 12 36 a0).toInt by first | with_reducible assumption | omega) (show (q_I δ 12 36 a0).toInt + 2000 * LGf (x3).toInt ≤ 12000 by first | with_reducible assumption | omega) (show (x3).toInt ≤ K by first | with_reducible assumption | omega) I) (fun r65 hr66 => ?_)
      obtain ⟨i67, ⟨u71, u72, u73⟩, p68, p69, p70⟩ := hr66
      have u74 := kp_t kp_r u71
      have v75 : q_V r65.2 = q_V δ := (u72).trans rfl
      have v76 := kr_t (kr_r (ad := ad)) u73
      have f77 := cb_12_36 i67 k_a0
      have f78 := ti_b r65.1
      refine ok_ite (fun h79 => ?_) (fun h79 => ?_)
      · have c80 : (1 : Int) = (0 : Int) := o_eq h79
        unfold J_X12_touch_349
        first | (have q82 := te_add x9v r65.1 (by omega) (by omega); obtain ⟨f83, f84, f85⟩ := q82) | (obtain ⟨q82, f83, f84, f85⟩ := ti_add x9v r65.1)
        first | (have q87 := te_addc (c := 0) (n := 0) rfl (x9v + r65.1) (by omega) (by omega); obtain ⟨f88, f89, f90⟩ := q87) | (obtain ⟨q87, f88, f89, f90⟩ := ti_addc (c := 0) (n := 0) rfl (x9v + r65.1))
        exact ok_some (show RI ad h.1 δ0 r65.2 ∧ (kp [(12, 36)] δ r65.2 ∧ q_V r65.2 = q_V δ ∧ kr ad [119] δ r65.2) ∧ (q_I r65.2 12 36 a0).toInt = (q_I δ 12 36 a0).toInt ∧ 1 ≤ (((x9v + r65.1) + (0 : Int32))).toInt ∧ (((x9v + r65.1) + (0 : Int32))).toInt ≤ VBf (x3).toInt from ⟨i67, ⟨kp_w (by decide) u74, v75, kr_w (by decide) v76⟩, by first | with_reducible assumption | omega, by first | with_reducible assumption | omega, by first | with_reducible assumption | omega⟩)
      · have c91 : (1 : Int) ≠ (0 : Int) := o_ne h79
        unfold J_X12_touch_349
        first | (have q93 := te_add x9v r65.1 (by omega) (by omega); obtain ⟨f94, f95, f96⟩ := q93) | (obtain ⟨q93, f94, f95, f96⟩ := ti_add x9v r65.1)
        first | (have q98 := te_addc (c := 1) (n := 1) rfl (x9v + r65.1) (by omega) (by omega); obtain ⟨f99, f100, f101⟩ := q98) | (obtain ⟨q98, f99, f100, f101⟩ := ti_addc (c := 1) (n := 1) rfl (x9v + r65.1))
        exact ok_some (show RI ad h.1 δ0 r65.2 ∧ (kp [(12, 36)] δ r65.2 ∧ q_V r65.2 = q_V δ ∧ kr ad [119] δ r65.2) ∧ (q_I r65.2 12 36 a0).toInt = (q_I δ 12 36 a0).toInt ∧ 1 ≤ (((x9v + r65.1) + (1 : Int32))).toInt ∧ (((x9v + r65.1) + (1 : Int32))).toInt ≤ VBf (x3).toInt from ⟨i67, ⟨kp_w (by decide) u74, v75, kr_w (by decide) v76⟩, by first | with_reducible assumption | omega, by first | with_reducible assumption | omega, by first | with_reducible assumption | omega⟩)
  · have c102 : x1.toInt ≠ (3 : Int) := o_ne h8
    obtain ⟨b103, o104, k105, n106, w107⟩ := gO_12_35 L k_a0
    obtain rfl := gS_12_35 L k_a0 o104
    refine ok_at o104 ?_
    first | (have q109 := te_addc (c := 1) (n := 1) rfl x4 (by omega) (by omega); obtain ⟨f110, f111, f112⟩ := q109) | (obtain ⟨q109, f110, f111, f112⟩ := ti_addc (c := 1) (n := 1) rfl x4)
    have t113 := ti_tn (x4 + (1 : Int32))
    refine ok_gd (fun hc114 => ?_) ?_
    · rcases hc114 with hc114 | hc114
      · have c115 : (x4 + (1 : Int32)).toInt < (0 : Int) := o_lt hc114
        omega
      · omega
    have f116 := ti_b (x2 >>> (x10v &&& 31))
    have f117 := ti_b ((q_R δ (Ad ad 119) (x4 + (1 : Int32)).toNatClampNeg) >>> (x10v &&& 31))
    refine ok_ite (fun h118 => ?_) (fun h118 => ?_)
    · have c119 : (x2 >>> (x10v &&& 31)).toInt ≤ ((q_R δ (Ad ad 119) (x4 + (1 : Int32)).toNatClampNeg) >>> (x10v &&& 31)).toInt := o_le h118
      unfold J_X12_touch_323
      refine ok_bind (k_bX12_inList L hN (a0 := a0) (x1 := x1) (x2 := x2) (x3 := x3) (x4 := x4) (x5 := x5) hT k_a0 (show 2 ≤ (x3).toInt by first | with_reducible assumption | omega) (show (x3).toInt ≤ 16 by first | with_reducible assumption | omega) (show 0 ≤ (x4).toInt by first | with_reducible assumption | omega) (show (x4).toInt ≤ (x5).toInt by first | with_reducible assumption | omega) (show (x5).toInt ≤ (x4).toInt + 2000 by first | with_reducible assumption | omega) (show (x5).toInt ≤ (q_I δ 12 36 a0).toInt by first | with_reducible assumption | omega) (show (q_I δ 12 36 a0).toInt + 2000 * LGf (x3).toInt ≤ 12000 by first | with_reducible assumption | omega) (show (x3).toInt ≤ K by first | with_reducible assumption | omega) I) (fun r120 hr121 => ?_)
      obtain ⟨i122, ⟨u126, u127, u128⟩, p123, p124, p125⟩ := hr121
      have u129 := kp_t kp_r u126
      have v130 : q_V r120.2 = q_V δ := (u127).trans rfl
      have v131 := kr_t (kr_r (ad := ad)) u128
      have f132 := cb_12_36 i122 k_a0
      have f133 := ti_b r120.1
      refine ok_ite (fun h134 => ?_) (fun h134 => ?_)
      · have c135 : (0 : Int) = (0 : Int) := o_eq h134
        unfold J_X12_touch_349
        first | (have q137 := te_add x9v r120.1 (by omega) (by omega); obtain ⟨f138, f139, f140⟩ := q137) | (obtain ⟨q137, f138, f139, f140⟩ := ti_add x9v r120.1)
        first | (have q142 := te_addc (c := 0) (n := 0) rfl (x9v + r120.1) (by omega) (by omega); obtain ⟨f143, f144, f145⟩ := q142) | (obtain ⟨q142, f143, f144, f145⟩ := ti_addc (c := 0) (n := 0) rfl (x9v + r120.1))
        exact ok_some (show RI ad h.1 δ0 r120.2 ∧ (kp [(12, 36)] δ r120.2 ∧ q_V r120.2 = q_V δ ∧ kr ad [119] δ r120.2) ∧ (q_I r120.2 12 36 a0).toInt = (q_I δ 12 36 a0).toInt ∧ 1 ≤ (((x9v + r120.1) + (0 : Int32))).toInt ∧ (((x9v + r120.1) + (0 : Int32))).toInt ≤ VBf (x3).toInt from ⟨i122, ⟨kp_w (by decide) u129, v130, kr_w (by decide) v131⟩, by first | with_reducible assumption | omega, by first | with_reducible assumption | omega, by first | with_reducible assumption | omega⟩)
      · have c146 : (0 : Int) ≠ (0 : Int) := o_ne h134
        unfold J_X12_touch_349
        first | (have q148 := te_add x9v r120.1 (by omega) (by omega); obtain ⟨f149, f150, f151⟩ := q148) | (obtain ⟨q148, f149, f150, f151⟩ := ti_add x9v r120.1)
        first | (have q153 := te_addc (c := 1) (n := 1) rfl (x9v + r120.1) (by omega) (by omega); obtain ⟨f154, f155, f156⟩ := q153) | (obtain ⟨q153, f154, f155, f156⟩ := ti_addc (c := 1) (n := 1) rfl (x9v + r120.1))
        exact ok_some (show RI ad h.1 δ0 r120.2 ∧ (kp [(12, 36)] δ r120.2 ∧ q_V r120.2 = q_V δ ∧ kr ad [119] δ r120.2) ∧ (q_I r120.2 12 36 a0).toInt = (q_I δ 12 36 a0).toInt ∧ 1 ≤ (((x9v + r120.1) + (1 : Int32))).toInt ∧ (((x9v + r120.1) + (1 : Int32))).toInt ≤ VBf (x3).toInt from ⟨i122, ⟨kp_w (by decide) u129, v130, kr_w (by decide) v131⟩, by first | with_reducible assumption | omega, by first | with_reducible assumption | omega, by first | with_reducible assumption | omega⟩)
    · have c157 : ((q_R δ (Ad ad 119) (x4 + (1 : Int32)).toNatClampNeg) >>> (x10v &&& 31)).toInt < (x2 >>> (x10v &&& 31)).toInt := o_nle h118
      unfold J_X12_touch_323
      refine ok_bind (k_bX12_inList L hN (a0 := a0) (x1 := x1) (x2 := x2) (x3 := x3) (x4 := x4) (x5 := x5) hT k_a0 (show 2 ≤ (x3).toInt by first | with_reducible assumption | omega) (show (x3).toInt ≤ 16 by first | with_reducible assumption | omega) (show 0 ≤ (x4).toInt by first | with_reducible assumption | omega) (show (x4).toInt ≤ (x5).toInt by first | with_reducible assumption | omega) (show (x5).toInt ≤ (x4).toInt + 2000 by first | with_reducible assumption | omega) (show (x5).toInt ≤ (q_I δ 12 36 a0).toInt by first | with_reducible assumption | omega) (show (q_I δ 12 36 a0).toInt + 2000 * LGf (x3).toInt ≤ 12000 by first | with_reducible assumption | omega) (show (x3).toInt ≤ K by first | with_reducible assumption | omega) I) (fun r158 hr159 => ?_)
      obtain ⟨i160, ⟨u164, u165, u166⟩, p161, p162, p163⟩ := hr159
      have u167 := kp_t kp_r u164
      have v168 : q_V r158.2 = q_V δ := (u165).trans rfl
      have v169 := kr_t (kr_r (ad := ad)) u166
      have f170 := cb_12_36 i160 k_a0
      have f171 := ti_b r158.1
      refine ok_ite (fun h172 => ?_) (fun h172 => ?_)
      · have c173 : (1 : Int) = (0 : Int) := o_eq h172
        unfold J_X12_touch_349
        first | (have q175 := te_add x9v r158.1 (by omega) (by omega); obtain ⟨f176, f177, f178⟩ := q175) | (obtain ⟨q175, f176, f177, f178⟩ := ti_add x9v r158.1)
        first | (have q180 := te_addc (c := 0) (n := 0) rfl (x9v + r158.1) (by omega) (by omega); obtain ⟨f181, f182, f183⟩ := q180) | (obtain ⟨q180, f181, f182, f183⟩ := ti_addc (c := 0) (n := 0) rfl (x9v + r158.1))
        exact ok_some (show RI ad h.1 δ0 r158.2 ∧ (kp [(12, 36)] δ r158.2 ∧ q_V r158.2 = q_V δ ∧ kr ad [119] δ r158.2) ∧ (q_I r158.2 12 36 a0).toInt = (q_I δ 12 36 a0).toInt ∧ 1 ≤ (((x9v + r158.1) + (0 : Int32))).toInt ∧ (((x9v + r158.1) + (0 : Int32))).toInt ≤ VBf (x3).toInt from ⟨i160, ⟨kp_w (by decide) u167, v168, kr_w (by decide) v169⟩, by first | with_reducible assumption | omega, by first | with_reducible assumption | omega, by first | with_reducible assumption | omega⟩)
      · have c184 : (1 : Int) ≠ (0 : Int) := o_ne h172
        unfold J_X12_touch_349
        first | (have q186 := te_add x9v r158.1 (by omega) (by omega); obtain ⟨f187, f188, f189⟩ := q186) | (obtain ⟨q186, f187, f188, f189⟩ := ti_add x9v r158.1)
        first | (have q191 := te_addc (c := 1) (n := 1) rfl (x9v + r158.1) (by omega) (by omega); obtain ⟨f192, f193, f194⟩ := q191) | (obtain ⟨q191, f192, f193, f194⟩ := ti_addc (c := 1) (n := 1) rfl (x9v + r158.1))
        exact ok_some (show RI ad h.1 δ0 r158.2 ∧ (kp [(12, 36)] δ r158.2 ∧ q_V r158.2 = q_V δ ∧ kr ad [119] δ r158.2) ∧ (q_I r158.2 12 36 a0).toInt = (q_I δ 12 36 a0).toInt ∧ 1 ≤ (((x9v + r158.1) + (1 : Int32))).toInt ∧ (((x9v + r158.1) + (1 : Int32))).toInt ≤ VBf (x3).toInt from ⟨i160, ⟨kp_w (by decide) u167, v168, kr_w (by decide) v169⟩, by first | with_reducible assumption | omega, by first | with_reducible assumption | omega, by first | with_reducible assumption | omega⟩)
set_option maxHeartbeats 4000000 in
theorem kj_X12_touch_158 {ad : List Nat} {h : hp} (L : Lay TLx ad h) {δ0 : dp} {N : Nat} (hN : 10000000 ≤ N) {T : Nat → Int32 → Int32 → Int32 → Int32 → Int32 → dp → Option (Int32 × dp)} {K : Int} (hT : ∀ (a0 : Nat) (x1 : Int32) (x2 : Int32) (x3 : Int32) (x4 : Int32) (x5 : Int32) (δ : dp), q_K h.1 a0 = 12 → 1 ≤ (x3).toInt → (x3).toInt ≤ 16 → 0 ≤ (x4).toInt → (x4).toInt ≤ (x5).toInt → (x5).toInt ≤ (x4).toInt + 2000 → (x5).toInt ≤ (q_I δ 12 36 a0).toInt → (q_I δ 12 36 a0).toInt + 2000 * LGf (x3).toInt ≤ 12000 → (x3).toInt < K → RI ad h.1 δ0 δ → ok (T a0 x1 x2 x3 x4 x5 δ) (fun r => RI ad h.1 δ0 r.2 ∧ (kp [(12, 36)] δ r.2 ∧ q_V r.2 = q_V δ ∧ kr ad [119] δ r.2) ∧ (q_I r.2 12 36 a0).toInt = (q_I δ 12 36 a0).toInt ∧ 1 ≤ (r.1).toInt ∧ (r.1).toInt ≤ VBf (x3).toInt)) {a0 : Nat} {x1 : Int32} {x2 : Int32} {x3 : Int32} {x4 : Int32} {x5 : Int32} {xs0 : Int32} (k_a0 : q_K h.1 a0 = 12) {δ : dp} (z0 : 2 ≤ (x3).toInt) (z1 : (x3).toInt ≤ 16) (z2 : 0 ≤ (x4).toInt) (z3 : (x4).toInt ≤ (x5).toInt) (z4 : (x5).toInt ≤ (x4).toInt + 2000) (z5 : (x5).toInt ≤ (q_I δ 12 36 a0).toInt) (z6 : (q_I δ 12 36 a0).toInt + 2000 * LGf (x3).toInt ≤ 12000) (z7 : (x3).toInt ≤ K) (z8 : (x4).toInt < (x5).toInt) (z9 : 0 ≤ (xs0).toInt) (z10 : (xs0).toInt ≤ 1) (I : RI ad h.1 δ0 δ) : ok (J_X12_touch_158 N h.1 T a0 x1 x2 x3 x4 x5 xs0 δ) (fun r => RI ad h.1 δ0 r.2 ∧ (kp [(12, 36)] δ r.2 ∧ q_V r.2 = q_V δ ∧ kr ad [119] δ r.2) ∧ (q_I r.2 12 36 a0).toInt = (q_I δ 12 36 a0).toInt ∧ 1 ≤ (r.1).toInt ∧ (r.1).toInt ≤ VBf (x3).toInt) := by
  unfold J_X12_touch_158
  have f1 := lgb (x3).toInt
  have f2 := ti_b x3
  have f3 := ti_b x4
  have f4 := ti_b x5
  have f5 := cb_12_36 I k_a0
  have f6 := ti_b xs0
  refine ok_ite (fun h7 => ?_) (fun h7 => ?_)
  · have c8 : xs0.toInt = (0 : Int) := o_eq h7
    first | (have q10 := te_sub x5 x4 (by omega) (by omega); obtain ⟨f11, f12, f13⟩ := q10) | (obtain ⟨q10, f11, f12, f13⟩ := ti_sub x5 x4)
    refine ok_ite (fun h14 => ?_) (fun h14 => ?_)
    · have c15 : (3 : Int) ≤ (x5 - x4).toInt := o_le h14
      refine ok_bind (k_X12_lowerBits L hN (a0 := a0) (x1 := x3) k_a0 (show 2 ≤ (x3).toInt by first | with_reducible assumption | omega) (show (x3).toInt ≤ 16 by first | with_reducible assumption | omega) I) (fun r16 hr17 => ?_)
      obtain ⟨i18, p19, p20, p21, p22, p23, p24⟩ := hr17
      try rw [i18]
      have f25 := ti_b r16.1
      have f26 := lgb (r16.1).toInt
      have f27 := lgb ((x3 - r16.1)).toInt
      first | (have q29 := te_sub x3 r16.1 (by omega) (by omega); obtain ⟨f30, f31, f32⟩ := q29) | (obtain ⟨q29, f30, f31, f32⟩ := ti_sub x3 r16.1)
      refine ok_bind (k_X12_roomMany L hN (a0 := a0) (x1 := x2) (x2 := x3) (x3 := x4) (x4 := x5) k_a0 (show 2 ≤ (x3).toInt by first | with_reducible assumption | omega) (show (x3).toInt ≤ 16 by first | with_reducible assumption | omega) (show 0 ≤ (x4).toInt by first | with_reducible assumption | omega) (show (x4).toInt ≤ (x5).toInt by first | with_reducible assumption | omega) (show (x5).toInt ≤ 14000 by first | with_reducible assumption | omega) I) (fun r33 hr34 => ?_)
      have i35 := hr34
      try rw [i35]
      have f36 := ti_b r33.1
      refine ok_ite (fun h37 => ?_) (fun h37 => ?_)
      · have c38 : r33.1.toInt ≤ (0 : Int) := o_le h37
        refine ok_mono (kj_X12_touch_267 L hN (a0 := a0) (x1 := x1) (x2 := x2) (x3 := x3) (x4 := x4) (x5 := x5) (x9v := (1 : Int32)) (x10v := r16.1) hT k_a0 (show 2 ≤ (x3).toInt by first | with_reducible assumption | omega) (show (x3).toInt ≤ 16 by first | with_reducible assumption | omega) (show 0 ≤ (x4).toInt by first | with_reducible assumption | omega) (show (x4).toInt ≤ (x5).toInt by first | with_reducible assumption | omega) (show (x5).toInt ≤ (x4).toInt + 2000 by first | with_reducible assumption | omega) (show (x5).toInt ≤ (q_I δ 12 36 a0).toInt by first | with_reducible assumption | omega) (show (q_I δ 12 36 a0).toInt + 2000 * LGf (x3).toInt ≤ 12000 by first | with_reducible assumption | omega) (show (x3).toInt ≤ K by first | with_reducible assumption | omega) (show (x4).toInt < (x5).toInt by first | with_reducible assumption | omega) (show (x4).toInt + 3 ≤ (x5).toInt by first | with_reducible assumption | omega) (show 1 ≤ (1 : Int) by first | with_reducible assumption | omega) (show (1 : Int) ≤ 2 by first | with_reducible assumption | omega) I) (fun r39 hr40 => ?_)
        obtain ⟨i41, ⟨u45, u46, u47⟩, p42, p43, p44⟩ := hr40
        have u48 := kp_t kp_r u45
        have v49 : q_V r39.2 = q_V δ := (u46).trans rfl
        have v50 := kr_t (kr_r (ad := ad)) u47
        have f51 := cb_12_36 i41 k_a0
        have f52 := ti_b r39.1
        exact ⟨by first | with_reducible assumption | assumption, ⟨kp_w (by decide) u48, v49, kr_w (by decide) v50⟩, by first | with_reducible assumption | omega, by first | with_reducible assumption | omega, by first | with_reducible assumption | omega⟩
      · have c53 : (0 : Int) < r33.1.toInt := o_nle h37
        refine ok_biv (fun vx54 e55 => ?_)
        first | (have q56 := te_cadd (c := 1) (n := 1) rfl (1 : Int32) (by omega) (by omega); rw [← e55] at q56; obtain ⟨f57, f58, f59⟩ := q56) | (obtain ⟨q56, f57, f58, f59⟩ : ∃ q : Int, vx54.toInt = (1 : Int) + (1 : Int) + 4294967296 * q ∧ -2147483648 ≤ vx54.toInt ∧ vx54.toInt ≤ 2147483647 := by rw [e55]; exact ti_cadd (c := 1) (n := 1) rfl (1 : Int32))
        have f62 := ti_b (x2 &&& (((1 : Int32) <<< (r16.1 &&& 31)) - (1 : Int32)))
        refine ok_biv (fun vx60 e61 => ?_)
        have f63 : vx60.toInt = (x2 &&& (((1 : Int32) <<< (r16.1 &&& 31)) - (1 : Int32))).toInt := congrArg Int32.toInt e61
        have f64 := ti_b x1
        refine ok_ite (fun h65 => ?_) (fun h65 => ?_)
        · have c66 : x1.toInt = (3 : Int) := o_eq h65
          refine ok_bind (k_X12_roomEnd L hN (a0 := a0) (x1 := x2) (x2 := x3) (x3 := x4) (x4 := x5) (x5 := (0 : Int32)) k_a0 (show 2 ≤ (x3).toInt by first | with_reducible assumption | omega) (show (x3).toInt ≤ 16 by first | with_reducible assumption | omega) (show 0 ≤ (x4).toInt by first | with_reducible assumption | omega) (show (x4).toInt ≤ (x5).toInt by first | with_reducible assumption | omega) (show (x5).toInt ≤ 14000 by first | with_reducible assumption | omega) I) (fun r67 hr68 => ?_)
          have i69 := hr68
          try rw [i69]
          have f70 := ti_b r67.1
          refine ok_ite (fun h71 => ?_) (fun h71 => ?_)
          · have c72 : r67.1.toInt ≤ vx60.toInt := o_le h71
            refine ok_mono (kj_X12_touch_267 L hN (a0 := a0) (x1 := x1) (x2 := x2) (x3 := x3) (x4 := x4) (x5 := x5) (x9v := vx54) (x10v := r16.1) hT k_a0 (show 2 ≤ (x3).toInt by first | with_reducible assumption | omega) (show (x3).toInt ≤ 16 by first | with_reducible assumption | omega) (show 0 ≤ (x4).toInt by first | with_reducible assumption | omega) (show (x4).toInt ≤ (x5).toInt by first | with_reducible assumption | omega) (show (x5).toInt ≤ (x4).toInt + 2000 by first | with_reducible assumption | omega) (show (x5).toInt ≤ (q_I δ 12 36 a0).toInt by first | with_reducible assumption | omega) (show (q_I δ 12 36 a0).toInt + 2000 * LGf (x3).toInt ≤ 12000 by first | with_reducible assumption | omega) (show (x3).toInt ≤ K by first | with_reducible assumption | omega) (show (x4).toInt < (x5).toInt by first | with_reducible assumption | omega) (show (x4).toInt + 3 ≤ (x5).toInt by first | with_reducible assumption | omega) (show 1 ≤ (vx54).toInt by first | with_reducible assumption | omega) (show (vx54).toInt ≤ 2 by first | with_reducible assumption | omega) I) (fun r73 hr74 => ?_)
            obtain ⟨i75, ⟨u79, u80, u81⟩, p76, p77, p78⟩ := hr74
            have u82 := kp_t kp_r u79
            have v83 : q_V r73.2 = q_V δ := (u80).trans rfl
            have v84 := kr_t (kr_r (ad := ad)) u81
            have f85 := cb_12_36 i75 k_a0
            have f86 := ti_b r73.1
            exact ⟨by first | with_reducible assumption | assumption, ⟨kp_w (by decide) u82, v83, kr_w (by decide) v84⟩, by first | with_reducible assumption | omega, by first | with_reducible assumption | omega, by first | with_reducible assumption | omega⟩
          · have c87 : vx60.toInt < r67.1.toInt := o_nle h71
            unfold J_X12_touch_252
            refine ok_bind (k_bX12_inRoom L hN (a0 := a0) (x1 := x1) (x2 := x2) (x3 := x3) (x4 := x4) (x5 := x5) hT k_a0 (show 2 ≤ (x3).toInt by first | with_reducible assumption | omega) (show (x3).toInt ≤ 16 by first | with_reducible assumption | omega) (show 0 ≤ (x4).toInt by first | with_reducible assumption | omega) (show (x4).toInt ≤ (x5).toInt by first | with_reducible assumption | omega) (show (x5).toInt ≤ (x4).toInt + 2000 by first | with_reducible assumption | omega) (show (x5).toInt ≤ (q_I δ 12 36 a0).toInt by first | with_reducible assumption | omega) (show (q_I δ 12 36 a0).toInt + 2000 * LGf (x3).toInt ≤ 12000 by first | with_reducible assumption | omega) (show (x3).toInt ≤ K by first | with_reducible assumption | omega) I) (fun r88 hr89 => ?_)
            obtain ⟨i90, ⟨u94, u95, u96⟩, p91, p92, p93⟩ := hr89
            have u97 := kp_t kp_r u94
            have v98 : q_V r88.2 = q_V δ := (u95).trans rfl
            have v99 := kr_t (kr_r (ad := ad)) u96
            have f100 := cb_12_36 i90 k_a0
            have f101 := ti_b r88.1
            first | (have q103 := te_add vx54 r88.1 (by omega) (by omega); obtain ⟨f104, f105, f106⟩ := q103) | (obtain ⟨q103, f104, f105, f106⟩ := ti_add vx54 r88.1)
            exact ok_some (show RI ad h.1 δ0 r88.2 ∧ (kp [(12, 36)] δ r88.2 ∧ q_V r88.2 = q_V δ ∧ kr ad [119] δ r88.2) ∧ (q_I r88.2 12 36 a0).toInt = (q_I δ 12 36 a0).toInt ∧ 1 ≤ ((vx54 + r88.1)).toInt ∧ ((vx54 + r88.1)).toInt ≤ VBf (x3).toInt from ⟨i90, ⟨kp_w (by decide) u97, v98, kr_w (by decide) v99⟩, by first | with_reducible assumption | omega, by first | with_reducible assumption | omega, by first | with_reducible assumption | omega⟩)
        · have c107 : x1.toInt ≠ (3 : Int) := o_ne h65
          refine ok_bind (k_X12_roomEnd L hN (a0 := a0) (x1 := x2) (x2 := x3) (x3 := x4) (x4 := x5) (x5 := (1 : Int32)) k_a0 (show 2 ≤ (x3).toInt by first | with_reducible assumption | omega) (show (x3).toInt ≤ 16 by first | with_reducible assumption | omega) (show 0 ≤ (x4).toInt by first | with_reducible assumption | omega) (show (x4).toInt ≤ (x5).toInt by first | with_reducible assumption | omega) (show (x5).toInt ≤ 14000 by first | with_reducible assumption | omega) I) (fun r108 hr109 => ?_)
          have i110 := hr109
          try rw [i110]
          have f111 := ti_b r108.1
          refine ok_ite (fun h112 => ?_) (fun h112 => ?_)
          · have c113 : vx60.toInt ≤ r108.1.toInt := o_le h112
            refine ok_mono (kj_X12_touch_267 L hN (a0 := a0) (x1 := x1) (x2 := x2) (x3 := x3) (x4 := x4) (x5 := x5) (x9v := vx54) (x10v := r16.1) hT k_a0 (show 2 ≤ (x3).toInt by first | with_reducible assumption | omega) (show (x3).toInt ≤ 16 by first | with_reducible assumption | omega) (show 0 ≤ (x4).toInt by first | with_reducible assumption | omega) (show (x4).toInt ≤ (x5).toInt by first | with_reducible assumption | omega) (show (x5).toInt ≤ (x4).toInt + 2000 by first | with_reducible assumption | omega) (show (x5).toInt ≤ (q_I δ 12 36 a0).toInt by first | with_reducible assumption | omega) (show (q_I δ 12 36 a0).toInt + 2000 * LGf (x3).toInt ≤ 12000 by first | with_reducible assumption | omega) (show (x3).toInt ≤ K by first | with_reducible assumption | omega) (show (x4).toInt < (x5).toInt by first | with_reducible assumption | omega) (show (x4).toInt + 3 ≤ (x5).toInt by first | with_reducible assumption | omega) (show 1 ≤ (vx54).toInt by first | with_reducible assumption | omega) (show (vx54).toInt ≤ 2 by first | with_reducible assumption | omega) I) (fun r114 hr115 => ?_)
            obtain ⟨i116, ⟨u120, u121, u122⟩, p117, p118, p119⟩ := hr115
            have u123 := kp_t kp_r u120
            have v124 : q_V r114.2 = q_V δ := (u121).trans rfl
            have v125 := kr_t (kr_r (ad := ad)) u122
            have f126 := cb_12_36 i116 k_a0
            have f127 := ti_b r114.1
            exact ⟨by first | with_reducible assumption | assumption, ⟨kp_w (by decide) u123, v124, kr_w (by decide) v125⟩, by first | with_reducible assumption | omega, by first | with_reducible assumption | omega, by first | with_reducible assumption | omega⟩
          · have c128 : r108.1.toInt < vx60.toInt := o_nle h112
            unfold J_X12_touch_252
            refine ok_bind (k_bX12_inRoom L hN (a0 := a0) (x1 := x1) (x2 := x2) (x3 := x3) (x4 := x4) (x5 := x5) hT k_a0 (show 2 ≤ (x3).toInt by first | with_reducible assumption | omega) (show (x3).toInt ≤ 16 by first | with_reducible assumption | omega) (show 0 ≤ (x4).toInt by first | with_reducible assumption | omega) (show (x4).toInt ≤ (x5).toInt by first | with_reducible assumption | omega) (show (x5).toInt ≤ (x4).toInt + 2000 by first | with_reducible assumption | omega) (show (x5).toInt ≤ (q_I δ 12 36 a0).toInt by first | with_reducible assumption | omega) (show (q_I δ 12 36 a0).toInt + 2000 * LGf (x3).toInt ≤ 12000 by first | with_reducible assumption | omega) (show (x3).toInt ≤ K by first | with_reducible assumption | omega) I) (fun r129 hr130 => ?_)
            obtain ⟨i131, ⟨u135, u136, u137⟩, p132, p133, p134⟩ := hr130
            have u138 := kp_t kp_r u135
            have v139 : q_V r129.2 = q_V δ := (u136).trans rfl
            have v140 := kr_t (kr_r (ad := ad)) u137
            have f141 := cb_12_36 i131 k_a0
            have f142 := ti_b r129.1
            first | (have q144 := te_add vx54 r129.1 (by omega) (by omega); obtain ⟨f145, f146, f147⟩ := q144) | (obtain ⟨q144, f145, f146, f147⟩ := ti_add vx54 r129.1)
            exact ok_some (show RI ad h.1 δ0 r129.2 ∧ (kp [(12, 36)] δ r129.2 ∧ q_V r129.2 = q_V δ ∧ kr ad [119] δ r129.2) ∧ (q_I r129.2 12 36 a0).toInt = (q_I δ 12 36 a0).toInt ∧ 1 ≤ ((vx54 + r129.1)).toInt ∧ ((vx54 + r129.1)).toInt ≤ VBf (x3).toInt from ⟨i131, ⟨kp_w (by decide) u138, v139, kr_w (by decide) v140⟩, by first | with_reducible assumption | omega, by first | with_reducible assumption | omega, by first | with_reducible assumption | omega⟩)
    · have c148 : (x5 - x4).toInt < (3 : Int) := o_nle h14
      unfold J_X12_touch_174
      exact ok_some (show RI ad h.1 δ0 δ ∧ (kp [(12, 36)] δ δ ∧ q_V δ = q_V δ ∧ kr ad [119] δ δ) ∧ (q_I δ 12 36 a0).toInt = (q_I δ 12 36 a0).toInt ∧ 1 ≤ (1 : Int) ∧ (1 : Int) ≤ VBf (x3).toInt from ⟨I, ⟨kp_w (by decide) kp_r, rfl, kr_w (by decide) (kr_r (ad := ad))⟩, by first | with_reducible assumption | omega, by first | with_reducible assumption | omega, by first | with_reducible assumption | omega⟩)
  · have c149 : xs0.toInt ≠ (0 : Int) := o_ne h7
    unfold J_X12_touch_174
    exact ok_some (show RI ad h.1 δ0 δ ∧ (kp [(12, 36)] δ δ ∧ q_V δ = q_V δ ∧ kr ad [119] δ δ) ∧ (q_I δ 12 36 a0).toInt = (q_I δ 12 36 a0).toInt ∧ 1 ≤ (1 : Int) ∧ (1 : Int) ≤ VBf (x3).toInt from ⟨I, ⟨kp_w (by decide) kp_r, rfl, kr_w (by decide) (kr_r (ad := ad))⟩, by first | with_reducible assumption | omega, by first | with_reducible assumption | omega, by first | with_reducible assumption | omega⟩)
set_option maxHeartbeats 4000000 in
theorem ke_X12_touch {ad : List Nat} {h : hp} (L : Lay TLx ad h) {δ0 : dp} {N : Nat} (hN : 10000000 ≤ N) : ∀ (k : Nat), ∀ (a0 : Nat) (x1 : Int32) (x2 : Int32) (x3 : Int32) (x4 : Int32) (x5 : Int32) (δ : dp), q_K h.1 a0 = 12 → 1 ≤ (x3).toInt → (x3).toInt ≤ 16 → 0 ≤ (x4).toInt → (x4).toInt ≤ (x5).toInt → (x5).toInt ≤ (x4).toInt + 2000 → (x5).toInt ≤ (q_I δ 12 36 a0).toInt → (q_I δ 12 36 a0).toInt + 2000 * LGf (x3).toInt ≤ 12000 → (x3).toInt < (k : Int) → RI ad h.1 δ0 δ → ok (E_X12_touch N h.1 k a0 x1 x2 x3 x4 x5 δ) (fun r => RI ad h.1 δ0 r.2 ∧ (kp [(12, 36)] δ r.2 ∧ q_V r.2 = q_V δ ∧ kr ad [119] δ r.2) ∧ (q_I r.2 12 36 a0).toInt = (q_I δ 12 36 a0).toInt ∧ 1 ≤ (r.1).toInt ∧ (r.1).toInt ≤ VBf (x3).toInt) := by
  intro k
  induction k with
  | zero =>
    intro a0 x1 x2 x3 x4 x5 δ k_a0 z0 z1 z2 z3 z4 z5 z6 hd I
    exfalso; omega
  | succ k ih =>
    intro a0 x1 x2 x3 x4 x5 δ k_a0 z0 z1 z2 z3 z4 z5 z6 hd I
    unfold E_X12_touch B_X12_touch
    have f1 := lgb (x3).toInt
    have f2 := ti_b x3
    have f3 := ti_b x4
    have f4 := ti_b x5
    have f5 := cb_12_36 I k_a0
    have f6 := cb_12_11 I k_a0
    refine ok_ite (fun h7 => ?_) (fun h7 => ?_)
    · have c8 : x3.toInt ≤ (q_I δ 12 11 a0).toInt := o_le h7
      unfold J_X12_touch_15
      exact ok_some (show RI ad h.1 δ0 δ ∧ (kp [(12, 36)] δ δ ∧ q_V δ = q_V δ ∧ kr ad [119] δ δ) ∧ (q_I δ 12 36 a0).toInt = (q_I δ 12 36 a0).toInt ∧ 1 ≤ (1 : Int) ∧ (1 : Int) ≤ VBf (x3).toInt from ⟨I, ⟨kp_w (by decide) kp_r, rfl, kr_w (by decide) (kr_r (ad := ad))⟩, by first | with_reducible assumption | omega, by first | with_reducible assumption | omega, by first | with_reducible assumption | omega⟩)
    · have c9 : (q_I δ 12 11 a0).toInt < x3.toInt := o_nle h7
      refine ok_ite (fun h10 => ?_) (fun h10 => ?_)
      · have c11 : x4.toInt = x5.toInt := o_eq h10
        unfold J_X12_touch_15
        exact ok_some (show RI ad h.1 δ0 δ ∧ (kp [(12, 36)] δ δ ∧ q_V δ = q_V δ ∧ kr ad [119] δ δ) ∧ (q_I δ 12 36 a0).toInt = (q_I δ 12 36 a0).toInt ∧ 1 ≤ (1 : Int) ∧ (1 : Int) ≤ VBf (x3).toInt from ⟨I, ⟨kp_w (by decide) kp_r, rfl, kr_w (by decide) (kr_r (ad := ad))⟩, by first | with_reducible assumption | omega, by first | with_reducible assumption | omega, by first | with_reducible assumption | omega⟩)
      · have c12 : x4.toInt ≠ x5.toInt := o_ne h10
        have f13 := ti_b x1
        refine ok_ite (fun h14 => ?_) (fun h14 => ?_)
        · have c15 : x1.toInt = (0 : Int) := o_eq h14
          refine ok_bind (k_bX12_touchPut L hN (a0 := a0) (x1 := x2) (x2 := x3) (x3 := x4) (x4 := x5) ih k_a0 (show 2 ≤ (x3).toInt by first | with_reducible assumption | omega) (show (x3).toInt ≤ 16 by first | with_reducible assumption | omega) (show 0 ≤ (x4).toInt by first | with_reducible assumption | omega) (show (x4).toInt ≤ (x5).toInt by first | with_reducible assumption | omega) (show (x5).toInt ≤ (x4).toInt + 2000 by first | with_reducible assumption | omega) (show (x5).toInt ≤ (q_I δ 12 36 a0).toInt by first | with_reducible assumption | omega) (show (q_I δ 12 36 a0).toInt + 2000 * LGf (x3).toInt ≤ 12000 by first | with_reducible assumption | omega) (show (x3).toInt ≤ (k : Int) by first | with_reducible assumption | omega) (show (x4).toInt < (x5).toInt by first | with_reducible assumption | omega) I) (fun r16 hr17 => ?_)
          obtain ⟨i18, ⟨u22, u23, u24⟩, p19, p20, p21⟩ := hr17
          have u25 := kp_t kp_r u22
          have v26 : q_V r16.2 = q_V δ := (u23).trans rfl
          have v27 := kr_t (kr_r (ad := ad)) u24
          have f28 := cb_12_36 i18 k_a0
          have f29 := ti_b r16.1
          exact ok_some (show RI ad h.1 δ0 r16.2 ∧ (kp [(12, 36)] δ r16.2 ∧ q_V r16.2 = q_V δ ∧ kr ad [119] δ r16.2) ∧ (q_I r16.2 12 36 a0).toInt = (q_I δ 12 36 a0).toInt ∧ 1 ≤ (r16.1).toInt ∧ (r16.1).toInt ≤ VBf (x3).toInt from ⟨i18, ⟨kp_w (by decide) u25, v26, kr_w (by decide) v27⟩, by first | with_reducible assumption | omega, by first | with_reducible assumption | omega, by first | with_reducible assumption | omega⟩)
        · have c30 : x1.toInt ≠ (0 : Int) := o_ne h14
          refine ok_ite (fun h31 => ?_) (fun h31 => ?_)
          · have c32 : x1.toInt = (1 : Int) := o_eq h31
            refine ok_bind (k_bX12_touchDrop L hN (a0 := a0) (x1 := x2) (x2 := x3) (x3 := x4) (x4 := x5) ih k_a0 (show 2 ≤ (x3).toInt by first | with_reducible assumption | omega) (show (x3).toInt ≤ 16 by first | with_reducible assumption | omega) (show 0 ≤ (x4).toInt by first | with_reducible assumption | omega) (show (x4).toInt ≤ (x5).toInt by first | with_reducible assumption | omega) (show (x5).toInt ≤ (x4).toInt + 2000 by first | with_reducible assumption | omega) (show (x5).toInt ≤ (q_I δ 12 36 a0).toInt by first | with_reducible assumption | omega) (show (q_I δ 12 36 a0).toInt + 2000 * LGf (x3).toInt ≤ 12000 by first | with_reducible assumption | omega) (show (x3).toInt ≤ (k : Int) by first | with_reducible assumption | omega) (show (x4).toInt < (x5).toInt by first | with_reducible assumption | omega) I) (fun r33 hr34 => ?_)
            obtain ⟨i35, ⟨u39, u40, u41⟩, p36, p37, p38⟩ := hr34
            have u42 := kp_t kp_r u39
            have v43 : q_V r33.2 = q_V δ := (u40).trans rfl
            have v44 := kr_t (kr_r (ad := ad)) u41
            have f45 := cb_12_36 i35 k_a0
            have f46 := ti_b r33.1
            exact ok_some (show RI ad h.1 δ0 r33.2 ∧ (kp [(12, 36)] δ r33.2 ∧ q_V r33.2 = q_V δ ∧ kr ad [119] δ r33.2) ∧ (q_I r33.2 12 36 a0).toInt = (q_I δ 12 36 a0).toInt ∧ 1 ≤ (r33.1).toInt ∧ (r33.1).toInt ≤ VBf (x3).toInt from ⟨i35, ⟨kp_w (by decide) u42, v43, kr_w (by decide) v44⟩, by first | with_reducible assumption | omega, by first | with_reducible assumption | omega, by first | with_reducible assumption | omega⟩)
          · have c47 : x1.toInt ≠ (1 : Int) := o_ne h31
            obtain ⟨b48, o49, k50, n51, w52⟩ := gO_12_35 L k_a0
            obtain rfl := gS_12_35 L k_a0 o49
            refine ok_at o49 ?_
            have t53 := ti_tn x4
            refine ok_gd (fun hc54 => ?_) ?_
            · rcases hc54 with hc54 | hc54
              · have c55 : x4.toInt < (0 : Int) := o_lt hc54
                omega
              · omega
            have f58 := ti_b (q_R δ (Ad ad 119) x4.toNatClampNeg)
            refine ok_biv (fun vx56 e57 => ?_)
            have f59 : vx56.toInt = (q_R δ (Ad ad 119) x4.toNatClampNeg).toInt := congrArg Int32.toInt e57
            refine ok_at o49 ?_
            first | (have q61 := te_subc (c := 1) (n := 1) rfl x5 (by omega) (by omega); obtain ⟨f62, f63, f64⟩ := q61) | (obtain ⟨q61, f62, f63, f64⟩ := ti_subc (c := 1) (n := 1) rfl x5)
            have t65 := ti_tn (x5 - (1 : Int32))
            refine ok_gd (fun hc66 => ?_) ?_
            · rcases hc66 with hc66 | hc66
              · have c67 : (x5 - (1 : Int32)).toInt < (0 : Int) := o_lt hc66
                omega
              · omega
            have f70 := ti_b (q_R δ (Ad ad 119) (x5 - (1 : Int32)).toNatClampNeg)
            refine ok_biv (fun vx68 e69 => ?_)
            have f71 : vx68.toInt = (q_R δ (Ad ad 119) (x5 - (1 : Int32)).toNatClampNeg).toInt := congrArg Int32.toInt e69
            refine ok_ite (fun h72 => ?_) (fun h72 => ?_)
            · have c73 : x1.toInt = (2 : Int) := o_eq h72
              have f74 := ti_b x2
              refine ok_ite (fun h75 => ?_) (fun h75 => ?_)
              · have c76 : x2.toInt ≤ vx56.toInt := o_le h75
                unfold J_X12_touch_98
                unfold J_X12_touch_115
                exact ok_some (show RI ad h.1 δ0 δ ∧ (kp [(12, 36)] δ δ ∧ q_V δ = q_V δ ∧ kr ad [119] δ δ) ∧ (q_I δ 12 36 a0).toInt = (q_I δ 12 36 a0).toInt ∧ 1 ≤ (1 : Int) ∧ (1 : Int) ≤ VBf (x3).toInt from ⟨I, ⟨kp_w (by decide) kp_r, rfl, kr_w (by decide) (kr_r (ad := ad))⟩, by first | with_reducible assumption | omega, by first | with_reducible assumption | omega, by first | with_reducible assumption | omega⟩)
              · have c77 : vx56.toInt < x2.toInt := o_nle h75
                refine ok_ite (fun h78 => ?_) (fun h78 => ?_)
                · have c79 : vx68.toInt ≤ x2.toInt := o_le h78
                  unfold J_X12_touch_98
                  unfold J_X12_touch_115
                  exact ok_some (show RI ad h.1 δ0 δ ∧ (kp [(12, 36)] δ δ ∧ q_V δ = q_V δ ∧ kr ad [119] δ δ) ∧ (q_I δ 12 36 a0).toInt = (q_I δ 12 36 a0).toInt ∧ 1 ≤ (1 : Int) ∧ (1 : Int) ≤ VBf (x3).toInt from ⟨I, ⟨kp_w (by decide) kp_r, rfl, kr_w (by decide) (kr_r (ad := ad))⟩, by first | with_reducible assumption | omega, by first | with_reducible assumption | omega, by first | with_reducible assumption | omega⟩)
                · have c80 : x2.toInt < vx68.toInt := o_nle h78
                  refine ok_bind (k_X12_roomMany L hN (a0 := a0) (x1 := x2) (x2 := x3) (x3 := x4) (x4 := x5) k_a0 (show 2 ≤ (x3).toInt by first | with_reducible assumption | omega) (show (x3).toInt ≤ 16 by first | with_reducible assumption | omega) (show 0 ≤ (x4).toInt by first | with_reducible assumption | omega) (show (x4).toInt ≤ (x5).toInt by first | with_reducible assumption | omega) (show (x5).toInt ≤ 14000 by first | with_reducible assumption | omega) I) (fun r81 hr82 => ?_)
                  have i83 := hr82
                  try rw [i83]
                  have f84 := ti_b r81.1
                  refine ok_ite (fun h85 => ?_) (fun h85 => ?_)
                  · have c86 : r81.1.toInt = (0 : Int) := o_eq h85
                    unfold J_X12_touch_98
                    unfold J_X12_touch_115
                    exact ok_some (show RI ad h.1 δ0 δ ∧ (kp [(12, 36)] δ δ ∧ q_V δ = q_V δ ∧ kr ad [119] δ δ) ∧ (q_I δ 12 36 a0).toInt = (q_I δ 12 36 a0).toInt ∧ 1 ≤ (1 : Int) ∧ (1 : Int) ≤ VBf (x3).toInt from ⟨I, ⟨kp_w (by decide) kp_r, rfl, kr_w (by decide) (kr_r (ad := ad))⟩, by first | with_reducible assumption | omega, by first | with_reducible assumption | omega, by first | with_reducible assumption | omega⟩)
                  · have c87 : r81.1.toInt ≠ (0 : Int) := o_ne h85
                    refine ok_bind (k_bX12_inRoom L hN (a0 := a0) (x1 := (2 : Int32)) (x2 := x2) (x3 := x3) (x4 := x4) (x5 := x5) ih k_a0 (show 2 ≤ (x3).toInt by first | with_reducible assumption | omega) (show (x3).toInt ≤ 16 by first | with_reducible assumption | omega) (show 0 ≤ (x4).toInt by first | with_reducible assumption | omega) (show (x4).toInt ≤ (x5).toInt by first | with_reducible assumption | omega) (show (x5).toInt ≤ (x4).toInt + 2000 by first | with_reducible assumption | omega) (show (x5).toInt ≤ (q_I δ 12 36 a0).toInt by first | with_reducible assumption | omega) (show (q_I δ 12 36 a0).toInt + 2000 * LGf (x3).toInt ≤ 12000 by first | with_reducible assumption | omega) (show (x3).toInt ≤ (k : Int) by first | with_reducible assumption | omega) I) (fun r88 hr89 => ?_)
                    obtain ⟨i90, ⟨u94, u95, u96⟩, p91, p92, p93⟩ := hr89
                    have u97 := kp_t kp_r u94
                    have v98 : q_V r88.2 = q_V δ := (u95).trans rfl
                    have v99 := kr_t (kr_r (ad := ad)) u96
                    have f100 := cb_12_36 i90 k_a0
                    have f101 := ti_b r88.1
                    unfold J_X12_touch_115
                    first | (have q103 := te_cadd (c := 1) (n := 1) rfl r88.1 (by omega) (by omega); obtain ⟨f104, f105, f106⟩ := q103) | (obtain ⟨q103, f104, f105, f106⟩ := ti_cadd (c := 1) (n := 1) rfl r88.1)
                    exact ok_some (show RI ad h.1 δ0 r88.2 ∧ (kp [(12, 36)] δ r88.2 ∧ q_V r88.2 = q_V δ ∧ kr ad [119] δ r88.2) ∧ (q_I r88.2 12 36 a0).toInt = (q_I δ 12 36 a0).toInt ∧ 1 ≤ (((1 : Int32) + r88.1)).toInt ∧ (((1 : Int32) + r88.1)).toInt ≤ VBf (x3).toInt from ⟨i90, ⟨kp_w (by decide) u97, v98, kr_w (by decide) v99⟩, by first | with_reducible assumption | omega, by first | with_reducible assumption | omega, by first | with_reducible assumption | omega⟩)
            · have c107 : x1.toInt ≠ (2 : Int) := o_ne h72
              refine ok_ite (fun h108 => ?_) (fun h108 => ?_)
              · have c109 : x1.toInt = (3 : Int) := o_eq h108
                have f110 := ti_b x2
                refine ok_ite (fun h111 => ?_) (fun h111 => ?_)
                · have c112 : x2.toInt < vx56.toInt := o_lt h111
                  unfold J_X12_touch_133
                  unfold J_X12_touch_158
                  refine ok_ite (fun h113 => ?_) (fun h113 => ?_)
                  · have c114 : (1 : Int) = (0 : Int) := o_eq h113
                    first | (have q116 := te_sub x5 x4 (by omega) (by omega); obtain ⟨f117, f118, f119⟩ := q116) | (obtain ⟨q116, f117, f118, f119⟩ := ti_sub x5 x4)
                    refine ok_ite (fun h120 => ?_) (fun h120 => ?_)
                    · have c121 : (3 : Int) ≤ (x5 - x4).toInt := o_le h120
                      refine ok_bind (k_X12_lowerBits L hN (a0 := a0) (x1 := x3) k_a0 (show 2 ≤ (x3).toInt by first | with_reducible assumption | omega) (show (x3).toInt ≤ 16 by first | with_reducible assumption | omega) I) (fun r122 hr123 => ?_)
                      obtain ⟨i124, p125, p126, p127, p128, p129, p130⟩ := hr123
                      try rw [i124]
                      have f131 := ti_b r122.1
                      have f132 := lgb (r122.1).toInt
                      have f133 := lgb ((x3 - r122.1)).toInt
                      first | (have q135 := te_sub x3 r122.1 (by omega) (by omega); obtain ⟨f136, f137, f138⟩ := q135) | (obtain ⟨q135, f136, f137, f138⟩ := ti_sub x3 r122.1)
                      refine ok_bind (k_X12_roomMany L hN (a0 := a0) (x1 := x2) (x2 := x3) (x3 := x4) (x4 := x5) k_a0 (show 2 ≤ (x3).toInt by first | with_reducible assumption | omega) (show (x3).toInt ≤ 16 by first | with_reducible assumption | omega) (show 0 ≤ (x4).toInt by first | with_reducible assumption | omega) (show (x4).toInt ≤ (x5).toInt by first | with_reducible assumption | omega) (show (x5).toInt ≤ 14000 by first | with_reducible assumption | omega) I) (fun r139 hr140 => ?_)
                      have i141 := hr140
                      try rw [i141]
                      have f142 := ti_b r139.1
                      refine ok_ite (fun h143 => ?_) (fun h143 => ?_)
                      · have c144 : r139.1.toInt ≤ (0 : Int) := o_le h143
                        refine ok_mono (kj_X12_touch_267 L hN (a0 := a0) (x1 := x1) (x2 := x2) (x3 := x3) (x4 := x4) (x5 := x5) (x9v := (1 : Int32)) (x10v := r122.1) ih k_a0 (show 2 ≤ (x3).toInt by first | with_reducible assumption | omega) (show (x3).toInt ≤ 16 by first | with_reducible assumption | omega) (show 0 ≤ (x4).toInt by first | with_reducible assumption | omega) (show (x4).toInt ≤ (x5).toInt by first | with_reducible assumption | omega) (show (x5).toInt ≤ (x4).toInt + 2000 by first | with_reducible assumption | omega) (show (x5).toInt ≤ (q_I δ 12 36 a0).toInt by first | with_reducible assumption | omega) (show (q_I δ 12 36 a0).toInt + 2000 * LGf (x3).toInt ≤ 12000 by first | with_reducible assumption | omega) (show (x3).toInt ≤ (k : Int) by first | with_reducible assumption | omega) (show (x4).toInt < (x5).toInt by first | with_reducible assumption | omega) (show (x4).toInt + 3 ≤ (x5).toInt by first | with_reducible assumption | omega) (show 1 ≤ (1 : Int) by first | with_reducible assumption | omega) (show (1 : Int) ≤ 2 by first | with_reducible assumption | omega) I) (fun r145 hr146 => ?_)
                        obtain ⟨i147, ⟨u151, u152, u153⟩, p148, p149, p150⟩ := hr146
                        have u154 := kp_t kp_r u151
                        have v155 : q_V r145.2 = q_V δ := (u152).trans rfl
                        have v156 := kr_t (kr_r (ad := ad)) u153
                        have f157 := cb_12_36 i147 k_a0
                        have f158 := ti_b r145.1
                        exact ⟨by first | with_reducible assumption | assumption, ⟨kp_w (by decide) u154, v155, kr_w (by decide) v156⟩, by first | with_reducible assumption | omega, by first | with_reducible assumption | omega, by first | with_reducible assumption | omega⟩
                      · have c159 : (0 : Int) < r139.1.toInt := o_nle h143
                        refine ok_biv (fun vx160 e161 => ?_)
                        first | (have q162 := te_cadd (c := 1) (n := 1) rfl (1 : Int32) (by omega) (by omega); rw [← e161] at q162; obtain ⟨f163, f164, f165⟩ := q162) | (obtain ⟨q162, f163, f164, f165⟩ : ∃ q : Int, vx160.toInt = (1 : Int) + (1 : Int) + 4294967296 * q ∧ -2147483648 ≤ vx160.toInt ∧ vx160.toInt ≤ 2147483647 := by rw [e161]; exact ti_cadd (c := 1) (n := 1) rfl (1 : Int32))
                        have f168 := ti_b (x2 &&& (((1 : Int32) <<< (r122.1 &&& 31)) - (1 : Int32)))
                        refine ok_biv (fun vx166 e167 => ?_)
                        have f169 : vx166.toInt = (x2 &&& (((1 : Int32) <<< (r122.1 &&& 31)) - (1 : Int32))).toInt := congrArg Int32.toInt e167
                        refine ok_ite (fun h170 => ?_) (fun h170 => ?_)
                        · have c171 : x1.toInt = (3 : Int) := o_eq h170
                          refine ok_bind (k_X12_roomEnd L hN (a0 := a0) (x1 := x2) (x2 := x3) (x3 := x4) (x4 := x5) (x5 := (0 : Int32)) k_a0 (show 2 ≤ (x3).toInt by first | with_reducible assumption | omega) (show (x3).toInt ≤ 16 by first | with_reducible assumption | omega) (show 0 ≤ (x4).toInt by first | with_reducible assumption | omega) (show (x4).toInt ≤ (x5).toInt by first | with_reducible assumption | omega) (show (x5).toInt ≤ 14000 by first | with_reducible assumption | omega) I) (fun r172 hr173 => ?_)
                          have i174 := hr173
                          try rw [i174]
                          have f175 := ti_b r172.1
                          refine ok_ite (fun h176 => ?_) (fun h176 => ?_)
                          · have c177 : r172.1.toInt ≤ vx166.toInt := o_le h176
                            refine ok_mono (kj_X12_touch_267 L hN (a0 := a0) (x1 := x1) (x2 := x2) (x3 := x3) (x4 := x4) (x5 := x5) (x9v := vx160) (x10v := r122.1) ih k_a0 (show 2 ≤ (x3).toInt by first | with_reducible assumption | omega) (show (x3).toInt ≤ 16 by first | with_reducible assumption | omega) (show 0 ≤ (x4).toInt by first | with_reducible assumption | omega) (show (x4).toInt ≤ (x5).toInt by first | with_reducible assumption | omega) (show (x5).toInt ≤ (x4).toInt + 2000 by first | with_reducible assumption | omega) (show (x5).toInt ≤ (q_I δ 12 36 a0).toInt by first | with_reducible assumption | omega) (show (q_I δ 12 36 a0).toInt + 2000 * LGf (x3).toInt ≤ 12000 by first | with_reducible assumption | omega) (show (x3).toInt ≤ (k : Int) by first | with_reducible assumption | omega) (show (x4).toInt < (x5).toInt by first | with_reducible assumption | omega) (show (x4).toInt + 3 ≤ (x5).toInt by first | with_reducible assumption | omega) (show 1 ≤ (vx160).toInt by first | with_reducible assumption | omega) (show (vx160).toInt ≤ 2 by first | with_reducible assumption | omega) I) (fun r178 hr179 => ?_)
                            obtain ⟨i180, ⟨u184, u185, u186⟩, p181, p182, p183⟩ := hr179
                            have u187 := kp_t kp_r u184
                            have v188 : q_V r178.2 = q_V δ := (u185).trans rfl
                            have v189 := kr_t (kr_r (ad := ad)) u186
                            have f190 := cb_12_36 i180 k_a0
                            have f191 := ti_b r178.1
                            exact ⟨by first | with_reducible assumption | assumption, ⟨kp_w (by decide) u187, v188, kr_w (by decide) v189⟩, by first | with_reducible assumption | omega, by first | with_reducible assumption | omega, by first | with_reducible assumption | omega⟩
                          · have c192 : vx166.toInt < r172.1.toInt := o_nle h176
                            unfold J_X12_touch_252
                            refine ok_bind (k_bX12_inRoom L hN (a0 := a0) (x1 := x1) (x2 := x2) (x3 := x3) (x4 := x4) (x5 := x5) ih k_a0 (show 2 ≤ (x3).toInt by first | with_reducible assumption | omega) (show (x3).toInt ≤ 16 by first | with_reducible assumption | omega) (show 0 ≤ (x4).toInt by first | with_reducible assumption | omega) (show (x4).toInt ≤ (x5).toInt by first | with_reducible assumption | omega) (show (x5).toInt ≤ (x4).toInt + 2000 by first | with_reducible assumption | omega) (show (x5).toInt ≤ (q_I δ 12 36 a0).toInt by first | with_reducible assumption | omega) (show (q_I δ 12 36 a0).toInt + 2000 * LGf (x3).toInt ≤ 12000 by first | with_reducible assumption | omega) (show (x3).toInt ≤ (k : Int) by first | with_reducible assumption | omega) I) (fun r193 hr194 => ?_)
                            obtain ⟨i195, ⟨u199, u200, u201⟩, p196, p197, p198⟩ := hr194
                            have u202 := kp_t kp_r u199
                            have v203 : q_V r193.2 = q_V δ := (u200).trans rfl
                            have v204 := kr_t (kr_r (ad := ad)) u201
                            have f205 := cb_12_36 i195 k_a0
                            have f206 := ti_b r193.1
                            first | (have q208 := te_add vx160 r193.1 (by omega) (by omega); obtain ⟨f209, f210, f211⟩ := q208) | (obtain ⟨q208, f209, f210, f211⟩ := ti_add vx160 r193.1)
                            exact ok_some (show RI ad h.1 δ0 r193.2 ∧ (kp [(12, 36)] δ r193.2 ∧ q_V r193.2 = q_V δ ∧ kr ad [119] δ r193.2) ∧ (q_I r193.2 12 36 a0).toInt = (q_I δ 12 36 a0).toInt ∧ 1 ≤ ((vx160 + r193.1)).toInt ∧ ((vx160 + r193.1)).toInt ≤ VBf (x3).toInt from ⟨i195, ⟨kp_w (by decide) u202, v203, kr_w (by decide) v204⟩, by first | with_reducible assumption | omega, by first | with_reducible assumption | omega, by first | with_reducible assumption | omega⟩)
                        · have c212 : x1.toInt ≠ (3 : Int) := o_ne h170
                          refine ok_bind (k_X12_roomEnd L hN (a0 := a0) (x1 := x2) (x2 := x3) (x3 := x4) (x4 := x5) (x5 := (1 : Int32)) k_a0 (show 2 ≤ (x3).toInt by first | with_reducible assumption | omega) (show (x3).toInt ≤ 16 by first | with_reducible assumption | omega) (show 0 ≤ (x4).toInt by first | with_reducible assumption | omega) (show (x4).toInt ≤ (x5).toInt by first | with_reducible assumption | omega) (show (x5).toInt ≤ 14000 by first | with_reducible assumption | omega) I) (fun r213 hr214 => ?_)
                          have i215 := hr214
                          try rw [i215]
                          have f216 := ti_b r213.1
                          refine ok_ite (fun h217 => ?_) (fun h217 => ?_)
                          · have c218 : vx166.toInt ≤ r213.1.toInt := o_le h217
                            refine ok_mono (kj_X12_touch_267 L hN (a0 := a0) (x1 := x1) (x2 := x2) (x3 := x3) (x4 := x4) (x5 := x5) (x9v := vx160) (x10v := r122.1) ih k_a0 (show 2 ≤ (x3).toInt by first | with_reducible assumption | omega) (show (x3).toInt ≤ 16 by first | with_reducible assumption | omega) (show 0 ≤ (x4).toInt by first | with_reducible assumption | omega) (show (x4).toInt ≤ (x5).toInt by first | with_reducible assumption | omega) (show (x5).toInt ≤ (x4).toInt + 2000 by first | with_reducible assumption | omega) (show (x5).toInt ≤ (q_I δ 12 36 a0).toInt by first | with_reducible assumption | omega) (show (q_I δ 12 36 a0).toInt + 2000 * LGf (x3).toInt ≤ 12000 by first | with_reducible assumption | omega) (show (x3).toInt ≤ (k : Int) by first | with_reducible assumption | omega) (show (x4).toInt < (x5).toInt by first | with_reducible assumption | omega) (show (x4).toInt + 3 ≤ (x5).toInt by first | with_reducible assumption | omega) (show 1 ≤ (vx160).toInt by first | with_reducible assumption | omega) (show (vx160).toInt ≤ 2 by first | with_reducible assumption | omega) I) (fun r219 hr220 => ?_)
                            obtain ⟨i221, ⟨u225, u226, u227⟩, p222, p223, p224⟩ := hr220
                            have u228 := kp_t kp_r u225
                            have v229 : q_V r219.2 = q_V δ := (u226).trans rfl
                            have v230 := kr_t (kr_r (ad := ad)) u227
                            have f231 := cb_12_36 i221 k_a0
                            have f232 := ti_b r219.1
                            exact ⟨by first | with_reducible assumption | assumption, ⟨kp_w (by decide) u228, v229, kr_w (by decide) v230⟩, by first | with_reducible assumption | omega, by first | with_reducible assumption | omega, by first | with_reducible assumption | omega⟩
                          · have c233 : r213.1.toInt < vx166.toInt := o_nle h217
                            unfold J_X12_touch_252
                            refine ok_bind (k_bX12_inRoom L hN (a0 := a0) (x1 := x1) (x2 := x2) (x3 := x3) (x4 := x4) (x5 := x5) ih k_a0 (show 2 ≤ (x3).toInt by first | with_reducible assumption | omega) (show (x3).toInt ≤ 16 by first | with_reducible assumption | omega) (show 0 ≤ (x4).toInt by first | with_reducible assumption | omega) (show (x4).toInt ≤ (x5).toInt by first | with_reducible assumption | omega) (show (x5).toInt ≤ (x4).toInt + 2000 by first | with_reducible assumption | omega) (show (x5).toInt ≤ (q_I δ 12 36 a0).toInt by first | with_reducible assumption | omega) (show (q_I δ 12 36 a0).toInt + 2000 * LGf (x3).toInt ≤ 12000 by first | with_reducible assumption | omega) (show (x3).toInt ≤ (k : Int) by first | with_reducible assumption | omega) I) (fun r234 hr235 => ?_)
                            obtain ⟨i236, ⟨u240, u241, u242⟩, p237, p238, p239⟩ := hr235
                            have u243 := kp_t kp_r u240
                            have v244 : q_V r234.2 = q_V δ := (u241).trans rfl
                            have v245 := kr_t (kr_r (ad := ad)) u242
                            have f246 := cb_12_36 i236 k_a0
                            have f247 := ti_b r234.1
                            first | (have q249 := te_add vx160 r234.1 (by omega) (by omega); obtain ⟨f250, f251, f252⟩ := q249) | (obtain ⟨q249, f250, f251, f252⟩ := ti_add vx160 r234.1)
                            exact ok_some (show RI ad h.1 δ0 r234.2 ∧ (kp [(12, 36)] δ r234.2 ∧ q_V r234.2 = q_V δ ∧ kr ad [119] δ r234.2) ∧ (q_I r234.2 12 36 a0).toInt = (q_I δ 12 36 a0).toInt ∧ 1 ≤ ((vx160 + r234.1)).toInt ∧ ((vx160 + r234.1)).toInt ≤ VBf (x3).toInt from ⟨i236, ⟨kp_w (by decide) u243, v244, kr_w (by decide) v245⟩, by first | with_reducible assumption | omega, by first | with_reducible assumption | omega, by first | with_reducible assumption | omega⟩)
                    · have c253 : (x5 - x4).toInt < (3 : Int) := o_nle h120
                      unfold J_X12_touch_174
                      exact ok_some (show RI ad h.1 δ0 δ ∧ (kp [(12, 36)] δ δ ∧ q_V δ = q_V δ ∧ kr ad [119] δ δ) ∧ (q_I δ 12 36 a0).toInt = (q_I δ 12 36 a0).toInt ∧ 1 ≤ (1 : Int) ∧ (1 : Int) ≤ VBf (x3).toInt from ⟨I, ⟨kp_w (by decide) kp_r, rfl, kr_w (by decide) (kr_r (ad := ad))⟩, by first | with_reducible assumption | omega, by first | with_reducible assumption | omega, by first | with_reducible assumption | omega⟩)
                  · have c254 : (1 : Int) ≠ (0 : Int) := o_ne h113
                    unfold J_X12_touch_174
                    exact ok_some (show RI ad h.1 δ0 δ ∧ (kp [(12, 36)] δ δ ∧ q_V δ = q_V δ ∧ kr ad [119] δ δ) ∧ (q_I δ 12 36 a0).toInt = (q_I δ 12 36 a0).toInt ∧ 1 ≤ (1 : Int) ∧ (1 : Int) ≤ VBf (x3).toInt from ⟨I, ⟨kp_w (by decide) kp_r, rfl, kr_w (by decide) (kr_r (ad := ad))⟩, by first | with_reducible assumption | omega, by first | with_reducible assumption | omega, by first | with_reducible assumption | omega⟩)
                · have c255 : vx56.toInt ≤ x2.toInt := o_nlt h111
                  refine ok_ite (fun h256 => ?_) (fun h256 => ?_)
                  · have c257 : x2.toInt < vx68.toInt := o_lt h256
                    unfold J_X12_touch_158
                    refine ok_ite (fun h258 => ?_) (fun h258 => ?_)
                    · have c259 : (0 : Int) = (0 : Int) := o_eq h258
                      first | (have q261 := te_sub x5 x4 (by omega) (by omega); obtain ⟨f262, f263, f264⟩ := q261) | (obtain ⟨q261, f262, f263, f264⟩ := ti_sub x5 x4)
                      refine ok_ite (fun h265 => ?_) (fun h265 => ?_)
                      · have c266 : (3 : Int) ≤ (x5 - x4).toInt := o_le h265
                        refine ok_bind (k_X12_lowerBits L hN (a0 := a0) (x1 := x3) k_a0 (show 2 ≤ (x3).toInt by first | with_reducible assumption | omega) (show (x3).toInt ≤ 16 by first | with_reducible assumption | omega) I) (fun r267 hr268 => ?_)
                        obtain ⟨i269, p270, p271, p272, p273, p274, p275⟩ := hr268
                        try rw [i269]
                        have f276 := ti_b r267.1
                        have f277 := lgb (r267.1).toInt
                        have f278 := lgb ((x3 - r267.1)).toInt
                        first | (have q280 := te_sub x3 r267.1 (by omega) (by omega); obtain ⟨f281, f282, f283⟩ := q280) | (obtain ⟨q280, f281, f282, f283⟩ := ti_sub x3 r267.1)
                        refine ok_bind (k_X12_roomMany L hN (a0 := a0) (x1 := x2) (x2 := x3) (x3 := x4) (x4 := x5) k_a0 (show 2 ≤ (x3).toInt by first | with_reducible assumption | omega) (show (x3).toInt ≤ 16 by first | with_reducible assumption | omega) (show 0 ≤ (x4).toInt by first | with_reducible assumption | omega) (show (x4).toInt ≤ (x5).toInt by first | with_reducible assumption | omega) (show (x5).toInt ≤ 14000 by first | with_reducible assumption | omega) I) (fun r284 hr285 => ?_)
                        have i286 := hr285
                        try rw [i286]
                        have f287 := ti_b r284.1
                        refine ok_ite (fun h288 => ?_) (fun h288 => ?_)
                        · have c289 : r284.1.toInt ≤ (0 : Int) := o_le h288
                          refine ok_mono (kj_X12_touch_267 L hN (a0 := a0) (x1 := x1) (x2 := x2) (x3 := x3) (x4 := x4) (x5 := x5) (x9v := (1 : Int32)) (x10v := r267.1) ih k_a0 (show 2 ≤ (x3).toInt by first | with_reducible assumption | omega) (show (x3).toInt ≤ 16 by first | with_reducible assumption | omega) (show 0 ≤ (x4).toInt by first | with_reducible assumption | omega) (show (x4).toInt ≤ (x5).toInt by first | with_reducible assumption | omega) (show (x5).toInt ≤ (x4).toInt + 2000 by first | with_reducible assumption | omega) (show (x5).toInt ≤ (q_I δ 12 36 a0).toInt by first | with_reducible assumption | omega) (show (q_I δ 12 36 a0).toInt + 2000 * LGf (x3).toInt ≤ 12000 by first | with_reducible assumption | omega) (show (x3).toInt ≤ (k : Int) by first | with_reducible assumption | omega) (show (x4).toInt < (x5).toInt by first | with_reducible assumption | omega) (show (x4).toInt + 3 ≤ (x5).toInt by first | with_reducible assumption | omega) (show 1 ≤ (1 : Int) by first | with_reducible assumption | omega) (show (1 : Int) ≤ 2 by first | with_reducible assumption | omega) I) (fun r290 hr291 => ?_)
                          obtain ⟨i292, ⟨u296, u297, u298⟩, p293, p294, p295⟩ := hr291
                          have u299 := kp_t kp_r u296
                          have v300 : q_V r290.2 = q_V δ := (u297).trans rfl
                          have v301 := kr_t (kr_r (ad := ad)) u298
                          have f302 := cb_12_36 i292 k_a0
                          have f303 := ti_b r290.1
                          exact ⟨by first | with_reducible assumption | assumption, ⟨kp_w (by decide) u299, v300, kr_w (by decide) v301⟩, by first | with_reducible assumption | omega, by first | with_reducible assumption | omega, by first | with_reducible assumption | omega⟩
                        · have c304 : (0 : Int) < r284.1.toInt := o_nle h288
                          refine ok_biv (fun vx305 e306 => ?_)
                          first | (have q307 := te_cadd (c := 1) (n := 1) rfl (1 : Int32) (by omega) (by omega); rw [← e306] at q307; obtain ⟨f308, f309, f310⟩ := q307) | (obtain ⟨q307, f308, f309, f310⟩ : ∃ q : Int, vx305.toInt = (1 : Int) + (1 : Int) + 4294967296 * q ∧ -2147483648 ≤ vx305.toInt ∧ vx305.toInt ≤ 2147483647 := by rw [e306]; exact ti_cadd (c := 1) (n := 1) rfl (1 : Int32))
                          have f313 := ti_b (x2 &&& (((1 : Int32) <<< (r267.1 &&& 31)) - (1 : Int32)))
                          refine ok_biv (fun vx311 e312 => ?_)
                          have f314 : vx311.toInt = (x2 &&& (((1 : Int32) <<< (r267.1 &&& 31)) - (1 : Int32))).toInt := congrArg Int32.toInt e312
                          refine ok_ite (fun h315 => ?_) (fun h315 => ?_)
                          · have c316 : x1.toInt = (3 : Int) := o_eq h315
                            refine ok_bind (k_X12_roomEnd L hN (a0 := a0) (x1 := x2) (x2 := x3) (x3 := x4) (x4 := x5) (x5 := (0 : Int32)) k_a0 (show 2 ≤ (x3).toInt by first | with_reducible assumption | omega) (show (x3).toInt ≤ 16 by first | with_reducible assumption | omega) (show 0 ≤ (x4).toInt by first | with_reducible assumption | omega) (show (x4).toInt ≤ (x5).toInt by first | with_reducible assumption | omega) (show (x5).toInt ≤ 14000 by first | with_reducible assumption | omega) I) (fun r317 hr318 => ?_)
                            have i319 := hr318
                            try rw [i319]
                            have f320 := ti_b r317.1
                            refine ok_ite (fun h321 => ?_) (fun h321 => ?_)
                            · have c322 : r317.1.toInt ≤ vx311.toInt := o_le h321
                              refine ok_mono (kj_X12_touch_267 L hN (a0 := a0) (x1 := x1) (x2 := x2) (x3 := x3) (x4 := x4) (x5 := x5) (x9v := vx305) (x10v := r267.1) ih k_a0 (show 2 ≤ (x3).toInt by first | with_reducible assumption | omega) (show (x3).toInt ≤ 16 by first | with_reducible assumption | omega) (show 0 ≤ (x4).toInt by first | with_reducible assumption | omega) (show (x4).toInt ≤ (x5).toInt by first | with_reducible assumption | omega) (show (x5).toInt ≤ (x4).toInt + 2000 by first | with_reducible assumption | omega) (show (x5).toInt ≤ (q_I δ 12 36 a0).toInt by first | with_reducible assumption | omega) (show (q_I δ 12 36 a0).toInt + 2000 * LGf (x3).toInt ≤ 12000 by first | with_reducible assumption | omega) (show (x3).toInt ≤ (k : Int) by first | with_reducible assumption | omega) (show (x4).toInt < (x5).toInt by first | with_reducible assumption | omega) (show (x4).toInt + 3 ≤ (x5).toInt by first | with_reducible assumption | omega) (show 1 ≤ (vx305).toInt by first | with_reducible assumption | omega) (show (vx305).toInt ≤ 2 by first | with_reducible assumption | omega) I) (fun r323 hr324 => ?_)
                              obtain ⟨i325, ⟨u329, u330, u331⟩, p326, p327, p328⟩ := hr324
                              have u332 := kp_t kp_r u329
                              have v333 : q_V r323.2 = q_V δ := (u330).trans rfl
                              have v334 := kr_t (kr_r (ad := ad)) u331
                              have f335 := cb_12_36 i325 k_a0
                              have f336 := ti_b r323.1
                              exact ⟨by first | with_reducible assumption | assumption, ⟨kp_w (by decide) u332, v333, kr_w (by decide) v334⟩, by first | with_reducible assumption | omega, by first | with_reducible assumption | omega, by first | with_reducible assumption | omega⟩
                            · have c337 : vx311.toInt < r317.1.toInt := o_nle h321
                              unfold J_X12_touch_252
                              refine ok_bind (k_bX12_inRoom L hN (a0 := a0) (x1 := x1) (x2 := x2) (x3 := x3) (x4 := x4) (x5 := x5) ih k_a0 (show 2 ≤ (x3).toInt by first | with_reducible assumption | omega) (show (x3).toInt ≤ 16 by first | with_reducible assumption | omega) (show 0 ≤ (x4).toInt by first | with_reducible assumption | omega) (show (x4).toInt ≤ (x5).toInt by first | with_reducible assumption | omega) (show (x5).toInt ≤ (x4).toInt + 2000 by first | with_reducible assumption | omega) (show (x5).toInt ≤ (q_I δ 12 36 a0).toInt by first | with_reducible assumption | omega) (show (q_I δ 12 36 a0).toInt + 2000 * LGf (x3).toInt ≤ 12000 by first | with_reducible assumption | omega) (show (x3).toInt ≤ (k : Int) by first | with_reducible assumption | omega) I) (fun r338 hr339 => ?_)
                              obtain ⟨i340, ⟨u344, u345, u346⟩, p341, p342, p343⟩ := hr339
                              have u347 := kp_t kp_r u344
                              have v348 : q_V r338.2 = q_V δ := (u345).trans rfl
                              have v349 := kr_t (kr_r (ad := ad)) u346
                              have f350 := cb_12_36 i340 k_a0
                              have f351 := ti_b r338.1
                              first | (have q353 := te_add vx305 r338.1 (by omega) (by omega); obtain ⟨f354, f355, f356⟩ := q353) | (obtain ⟨q353, f354, f355, f356⟩ := ti_add vx305 r338.1)
                              exact ok_some (show RI ad h.1 δ0 r338.2 ∧ (kp [(12, 36)] δ r338.2 ∧ q_V r338.2 = q_V δ ∧ kr ad [119] δ r338.2) ∧ (q_I r338.2 12 36 a0).toInt = (q_I δ 12 36 a0).toInt ∧ 1 ≤ ((vx305 + r338.1)).toInt ∧ ((vx305 + r338.1)).toInt ≤ VBf (x3).toInt from ⟨i340, ⟨kp_w (by decide) u347, v348, kr_w (by decide) v349⟩, by first | with_reducible assumption | omega, by first | with_reducible assumption | omega, by first | with_reducible assumption | omega⟩)
                          · have c357 : x1.toInt ≠ (3 : Int) := o_ne h315
                            refine ok_bind (k_X12_roomEnd L hN (a0 := a0) (x1 := x2) (x2 := x3) (x3 := x4) (x4 := x5) (x5 := (1 : Int32)) k_a0 (show 2 ≤ (x3).toInt by first | with_reducible assumption | omega) (show (x3).toInt ≤ 16 by first | with_reducible assumption | omega) (show 0 ≤ (x4).toInt by first | with_reducible assumption | omega) (show (x4).toInt ≤ (x5).toInt by first | with_reducible assumption | omega) (show (x5).toInt ≤ 14000 by first | with_reducible assumption | omega) I) (fun r358 hr359 => ?_)
                            have i360 := hr359
                            try rw [i360]
                            have f361 := ti_b r358.1
                            refine ok_ite (fun h362 => ?_) (fun h362 => ?_)
                            · have c363 : vx311.toInt ≤ r358.1.toInt := o_le h362
                              refine ok_mono (kj_X12_touch_267 L hN (a0 := a0) (x1 := x1) (x2 := x2) (x3 := x3) (x4 := x4) (x5 := x5) (x9v := vx305) (x10v := r267.1) ih k_a0 (show 2 ≤ (x3).toInt by first | with_reducible assumption | omega) (show (x3).toInt ≤ 16 by first | with_reducible assumption | omega) (show 0 ≤ (x4).toInt by first | with_reducible assumption | omega) (show (x4).toInt ≤ (x5).toInt by first | with_reducible assumption | omega) (show (x5).toInt ≤ (x4).toInt + 2000 by first | with_reducible assumption | omega) (show (x5).toInt ≤ (q_I δ 12 36 a0).toInt by first | with_reducible assumption | omega) (show (q_I δ 12 36 a0).toInt + 2000 * LGf (x3).toInt ≤ 12000 by first | with_reducible assumption | omega) (show (x3).toInt ≤ (k : Int) by first | with_reducible assumption | omega) (show (x4).toInt < (x5).toInt by first | with_reducible assumption | omega) (show (x4).toInt + 3 ≤ (x5).toInt by first | with_reducible assumption | omega) (show 1 ≤ (vx305).toInt by first | with_reducible assumption | omega) (show (vx305).toInt ≤ 2 by first | with_reducible assumption | omega) I) (fun r364 hr365 => ?_)
                              obtain ⟨i366, ⟨u370, u371, u372⟩, p367, p368, p369⟩ := hr365
                              have u373 := kp_t kp_r u370
                              have v374 : q_V r364.2 = q_V δ := (u371).trans rfl
                              have v375 := kr_t (kr_r (ad := ad)) u372
                              have f376 := cb_12_36 i366 k_a0
                              have f377 := ti_b r364.1
                              exact ⟨by first | with_reducible assumption | assumption, ⟨kp_w (by decide) u373, v374, kr_w (by decide) v375⟩, by first | with_reducible assumption | omega, by first | with_reducible assumption | omega, by first | with_reducible assumption | omega⟩
                            · have c378 : r358.1.toInt < vx311.toInt := o_nle h362
                              unfold J_X12_touch_252
                              refine ok_bind (k_bX12_inRoom L hN (a0 := a0) (x1 := x1) (x2 := x2) (x3 := x3) (x4 := x4) (x5 := x5) ih k_a0 (show 2 ≤ (x3).toInt by first | with_reducible assumption | omega) (show (x3).toInt ≤ 16 by first | with_reducible assumption | omega) (show 0 ≤ (x4).toInt by first | with_reducible assumption | omega) (show (x4).toInt ≤ (x5).toInt by first | with_reducible assumption | omega) (show (x5).toInt ≤ (x4).toInt + 2000 by first | with_reducible assumption | omega) (show (x5).toInt ≤ (q_I δ 12 36 a0).toInt by first | with_reducible assumption | omega) (show (q_I δ 12 36 a0).toInt + 2000 * LGf (x3).toInt ≤ 12000 by first | with_reducible assumption | omega) (show (x3).toInt ≤ (k : Int) by first | with_reducible assumption | omega) I) (fun r379 hr380 => ?_)
                              obtain ⟨i381, ⟨u385, u386, u387⟩, p382, p383, p384⟩ := hr380
                              have u388 := kp_t kp_r u385
                              have v389 : q_V r379.2 = q_V δ := (u386).trans rfl
                              have v390 := kr_t (kr_r (ad := ad)) u387
                              have f391 := cb_12_36 i381 k_a0
                              have f392 := ti_b r379.1
                              first | (have q394 := te_add vx305 r379.1 (by omega) (by omega); obtain ⟨f395, f396, f397⟩ := q394) | (obtain ⟨q394, f395, f396, f397⟩ := ti_add vx305 r379.1)
                              exact ok_some (show RI ad h.1 δ0 r379.2 ∧ (kp [(12, 36)] δ r379.2 ∧ q_V r379.2 = q_V δ ∧ kr ad [119] δ r379.2) ∧ (q_I r379.2 12 36 a0).toInt = (q_I δ 12 36 a0).toInt ∧ 1 ≤ ((vx305 + r379.1)).toInt ∧ ((vx305 + r379.1)).toInt ≤ VBf (x3).toInt from ⟨i381, ⟨kp_w (by decide) u388, v389, kr_w (by decide) v390⟩, by first | with_reducible assumption | omega, by first | with_reducible assumption | omega, by first | with_reducible assumption | omega⟩)
                      · have c398 : (x5 - x4).toInt < (3 : Int) := o_nle h265
                        unfold J_X12_touch_174
                        exact ok_some (show RI ad h.1 δ0 δ ∧ (kp [(12, 36)] δ δ ∧ q_V δ = q_V δ ∧ kr ad [119] δ δ) ∧ (q_I δ 12 36 a0).toInt = (q_I δ 12 36 a0).toInt ∧ 1 ≤ (1 : Int) ∧ (1 : Int) ≤ VBf (x3).toInt from ⟨I, ⟨kp_w (by decide) kp_r, rfl, kr_w (by decide) (kr_r (ad := ad))⟩, by first | with_reducible assumption | omega, by first | with_reducible assumption | omega, by first | with_reducible assumption | omega⟩)
                    · have c399 : (0 : Int) ≠ (0 : Int) := o_ne h258
                      unfold J_X12_touch_174
                      exact ok_some (show RI ad h.1 δ0 δ ∧ (kp [(12, 36)] δ δ ∧ q_V δ = q_V δ ∧ kr ad [119] δ δ) ∧ (q_I δ 12 36 a0).toInt = (q_I δ 12 36 a0).toInt ∧ 1 ≤ (1 : Int) ∧ (1 : Int) ≤ VBf (x3).toInt from ⟨I, ⟨kp_w (by decide) kp_r, rfl, kr_w (by decide) (kr_r (ad := ad))⟩, by first | with_reducible assumption | omega, by first | with_reducible assumption | omega, by first | with_reducible assumption | omega⟩)
                  · have c400 : vx68.toInt ≤ x2.toInt := o_nlt h256
                    unfold J_X12_touch_133
                    unfold J_X12_touch_158
                    refine ok_ite (fun h401 => ?_) (fun h401 => ?_)
                    · have c402 : (1 : Int) = (0 : Int) := o_eq h401
                      first | (have q404 := te_sub x5 x4 (by omega) (by omega); obtain ⟨f405, f406, f407⟩ := q404) | (obtain ⟨q404, f405, f406, f407⟩ := ti_sub x5 x4)
                      refine ok_ite (fun h408 => ?_) (fun h408 => ?_)
                      · have c409 : (3 : Int) ≤ (x5 - x4).toInt := o_le h408
                        refine ok_bind (k_X12_lowerBits L hN (a0 := a0) (x1 := x3) k_a0 (show 2 ≤ (x3).toInt by first | with_reducible assumption | omega) (show (x3).toInt ≤ 16 by first | with_reducible assumption | omega) I) (fun r410 hr411 => ?_)
                        obtain ⟨i412, p413, p414, p415, p416, p417, p418⟩ := hr411
                        try rw [i412]
                        have f419 := ti_b r410.1
                        have f420 := lgb (r410.1).toInt
                        have f421 := lgb ((x3 - r410.1)).toInt
                        first | (have q423 := te_sub x3 r410.1 (by omega) (by omega); obtain ⟨f424, f425, f426⟩ := q423) | (obtain ⟨q423, f424, f425, f426⟩ := ti_sub x3 r410.1)
                        refine ok_bind (k_X12_roomMany L hN (a0 := a0) (x1 := x2) (x2 := x3) (x3 := x4) (x4 := x5) k_a0 (show 2 ≤ (x3).toInt by first | with_reducible assumption | omega) (show (x3).toInt ≤ 16 by first | with_reducible assumption | omega) (show 0 ≤ (x4).toInt by first | with_reducible assumption | omega) (show (x4).toInt ≤ (x5).toInt by first | with_reducible assumption | omega) (show (x5).toInt ≤ 14000 by first | with_reducible assumption | omega) I) (fun r427 hr428 => ?_)
                        have i429 := hr428
                        try rw [i429]
                        have f430 := ti_b r427.1
                        refine ok_ite (fun h431 => ?_) (fun h431 => ?_)
                        · have c432 : r427.1.toInt ≤ (0 : Int) := o_le h431
                          refine ok_mono (kj_X12_touch_267 L hN (a0 := a0) (x1 := x1) (x2 := x2) (x3 := x3) (x4 := x4) (x5 := x5) (x9v := (1 : Int32)) (x10v := r410.1) ih k_a0 (show 2 ≤ (x3).toInt by first | with_reducible assumption | omega) (show (x3).toInt ≤ 16 by first | with_reducible assumption | omega) (show 0 ≤ (x4).toInt by first | with_reducible assumption | omega) (show (x4).toInt ≤ (x5).toInt by first | with_reducible assumption | omega) (show (x5).toInt ≤ (x4).toInt + 2000 by first | with_reducible assumption | omega) (show (x5).toInt ≤ (q_I δ 12 36 a0).toInt by first | with_reducible assumption | omega) (show (q_I δ 12 36 a0).toInt + 2000 * LGf (x3).toInt ≤ 12000 by first | with_reducible assumption | omega) (show (x3).toInt ≤ (k : Int) by first | with_reducible assumption | omega) (show (x4).toInt < (x5).toInt by first | with_reducible assumption | omega) (show (x4).toInt + 3 ≤ (x5).toInt by first | with_reducible assumption | omega) (show 1 ≤ (1 : Int) by first | with_reducible assumption | omega) (show (1 : Int) ≤ 2 by first | with_reducible assumption | omega) I) (fun r433 hr434 => ?_)
                          obtain ⟨i435, ⟨u439, u440, u441⟩, p436, p437, p438⟩ := hr434
                          have u442 := kp_t kp_r u439
                          have v443 : q_V r433.2 = q_V δ := (u440).trans rfl
                          have v444 := kr_t (kr_r (ad := ad)) u441
                          have f445 := cb_12_36 i435 k_a0
                          have f446 := ti_b r433.1
                          exact ⟨by first | with_reducible assumption | assumption, ⟨kp_w (by decide) u442, v443, kr_w (by decide) v444⟩, by first | with_reducible assumption | omega, by first | with_reducible assumption | omega, by first | with_reducible assumption | omega⟩
                        · have c447 : (0 : Int) < r427.1.toInt := o_nle h431
                          refine ok_biv (fun vx448 e449 => ?_)
                          first | (have q450 := te_cadd (c := 1) (n := 1) rfl (1 : Int32) (by omega) (by omega); rw [← e449] at q450; obtain ⟨f451, f452, f453⟩ := q450) | (obtain ⟨q450, f451, f452, f453⟩ : ∃ q : Int, vx448.toInt = (1 : Int) + (1 : Int) + 4294967296 * q ∧ -2147483648 ≤ vx448.toInt ∧ vx448.toInt ≤ 2147483647 := by rw [e449]; exact ti_cadd (c := 1) (n := 1) rfl (1 : Int32))
                          have f456 := ti_b (x2 &&& (((1 : Int32) <<< (r410.1 &&& 31)) - (1 : Int32)))
                          refine ok_biv (fun vx454 e455 => ?_)
                          have f457 : vx454.toInt = (x2 &&& (((1 : Int32) <<< (r410.1 &&& 31)) - (1 : Int32))).toInt := congrArg Int32.toInt e455
                          refine ok_ite (fun h458 => ?_) (fun h458 => ?_)
                          · have c459 : x1.toInt = (3 : Int) := o_eq h458
                            refine ok_bind (k_X12_roomEnd L hN (a0 := a0) (x1 := x2) (x2 := x3) (x3 := x4) (x4 := x5) (x5 := (0 : Int32)) k_a0 (show 2 ≤ (x3).toInt by first | with_reducible assumption | omega) (show (x3).toInt ≤ 16 by first | with_reducible assumption | omega) (show 0 ≤ (x4).toInt by first | with_reducible assumption | omega) (show (x4).toInt ≤ (x5).toInt by first | with_reducible assumption | omega) (show (x5).toInt ≤ 14000 by first | with_reducible assumption | omega) I) (fun r460 hr461 => ?_)
                            have i462 := hr461
                            try rw [i462]
                            have f463 := ti_b r460.1
                            refine ok_ite (fun h464 => ?_) (fun h464 => ?_)
                            · have c465 : r460.1.toInt ≤ vx454.toInt := o_le h464
                              refine ok_mono (kj_X12_touch_267 L hN (a0 := a0) (x1 := x1) (x2 := x2) (x3 := x3) (x4 := x4) (x5 := x5) (x9v := vx448) (x10v := r410.1) ih k_a0 (show 2 ≤ (x3).toInt by first | with_reducible assumption | omega) (show (x3).toInt ≤ 16 by first | with_reducible assumption | omega) (show 0 ≤ (x4).toInt by first | with_reducible assumption | omega) (show (x4).toInt ≤ (x5).toInt by first | with_reducible assumption | omega) (show (x5).toInt ≤ (x4).toInt + 2000 by first | with_reducible assumption | omega) (show (x5).toInt ≤ (q_I δ 12 36 a0).toInt by first | with_reducible assumption | omega) (show (q_I δ 12 36 a0).toInt + 2000 * LGf (x3).toInt ≤ 12000 by first | with_reducible assumption | omega) (show (x3).toInt ≤ (k : Int) by first | with_reducible assumption | omega) (show (x4).toInt < (x5).toInt by first | with_reducible assumption | omega) (show (x4).toInt + 3 ≤ (x5).toInt by first | with_reducible assumption | omega) (show 1 ≤ (vx448).toInt by first | with_reducible assumption | omega) (show (vx448).toInt ≤ 2 by first | with_reducible assumption | omega) I) (fun r466 hr467 => ?_)
                              obtain ⟨i468, ⟨u472, u473, u474⟩, p469, p470, p471⟩ := hr467
                              have u475 := kp_t kp_r u472
                              have v476 : q_V r466.2 = q_V δ := (u473).trans rfl
                              have v477 := kr_t (kr_r (ad := ad)) u474
                              have f478 := cb_12_36 i468 k_a0
                              have f479 := ti_b r466.1
                              exact ⟨by first | with_reducible assumption | assumption, ⟨kp_w (by decide) u475, v476, kr_w (by decide) v477⟩, by first | with_reducible assumption | omega, by first | with_reducible assumption | omega, by first | with_reducible assumption | omega⟩
                            · have c480 : vx454.toInt < r460.1.toInt := o_nle h464
                              unfold J_X12_touch_252
                              refine ok_bind (k_bX12_inRoom L hN (a0 := a0) (x1 := x1) (x2 := x2) (x3 := x3) (x4 := x4) (x5 := x5) ih k_a0 (show 2 ≤ (x3).toInt by first | with_reducible assumption | omega) (show (x3).toInt ≤ 16 by first | with_reducible assumption | omega) (show 0 ≤ (x4).toInt by first | with_reducible assumption | omega) (show (x4).toInt ≤ (x5).toInt by first | with_reducible assumption | omega) (show (x5).toInt ≤ (x4).toInt + 2000 by first | with_reducible assumption | omega) (show (x5).toInt ≤ (q_I δ 12 36 a0).toInt by first | with_reducible assumption | omega) (show (q_I δ 12 36 a0).toInt + 2000 * LGf (x3).toInt ≤ 12000 by first | with_reducible assumption | omega) (show (x3).toInt ≤ (k : Int) by first | with_reducible assumption | omega) I) (fun r481 hr482 => ?_)
                              obtain ⟨i483, ⟨u487, u488, u489⟩, p484, p485, p486⟩ := hr482
                              have u490 := kp_t kp_r u487
                              have v491 : q_V r481.2 = q_V δ := (u488).trans rfl
                              have v492 := kr_t (kr_r (ad := ad)) u489
                              have f493 := cb_12_36 i483 k_a0
                              have f494 := ti_b r481.1
                              first | (have q496 := te_add vx448 r481.1 (by omega) (by omega); obtain ⟨f497, f498, f499⟩ := q496) | (obtain ⟨q496, f497, f498, f499⟩ := ti_add vx448 r481.1)
                              exact ok_some (show RI ad h.1 δ0 r481.2 ∧ (kp [(12, 36)] δ r481.2 ∧ q_V r481.2 = q_V δ ∧ kr ad [119] δ r481.2) ∧ (q_I r481.2 12 36 a0).toInt = (q_I δ 12 36 a0).toInt ∧ 1 ≤ ((vx448 + r481.1)).toInt ∧ ((vx448 + r481.1)).toInt ≤ VBf (x3).toInt from ⟨i483, ⟨kp_w (by decide) u490, v491, kr_w (by decide) v492⟩, by first | with_reducible assumption | omega, by first | with_reducible assumption | omega, by first | with_reducible assumption | omega⟩)
                          · have c500 : x1.toInt ≠ (3 : Int) := o_ne h458
                            refine ok_bind (k_X12_roomEnd L hN (a0 := a0) (x1 := x2) (x2 := x3) (x3 := x4) (x4 := x5) (x5 := (1 : Int32)) k_a0 (show 2 ≤ (x3).toInt by first | with_reducible assumption | omega) (show (x3).toInt ≤ 16 by first | with_reducible assumption | omega) (show 0 ≤ (x4).toInt by first | with_reducible assumption | omega) (show (x4).toInt ≤ (x5).toInt by first | with_reducible assumption | omega) (show (x5).toInt ≤ 14000 by first | with_reducible assumption | omega) I) (fun r501 hr502 => ?_)
                            have i503 := hr502
                            try rw [i503]
                            have f504 := ti_b r501.1
                            refine ok_ite (fun h505 => ?_) (fun h505 => ?_)
                            · have c506 : vx454.toInt ≤ r501.1.toInt := o_le h505
                              refine ok_mono (kj_X12_touch_267 L hN (a0 := a0) (x1 := x1) (x2 := x2) (x3 := x3) (x4 := x4) (x5 := x5) (x9v := vx448) (x10v := r410.1) ih k_a0 (show 2 ≤ (x3).toInt by first | with_reducible assumption | omega) (show (x3).toInt ≤ 16 by first | with_reducible assumption | omega) (show 0 ≤ (x4).toInt by first | with_reducible assumption | omega) (show (x4).toInt ≤ (x5).toInt by first | with_reducible assumption | omega) (show (x5).toInt ≤ (x4).toInt + 2000 by first | with_reducible assumption | omega) (show (x5).toInt ≤ (q_I δ 12 36 a0).toInt by first | with_reducible assumption | omega) (show (q_I δ 12 36 a0).toInt + 2000 * LGf (x3).toInt ≤ 12000 by first | with_reducible assumption | omega) (show (x3).toInt ≤ (k : Int) by first | with_reducible assumption | omega) (show (x4).toInt < (x5).toInt by first | with_reducible assumption | omega) (show (x4).toInt + 3 ≤ (x5).toInt by first | with_reducible assumption | omega) (show 1 ≤ (vx448).toInt by first | with_reducible assumption | omega) (show (vx448).toInt ≤ 2 by first | with_reducible assumption | omega) I) (fun r507 hr508 => ?_)
                              obtain ⟨i509, ⟨u513, u514, u515⟩, p510, p511, p512⟩ := hr508
                              have u516 := kp_t kp_r u513
                              have v517 : q_V r507.2 = q_V δ := (u514).trans rfl
                              have v518 := kr_t (kr_r (ad := ad)) u515
                              have f519 := cb_12_36 i509 k_a0
                              have f520 := ti_b r507.1
                              exact ⟨by first | with_reducible assumption | assumption, ⟨kp_w (by decide) u516, v517, kr_w (by decide) v518⟩, by first | with_reducible assumption | omega, by first | with_reducible assumption | omega, by first | with_reducible assumption | omega⟩
                            · have c521 : r501.1.toInt < vx454.toInt := o_nle h505
                              unfold J_X12_touch_252
                              refine ok_bind (k_bX12_inRoom L hN (a0 := a0) (x1 := x1) (x2 := x2) (x3 := x3) (x4 := x4) (x5 := x5) ih k_a0 (show 2 ≤ (x3).toInt by first | with_reducible assumption | omega) (show (x3).toInt ≤ 16 by first | with_reducible assumption | omega) (show 0 ≤ (x4).toInt by first | with_reducible assumption | omega) (show (x4).toInt ≤ (x5).toInt by first | with_reducible assumption | omega) (show (x5).toInt ≤ (x4).toInt + 2000 by first | with_reducible assumption | omega) (show (x5).toInt ≤ (q_I δ 12 36 a0).toInt by first | with_reducible assumption | omega) (show (q_I δ 12 36 a0).toInt + 2000 * LGf (x3).toInt ≤ 12000 by first | with_reducible assumption | omega) (show (x3).toInt ≤ (k : Int) by first | with_reducible assumption | omega) I) (fun r522 hr523 => ?_)
                              obtain ⟨i524, ⟨u528, u529, u530⟩, p525, p526, p527⟩ := hr523
                              have u531 := kp_t kp_r u528
                              have v532 : q_V r522.2 = q_V δ := (u529).trans rfl
                              have v533 := kr_t (kr_r (ad := ad)) u530
                              have f534 := cb_12_36 i524 k_a0
                              have f535 := ti_b r522.1
                              first | (have q537 := te_add vx448 r522.1 (by omega) (by omega); obtain ⟨f538, f539, f540⟩ := q537) | (obtain ⟨q537, f538, f539, f540⟩ := ti_add vx448 r522.1)
                              exact ok_some (show RI ad h.1 δ0 r522.2 ∧ (kp [(12, 36)] δ r522.2 ∧ q_V r522.2 = q_V δ ∧ kr ad [119] δ r522.2) ∧ (q_I r522.2 12 36 a0).toInt = (q_I δ 12 36 a0).toInt ∧ 1 ≤ ((vx448 + r522.1)).toInt ∧ ((vx448 + r522.1)).toInt ≤ VBf (x3).toInt from ⟨i524, ⟨kp_w (by decide) u531, v532, kr_w (by decide) v533⟩, by first | with_reducible assumption | omega, by first | with_reducible assumption | omega, by first | with_reducible assumption | omega⟩)
                      · have c541 : (x5 - x4).toInt < (3 : Int) := o_nle h408
                        unfold J_X12_touch_174
                        exact ok_some (show RI ad h.1 δ0 δ ∧ (kp [(12, 36)] δ δ ∧ q_V δ = q_V δ ∧ kr ad [119] δ δ) ∧ (q_I δ 12 36 a0).toInt = (q_I δ 12 36 a0).toInt ∧ 1 ≤ (1 : Int) ∧ (1 : Int) ≤ VBf (x3).toInt from ⟨I, ⟨kp_w (by decide) kp_r, rfl, kr_w (by decide) (kr_r (ad := ad))⟩, by first | with_reducible assumption | omega, by first | with_reducible assumption | omega, by first | with_reducible assumption | omega⟩)
                    · have c542 : (1 : Int) ≠ (0 : Int) := o_ne h401
                      unfold J_X12_touch_174
                      exact ok_some (show RI ad h.1 δ0 δ ∧ (kp [(12, 36)] δ δ ∧ q_V δ = q_V δ ∧ kr ad [119] δ δ) ∧ (q_I δ 12 36 a0).toInt = (q_I δ 12 36 a0).toInt ∧ 1 ≤ (1 : Int) ∧ (1 : Int) ≤ VBf (x3).toInt from ⟨I, ⟨kp_w (by decide) kp_r, rfl, kr_w (by decide) (kr_r (ad := ad))⟩, by first | with_reducible assumption | omega, by first | with_reducible assumption | omega, by first | with_reducible assumption | omega⟩)
              · have c543 : x1.toInt ≠ (3 : Int) := o_ne h108
                have f544 := ti_b x2
                refine ok_ite (fun h545 => ?_) (fun h545 => ?_)
                · have c546 : vx68.toInt < x2.toInt := o_lt h545
                  unfold J_X12_touch_153
                  unfold J_X12_touch_158
                  refine ok_ite (fun h547 => ?_) (fun h547 => ?_)
                  · have c548 : (1 : Int) = (0 : Int) := o_eq h547
                    first | (have q550 := te_sub x5 x4 (by omega) (by omega); obtain ⟨f551, f552, f553⟩ := q550) | (obtain ⟨q550, f551, f552, f553⟩ := ti_sub x5 x4)
                    refine ok_ite (fun h554 => ?_) (fun h554 => ?_)
                    · have c555 : (3 : Int) ≤ (x5 - x4).toInt := o_le h554
                      refine ok_bind (k_X12_lowerBits L hN (a0 := a0) (x1 := x3) k_a0 (show 2 ≤ (x3).toInt by first | with_reducible assumption | omega) (show (x3).toInt ≤ 16 by first | with_reducible assumption | omega) I) (fun r556 hr557 => ?_)
                      obtain ⟨i558, p559, p560, p561, p562, p563, p564⟩ := hr557
                      try rw [i558]
                      have f565 := ti_b r556.1
                      have f566 := lgb (r556.1).toInt
                      have f567 := lgb ((x3 - r556.1)).toInt
                      first | (have q569 := te_sub x3 r556.1 (by omega) (by omega); obtain ⟨f570, f571, f572⟩ := q569) | (obtain ⟨q569, f570, f571, f572⟩ := ti_sub x3 r556.1)
                      refine ok_bind (k_X12_roomMany L hN (a0 := a0) (x1 := x2) (x2 := x3) (x3 := x4) (x4 := x5) k_a0 (show 2 ≤ (x3).toInt by first | with_reducible assumption | omega) (show (x3).toInt ≤ 16 by first | with_reducible assumption | omega) (show 0 ≤ (x4).toInt by first | with_reducible assumption | omega) (show (x4).toInt ≤ (x5).toInt by first | with_reducible assumption | omega) (show (x5).toInt ≤ 14000 by first | with_reducible assumption | omega) I) (fun r573 hr574 => ?_)
                      have i575 := hr574
                      try rw [i575]
                      have f576 := ti_b r573.1
                      refine ok_ite (fun h577 => ?_) (fun h577 => ?_)
                      · have c578 : r573.1.toInt ≤ (0 : Int) := o_le h577
                        refine ok_mono (kj_X12_touch_267 L hN (a0 := a0) (x1 := x1) (x2 := x2) (x3 := x3) (x4 := x4) (x5 := x5) (x9v := (1 : Int32)) (x10v := r556.1) ih k_a0 (show 2 ≤ (x3).toInt by first | with_reducible assumption | omega) (show (x3).toInt ≤ 16 by first | with_reducible assumption | omega) (show 0 ≤ (x4).toInt by first | with_reducible assumption | omega) (show (x4).toInt ≤ (x5).toInt by first | with_reducible assumption | omega) (show (x5).toInt ≤ (x4).toInt + 2000 by first | with_reducible assumption | omega) (show (x5).toInt ≤ (q_I δ 12 36 a0).toInt by first | with_reducible assumption | omega) (show (q_I δ 12 36 a0).toInt + 2000 * LGf (x3).toInt ≤ 12000 by first | with_reducible assumption | omega) (show (x3).toInt ≤ (k : Int) by first | with_reducible assumption | omega) (show (x4).toInt < (x5).toInt by first | with_reducible assumption | omega) (show (x4).toInt + 3 ≤ (x5).toInt by first | with_reducible assumption | omega) (show 1 ≤ (1 : Int) by first | with_reducible assumption | omega) (show (1 : Int) ≤ 2 by first | with_reducible assumption | omega) I) (fun r579 hr580 => ?_)
                        obtain ⟨i581, ⟨u585, u586, u587⟩, p582, p583, p584⟩ := hr580
                        have u588 := kp_t kp_r u585
                        have v589 : q_V r579.2 = q_V δ := (u586).trans rfl
                        have v590 := kr_t (kr_r (ad := ad)) u587
                        have f591 := cb_12_36 i581 k_a0
                        have f592 := ti_b r579.1
                        exact ⟨by first | with_reducible assumption | assumption, ⟨kp_w (by decide) u588, v589, kr_w (by decide) v590⟩, by first | with_reducible assumption | omega, by first | with_reducible assumption | omega, by first | with_reducible assumption | omega⟩
                      · have c593 : (0 : Int) < r573.1.toInt := o_nle h577
                        refine ok_biv (fun vx594 e595 => ?_)
                        first | (have q596 := te_cadd (c := 1) (n := 1) rfl (1 : Int32) (by omega) (by omega); rw [← e595] at q596; obtain ⟨f597, f598, f599⟩ := q596) | (obtain ⟨q596, f597, f598, f599⟩ : ∃ q : Int, vx594.toInt = (1 : Int) + (1 : Int) + 4294967296 * q ∧ -2147483648 ≤ vx594.toInt ∧ vx594.toInt ≤ 2147483647 := by rw [e595]; exact ti_cadd (c := 1) (n := 1) rfl (1 : Int32))
                        have f602 := ti_b (x2 &&& (((1 : Int32) <<< (r556.1 &&& 31)) - (1 : Int32)))
                        refine ok_biv (fun vx600 e601 => ?_)
                        have f603 : vx600.toInt = (x2 &&& (((1 : Int32) <<< (r556.1 &&& 31)) - (1 : Int32))).toInt := congrArg Int32.toInt e601
                        refine ok_ite (fun h604 => ?_) (fun h604 => ?_)
                        · have c605 : x1.toInt = (3 : Int) := o_eq h604
                          refine ok_bind (k_X12_roomEnd L hN (a0 := a0) (x1 := x2) (x2 := x3) (x3 := x4) (x4 := x5) (x5 := (0 : Int32)) k_a0 (show 2 ≤ (x3).toInt by first | with_reducible assumption | omega) (show (x3).toInt ≤ 16 by first | with_reducible assumption | omega) (show 0 ≤ (x4).toInt by first | with_reducible assumption | omega) (show (x4).toInt ≤ (x5).toInt by first | with_reducible assumption | omega) (show (x5).toInt ≤ 14000 by first | with_reducible assumption | omega) I) (fun r606 hr607 => ?_)
                          have i608 := hr607
                          try rw [i608]
                          have f609 := ti_b r606.1
                          refine ok_ite (fun h610 => ?_) (fun h610 => ?_)
                          · have c611 : r606.1.toInt ≤ vx600.toInt := o_le h610
                            refine ok_mono (kj_X12_touch_267 L hN (a0 := a0) (x1 := x1) (x2 := x2) (x3 := x3) (x4 := x4) (x5 := x5) (x9v := vx594) (x10v := r556.1) ih k_a0 (show 2 ≤ (x3).toInt by first | with_reducible assumption | omega) (show (x3).toInt ≤ 16 by first | with_reducible assumption | omega) (show 0 ≤ (x4).toInt by first | with_reducible assumption | omega) (show (x4).toInt ≤ (x5).toInt by first | with_reducible assumption | omega) (show (x5).toInt ≤ (x4).toInt + 2000 by first | with_reducible assumption | omega) (show (x5).toInt ≤ (q_I δ 12 36 a0).toInt by first | with_reducible assumption | omega) (show (q_I δ 12 36 a0).toInt + 2000 * LGf (x3).toInt ≤ 12000 by first | with_reducible assumption | omega) (show (x3).toInt ≤ (k : Int) by first | with_reducible assumption | omega) (show (x4).toInt < (x5).toInt by first | with_reducible assumption | omega) (show (x4).toInt + 3 ≤ (x5).toInt by first | with_reducible assumption | omega) (show 1 ≤ (vx594).toInt by first | with_reducible assumption | omega) (show (vx594).toInt ≤ 2 by first | with_reducible assumption | omega) I) (fun r612 hr613 => ?_)
                            obtain ⟨i614, ⟨u618, u619, u620⟩, p615, p616, p617⟩ := hr613
                            have u621 := kp_t kp_r u618
                            have v622 : q_V r612.2 = q_V δ := (u619).trans rfl
                            have v623 := kr_t (kr_r (ad := ad)) u620
                            have f624 := cb_12_36 i614 k_a0
                            have f625 := ti_b r612.1
                            exact ⟨by first | with_reducible assumption | assumption, ⟨kp_w (by decide) u621, v622, kr_w (by decide) v623⟩, by first | with_reducible assumption | omega, by first | with_reducible assumption | omega, by first | with_reducible assumption | omega⟩
                          · have c626 : vx600.toInt < r606.1.toInt := o_nle h610
                            unfold J_X12_touch_252
                            refine ok_bind (k_bX12_inRoom L hN (a0 := a0) (x1 := x1) (x2 := x2) (x3 := x3) (x4 := x4) (x5 := x5) ih k_a0 (show 2 ≤ (x3).toInt by first | with_reducible assumption | omega) (show (x3).toInt ≤ 16 by first | with_reducible assumption | omega) (show 0 ≤ (x4).toInt by first | with_reducible assumption | omega) (show (x4).toInt ≤ (x5).toInt by first | with_reducible assumption | omega) (show (x5).toInt ≤ (x4).toInt + 2000 by first | with_reducible assumption | omega) (show (x5).toInt ≤ (q_I δ 12 36 a0).toInt by first | with_reducible assumption | omega) (show (q_I δ 12 36 a0).toInt + 2000 * LGf (x3).toInt ≤ 12000 by first | with_reducible assumption | omega) (show (x3).toInt ≤ (k : Int) by first | with_reducible assumption | omega) I) (fun r627 hr628 => ?_)
                            obtain ⟨i629, ⟨u633, u634, u635⟩, p630, p631, p632⟩ := hr628
                            have u636 := kp_t kp_r u633
                            have v637 : q_V r627.2 = q_V δ := (u634).trans rfl
                            have v638 := kr_t (kr_r (ad := ad)) u635
                            have f639 := cb_12_36 i629 k_a0
                            have f640 := ti_b r627.1
                            first | (have q642 := te_add vx594 r627.1 (by omega) (by omega); obtain ⟨f643, f644, f645⟩ := q642) | (obtain ⟨q642, f643, f644, f645⟩ := ti_add vx594 r627.1)
                            exact ok_some (show RI ad h.1 δ0 r627.2 ∧ (kp [(12, 36)] δ r627.2 ∧ q_V r627.2 = q_V δ ∧ kr ad [119] δ r627.2) ∧ (q_I r627.2 12 36 a0).toInt = (q_I δ 12 36 a0).toInt ∧ 1 ≤ ((vx594 + r627.1)).toInt ∧ ((vx594 + r627.1)).toInt ≤ VBf (x3).toInt from ⟨i629, ⟨kp_w (by decide) u636, v637, kr_w (by decide) v638⟩, by first | with_reducible assumption | omega, by first | with_reducible assumption | omega, by first | with_reducible assumption | omega⟩)
                        · have c646 : x1.toInt ≠ (3 : Int) := o_ne h604
                          refine ok_bind (k_X12_roomEnd L hN (a0 := a0) (x1 := x2) (x2 := x3) (x3 := x4) (x4 := x5) (x5 := (1 : Int32)) k_a0 (show 2 ≤ (x3).toInt by first | with_reducible assumption | omega) (show (x3).toInt ≤ 16 by first | with_reducible assumption | omega) (show 0 ≤ (x4).toInt by first | with_reducible assumption | omega) (show (x4).toInt ≤ (x5).toInt by first | with_reducible assumption | omega) (show (x5).toInt ≤ 14000 by first | with_reducible assumption | omega) I) (fun r647 hr648 => ?_)
                          have i649 := hr648
                          try rw [i649]
                          have f650 := ti_b r647.1
                          refine ok_ite (fun h651 => ?_) (fun h651 => ?_)
                          · have c652 : vx600.toInt ≤ r647.1.toInt := o_le h651
                            refine ok_mono (kj_X12_touch_267 L hN (a0 := a0) (x1 := x1) (x2 := x2) (x3 := x3) (x4 := x4) (x5 := x5) (x9v := vx594) (x10v := r556.1) ih k_a0 (show 2 ≤ (x3).toInt by first | with_reducible assumption | omega) (show (x3).toInt ≤ 16 by first | with_reducible assumption | omega) (show 0 ≤ (x4).toInt by first | with_reducible assumption | omega) (show (x4).toInt ≤ (x5).toInt by first | with_reducible assumption | omega) (show (x5).toInt ≤ (x4).toInt + 2000 by first | with_reducible assumption | omega) (show (x5).toInt ≤ (q_I δ 12 36 a0).toInt by first | with_reducible assumption | omega) (show (q_I δ 12 36 a0).toInt + 2000 * LGf (x3).toInt ≤ 12000 by first | with_reducible assumption | omega) (show (x3).toInt ≤ (k : Int) by first | with_reducible assumption | omega) (show (x4).toInt < (x5).toInt by first | with_reducible assumption | omega) (show (x4).toInt + 3 ≤ (x5).toInt by first | with_reducible assumption | omega) (show 1 ≤ (vx594).toInt by first | with_reducible assumption | omega) (show (vx594).toInt ≤ 2 by first | with_reducible assumption | omega) I) (fun r653 hr654 => ?_)
                            obtain ⟨i655, ⟨u659, u660, u661⟩, p656, p657, p658⟩ := hr654
                            have u662 := kp_t kp_r u659
                            have v663 : q_V r653.2 = q_V δ := (u660).trans rfl
                            have v664 := kr_t (kr_r (ad := ad)) u661
                            have f665 := cb_12_36 i655 k_a0
                            have f666 := ti_b r653.1
                            exact ⟨by first | with_reducible assumption | assumption, ⟨kp_w (by decide) u662, v663, kr_w (by decide) v664⟩, by first | with_reducible assumption | omega, by first | with_reducible assumption | omega, by first | with_reducible assumption | omega⟩
                          · have c667 : r647.1.toInt < vx600.toInt := o_nle h651
                            unfold J_X12_touch_252
                            refine ok_bind (k_bX12_inRoom L hN (a0 := a0) (x1 := x1) (x2 := x2) (x3 := x3) (x4 := x4) (x5 := x5) ih k_a0 (show 2 ≤ (x3).toInt by first | with_reducible assumption | omega) (show (x3).toInt ≤ 16 by first | with_reducible assumption | omega) (show 0 ≤ (x4).toInt by first | with_reducible assumption | omega) (show (x4).toInt ≤ (x5).toInt by first | with_reducible assumption | omega) (show (x5).toInt ≤ (x4).toInt + 2000 by first | with_reducible assumption | omega) (show (x5).toInt ≤ (q_I δ 12 36 a0).toInt by first | with_reducible assumption | omega) (show (q_I δ 12 36 a0).toInt + 2000 * LGf (x3).toInt ≤ 12000 by first | with_reducible assumption | omega) (show (x3).toInt ≤ (k : Int) by first | with_reducible assumption | omega) I) (fun r668 hr669 => ?_)
                            obtain ⟨i670, ⟨u674, u675, u676⟩, p671, p672, p673⟩ := hr669
                            have u677 := kp_t kp_r u674
                            have v678 : q_V r668.2 = q_V δ := (u675).trans rfl
                            have v679 := kr_t (kr_r (ad := ad)) u676
                            have f680 := cb_12_36 i670 k_a0
                            have f681 := ti_b r668.1
                            first | (have q683 := te_add vx594 r668.1 (by omega) (by omega); obtain ⟨f684, f685, f686⟩ := q683) | (obtain ⟨q683, f684, f685, f686⟩ := ti_add vx594 r668.1)
                            exact ok_some (show RI ad h.1 δ0 r668.2 ∧ (kp [(12, 36)] δ r668.2 ∧ q_V r668.2 = q_V δ ∧ kr ad [119] δ r668.2) ∧ (q_I r668.2 12 36 a0).toInt = (q_I δ 12 36 a0).toInt ∧ 1 ≤ ((vx594 + r668.1)).toInt ∧ ((vx594 + r668.1)).toInt ≤ VBf (x3).toInt from ⟨i670, ⟨kp_w (by decide) u677, v678, kr_w (by decide) v679⟩, by first | with_reducible assumption | omega, by first | with_reducible assumption | omega, by first | with_reducible assumption | omega⟩)
                    · have c687 : (x5 - x4).toInt < (3 : Int) := o_nle h554
                      unfold J_X12_touch_174
                      exact ok_some (show RI ad h.1 δ0 δ ∧ (kp [(12, 36)] δ δ ∧ q_V δ = q_V δ ∧ kr ad [119] δ δ) ∧ (q_I δ 12 36 a0).toInt = (q_I δ 12 36 a0).toInt ∧ 1 ≤ (1 : Int) ∧ (1 : Int) ≤ VBf (x3).toInt from ⟨I, ⟨kp_w (by decide) kp_r, rfl, kr_w (by decide) (kr_r (ad := ad))⟩, by first | with_reducible assumption | omega, by first | with_reducible assumption | omega, by first | with_reducible assumption | omega⟩)
                  · have c688 : (1 : Int) ≠ (0 : Int) := o_ne h547
                    unfold J_X12_touch_174
                    exact ok_some (show RI ad h.1 δ0 δ ∧ (kp [(12, 36)] δ δ ∧ q_V δ = q_V δ ∧ kr ad [119] δ δ) ∧ (q_I δ 12 36 a0).toInt = (q_I δ 12 36 a0).toInt ∧ 1 ≤ (1 : Int) ∧ (1 : Int) ≤ VBf (x3).toInt from ⟨I, ⟨kp_w (by decide) kp_r, rfl, kr_w (by decide) (kr_r (ad := ad))⟩, by first | with_reducible assumption | omega, by first | with_reducible assumption | omega, by first | with_reducible assumption | omega⟩)
                · have c689 : x2.toInt ≤ vx68.toInt := o_nlt h545
                  refine ok_ite (fun h690 => ?_) (fun h690 => ?_)
                  · have c691 : vx56.toInt < x2.toInt := o_lt h690
                    unfold J_X12_touch_158
                    refine ok_ite (fun h692 => ?_) (fun h692 => ?_)
                    · have c693 : (0 : Int) = (0 : Int) := o_eq h692
                      first | (have q695 := te_sub x5 x4 (by omega) (by omega); obtain ⟨f696, f697, f698⟩ := q695) | (obtain ⟨q695, f696, f697, f698⟩ := ti_sub x5 x4)
                      refine ok_ite (fun h699 => ?_) (fun h699 => ?_)
                      · have c700 : (3 : Int) ≤ (x5 - x4).toInt := o_le h699
                        refine ok_bind (k_X12_lowerBits L hN (a0 := a0) (x1 := x3) k_a0 (show 2 ≤ (x3).toInt by first | with_reducible assumption | omega) (show (x3).toInt ≤ 16 by first | with_reducible assumption | omega) I) (fun r701 hr702 => ?_)
                        obtain ⟨i703, p704, p705, p706, p707, p708, p709⟩ := hr702
                        try rw [i703]
                        have f710 := ti_b r701.1
                        have f711 := lgb (r701.1).toInt
                        have f712 := lgb ((x3 - r701.1)).toInt
                        first | (have q714 := te_sub x3 r701.1 (by omega) (by omega); obtain ⟨f715, f716, f717⟩ := q714) | (obtain ⟨q714, f715, f716, f717⟩ := ti_sub x3 r701.1)
                        refine ok_bind (k_X12_roomMany L hN (a0 := a0) (x1 := x2) (x2 := x3) (x3 := x4) (x4 := x5) k_a0 (show 2 ≤ (x3).toInt by first | with_reducible assumption | omega) (show (x3).toInt ≤ 16 by first | with_reducible assumption | omega) (show 0 ≤ (x4).toInt by first | with_reducible assumption | omega) (show (x4).toInt ≤ (x5).toInt by first | with_reducible assumption | omega) (show (x5).toInt ≤ 14000 by first | with_reducible assumption | omega) I) (fun r718 hr719 => ?_)
                        have i720 := hr719
                        try rw [i720]
                        have f721 := ti_b r718.1
                        refine ok_ite (fun h722 => ?_) (fun h722 => ?_)
                        · have c723 : r718.1.toInt ≤ (0 : Int) := o_le h722
                          refine ok_mono (kj_X12_touch_267 L hN (a0 := a0) (x1 := x1) (x2 := x2) (x3 := x3) (x4 := x4) (x5 := x5) (x9v := (1 : Int32)) (x10v := r701.1) ih k_a0 (show 2 ≤ (x3).toInt by first | with_reducible assumption | omega) (show (x3).toInt ≤ 16 by first | with_reducible assumption | omega) (show 0 ≤ (x4).toInt by first | with_reducible assumption | omega) (show (x4).toInt ≤ (x5).toInt by first | with_reducible assumption | omega) (show (x5).toInt ≤ (x4).toInt + 2000 by first | with_reducible assumption | omega) (show (x5).toInt ≤ (q_I δ 12 36 a0).toInt by first | with_reducible assumption | omega) (show (q_I δ 12 36 a0).toInt + 2000 * LGf (x3).toInt ≤ 12000 by first | with_reducible assumption | omega) (show (x3).toInt ≤ (k : Int) by first | with_reducible assumption | omega) (show (x4).toInt < (x5).toInt by first | with_reducible assumption | omega) (show (x4).toInt + 3 ≤ (x5).toInt by first | with_reducible assumption | omega) (show 1 ≤ (1 : Int) by first | with_reducible assumption | omega) (show (1 : Int) ≤ 2 by first | with_reducible assumption | omega) I) (fun r724 hr725 => ?_)
                          obtain ⟨i726, ⟨u730, u731, u732⟩, p727, p728, p729⟩ := hr725
                          have u733 := kp_t kp_r u730
                          have v734 : q_V r724.2 = q_V δ := (u731).trans rfl
                          have v735 := kr_t (kr_r (ad := ad)) u732
                          have f736 := cb_12_36 i726 k_a0
                          have f737 := ti_b r724.1
                          exact ⟨by first | with_reducible assumption | assumption, ⟨kp_w (by decide) u733, v734, kr_w (by decide) v735⟩, by first | with_reducible assumption | omega, by first | with_reducible assumption | omega, by first | with_reducible assumption | omega⟩
                        · have c738 : (0 : Int) < r718.1.toInt := o_nle h722
                          refine ok_biv (fun vx739 e740 => ?_)
                          first | (have q741 := te_cadd (c := 1) (n := 1) rfl (1 : Int32) (by omega) (by omega); rw [← e740] at q741; obtain ⟨f742, f743, f744⟩ := q741) | (obtain ⟨q741, f742, f743, f744⟩ : ∃ q : Int, vx739.toInt = (1 : Int) + (1 : Int) + 4294967296 * q ∧ -2147483648 ≤ vx739.toInt ∧ vx739.toInt ≤ 2147483647 := by rw [e740]; exact ti_cadd (c := 1) (n := 1) rfl (1 : Int32))
                          have f747 := ti_b (x2 &&& (((1 : Int32) <<< (r701.1 &&& 31)) - (1 : Int32)))
                          refine ok_biv (fun vx745 e746 => ?_)
                          have f748 : vx745.toInt = (x2 &&& (((1 : Int32) <<< (r701.1 &&& 31)) - (1 : Int32))).toInt := congrArg Int32.toInt e746
                          refine ok_ite (fun h749 => ?_) (fun h749 => ?_)
                          · have c750 : x1.toInt = (3 : Int) := o_eq h749
                            refine ok_bind (k_X12_roomEnd L hN (a0 := a0) (x1 := x2) (x2 := x3) (x3 := x4) (x4 := x5) (x5 := (0 : Int32)) k_a0 (show 2 ≤ (x3).toInt by first | with_reducible assumption | omega) (show (x3).toInt ≤ 16 by first | with_reducible assumption | omega) (show 0 ≤ (x4).toInt by first | with_reducible assumption | omega) (show (x4).toInt ≤ (x5).toInt by first | with_reducible assumption | omega) (show (x5).toInt ≤ 14000 by first | with_reducible assumption | omega) I) (fun r751 hr752 => ?_)
                            have i753 := hr752
                            try rw [i753]
                            have f754 := ti_b r751.1
                            refine ok_ite (fun h755 => ?_) (fun h755 => ?_)
                            · have c756 : r751.1.toInt ≤ vx745.toInt := o_le h755
                              refine ok_mono (kj_X12_touch_267 L hN (a0 := a0) (x1 := x1) (x2 := x2) (x3 := x3) (x4 := x4) (x5 := x5) (x9v := vx739) (x10v := r701.1) ih k_a0 (show 2 ≤ (x3).toInt by first | with_reducible assumption | omega) (show (x3).toInt ≤ 16 by first | with_reducible assumption | omega) (show 0 ≤ (x4).toInt by first | with_reducible assumption | omega) (show (x4).toInt ≤ (x5).toInt by first | with_reducible assumption | omega) (show (x5).toInt ≤ (x4).toInt + 2000 by first | with_reducible assumption | omega) (show (x5).toInt ≤ (q_I δ 12 36 a0).toInt by first | with_reducible assumption | omega) (show (q_I δ 12 36 a0).toInt + 2000 * LGf (x3).toInt ≤ 12000 by first | with_reducible assumption | omega) (show (x3).toInt ≤ (k : Int) by first | with_reducible assumption | omega) (show (x4).toInt < (x5).toInt by first | with_reducible assumption | omega) (show (x4).toInt + 3 ≤ (x5).toInt by first | with_reducible assumption | omega) (show 1 ≤ (vx739).toInt by first | with_reducible assumption | omega) (show (vx739).toInt ≤ 2 by first | with_reducible assumption | omega) I) (fun r757 hr758 => ?_)
                              obtain ⟨i759, ⟨u763, u764, u765⟩, p760, p761, p762⟩ := hr758
                              have u766 := kp_t kp_r u763
                              have v767 : q_V r757.2 = q_V δ := (u764).trans rfl
                              have v768 := kr_t (kr_r (ad := ad)) u765
                              have f769 := cb_12_36 i759 k_a0
                              have f770 := ti_b r757.1
                              exact ⟨by first | with_reducible assumption | assumption, ⟨kp_w (by decide) u766, v767, kr_w (by decide) v768⟩, by first | with_reducible assumption | omega, by first | with_reducible assumption | omega, by first | with_reducible assumption | omega⟩
                            · have c771 : vx745.toInt < r751.1.toInt := o_nle h755
                              unfold J_X12_touch_252
                              refine ok_bind (k_bX12_inRoom L hN (a0 := a0) (x1 := x1) (x2 := x2) (x3 := x3) (x4 := x4) (x5 := x5) ih k_a0 (show 2 ≤ (x3).toInt by first | with_reducible assumption | omega) (show (x3).toInt ≤ 16 by first | with_reducible assumption | omega) (show 0 ≤ (x4).toInt by first | with_reducible assumption | omega) (show (x4).toInt ≤ (x5).toInt by first | with_reducible assumption | omega) (show (x5).toInt ≤ (x4).toInt + 2000 by first | with_reducible assumption | omega) (show (x5).toInt ≤ (q_I δ 12 36 a0).toInt by first | with_reducible assumption | omega) (show (q_I δ 12 36 a0).toInt + 2000 * LGf (x3).toInt ≤ 12000 by first | with_reducible assumption | omega) (show (x3).toInt ≤ (k : Int) by first | with_reducible assumption | omega) I) (fun r772 hr773 => ?_)
                              obtain ⟨i774, ⟨u778, u779, u780⟩, p775, p776, p777⟩ := hr773
                              have u781 := kp_t kp_r u778
                              have v782 : q_V r772.2 = q_V δ := (u779).trans rfl
                              have v783 := kr_t (kr_r (ad := ad)) u780
                              have f784 := cb_12_36 i774 k_a0
                              have f785 := ti_b r772.1
                              first | (have q787 := te_add vx739 r772.1 (by omega) (by omega); obtain ⟨f788, f789, f790⟩ := q787) | (obtain ⟨q787, f788, f789, f790⟩ := ti_add vx739 r772.1)
                              exact ok_some (show RI ad h.1 δ0 r772.2 ∧ (kp [(12, 36)] δ r772.2 ∧ q_V r772.2 = q_V δ ∧ kr ad [119] δ r772.2) ∧ (q_I r772.2 12 36 a0).toInt = (q_I δ 12 36 a0).toInt ∧ 1 ≤ ((vx739 + r772.1)).toInt ∧ ((vx739 + r772.1)).toInt ≤ VBf (x3).toInt from ⟨i774, ⟨kp_w (by decide) u781, v782, kr_w (by decide) v783⟩, by first | with_reducible assumption | omega, by first | with_reducible assumption | omega, by first | with_reducible assumption | omega⟩)
                          · have c791 : x1.toInt ≠ (3 : Int) := o_ne h749
                            refine ok_bind (k_X12_roomEnd L hN (a0 := a0) (x1 := x2) (x2 := x3) (x3 := x4) (x4 := x5) (x5 := (1 : Int32)) k_a0 (show 2 ≤ (x3).toInt by first | with_reducible assumption | omega) (show (x3).toInt ≤ 16 by first | with_reducible assumption | omega) (show 0 ≤ (x4).toInt by first | with_reducible assumption | omega) (show (x4).toInt ≤ (x5).toInt by first | with_reducible assumption | omega) (show (x5).toInt ≤ 14000 by first | with_reducible assumption | omega) I) (fun r792 hr793 => ?_)
                            have i794 := hr793
                            try rw [i794]
                            have f795 := ti_b r792.1
                            refine ok_ite (fun h796 => ?_) (fun h796 => ?_)
                            · have c797 : vx745.toInt ≤ r792.1.toInt := o_le h796
                              refine ok_mono (kj_X12_touch_267 L hN (a0 := a0) (x1 := x1) (x2 := x2) (x3 := x3) (x4 := x4) (x5 := x5) (x9v := vx739) (x10v := r701.1) ih k_a0 (show 2 ≤ (x3).toInt by first | with_reducible assumption | omega) (show (x3).toInt ≤ 16 by first | with_reducible assumption | omega) (show 0 ≤ (x4).toInt by first | with_reducible assumption | omega) (show (x4).toInt ≤ (x5).toInt by first | with_reducible assumption | omega) (show (x5).toInt ≤ (x4).toInt + 2000 by first | with_reducible assumption | omega) (show (x5).toInt ≤ (q_I δ 12 36 a0).toInt by first | with_reducible assumption | omega) (show (q_I δ 12 36 a0).toInt + 2000 * LGf (x3).toInt ≤ 12000 by first | with_reducible assumption | omega) (show (x3).toInt ≤ (k : Int) by first | with_reducible assumption | omega) (show (x4).toInt < (x5).toInt by first | with_reducible assumption | omega) (show (x4).toInt + 3 ≤ (x5).toInt by first | with_reducible assumption | omega) (show 1 ≤ (vx739).toInt by first | with_reducible assumption | omega) (show (vx739).toInt ≤ 2 by first | with_reducible assumption | omega) I) (fun r798 hr799 => ?_)
                              obtain ⟨i800, ⟨u804, u805, u806⟩, p801, p802, p803⟩ := hr799
                              have u807 := kp_t kp_r u804
                              have v808 : q_V r798.2 = q_V δ := (u805).trans rfl
                              have v809 := kr_t (kr_r (ad := ad)) u806
                              have f810 := cb_12_36 i800 k_a0
                              have f811 := ti_b r798.1
                              exact ⟨by first | with_reducible assumption | assumption, ⟨kp_w (by decide) u807, v808, kr_w (by decide) v809⟩, by first | with_reducible assumption | omega, by first | with_reducible assumption | omega, by first | with_reducible assumption | omega⟩
                            · have c812 : r792.1.toInt < vx745.toInt := o_nle h796
                              unfold J_X12_touch_252
                              refine ok_bind (k_bX12_inRoom L hN (a0 := a0) (x1 := x1) (x2 := x2) (x3 := x3) (x4 := x4) (x5 := x5) ih k_a0 (show 2 ≤ (x3).toInt by first | with_reducible assumption | omega) (show (x3).toInt ≤ 16 by first | with_reducible assumption | omega) (show 0 ≤ (x4).toInt by first | with_reducible assumption | omega) (show (x4).toInt ≤ (x5).toInt by first | with_reducible assumption | omega) (show (x5).toInt ≤ (x4).toInt + 2000 by first | with_reducible assumption | omega) (show (x5).toInt ≤ (q_I δ 12 36 a0).toInt by first | with_reducible assumption | omega) (show (q_I δ 12 36 a0).toInt + 2000 * LGf (x3).toInt ≤ 12000 by first | with_reducible assumption | omega) (show (x3).toInt ≤ (k : Int) by first | with_reducible assumption | omega) I) (fun r813 hr814 => ?_)
                              obtain ⟨i815, ⟨u819, u820, u821⟩, p816, p817, p818⟩ := hr814
                              have u822 := kp_t kp_r u819
                              have v823 : q_V r813.2 = q_V δ := (u820).trans rfl
                              have v824 := kr_t (kr_r (ad := ad)) u821
                              have f825 := cb_12_36 i815 k_a0
                              have f826 := ti_b r813.1
                              first | (have q828 := te_add vx739 r813.1 (by omega) (by omega); obtain ⟨f829, f830, f831⟩ := q828) | (obtain ⟨q828, f829, f830, f831⟩ := ti_add vx739 r813.1)
                              exact ok_some (show RI ad h.1 δ0 r813.2 ∧ (kp [(12, 36)] δ r813.2 ∧ q_V r813.2 = q_V δ ∧ kr ad [119] δ r813.2) ∧ (q_I r813.2 12 36 a0).toInt = (q_I δ 12 36 a0).toInt ∧ 1 ≤ ((vx739 + r813.1)).toInt ∧ ((vx739 + r813.1)).toInt ≤ VBf (x3).toInt from ⟨i815, ⟨kp_w (by decide) u822, v823, kr_w (by decide) v824⟩, by first | with_reducible assumption | omega, by first | with_reducible assumption | omega, by first | with_reducible assumption | omega⟩)
                      · have c832 : (x5 - x4).toInt < (3 : Int) := o_nle h699
                        unfold J_X12_touch_174
                        exact ok_some (show RI ad h.1 δ0 δ ∧ (kp [(12, 36)] δ δ ∧ q_V δ = q_V δ ∧ kr ad [119] δ δ) ∧ (q_I δ 12 36 a0).toInt = (q_I δ 12 36 a0).toInt ∧ 1 ≤ (1 : Int) ∧ (1 : Int) ≤ VBf (x3).toInt from ⟨I, ⟨kp_w (by decide) kp_r, rfl, kr_w (by decide) (kr_r (ad := ad))⟩, by first | with_reducible assumption | omega, by first | with_reducible assumption | omega, by first | with_reducible assumption | omega⟩)
                    · have c833 : (0 : Int) ≠ (0 : Int) := o_ne h692
                      unfold J_X12_touch_174
                      exact ok_some (show RI ad h.1 δ0 δ ∧ (kp [(12, 36)] δ δ ∧ q_V δ = q_V δ ∧ kr ad [119] δ δ) ∧ (q_I δ 12 36 a0).toInt = (q_I δ 12 36 a0).toInt ∧ 1 ≤ (1 : Int) ∧ (1 : Int) ≤ VBf (x3).toInt from ⟨I, ⟨kp_w (by decide) kp_r, rfl, kr_w (by decide) (kr_r (ad := ad))⟩, by first | with_reducible assumption | omega, by first | with_reducible assumption | omega, by first | with_reducible assumption | omega⟩)
                  · have c834 : x2.toInt ≤ vx56.toInt := o_nlt h690
                    unfold J_X12_touch_153
                    unfold J_X12_touch_158
                    refine ok_ite (fun h835 => ?_) (fun h835 => ?_)
                    · have c836 : (1 : Int) = (0 : Int) := o_eq h835
                      first | (have q838 := te_sub x5 x4 (by omega) (by omega); obtain ⟨f839, f840, f841⟩ := q838) | (obtain ⟨q838, f839, f840, f841⟩ := ti_sub x5 x4)
                      refine ok_ite (fun h842 => ?_) (fun h842 => ?_)
                      · have c843 : (3 : Int) ≤ (x5 - x4).toInt := o_le h842
                        refine ok_bind (k_X12_lowerBits L hN (a0 := a0) (x1 := x3) k_a0 (show 2 ≤ (x3).toInt by first | with_reducible assumption | omega) (show (x3).toInt ≤ 16 by first | with_reducible assumption | omega) I) (fun r844 hr845 => ?_)
                        obtain ⟨i846, p847, p848, p849, p850, p851, p852⟩ := hr845
                        try rw [i846]
                        have f853 := ti_b r844.1
                        have f854 := lgb (r844.1).toInt
                        have f855 := lgb ((x3 - r844.1)).toInt
                        first | (have q857 := te_sub x3 r844.1 (by omega) (by omega); obtain ⟨f858, f859, f860⟩ := q857) | (obtain ⟨q857, f858, f859, f860⟩ := ti_sub x3 r844.1)
                        refine ok_bind (k_X12_roomMany L hN (a0 := a0) (x1 := x2) (x2 := x3) (x3 := x4) (x4 := x5) k_a0 (show 2 ≤ (x3).toInt by first | with_reducible assumption | omega) (show (x3).toInt ≤ 16 by first | with_reducible assumption | omega) (show 0 ≤ (x4).toInt by first | with_reducible assumption | omega) (show (x4).toInt ≤ (x5).toInt by first | with_reducible assumption | omega) (show (x5).toInt ≤ 14000 by first | with_reducible assumption | omega) I) (fun r861 hr862 => ?_)
                        have i863 := hr862
                        try rw [i863]
                        have f864 := ti_b r861.1
                        refine ok_ite (fun h865 => ?_) (fun h865 => ?_)
                        · have c866 : r861.1.toInt ≤ (0 : Int) := o_le h865
                          refine ok_mono (kj_X12_touch_267 L hN (a0 := a0) (x1 := x1) (x2 := x2) (x3 := x3) (x4 := x4) (x5 := x5) (x9v := (1 : Int32)) (x10v := r844.1) ih k_a0 (show 2 ≤ (x3).toInt by first | with_reducible assumption | omega) (show (x3).toInt ≤ 16 by first | with_reducible assumption | omega) (show 0 ≤ (x4).toInt by first | with_reducible assumption | omega) (show (x4).toInt ≤ (x5).toInt by first | with_reducible assumption | omega) (show (x5).toInt ≤ (x4).toInt + 2000 by first | with_reducible assumption | omega) (show (x5).toInt ≤ (q_I δ 12 36 a0).toInt by first | with_reducible assumption | omega) (show (q_I δ 12 36 a0).toInt + 2000 * LGf (x3).toInt ≤ 12000 by first | with_reducible assumption | omega) (show (x3).toInt ≤ (k : Int) by first | with_reducible assumption | omega) (show (x4).toInt < (x5).toInt by first | with_reducible assumption | omega) (show (x4).toInt + 3 ≤ (x5).toInt by first | with_reducible assumption | omega) (show 1 ≤ (1 : Int) by first | with_reducible assumption | omega) (show (1 : Int) ≤ 2 by first | with_reducible assumption | omega) I) (fun r867 hr868 => ?_)
                          obtain ⟨i869, ⟨u873, u874, u875⟩, p870, p871, p872⟩ := hr868
                          have u876 := kp_t kp_r u873
                          have v877 : q_V r867.2 = q_V δ := (u874).trans rfl
                          have v878 := kr_t (kr_r (ad := ad)) u875
                          have f879 := cb_12_36 i869 k_a0
                          have f880 := ti_b r867.1
                          exact ⟨by first | with_reducible assumption | assumption, ⟨kp_w (by decide) u876, v877, kr_w (by decide) v878⟩, by first | with_reducible assumption | omega, by first | with_reducible assumption | omega, by first | with_reducible assumption | omega⟩
                        · have c881 : (0 : Int) < r861.1.toInt := o_nle h865
                          refine ok_biv (fun vx882 e883 => ?_)
                          first | (have q884 := te_cadd (c := 1) (n := 1) rfl (1 : Int32) (by omega) (by omega); rw [← e883] at q884; obtain ⟨f885, f886, f887⟩ := q884) | (obtain ⟨q884, f885, f886, f887⟩ : ∃ q : Int, vx882.toInt = (1 : Int) + (1 : Int) + 4294967296 * q ∧ -2147483648 ≤ vx882.toInt ∧ vx882.toInt ≤ 2147483647 := by rw [e883]; exact ti_cadd (c := 1) (n := 1) rfl (1 : Int32))
                          have f890 := ti_b (x2 &&& (((1 : Int32) <<< (r844.1 &&& 31)) - (1 : Int32)))
                          refine ok_biv (fun vx888 e889 => ?_)
                          have f891 : vx888.toInt = (x2 &&& (((1 : Int32) <<< (r844.1 &&& 31)) - (1 : Int32))).toInt := congrArg Int32.toInt e889
                          refine ok_ite (fun h892 => ?_) (fun h892 => ?_)
                          · have c893 : x1.toInt = (3 : Int) := o_eq h892
                            refine ok_bind (k_X12_roomEnd L hN (a0 := a0) (x1 := x2) (x2 := x3) (x3 := x4) (x4 := x5) (x5 := (0 : Int32)) k_a0 (show 2 ≤ (x3).toInt by first | with_reducible assumption | omega) (show (x3).toInt ≤ 16 by first | with_reducible assumption | omega) (show 0 ≤ (x4).toInt by first | with_reducible assumption | omega) (show (x4).toInt ≤ (x5).toInt by first | with_reducible assumption | omega) (show (x5).toInt ≤ 14000 by first | with_reducible assumption | omega) I) (fun r894 hr895 => ?_)
                            have i896 := hr895
                            try rw [i896]
                            have f897 := ti_b r894.1
                            refine ok_ite (fun h898 => ?_) (fun h898 => ?_)
                            · have c899 : r894.1.toInt ≤ vx888.toInt := o_le h898
                              refine ok_mono (kj_X12_touch_267 L hN (a0 := a0) (x1 := x1) (x2 := x2) (x3 := x3) (x4 := x4) (x5 := x5) (x9v := vx882) (x10v := r844.1) ih k_a0 (show 2 ≤ (x3).toInt by first | with_reducible assumption | omega) (show (x3).toInt ≤ 16 by first | with_reducible assumption | omega) (show 0 ≤ (x4).toInt by first | with_reducible assumption | omega) (show (x4).toInt ≤ (x5).toInt by first | with_reducible assumption | omega) (show (x5).toInt ≤ (x4).toInt + 2000 by first | with_reducible assumption | omega) (show (x5).toInt ≤ (q_I δ 12 36 a0).toInt by first | with_reducible assumption | omega) (show (q_I δ 12 36 a0).toInt + 2000 * LGf (x3).toInt ≤ 12000 by first | with_reducible assumption | omega) (show (x3).toInt ≤ (k : Int) by first | with_reducible assumption | omega) (show (x4).toInt < (x5).toInt by first | with_reducible assumption | omega) (show (x4).toInt + 3 ≤ (x5).toInt by first | with_reducible assumption | omega) (show 1 ≤ (vx882).toInt by first | with_reducible assumption | omega) (show (vx882).toInt ≤ 2 by first | with_reducible assumption | omega) I) (fun r900 hr901 => ?_)
                              obtain ⟨i902, ⟨u906, u907, u908⟩, p903, p904, p905⟩ := hr901
                              have u909 := kp_t kp_r u906
                              have v910 : q_V r900.2 = q_V δ := (u907).trans rfl
                              have v911 := kr_t (kr_r (ad := ad)) u908
                              have f912 := cb_12_36 i902 k_a0
                              have f913 := ti_b r900.1
                              exact ⟨by first | with_reducible assumption | assumption, ⟨kp_w (by decide) u909, v910, kr_w (by decide) v911⟩, by first | with_reducible assumption | omega, by first | with_reducible assumption | omega, by first | with_reducible assumption | omega⟩
                            · have c914 : vx888.toInt < r894.1.toInt := o_nle h898
                              unfold J_X12_touch_252
                              refine ok_bind (k_bX12_inRoom L hN (a0 := a0) (x1 := x1) (x2 := x2) (x3 := x3) (x4 := x4) (x5 := x5) ih k_a0 (show 2 ≤ (x3).toInt by first | with_reducible assumption | omega) (show (x3).toInt ≤ 16 by first | with_reducible assumption | omega) (show 0 ≤ (x4).toInt by first | with_reducible assumption | omega) (show (x4).toInt ≤ (x5).toInt by first | with_reducible assumption | omega) (show (x5).toInt ≤ (x4).toInt + 2000 by first | with_reducible assumption | omega) (show (x5).toInt ≤ (q_I δ 12 36 a0).toInt by first | with_reducible assumption | omega) (show (q_I δ 12 36 a0).toInt + 2000 * LGf (x3).toInt ≤ 12000 by first | with_reducible assumption | omega) (show (x3).toInt ≤ (k : Int) by first | with_reducible assumption | omega) I) (fun r915 hr916 => ?_)
                              obtain ⟨i917, ⟨u921, u922, u923⟩, p918, p919, p920⟩ := hr916
                              have u924 := kp_t kp_r u921
                              have v925 : q_V r915.2 = q_V δ := (u922).trans rfl
                              have v926 := kr_t (kr_r (ad := ad)) u923
                              have f927 := cb_12_36 i917 k_a0
                              have f928 := ti_b r915.1
                              first | (have q930 := te_add vx882 r915.1 (by omega) (by omega); obtain ⟨f931, f932, f933⟩ := q930) | (obtain ⟨q930, f931, f932, f933⟩ := ti_add vx882 r915.1)
                              exact ok_some (show RI ad h.1 δ0 r915.2 ∧ (kp [(12, 36)] δ r915.2 ∧ q_V r915.2 = q_V δ ∧ kr ad [119] δ r915.2) ∧ (q_I r915.2 12 36 a0).toInt = (q_I δ 12 36 a0).toInt ∧ 1 ≤ ((vx882 + r915.1)).toInt ∧ ((vx882 + r915.1)).toInt ≤ VBf (x3).toInt from ⟨i917, ⟨kp_w (by decide) u924, v925, kr_w (by decide) v926⟩, by first | with_reducible assumption | omega, by first | with_reducible assumption | omega, by first | with_reducible assumption | omega⟩)
                          · have c934 : x1.toInt ≠ (3 : Int) := o_ne h892
                            refine ok_bind (k_X12_roomEnd L hN (a0 := a0) (x1 := x2) (x2 := x3) (x3 := x4) (x4 := x5) (x5 := (1 : Int32)) k_a0 (show 2 ≤ (x3).toInt by first | with_reducible assumption | omega) (show (x3).toInt ≤ 16 by first | with_reducible assumption | omega) (show 0 ≤ (x4).toInt by first | with_reducible assumption | omega) (show (x4).toInt ≤ (x5).toInt by first | with_reducible assumption | omega) (show (x5).toInt ≤ 14000 by first | with_reducible assumption | omega) I) (fun r935 hr936 => ?_)
                            have i937 := hr936
                            try rw [i937]
                            have f938 := ti_b r935.1
                            refine ok_ite (fun h939 => ?_) (fun h939 => ?_)
                            · have c940 : vx888.toInt ≤ r935.1.toInt := o_le h939
                              refine ok_mono (kj_X12_touch_267 L hN (a0 := a0) (x1 := x1) (x2 := x2) (x3 := x3) (x4 := x4) (x5 := x5) (x9v := vx882) (x10v := r844.1) ih k_a0 (show 2 ≤ (x3).toInt by first | with_reducible assumption | omega) (show (x3).toInt ≤ 16 by first | with_reducible assumption | omega) (show 0 ≤ (x4).toInt by first | with_reducible assumption | omega) (show (x4).toInt ≤ (x5).toInt by first | with_reducible assumption | omega) (show (x5).toInt ≤ (x4).toInt + 2000 by first | with_reducible assumption | omega) (show (x5).toInt ≤ (q_I δ 12 36 a0).toInt by first | with_reducible assumption | omega) (show (q_I δ 12 36 a0).toInt + 2000 * LGf (x3).toInt ≤ 12000 by first | with_reducible assumption | omega) (show (x3).toInt ≤ (k : Int) by first | with_reducible assumption | omega) (show (x4).toInt < (x5).toInt by first | with_reducible assumption | omega) (show (x4).toInt + 3 ≤ (x5).toInt by first | with_reducible assumption | omega) (show 1 ≤ (vx882).toInt by first | with_reducible assumption | omega) (show (vx882).toInt ≤ 2 by first | with_reducible assumption | omega) I) (fun r941 hr942 => ?_)
                              obtain ⟨i943, ⟨u947, u948, u949⟩, p944, p945, p946⟩ := hr942
                              have u950 := kp_t kp_r u947
                              have v951 : q_V r941.2 = q_V δ := (u948).trans rfl
                              have v952 := kr_t (kr_r (ad := ad)) u949
                              have f953 := cb_12_36 i943 k_a0
                              have f954 := ti_b r941.1
                              exact ⟨by first | with_reducible assumption | assumption, ⟨kp_w (by decide) u950, v951, kr_w (by decide) v952⟩, by first | with_reducible assumption | omega, by first | with_reducible assumption | omega, by first | with_reducible assumption | omega⟩
                            · have c955 : r935.1.toInt < vx888.toInt := o_nle h939
                              unfold J_X12_touch_252
                              refine ok_bind (k_bX12_inRoom L hN (a0 := a0) (x1 := x1) (x2 := x2) (x3 := x3) (x4 := x4) (x5 := x5) ih k_a0 (show 2 ≤ (x3).toInt by first | with_reducible assumption | omega) (show (x3).toInt ≤ 16 by first | with_reducible assumption | omega) (show 0 ≤ (x4).toInt by first | with_reducible assumption | omega) (show (x4).toInt ≤ (x5).toInt by first | with_reducible assumption | omega) (show (x5).toInt ≤ (x4).toInt + 2000 by first | with_reducible assumption | omega) (show (x5).toInt ≤ (q_I δ 12 36 a0).toInt by first | with_reducible assumption | omega) (show (q_I δ 12 36 a0).toInt + 2000 * LGf (x3).toInt ≤ 12000 by first | with_reducible assumption | omega) (show (x3).toInt ≤ (k : Int) by first | with_reducible assumption | omega) I) (fun r956 hr957 => ?_)
                              obtain ⟨i958, ⟨u962, u963, u964⟩, p959, p960, p961⟩ := hr957
                              have u965 := kp_t kp_r u962
                              have v966 : q_V r956.2 = q_V δ := (u963).trans rfl
                              have v967 := kr_t (kr_r (ad := ad)) u964
                              have f968 := cb_12_36 i958 k_a0
                              have f969 := ti_b r956.1
                              first | (have q971 := te_add vx882 r956.1 (by omega) (by omega); obtain ⟨f972, f973, f974⟩ := q971) | (obtain ⟨q971, f972, f973, f974⟩ := ti_add vx882 r956.1)
                              exact ok_some (show RI ad h.1 δ0 r956.2 ∧ (kp [(12, 36)] δ r956.2 ∧ q_V r956.2 = q_V δ ∧ kr ad [119] δ r956.2) ∧ (q_I r956.2 12 36 a0).toInt = (q_I δ 12 36 a0).toInt ∧ 1 ≤ ((vx882 + r956.1)).toInt ∧ ((vx882 + r956.1)).toInt ≤ VBf (x3).toInt from ⟨i958, ⟨kp_w (by decide) u965, v966, kr_w (by decide) v967⟩, by first | with_reducible assumption | omega, by first | with_reducible assumption | omega, by first | with_reducible assumption | omega⟩)
                      · have c975 : (x5 - x4).toInt < (3 : Int) := o_nle h842
                        unfold J_X12_touch_174
                        exact ok_some (show RI ad h.1 δ0 δ ∧ (kp [(12, 36)] δ δ ∧ q_V δ = q_V δ ∧ kr ad [119] δ δ) ∧ (q_I δ 12 36 a0).toInt = (q_I δ 12 36 a0).toInt ∧ 1 ≤ (1 : Int) ∧ (1 : Int) ≤ VBf (x3).toInt from ⟨I, ⟨kp_w (by decide) kp_r, rfl, kr_w (by decide) (kr_r (ad := ad))⟩, by first | with_reducible assumption | omega, by first | with_reducible assumption | omega, by first | with_reducible assumption | omega⟩)
                    · have c976 : (1 : Int) ≠ (0 : Int) := o_ne h835
                      unfold J_X12_touch_174
                      exact ok_some (show RI ad h.1 δ0 δ ∧ (kp [(12, 36)] δ δ ∧ q_V δ = q_V δ ∧ kr ad [119] δ δ) ∧ (q_I δ 12 36 a0).toInt = (q_I δ 12 36 a0).toInt ∧ 1 ≤ (1 : Int) ∧ (1 : Int) ≤ VBf (x3).toInt from ⟨I, ⟨kp_w (by decide) kp_r, rfl, kr_w (by decide) (kr_r (ad := ad))⟩, by first | with_reducible assumption | omega, by first | with_reducible assumption | omega, by first | with_reducible assumption | omega⟩)
set_option maxHeartbeats 4000000 in
theorem k_X12_touch {ad : List Nat} {h : hp} (L : Lay TLx ad h) {δ0 : dp} {N : Nat} (hN : 10000000 ≤ N) {a0 : Nat} {x1 : Int32} {x2 : Int32} {x3 : Int32} {x4 : Int32} {x5 : Int32} (k_a0 : q_K h.1 a0 = 12) {δ : dp} (z0 : 1 ≤ (x3).toInt) (z1 : (x3).toInt ≤ 16) (z2 : 0 ≤ (x4).toInt) (z3 : (x4).toInt ≤ (x5).toInt) (z4 : (x5).toInt ≤ (x4).toInt + 2000) (z5 : (x5).toInt ≤ (q_I δ 12 36 a0).toInt) (z6 : (q_I δ 12 36 a0).toInt + 2000 * LGf (x3).toInt ≤ 12000) (hd : (x3).toInt < 20) (I : RI ad h.1 δ0 δ) : ok (D_X12_touch N h.1 a0 x1 x2 x3 x4 x5 δ) (fun r => RI ad h.1 δ0 r.2 ∧ (kp [(12, 36)] δ r.2 ∧ q_V r.2 = q_V δ ∧ kr ad [119] δ r.2) ∧ (q_I r.2 12 36 a0).toInt = (q_I δ 12 36 a0).toInt ∧ 1 ≤ (r.1).toInt ∧ (r.1).toInt ≤ VBf (x3).toInt) := ke_X12_touch L hN 20 a0 x1 x2 x3 x4 x5 δ k_a0 z0 z1 z2 z3 z4 z5 z6 hd I
