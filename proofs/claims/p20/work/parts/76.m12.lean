/-! 76.m12 (by gen_safe.py) -/
set_option maxHeartbeats 4000000 in
theorem k_X12_halves {ad : List Nat} {h : hp} (L : Lay TLx ad h) {δ0 : dp} {N : Nat} (hN : 10000000 ≤ N) {a0 : Nat} {x1 : Int32} {x2 : Int32} {x3 : Int32} (k_a0 : q_K h.1 a0 = 12) {δ : dp} (z0 : 0 ≤ (x1).toInt) (z1 : (x1).toInt ≤ 3) (I : RI ad h.1 δ0 δ) : ok (D_X12_halves N h.1 a0 x1 x2 x3 δ) (fun r => RI ad h.1 δ0 r.2 ∧ (kp [(12, 36)] δ r.2 ∧ q_V r.2 = q_V δ ∧ kr ad [119] δ r.2)) := by
  unfold D_X12_halves
  have f1 := ti_b x1
  refine ok_bind (k_X12_lays L hN (a0 := a0) (x1 := x1) k_a0 (show 0 ≤ (x1).toInt by first | with_reducible assumption | omega) (show (x1).toInt ≤ 3 by first | with_reducible assumption | omega) I) (fun r2 hr3 => ?_)
  obtain ⟨i4, ⟨u6, u7, u8⟩, p5⟩ := hr3
  have u9 := kp_t kp_r u6
  have v10 : q_V r2 = q_V δ := (u7).trans rfl
  have v11 := kr_t (kr_r (ad := ad)) u8
  have f12 := cb_12_36 i4 k_a0
  have f15 : (q_I r2 12 10 a0).toInt = (q_I δ 12 10 a0).toInt := congrArg Int32.toInt (u6 12 10 a0 (by decide))
  have f16 := cb_12_10 I k_a0
  have f17 := lgb ((q_I r2 12 10 a0)).toInt
  refine ok_bind (k_X12_touch L hN (a0 := a0) (x1 := x2) (x2 := x3) (x3 := (q_I r2 12 10 a0)) (x4 := (0 : Int32)) (x5 := (q_I r2 12 36 a0)) k_a0 (show 1 ≤ ((q_I r2 12 10 a0)).toInt by first | with_reducible assumption | omega) (show ((q_I r2 12 10 a0)).toInt ≤ 16 by first | with_reducible assumption | omega) (show 0 ≤ (0 : Int) by first | with_reducible assumption | omega) (show (0 : Int) ≤ ((q_I r2 12 36 a0)).toInt by first | with_reducible assumption | omega) (show ((q_I r2 12 36 a0)).toInt ≤ (0 : Int) + 2000 by first | with_reducible assumption | omega) (show ((q_I r2 12 36 a0)).toInt ≤ (q_I r2 12 36 a0).toInt by first | with_reducible assumption | omega) (show (q_I r2 12 36 a0).toInt + 2000 * LGf ((q_I r2 12 10 a0)).toInt ≤ 12000 by first | with_reducible assumption | omega) (show ((q_I r2 12 10 a0)).toInt < 20 by first | with_reducible assumption | omega) i4) (fun r13 hr14 => ?_)
  obtain ⟨i18, ⟨u22, u23, u24⟩, p19, p20, p21⟩ := hr14
  have u25 := kp_t u9 u22
  have v26 : q_V r13.2 = q_V δ := (u23).trans v10
  have v27 := kr_t v11 u24
  have f28 := cb_12_36 i18 k_a0
  have f29 := ti_b r13.1
  exact ok_some (show RI ad h.1 δ0 r13.2 ∧ (kp [(12, 36)] δ r13.2 ∧ q_V r13.2 = q_V δ ∧ kr ad [119] δ r13.2) from ⟨i18, ⟨kp_w (by decide) u25, v26, kr_w (by decide) v27⟩⟩)
set_option maxHeartbeats 4000000 in
theorem k_X12_hasIn {ad : List Nat} {h : hp} (L : Lay TLx ad h) {δ0 : dp} {N : Nat} (hN : 10000000 ≤ N) {a0 : Nat} {x1 : Int32} {x2 : Int32} {x3 : Int32} (k_a0 : q_K h.1 a0 = 12) {δ : dp} (z0 : 0 ≤ (x1).toInt) (z1 : (x1).toInt ≤ 3) (I : RI ad h.1 δ0 δ) : ok (D_X12_hasIn N h.1 a0 x1 x2 x3 δ) (fun r => r.2 = δ ∧ bo (r.1)) := by
  unfold D_X12_hasIn
  have f1 := ti_b x1
  refine ok_bind (k_X12_place L hN (a0 := a0) (x1 := x1) (x2 := x3) k_a0 (show 0 ≤ (x1).toInt by first | with_reducible assumption | omega) (show (x1).toInt ≤ 3 by first | with_reducible assumption | omega) I) (fun r2 hr3 => ?_)
  obtain ⟨i4, p5, p6⟩ := hr3
  try rw [i4]
  have f7 := ti_b r2.1
  have t8 := ti_tn x1
  have f9 := rb_103 L I (x1).toNatClampNeg
  refine ok_bind (k_X12_place L hN (a0 := a0) (x1 := x1) (x2 := x2) k_a0 (show 0 ≤ (x1).toInt by first | with_reducible assumption | omega) (show (x1).toInt ≤ 3 by first | with_reducible assumption | omega) I) (fun r10 hr11 => ?_)
  obtain ⟨i12, p13, p14⟩ := hr11
  try rw [i12]
  have f15 := ti_b r10.1
  refine ok_ite (fun h16 => ?_) (fun h16 => ?_)
  · have c17 : r2.1.toInt ≤ r10.1.toInt := o_le h16
    unfold J_X12_hasIn_20
    refine ok_gp (by decide) ?_
    exact ok_some (show δ = δ ∧ bo ((0 : Int32)) from ⟨rfl, bo_0⟩)
  · have c18 : r10.1.toInt < r2.1.toInt := o_nle h16
    unfold J_X12_hasIn_20
    refine ok_gp (by decide) ?_
    exact ok_some (show δ = δ ∧ bo ((1 : Int32)) from ⟨rfl, bo_1⟩)
set_option maxHeartbeats 4000000 in
theorem kl_X12_bits_46 {ad : List Nat} {h : hp} (L : Lay TLx ad h) {δ0 : dp} {N : Nat} (hN : 10000000 ≤ N) {a0 : Nat} {x1 : Int32} {x2 : Int32} {x3 : Int32} (k_a0 : q_K h.1 a0 = 12) : ∀ (n : Nat) (x4v : Int32) (x5v : Int32) (x6v : Int32) (δ : dp), RI ad h.1 δ0 δ → 0 ≤ (x1).toInt → (x1).toInt ≤ 3 → (x4v).toInt ≤ 2047 → 0 ≤ (x5v).toInt → (x5v).toInt ≤ 2048 → 2048 - (x5v).toInt < (n : Int) → ok (L_X12_bits_46 N h.1 a0 x1 x2 x3 n x4v x5v x6v δ) (fun r => r.2 = δ) := by
  intro n
  induction n with
  | zero =>
    intro x4v x5v x6v δ I j0 j1 j2 j3 j4 hm
    have f1 := ti_b x1
    have f2 := ti_b x4v
    have f3 := ti_b x5v
    exfalso; omega
  | succ n ih =>
    intro x4v x5v x6v δ I j0 j1 j2 j3 j4 hm
    unfold L_X12_bits_46
    have f1 := ti_b x1
    have f2 := ti_b x4v
    have f3 := ti_b x5v
    refine ok_ite (fun h4 => ?_) (fun h4 => ?_)
    · have c5 : x4v.toInt ≤ x5v.toInt := o_le h4
      unfold J_X12_bits_95
      exact ok_some (show δ = δ from rfl)
    · have c6 : x5v.toInt < x4v.toInt := o_nle h4
      have f7 := ti_b x6v
      refine ok_ite (fun h8 => ?_) (fun h8 => ?_)
      · have c9 : x6v.toInt = (1 : Int) := o_eq h8
        unfold J_X12_bits_72
        refine ok_bind (k_X12_hasIn L hN (a0 := a0) (x1 := x1) (x2 := (x3 + (1 : Int32))) (x3 := (((32 : Int32) * x5v) + (32 : Int32))) k_a0 (show 0 ≤ (x1).toInt by first | with_reducible assumption | omega) (show (x1).toInt ≤ 3 by first | with_reducible assumption | omega) I) (fun r10 hr11 => ?_)
        obtain ⟨i12, p13⟩ := hr11
        try rw [i12]
        have f14 := bo_l p13
        have f15 := ti_b r10.1
        refine ok_ite (fun h16 => ?_) (fun h16 => ?_)
        · have c17 : r10.1.toInt = (0 : Int) := o_eq h16
          refine ok_biv (fun vx18 e19 => ?_)
          first | (have q20 := te_addc (c := 1) (n := 1) rfl x6v (by omega) (by omega); rw [← e19] at q20; obtain ⟨f21, f22, f23⟩ := q20) | (obtain ⟨q20, f21, f22, f23⟩ : ∃ q : Int, vx18.toInt = x6v.toInt + (1 : Int) + 4294967296 * q ∧ -2147483648 ≤ vx18.toInt ∧ vx18.toInt ≤ 2147483647 := by rw [e19]; exact ti_addc (c := 1) (n := 1) rfl x6v)
          refine ok_biv (fun vx24 e25 => ?_)
          first | (have q26 := te_addc (c := 1) (n := 1) rfl x5v (by omega) (by omega); rw [← e25] at q26; obtain ⟨f27, f28, f29⟩ := q26) | (obtain ⟨q26, f27, f28, f29⟩ : ∃ q : Int, vx24.toInt = x5v.toInt + (1 : Int) + 4294967296 * q ∧ -2147483648 ≤ vx24.toInt ∧ vx24.toInt ≤ 2147483647 := by rw [e25]; exact ti_addc (c := 1) (n := 1) rfl x5v)
          refine ok_mono (ih x4v vx24 vx18 δ I (show 0 ≤ (x1).toInt by first | with_reducible assumption | omega) (show (x1).toInt ≤ 3 by first | with_reducible assumption | omega) (show (x4v).toInt ≤ 2047 by first | with_reducible assumption | omega) (show 0 ≤ (vx24).toInt by first | with_reducible assumption | omega) (show (vx24).toInt ≤ 2048 by first | with_reducible assumption | omega) (show 2048 - (vx24).toInt < _ by omega)) (fun r30 hr31 => ?_)
          have i32 := hr31
          have f33 := ti_b r30.1
          exact by assumption
        · have c34 : r10.1.toInt ≠ (0 : Int) := o_ne h16
          unfold J_X12_bits_95
          exact ok_some (show δ = δ from rfl)
      · have c35 : x6v.toInt ≠ (1 : Int) := o_ne h8
        unfold J_X12_bits_72
        refine ok_bind (k_X12_hasIn L hN (a0 := a0) (x1 := x1) (x2 := ((32 : Int32) * x5v)) (x3 := (((32 : Int32) * x5v) + (32 : Int32))) k_a0 (show 0 ≤ (x1).toInt by first | with_reducible assumption | omega) (show (x1).toInt ≤ 3 by first | with_reducible assumption | omega) I) (fun r36 hr37 => ?_)
        obtain ⟨i38, p39⟩ := hr37
        try rw [i38]
        have f40 := bo_l p39
        have f41 := ti_b r36.1
        refine ok_ite (fun h42 => ?_) (fun h42 => ?_)
        · have c43 : r36.1.toInt = (0 : Int) := o_eq h42
          refine ok_biv (fun vx44 e45 => ?_)
          first | (have q46 := te_addc (c := 1) (n := 1) rfl x6v (by omega) (by omega); rw [← e45] at q46; obtain ⟨f47, f48, f49⟩ := q46) | (obtain ⟨q46, f47, f48, f49⟩ : ∃ q : Int, vx44.toInt = x6v.toInt + (1 : Int) + 4294967296 * q ∧ -2147483648 ≤ vx44.toInt ∧ vx44.toInt ≤ 2147483647 := by rw [e45]; exact ti_addc (c := 1) (n := 1) rfl x6v)
          refine ok_biv (fun vx50 e51 => ?_)
          first | (have q52 := te_addc (c := 1) (n := 1) rfl x5v (by omega) (by omega); rw [← e51] at q52; obtain ⟨f53, f54, f55⟩ := q52) | (obtain ⟨q52, f53, f54, f55⟩ : ∃ q : Int, vx50.toInt = x5v.toInt + (1 : Int) + 4294967296 * q ∧ -2147483648 ≤ vx50.toInt ∧ vx50.toInt ≤ 2147483647 := by rw [e51]; exact ti_addc (c := 1) (n := 1) rfl x5v)
          refine ok_mono (ih x4v vx50 vx44 δ I (show 0 ≤ (x1).toInt by first | with_reducible assumption | omega) (show (x1).toInt ≤ 3 by first | with_reducible assumption | omega) (show (x4v).toInt ≤ 2047 by first | with_reducible assumption | omega) (show 0 ≤ (vx50).toInt by first | with_reducible assumption | omega) (show (vx50).toInt ≤ 2048 by first | with_reducible assumption | omega) (show 2048 - (vx50).toInt < _ by omega)) (fun r56 hr57 => ?_)
          have i58 := hr57
          have f59 := ti_b r56.1
          exact by assumption
        · have c60 : r36.1.toInt ≠ (0 : Int) := o_ne h42
          unfold J_X12_bits_95
          exact ok_some (show δ = δ from rfl)
set_option maxHeartbeats 4000000 in
theorem kl_X12_bits_115 {ad : List Nat} {h : hp} (L : Lay TLx ad h) {δ0 : dp} {N : Nat} (hN : 10000000 ≤ N) {a0 : Nat} {x1 : Int32} {x2 : Int32} {x3 : Int32} (k_a0 : q_K h.1 a0 = 12) : ∀ (n : Nat) (x5v : Int32) (x6v : Int32) (δ : dp), RI ad h.1 δ0 δ → 0 ≤ (x1).toInt → (x1).toInt ≤ 3 → 0 ≤ (x5v).toInt → (x5v).toInt ≤ 2048 → (x5v).toInt < (n : Int) → ok (L_X12_bits_115 N h.1 a0 x1 x2 x3 n x5v x6v δ) (fun r => r.2 = δ) := by
  intro n
  induction n with
  | zero =>
    intro x5v x6v δ I j0 j1 j2 j3 hm
    have f1 := ti_b x1
    have f2 := ti_b x5v
    exfalso; omega
  | succ n ih =>
    intro x5v x6v δ I j0 j1 j2 j3 hm
    unfold L_X12_bits_115
    have f1 := ti_b x1
    have f2 := ti_b x5v
    refine ok_ite (fun h3 => ?_) (fun h3 => ?_)
    · have c4 : x5v.toInt ≤ (0 : Int) := o_le h3
      unfold J_X12_bits_160
      exact ok_some (show δ = δ from rfl)
    · have c5 : (0 : Int) < x5v.toInt := o_nle h3
      have f6 := ti_b x6v
      refine ok_ite (fun h7 => ?_) (fun h7 => ?_)
      · have c8 : x6v.toInt = (1 : Int) := o_eq h7
        unfold J_X12_bits_145
        refine ok_bind (k_X12_hasIn L hN (a0 := a0) (x1 := x1) (x2 := ((32 : Int32) * x5v)) (x3 := x3) k_a0 (show 0 ≤ (x1).toInt by first | with_reducible assumption | omega) (show (x1).toInt ≤ 3 by first | with_reducible assumption | omega) I) (fun r9 hr10 => ?_)
        obtain ⟨i11, p12⟩ := hr10
        try rw [i11]
        have f13 := bo_l p12
        have f14 := ti_b r9.1
        refine ok_ite (fun h15 => ?_) (fun h15 => ?_)
        · have c16 : r9.1.toInt = (0 : Int) := o_eq h15
          refine ok_biv (fun vx17 e18 => ?_)
          first | (have q19 := te_addc (c := 1) (n := 1) rfl x6v (by omega) (by omega); rw [← e18] at q19; obtain ⟨f20, f21, f22⟩ := q19) | (obtain ⟨q19, f20, f21, f22⟩ : ∃ q : Int, vx17.toInt = x6v.toInt + (1 : Int) + 4294967296 * q ∧ -2147483648 ≤ vx17.toInt ∧ vx17.toInt ≤ 2147483647 := by rw [e18]; exact ti_addc (c := 1) (n := 1) rfl x6v)
          refine ok_biv (fun vx23 e24 => ?_)
          first | (have q25 := te_addc (c := -1) (n := -1) (by decide) x5v (by omega) (by omega); rw [← e24] at q25; obtain ⟨f26, f27, f28⟩ := q25) | (obtain ⟨q25, f26, f27, f28⟩ : ∃ q : Int, vx23.toInt = x5v.toInt + (-1 : Int) + 4294967296 * q ∧ -2147483648 ≤ vx23.toInt ∧ vx23.toInt ≤ 2147483647 := by rw [e24]; exact ti_addc (c := -1) (n := -1) (by decide) x5v)
          refine ok_mono (ih vx23 vx17 δ I (show 0 ≤ (x1).toInt by first | with_reducible assumption | omega) (show (x1).toInt ≤ 3 by first | with_reducible assumption | omega) (show 0 ≤ (vx23).toInt by first | with_reducible assumption | omega) (show (vx23).toInt ≤ 2048 by first | with_reducible assumption | omega) (show (vx23).toInt < _ by omega)) (fun r29 hr30 => ?_)
          have i31 := hr30
          have f32 := ti_b r29.1
          exact by assumption
        · have c33 : r9.1.toInt ≠ (0 : Int) := o_ne h15
          unfold J_X12_bits_160
          exact ok_some (show δ = δ from rfl)
      · have c34 : x6v.toInt ≠ (1 : Int) := o_ne h7
        unfold J_X12_bits_145
        refine ok_bind (k_X12_hasIn L hN (a0 := a0) (x1 := x1) (x2 := ((32 : Int32) * x5v)) (x3 := (((32 : Int32) * x5v) + (32 : Int32))) k_a0 (show 0 ≤ (x1).toInt by first | with_reducible assumption | omega) (show (x1).toInt ≤ 3 by first | with_reducible assumption | omega) I) (fun r35 hr36 => ?_)
        obtain ⟨i37, p38⟩ := hr36
        try rw [i37]
        have f39 := bo_l p38
        have f40 := ti_b r35.1
        refine ok_ite (fun h41 => ?_) (fun h41 => ?_)
        · have c42 : r35.1.toInt = (0 : Int) := o_eq h41
          refine ok_biv (fun vx43 e44 => ?_)
          first | (have q45 := te_addc (c := 1) (n := 1) rfl x6v (by omega) (by omega); rw [← e44] at q45; obtain ⟨f46, f47, f48⟩ := q45) | (obtain ⟨q45, f46, f47, f48⟩ : ∃ q : Int, vx43.toInt = x6v.toInt + (1 : Int) + 4294967296 * q ∧ -2147483648 ≤ vx43.toInt ∧ vx43.toInt ≤ 2147483647 := by rw [e44]; exact ti_addc (c := 1) (n := 1) rfl x6v)
          refine ok_biv (fun vx49 e50 => ?_)
          first | (have q51 := te_addc (c := -1) (n := -1) (by decide) x5v (by omega) (by omega); rw [← e50] at q51; obtain ⟨f52, f53, f54⟩ := q51) | (obtain ⟨q51, f52, f53, f54⟩ : ∃ q : Int, vx49.toInt = x5v.toInt + (-1 : Int) + 4294967296 * q ∧ -2147483648 ≤ vx49.toInt ∧ vx49.toInt ≤ 2147483647 := by rw [e50]; exact ti_addc (c := -1) (n := -1) (by decide) x5v)
          refine ok_mono (ih vx49 vx43 δ I (show 0 ≤ (x1).toInt by first | with_reducible assumption | omega) (show (x1).toInt ≤ 3 by first | with_reducible assumption | omega) (show 0 ≤ (vx49).toInt by first | with_reducible assumption | omega) (show (vx49).toInt ≤ 2048 by first | with_reducible assumption | omega) (show (vx49).toInt < _ by omega)) (fun r55 hr56 => ?_)
          have i57 := hr56
          have f58 := ti_b r55.1
          exact by assumption
        · have c59 : r35.1.toInt ≠ (0 : Int) := o_ne h41
          unfold J_X12_bits_160
          exact ok_some (show δ = δ from rfl)
set_option maxHeartbeats 4000000 in
theorem k_X12_bits {ad : List Nat} {h : hp} (L : Lay TLx ad h) {δ0 : dp} {N : Nat} (hN : 10000000 ≤ N) {a0 : Nat} {x1 : Int32} {x2 : Int32} {x3 : Int32} (k_a0 : q_K h.1 a0 = 12) {δ : dp} (z0 : 0 ≤ (x1).toInt) (z1 : (x1).toInt ≤ 3) (z2 : -1 ≤ (x3).toInt) (z3 : (x3).toInt ≤ 65536) (I : RI ad h.1 δ0 δ) : ok (D_X12_bits N h.1 a0 x1 x2 x3 δ) (fun r => r.2 = δ) := by
  unfold D_X12_bits
  have f1 := ti_b x1
  have f2 := ti_b x3
  have f3 := ti_b x2
  refine ok_ite (fun h4 => ?_) (fun h4 => ?_)
  · have c5 : (3 : Int) ≤ x2.toInt := o_le h4
    refine ok_bind (k_X12_all L hN (a0 := a0) k_a0 I) (fun r6 hr7 => ?_)
    obtain ⟨i8, p9, p10, p11, p12⟩ := hr7
    try rw [i8]
    have f13 := ti_b r6.1
    have f14 := cb_12_10 I k_a0
    first | (have q18 := te_subc (c := 1) (n := 1) rfl r6.1 (by omega) (by omega); obtain ⟨f19, f20, f21⟩ := q18) | (obtain ⟨q18, f19, f20, f21⟩ := ti_subc (c := 1) (n := 1) rfl r6.1)
    have f22 := ti_div (c := 32) (n := 32) rfl (by decide) (r6.1 - (1 : Int32))
    have f23 := ti_b ((r6.1 - (1 : Int32)) / (32 : Int32))
    have f24 := ti_dvn (c := 32) (n := 32) rfl (by decide) (r6.1 - (1 : Int32))
    refine ok_biv (fun vx15 e16 => ?_)
    have f25 : vx15.toInt = ((r6.1 - (1 : Int32)) / (32 : Int32)).toInt := congrArg Int32.toInt e16
    refine ok_ite (fun h26 => ?_) (fun h26 => ?_)
    · have c27 : x2.toInt = (3 : Int) := o_eq h26
      refine ok_bind (k_X12_all L hN (a0 := a0) k_a0 I) (fun r28 hr29 => ?_)
      obtain ⟨i30, p31, p32, p33, p34⟩ := hr29
      try rw [i30]
      have f35 := ti_b r28.1
      first | (have q37 := te_subc (c := 1) (n := 1) rfl r28.1 (by omega) (by omega); obtain ⟨f38, f39, f40⟩ := q37) | (obtain ⟨q37, f38, f39, f40⟩ := ti_subc (c := 1) (n := 1) rfl r28.1)
      refine ok_ite (fun h41 => ?_) (fun h41 => ?_)
      · have c42 : x3.toInt = (r28.1 - (1 : Int32)).toInt := o_eq h41
        exact ok_some (show δ = δ from rfl)
      · have c43 : x3.toInt ≠ (r28.1 - (1 : Int32)).toInt := o_ne h41
        first | (have q47 := te_addc (c := 1) (n := 1) rfl x3 (by omega) (by omega); obtain ⟨f48, f49, f50⟩ := q47) | (obtain ⟨q47, f48, f49, f50⟩ := ti_addc (c := 1) (n := 1) rfl x3)
        have f51 := ti_div (c := 32) (n := 32) rfl (by decide) (x3 + (1 : Int32))
        have f52 := ti_b ((x3 + (1 : Int32)) / (32 : Int32))
        have f53 := ti_dvn (c := 32) (n := 32) rfl (by decide) (x3 + (1 : Int32))
        refine ok_biv (fun vx44 e45 => ?_)
        have f54 : vx44.toInt = ((x3 + (1 : Int32)) / (32 : Int32)).toInt := congrArg Int32.toInt e45
        refine ok_mono (kl_X12_bits_46 L hN   k_a0 _ vx15 vx44 (1 : Int32) δ I (show 0 ≤ (x1).toInt by first | with_reducible assumption | omega) (show (x1).toInt ≤ 3 by first | with_reducible assumption | omega) (show (vx15).toInt ≤ 2047 by first | with_reducible assumption | omega) (show 0 ≤ (vx44).toInt by first | with_reducible assumption | omega) (show (vx44).toInt ≤ 2048 by first | with_reducible assumption | omega) (show 2048 - (vx44).toInt < _ by omega)) (fun r55 hr56 => ?_)
        have i57 := hr56
        have f58 := ti_b r55.1
        exact by assumption
    · have c59 : x2.toInt ≠ (3 : Int) := o_ne h26
      refine ok_ite (fun h60 => ?_) (fun h60 => ?_)
      · have c61 : x3.toInt = (0 : Int) := o_eq h60
        exact ok_some (show δ = δ from rfl)
      · have c62 : x3.toInt ≠ (0 : Int) := o_ne h60
        first | (have q66 := te_subc (c := 1) (n := 1) rfl x3 (by omega) (by omega); obtain ⟨f67, f68, f69⟩ := q66) | (obtain ⟨q66, f67, f68, f69⟩ := ti_subc (c := 1) (n := 1) rfl x3)
        have f70 := ti_div (c := 32) (n := 32) rfl (by decide) (x3 - (1 : Int32))
        have f71 := ti_b ((x3 - (1 : Int32)) / (32 : Int32))
        have f72 := ti_dvn (c := 32) (n := 32) rfl (by decide) (x3 - (1 : Int32))
        refine ok_biv (fun vx63 e64 => ?_)
        have f73 : vx63.toInt = ((x3 - (1 : Int32)) / (32 : Int32)).toInt := congrArg Int32.toInt e64
        refine ok_mono (kl_X12_bits_115 L hN   k_a0 _ vx63 (1 : Int32) δ I (show 0 ≤ (x1).toInt by first | with_reducible assumption | omega) (show (x1).toInt ≤ 3 by first | with_reducible assumption | omega) (show 0 ≤ (vx63).toInt by first | with_reducible assumption | omega) (show (vx63).toInt ≤ 2048 by first | with_reducible assumption | omega) (show (vx63).toInt < _ by omega)) (fun r74 hr75 => ?_)
        have i76 := hr75
        have f77 := ti_b r74.1
        exact by assumption
  · have c78 : x2.toInt < (3 : Int) := o_nle h4
    exact ok_some (show δ = δ from rfl)
set_option maxHeartbeats 4000000 in
theorem kj_X12_sorted_180 {ad : List Nat} {h : hp} (L : Lay TLx ad h) {δ0 : dp} {N : Nat} (hN : 10000000 ≤ N) {a0 : Nat} {x1 : Int32} {x2 : Int32} {x3 : Int32} {x5v : Int32} {x7v : Int32} {x8v : Int32} (k_a0 : q_K h.1 a0 = 12) {δ : dp} (z0 : 0 ≤ (x1).toInt) (z1 : (x1).toInt ≤ 3) (I : RI ad h.1 δ0 δ) : ok (J_X12_sorted_180 N h.1 a0 x1 x2 x3 x5v x7v x8v δ) (fun r => r.2 = δ) := by
  unfold J_X12_sorted_180
  have f1 := ti_b x1
  have f2 := ti_b x2
  refine ok_ite (fun h3 => ?_) (fun h3 => ?_)
  · have c4 : x2.toInt = (1 : Int) := o_eq h3
    have f5 := ti_b x8v
    refine ok_ite (fun h6 => ?_) (fun h6 => ?_)
    · have c7 : x8v.toInt = (0 : Int) := o_eq h6
      unfold J_X12_sorted_206
      exact ok_some (show δ = δ from rfl)
    · have c8 : x8v.toInt ≠ (0 : Int) := o_ne h6
      obtain ⟨b9, o10, k11, n12⟩ := gO_12_14 L k_a0
      obtain rfl := gS_12_14 L k_a0 o10
      refine ok_at o10 ?_
      have t13 := ti_tn x1
      refine ok_gd (fun hc14 => ?_) ?_
      · rcases hc14 with hc14 | hc14
        · have c15 : x1.toInt < (0 : Int) := o_lt hc14
          omega
        · omega
      have f18 := ti_b x7v
      have f19 := rb_103 L I x1.toNatClampNeg
      have f20 := ti_b x5v
      first | (have q22 := te_sub (q_R δ (Ad ad 103) x1.toNatClampNeg) x5v (by omega) (by omega); obtain ⟨f23, f24, f25⟩ := q22) | (obtain ⟨q22, f23, f24, f25⟩ := ti_sub (q_R δ (Ad ad 103) x1.toNatClampNeg) x5v)
      first | (have q27 := te_subc (c := 1) (n := 1) rfl ((q_R δ (Ad ad 103) x1.toNatClampNeg) - x5v) (by omega) (by omega); obtain ⟨f28, f29, f30⟩ := q27) | (obtain ⟨q27, f28, f29, f30⟩ := ti_subc (c := 1) (n := 1) rfl ((q_R δ (Ad ad 103) x1.toNatClampNeg) - x5v))
      refine ok_biv (fun vx16 e17 => ?_)
      first | (have q31 := te_add x7v (((q_R δ (Ad ad 103) x1.toNatClampNeg) - x5v) - (1 : Int32)) (by omega) (by omega); rw [← e17] at q31; obtain ⟨f32, f33, f34⟩ := q31) | (obtain ⟨q31, f32, f33, f34⟩ : ∃ q : Int, vx16.toInt = x7v.toInt + (((q_R δ (Ad ad 103) x1.toNatClampNeg) - x5v) - (1 : Int32)).toInt + 4294967296 * q ∧ -2147483648 ≤ vx16.toInt ∧ vx16.toInt ≤ 2147483647 := by rw [e17]; exact ti_add x7v (((q_R δ (Ad ad 103) x1.toNatClampNeg) - x5v) - (1 : Int32)))
      unfold J_X12_sorted_206
      exact ok_some (show δ = δ from rfl)
  · have c35 : x2.toInt ≠ (1 : Int) := o_ne h3
    unfold J_X12_sorted_206
    exact ok_some (show δ = δ from rfl)
set_option maxHeartbeats 4000000 in
theorem kj_X12_sorted_153 {ad : List Nat} {h : hp} (L : Lay TLx ad h) {δ0 : dp} {N : Nat} (hN : 10000000 ≤ N) {a0 : Nat} {x1 : Int32} {x2 : Int32} {x3 : Int32} {xs0 : Int32} {x5v : Int32} {x7v : Int32} (k_a0 : q_K h.1 a0 = 12) {δ : dp} (z0 : 0 ≤ (x1).toInt) (z1 : (x1).toInt ≤ 3) (I : RI ad h.1 δ0 δ) : ok (J_X12_sorted_153 N h.1 a0 x1 x2 x3 xs0 x5v x7v δ) (fun r => r.2 = δ) := by
  unfold J_X12_sorted_153
  have f1 := ti_b x1
  have f2 := ti_b x2
  refine ok_ite (fun h3 => ?_) (fun h3 => ?_)
  · have c4 : x2.toInt = (0 : Int) := o_eq h3
    have f5 := ti_b xs0
    refine ok_ite (fun h6 => ?_) (fun h6 => ?_)
    · have c7 : xs0.toInt = (0 : Int) := o_eq h6
      obtain ⟨b8, o9, k10, n11⟩ := gO_12_14 L k_a0
      obtain rfl := gS_12_14 L k_a0 o9
      refine ok_at o9 ?_
      have t12 := ti_tn x1
      refine ok_gd (fun hc13 => ?_) ?_
      · rcases hc13 with hc13 | hc13
        · have c14 : x1.toInt < (0 : Int) := o_lt hc13
          omega
        · omega
      have f17 := ti_b x7v
      have f18 := rb_103 L I x1.toNatClampNeg
      have f19 := ti_b x5v
      first | (have q21 := te_sub (q_R δ (Ad ad 103) x1.toNatClampNeg) x5v (by omega) (by omega); obtain ⟨f22, f23, f24⟩ := q21) | (obtain ⟨q21, f22, f23, f24⟩ := ti_sub (q_R δ (Ad ad 103) x1.toNatClampNeg) x5v)
      first | (have q26 := te_addc (c := 1) (n := 1) rfl ((q_R δ (Ad ad 103) x1.toNatClampNeg) - x5v) (by omega) (by omega); obtain ⟨f27, f28, f29⟩ := q26) | (obtain ⟨q26, f27, f28, f29⟩ := ti_addc (c := 1) (n := 1) rfl ((q_R δ (Ad ad 103) x1.toNatClampNeg) - x5v))
      refine ok_biv (fun vx15 e16 => ?_)
      first | (have q30 := te_add x7v (((q_R δ (Ad ad 103) x1.toNatClampNeg) - x5v) + (1 : Int32)) (by omega) (by omega); rw [← e16] at q30; obtain ⟨f31, f32, f33⟩ := q30) | (obtain ⟨q30, f31, f32, f33⟩ : ∃ q : Int, vx15.toInt = x7v.toInt + (((q_R δ (Ad ad 103) x1.toNatClampNeg) - x5v) + (1 : Int32)).toInt + 4294967296 * q ∧ -2147483648 ≤ vx15.toInt ∧ vx15.toInt ≤ 2147483647 := by rw [e16]; exact ti_add x7v (((q_R δ (Ad ad 103) x1.toNatClampNeg) - x5v) + (1 : Int32)))
      refine ok_mono (kj_X12_sorted_180 L hN (a0 := a0) (x1 := x1) (x2 := x2) (x3 := x3) (x5v := x5v) (x7v := vx15) (x8v := xs0) k_a0 (show 0 ≤ (x1).toInt by first | with_reducible assumption | omega) (show (x1).toInt ≤ 3 by first | with_reducible assumption | omega) I) (fun r34 hr35 => ?_)
      have i36 := hr35
      have f37 := ti_b r34.1
      exact by assumption
    · have c38 : xs0.toInt ≠ (0 : Int) := o_ne h6
      refine ok_mono (kj_X12_sorted_180 L hN (a0 := a0) (x1 := x1) (x2 := x2) (x3 := x3) (x5v := x5v) (x7v := x7v) (x8v := xs0) k_a0 (show 0 ≤ (x1).toInt by first | with_reducible assumption | omega) (show (x1).toInt ≤ 3 by first | with_reducible assumption | omega) I) (fun r39 hr40 => ?_)
      have i41 := hr40
      have f42 := ti_b r39.1
      exact by assumption
  · have c43 : x2.toInt ≠ (0 : Int) := o_ne h3
    refine ok_mono (kj_X12_sorted_180 L hN (a0 := a0) (x1 := x1) (x2 := x2) (x3 := x3) (x5v := x5v) (x7v := x7v) (x8v := xs0) k_a0 (show 0 ≤ (x1).toInt by first | with_reducible assumption | omega) (show (x1).toInt ≤ 3 by first | with_reducible assumption | omega) I) (fun r44 hr45 => ?_)
    have i46 := hr45
    have f47 := ti_b r44.1
    exact by assumption
set_option maxHeartbeats 4000000 in
theorem kj_X12_sorted_117 {ad : List Nat} {h : hp} (L : Lay TLx ad h) {δ0 : dp} {N : Nat} (hN : 10000000 ≤ N) {a0 : Nat} {x1 : Int32} {x2 : Int32} {x3 : Int32} {xs0 : Int32} {xs1 : Int32} {x5v : Int32} (k_a0 : q_K h.1 a0 = 12) {δ : dp} (z0 : 0 ≤ (x1).toInt) (z1 : (x1).toInt ≤ 3) (z2 : 0 ≤ (x5v).toInt) (I : RI ad h.1 δ0 δ) : ok (J_X12_sorted_117 N h.1 a0 x1 x2 x3 xs0 xs1 x5v δ) (fun r => r.2 = δ) := by
  unfold J_X12_sorted_117
  have f1 := ti_b x1
  have f2 := ti_b x5v
  have f5 := ti_b xs1
  have f6 := ti_b xs0
  refine ok_biv (fun vx3 e4 => ?_)
  first | (have q7 := te_add xs1 xs0 (by omega) (by omega); rw [← e4] at q7; obtain ⟨f8, f9, f10⟩ := q7) | (obtain ⟨q7, f8, f9, f10⟩ : ∃ q : Int, vx3.toInt = xs1.toInt + xs0.toInt + 4294967296 * q ∧ -2147483648 ≤ vx3.toInt ∧ vx3.toInt ≤ 2147483647 := by rw [e4]; exact ti_add xs1 xs0)
  obtain ⟨b11, o12, k13, n14⟩ := gO_12_14 L k_a0
  obtain rfl := gS_12_14 L k_a0 o12
  refine ok_at o12 ?_
  have t15 := ti_tn x1
  refine ok_gd (fun hc16 => ?_) ?_
  · rcases hc16 with hc16 | hc16
    · have c17 : x1.toInt < (0 : Int) := o_lt hc16
      omega
    · omega
  have f18 := rb_103 L I x1.toNatClampNeg
  refine ok_ite (fun h19 => ?_) (fun h19 => ?_)
  · have c20 : (q_R δ (Ad ad 103) x1.toNatClampNeg).toInt ≤ x5v.toInt := o_le h19
    unfold J_X12_sorted_152
    refine ok_mono (kj_X12_sorted_153 L hN (a0 := a0) (x1 := x1) (x2 := x2) (x3 := x3) (xs0 := (0 : Int32)) (x5v := x5v) (x7v := vx3) k_a0 (show 0 ≤ (x1).toInt by first | with_reducible assumption | omega) (show (x1).toInt ≤ 3 by first | with_reducible assumption | omega) I) (fun r21 hr22 => ?_)
    have i23 := hr22
    have f24 := ti_b r21.1
    exact by assumption
  · have c25 : x5v.toInt < (q_R δ (Ad ad 103) x1.toNatClampNeg).toInt := o_nle h19
    obtain ⟨b26, o27, k28, n29, w30⟩ := gO_12_13 L k_a0
    obtain rfl := gS_12_13 L k_a0 o27
    refine ok_at o27 ?_
    first | (have q32 := te_mulc (c := 2000) (n := 2000) rfl x1 (by omega) (by omega); obtain ⟨f33, f34, f35⟩ := q32) | (obtain ⟨q32, f33, f34, f35⟩ := ti_mulc (c := 2000) (n := 2000) rfl x1)
    first | (have q37 := te_add ((2000 : Int32) * x1) x5v (by omega) (by omega); obtain ⟨f38, f39, f40⟩ := q37) | (obtain ⟨q37, f38, f39, f40⟩ := ti_add ((2000 : Int32) * x1) x5v)
    have t41 := ti_tn (((2000 : Int32) * x1) + x5v)
    refine ok_gd (fun hc42 => ?_) ?_
    · rcases hc42 with hc42 | hc42
      · have c43 : (((2000 : Int32) * x1) + x5v).toInt < (0 : Int) := o_lt hc42
        omega
      · omega
    have f44 := ti_b (q_R δ (Ad ad 102) (((2000 : Int32) * x1) + x5v).toNatClampNeg)
    have f45 := ti_b x3
    refine ok_ite (fun h46 => ?_) (fun h46 => ?_)
    · have c47 : (q_R δ (Ad ad 102) (((2000 : Int32) * x1) + x5v).toNatClampNeg).toInt = x3.toInt := o_eq h46
      refine ok_mono (kj_X12_sorted_153 L hN (a0 := a0) (x1 := x1) (x2 := x2) (x3 := x3) (xs0 := (1 : Int32)) (x5v := x5v) (x7v := vx3) k_a0 (show 0 ≤ (x1).toInt by first | with_reducible assumption | omega) (show (x1).toInt ≤ 3 by first | with_reducible assumption | omega) I) (fun r48 hr49 => ?_)
      have i50 := hr49
      have f51 := ti_b r48.1
      exact by assumption
    · have c52 : (q_R δ (Ad ad 102) (((2000 : Int32) * x1) + x5v).toNatClampNeg).toInt ≠ x3.toInt := o_ne h46
      unfold J_X12_sorted_152
      refine ok_mono (kj_X12_sorted_153 L hN (a0 := a0) (x1 := x1) (x2 := x2) (x3 := x3) (xs0 := (0 : Int32)) (x5v := x5v) (x7v := vx3) k_a0 (show 0 ≤ (x1).toInt by first | with_reducible assumption | omega) (show (x1).toInt ≤ 3 by first | with_reducible assumption | omega) I) (fun r53 hr54 => ?_)
      have i55 := hr54
      have f56 := ti_b r53.1
      exact by assumption
set_option maxHeartbeats 4000000 in
theorem kl_X12_sorted_28 {ad : List Nat} {h : hp} (L : Lay TLx ad h) {δ0 : dp} {N : Nat} (hN : 10000000 ≤ N) {a0 : Nat} {x1 : Int32} {x2 : Int32} {x3 : Int32} (k_a0 : q_K h.1 a0 = 12) : ∀ (n : Nat) (x4v : Int32) (x5v : Int32) (x6v : Int32) (x7v : Int32) (δ : dp), RI ad h.1 δ0 δ → 0 ≤ (x1).toInt → (x1).toInt ≤ 3 → 0 ≤ (x5v).toInt → ((x5v).toInt = 0 ∨ (x5v).toInt ≤ (x6v).toInt) → -1000 ≤ (x6v).toInt → (x6v).toInt ≤ (q_R δ (Ad ad 103) (x1).toNatClampNeg).toInt → (x6v).toInt - (x5v).toInt + 1000 < (n : Int) → ok (L_X12_sorted_28 N h.1 a0 x1 x2 x3 n x4v x5v x6v x7v δ) (fun r => r.2 = δ) := by
  intro n
  induction n with
  | zero =>
    intro x4v x5v x6v x7v δ I j0 j1 j2 j3 j4 j5 hm
    have f1 := ti_b x1
    have f2 := ti_b x5v
    have f3 := ti_b x6v
    have t4 := ti_tn x1
    have f5 := rb_103 L I (x1).toNatClampNeg
    exfalso; omega
  | succ n ih =>
    intro x4v x5v x6v x7v δ I j0 j1 j2 j3 j4 j5 hm
    unfold L_X12_sorted_28
    have f1 := ti_b x1
    have f2 := ti_b x5v
    have f3 := ti_b x6v
    have t4 := ti_tn x1
    have f5 := rb_103 L I (x1).toNatClampNeg
    refine ok_ite (fun h6 => ?_) (fun h6 => ?_)
    · have c7 : x6v.toInt ≤ x5v.toInt := o_le h6
      have f8 := ti_b x2
      refine ok_ite (fun h9 => ?_) (fun h9 => ?_)
      · have c10 : x2.toInt = (4 : Int) := o_eq h9
        refine ok_ite (fun h11 => ?_) (fun h11 => ?_)
        · have c12 : x5v.toInt ≤ (0 : Int) := o_le h11
          refine ok_mono (kj_X12_sorted_117 L hN (a0 := a0) (x1 := x1) (x2 := x2) (x3 := x3) (xs0 := (0 : Int32)) (xs1 := x7v) (x5v := x5v) k_a0 (show 0 ≤ (x1).toInt by first | with_reducible assumption | omega) (show (x1).toInt ≤ 3 by first | with_reducible assumption | omega) (show 0 ≤ (x5v).toInt by first | with_reducible assumption | omega) I) (fun r13 hr14 => ?_)
          have i15 := hr14
          have f16 := ti_b r13.1
          exact by assumption
        · have c17 : (0 : Int) < x5v.toInt := o_nle h11
          refine ok_mono (kj_X12_sorted_117 L hN (a0 := a0) (x1 := x1) (x2 := x2) (x3 := x3) (xs0 := (1 : Int32)) (xs1 := x7v) (x5v := x5v) k_a0 (show 0 ≤ (x1).toInt by first | with_reducible assumption | omega) (show (x1).toInt ≤ 3 by first | with_reducible assumption | omega) (show 0 ≤ (x5v).toInt by first | with_reducible assumption | omega) I) (fun r18 hr19 => ?_)
          have i20 := hr19
          have f21 := ti_b r18.1
          exact by assumption
      · have c22 : x2.toInt ≠ (4 : Int) := o_ne h9
        obtain ⟨b23, o24, k25, n26⟩ := gO_12_14 L k_a0
        obtain rfl := gS_12_14 L k_a0 o24
        refine ok_at o24 ?_
        have t27 := ti_tn x1
        refine ok_gd (fun hc28 => ?_) ?_
        · rcases hc28 with hc28 | hc28
          · have c29 : x1.toInt < (0 : Int) := o_lt hc28
            omega
          · omega
        have f30 := rb_103 L I x1.toNatClampNeg
        refine ok_ite (fun h31 => ?_) (fun h31 => ?_)
        · have c32 : (q_R δ (Ad ad 103) x1.toNatClampNeg).toInt ≤ x5v.toInt := o_le h31
          refine ok_mono (kj_X12_sorted_117 L hN (a0 := a0) (x1 := x1) (x2 := x2) (x3 := x3) (xs0 := (0 : Int32)) (xs1 := x7v) (x5v := x5v) k_a0 (show 0 ≤ (x1).toInt by first | with_reducible assumption | omega) (show (x1).toInt ≤ 3 by first | with_reducible assumption | omega) (show 0 ≤ (x5v).toInt by first | with_reducible assumption | omega) I) (fun r33 hr34 => ?_)
          have i35 := hr34
          have f36 := ti_b r33.1
          exact by assumption
        · have c37 : x5v.toInt < (q_R δ (Ad ad 103) x1.toNatClampNeg).toInt := o_nle h31
          refine ok_mono (kj_X12_sorted_117 L hN (a0 := a0) (x1 := x1) (x2 := x2) (x3 := x3) (xs0 := (1 : Int32)) (xs1 := x7v) (x5v := x5v) k_a0 (show 0 ≤ (x1).toInt by first | with_reducible assumption | omega) (show (x1).toInt ≤ 3 by first | with_reducible assumption | omega) (show 0 ≤ (x5v).toInt by first | with_reducible assumption | omega) I) (fun r38 hr39 => ?_)
          have i40 := hr39
          have f41 := ti_b r38.1
          exact by assumption
    · have c42 : x5v.toInt < x6v.toInt := o_nle h6
      first | (have q46 := te_add x5v x6v (by omega) (by omega); obtain ⟨f47, f48, f49⟩ := q46) | (obtain ⟨q46, f47, f48, f49⟩ := ti_add x5v x6v)
      have f50 := ti_div (c := 2) (n := 2) rfl (by decide) (x5v + x6v)
      have f51 := ti_b ((x5v + x6v) / (2 : Int32))
      have f52 := ti_dvn (c := 2) (n := 2) rfl (by decide) (x5v + x6v)
      refine ok_biv (fun vx43 e44 => ?_)
      have f53 : vx43.toInt = ((x5v + x6v) / (2 : Int32)).toInt := congrArg Int32.toInt e44
      have f56 := ti_b x7v
      refine ok_biv (fun vx54 e55 => ?_)
      first | (have q57 := te_addc (c := 1) (n := 1) rfl x7v (by omega) (by omega); rw [← e55] at q57; obtain ⟨f58, f59, f60⟩ := q57) | (obtain ⟨q57, f58, f59, f60⟩ : ∃ q : Int, vx54.toInt = x7v.toInt + (1 : Int) + 4294967296 * q ∧ -2147483648 ≤ vx54.toInt ∧ vx54.toInt ≤ 2147483647 := by rw [e55]; exact ti_addc (c := 1) (n := 1) rfl x7v)
      obtain ⟨b61, o62, k63, n64, w65⟩ := gO_12_13 L k_a0
      obtain rfl := gS_12_13 L k_a0 o62
      refine ok_at o62 ?_
      first | (have q67 := te_mulc (c := 2000) (n := 2000) rfl x1 (by omega) (by omega); obtain ⟨f68, f69, f70⟩ := q67) | (obtain ⟨q67, f68, f69, f70⟩ := ti_mulc (c := 2000) (n := 2000) rfl x1)
      first | (have q72 := te_add ((2000 : Int32) * x1) vx43 (by omega) (by omega); obtain ⟨f73, f74, f75⟩ := q72) | (obtain ⟨q72, f73, f74, f75⟩ := ti_add ((2000 : Int32) * x1) vx43)
      have t76 := ti_tn (((2000 : Int32) * x1) + vx43)
      refine ok_gd (fun hc77 => ?_) ?_
      · rcases hc77 with hc77 | hc77
        · have c78 : (((2000 : Int32) * x1) + vx43).toInt < (0 : Int) := o_lt hc77
          omega
        · omega
      have f79 := ti_b x4v
      have f80 := ti_b (q_R δ (Ad ad 102) (((2000 : Int32) * x1) + vx43).toNatClampNeg)
      refine ok_ite (fun h81 => ?_) (fun h81 => ?_)
      · have c82 : x4v.toInt ≤ (q_R δ (Ad ad 102) (((2000 : Int32) * x1) + vx43).toNatClampNeg).toInt := o_le h81
        unfold J_X12_sorted_78
        refine ok_mono (ih x4v x5v vx43 vx54 δ I (show 0 ≤ (x1).toInt by first | with_reducible assumption | omega) (show (x1).toInt ≤ 3 by first | with_reducible assumption | omega) (show 0 ≤ (x5v).toInt by first | with_reducible assumption | omega) (show (x5v).toInt = 0 ∨ (x5v).toInt ≤ (vx43).toInt by first | with_reducible assumption | omega) (show -1000 ≤ (vx43).toInt by first | with_reducible assumption | omega) (show (vx43).toInt ≤ (q_R δ (Ad ad 103) (x1).toNatClampNeg).toInt by first | with_reducible assumption | omega) (show (vx43).toInt - (x5v).toInt + 1000 < _ by omega)) (fun r83 hr84 => ?_)
        have i85 := hr84
        have f86 := ti_b r83.1
        exact by assumption
      · have c87 : (q_R δ (Ad ad 102) (((2000 : Int32) * x1) + vx43).toNatClampNeg).toInt < x4v.toInt := o_nle h81
        refine ok_biv (fun vx88 e89 => ?_)
        first | (have q90 := te_addc (c := 1) (n := 1) rfl vx43 (by omega) (by omega); rw [← e89] at q90; obtain ⟨f91, f92, f93⟩ := q90) | (obtain ⟨q90, f91, f92, f93⟩ : ∃ q : Int, vx88.toInt = vx43.toInt + (1 : Int) + 4294967296 * q ∧ -2147483648 ≤ vx88.toInt ∧ vx88.toInt ≤ 2147483647 := by rw [e89]; exact ti_addc (c := 1) (n := 1) rfl vx43)
        unfold J_X12_sorted_78
        refine ok_mono (ih x4v vx88 x6v vx54 δ I (show 0 ≤ (x1).toInt by first | with_reducible assumption | omega) (show (x1).toInt ≤ 3 by first | with_reducible assumption | omega) (show 0 ≤ (vx88).toInt by first | with_reducible assumption | omega) (show (vx88).toInt = 0 ∨ (vx88).toInt ≤ (x6v).toInt by first | with_reducible assumption | omega) (show -1000 ≤ (x6v).toInt by first | with_reducible assumption | omega) (show (x6v).toInt ≤ (q_R δ (Ad ad 103) (x1).toNatClampNeg).toInt by first | with_reducible assumption | omega) (show (x6v).toInt - (vx88).toInt + 1000 < _ by omega)) (fun r94 hr95 => ?_)
        have i96 := hr95
        have f97 := ti_b r94.1
        exact by assumption
set_option maxHeartbeats 4000000 in
theorem k_X12_sorted {ad : List Nat} {h : hp} (L : Lay TLx ad h) {δ0 : dp} {N : Nat} (hN : 10000000 ≤ N) {a0 : Nat} {x1 : Int32} {x2 : Int32} {x3 : Int32} (k_a0 : q_K h.1 a0 = 12) {δ : dp} (z0 : 0 ≤ (x1).toInt) (z1 : (x1).toInt ≤ 3) (I : RI ad h.1 δ0 δ) : ok (D_X12_sorted N h.1 a0 x1 x2 x3 δ) (fun r => r.2 = δ) := by
  unfold D_X12_sorted
  have f1 := ti_b x1
  have f2 := ti_b x2
  refine ok_ite (fun h3 => ?_) (fun h3 => ?_)
  · have c4 : x2.toInt = (3 : Int) := o_eq h3
    unfold J_X12_sorted_12
    obtain ⟨b5, o6, k7, n8⟩ := gO_12_14 L k_a0
    obtain rfl := gS_12_14 L k_a0 o6
    refine ok_at o6 ?_
    have t9 := ti_tn x1
    refine ok_gd (fun hc10 => ?_) ?_
    · rcases hc10 with hc10 | hc10
      · have c11 : x1.toInt < (0 : Int) := o_lt hc10
        omega
      · omega
    have f14 := rb_103 L I x1.toNatClampNeg
    refine ok_biv (fun vx12 e13 => ?_)
    have f15 : vx12.toInt = (q_R δ (Ad ad 103) x1.toNatClampNeg).toInt := congrArg Int32.toInt e13
    have t16 := ti_tn x1
    have f17 := rb_103 L I (x1).toNatClampNeg
    refine ok_mono (kl_X12_sorted_28 L hN   k_a0 _ (x3 + (1 : Int32)) (0 : Int32) vx12 (0 : Int32) δ I (show 0 ≤ (x1).toInt by first | with_reducible assumption | omega) (show (x1).toInt ≤ 3 by first | with_reducible assumption | omega) (show 0 ≤ (0 : Int) by first | with_reducible assumption | omega) (show (0 : Int) = 0 ∨ (0 : Int) ≤ (vx12).toInt by first | with_reducible assumption | omega) (show -1000 ≤ (vx12).toInt by first | with_reducible assumption | omega) (show (vx12).toInt ≤ (q_R δ (Ad ad 103) (x1).toNatClampNeg).toInt by first | with_reducible assumption | omega) (show (vx12).toInt - (0 : Int) + 1000 < _ by omega)) (fun r18 hr19 => ?_)
    have i20 := hr19
    have f21 := ti_b r18.1
    exact by assumption
  · have c22 : x2.toInt ≠ (3 : Int) := o_ne h3
    unfold J_X12_sorted_12
    obtain ⟨b23, o24, k25, n26⟩ := gO_12_14 L k_a0
    obtain rfl := gS_12_14 L k_a0 o24
    refine ok_at o24 ?_
    have t27 := ti_tn x1
    refine ok_gd (fun hc28 => ?_) ?_
    · rcases hc28 with hc28 | hc28
      · have c29 : x1.toInt < (0 : Int) := o_lt hc28
        omega
      · omega
    have f32 := rb_103 L I x1.toNatClampNeg
    refine ok_biv (fun vx30 e31 => ?_)
    have f33 : vx30.toInt = (q_R δ (Ad ad 103) x1.toNatClampNeg).toInt := congrArg Int32.toInt e31
    have t34 := ti_tn x1
    have f35 := rb_103 L I (x1).toNatClampNeg
    refine ok_mono (kl_X12_sorted_28 L hN   k_a0 _ x3 (0 : Int32) vx30 (0 : Int32) δ I (show 0 ≤ (x1).toInt by first | with_reducible assumption | omega) (show (x1).toInt ≤ 3 by first | with_reducible assumption | omega) (show 0 ≤ (0 : Int) by first | with_reducible assumption | omega) (show (0 : Int) = 0 ∨ (0 : Int) ≤ (vx30).toInt by first | with_reducible assumption | omega) (show -1000 ≤ (vx30).toInt by first | with_reducible assumption | omega) (show (vx30).toInt ≤ (q_R δ (Ad ad 103) (x1).toNatClampNeg).toInt by first | with_reducible assumption | omega) (show (vx30).toInt - (0 : Int) + 1000 < _ by omega)) (fun r36 hr37 => ?_)
    have i38 := hr37
    have f39 := ti_b r36.1
    exact by assumption
set_option maxHeartbeats 4000000 in
theorem k_X12_isCall {ad : List Nat} {h : hp} (L : Lay TLx ad h) {δ0 : dp} {N : Nat} (hN : 10000000 ≤ N) {x0 : Int32} {δ : dp} (I : RI ad h.1 δ0 δ) : ok (D_X12_isCall N h.1 x0 δ) (fun r => r.2 = δ ∧ bo (r.1) ∧ ((r.1).toInt = 1 → 0 ≤ (x0).toInt ∧ (x0).toInt ≤ 4)) := by
  unfold D_X12_isCall
  refine ok_bind (k_X12_within L hN (x0 := x0) (x1 := (0 : Int32)) (x2 := (4 : Int32))  I) (fun r1 hr2 => ?_)
  obtain ⟨i3, p4, p5, p6⟩ := hr2
  try rw [i3]
  have f7 := bo_l p4
  have f8 := ti_b r1.1
  have f9 := ti_b x0
  replace p5 : ((r1.1).toInt = 1 → (0 : Int) ≤ (x0).toInt ∧ (x0).toInt ≤ (4 : Int)) := p5
  replace p6 : ((r1.1).toInt = 0 → (x0).toInt < (0 : Int) ∨ (4 : Int) < (x0).toInt) := p6
  refine ok_gp (show bo r1.1 by first | assumption | exact bo_0 | exact bo_1 | exact bo_i (by omega) (by omega)) ?_
  exact ok_some (show δ = δ ∧ bo (r1.1) ∧ ((r1.1).toInt = 1 → 0 ≤ (x0).toInt ∧ (x0).toInt ≤ 4) from ⟨rfl, by first | assumption | exact bo_0 | exact bo_1 | exact bo_i (by omega) (by omega), by first | with_reducible assumption | omega⟩)
set_option maxHeartbeats 4000000 in
theorem k_X12_touched {ad : List Nat} {h : hp} (L : Lay TLx ad h) {δ0 : dp} {N : Nat} (hN : 10000000 ≤ N) {a0 : Nat} {x1 : Int32} {x2 : Int32} {x3 : Int32} {x4 : Int32} (k_a0 : q_K h.1 a0 = 12) {δ : dp} (z0 : 0 ≤ (x1).toInt) (z1 : (x1).toInt ≤ 3) (z2 : -1 ≤ (x3).toInt) (z3 : (x3).toInt ≤ 65536) (I : RI ad h.1 δ0 δ) : ok (D_X12_touched N h.1 a0 x1 x2 x3 x4 δ) (fun r => RI ad h.1 δ0 r.2 ∧ (kp [(12, 36)] δ r.2 ∧ q_V r.2 = q_V δ ∧ kr ad [119] δ r.2)) := by
  unfold D_X12_touched
  have f1 := ti_b x1
  have f2 := ti_b x3
  have f3 := ti_b x4
  refine ok_ite (fun h4 => ?_) (fun h4 => ?_)
  · have c5 : x4.toInt = (0 : Int) := o_eq h4
    refine ok_bind (k_X12_halves L hN (a0 := a0) (x1 := x1) (x2 := x2) (x3 := x3) k_a0 (show 0 ≤ (x1).toInt by first | with_reducible assumption | omega) (show (x1).toInt ≤ 3 by first | with_reducible assumption | omega) I) (fun r6 hr7 => ?_)
    obtain ⟨i8, ⟨u9, u10, u11⟩⟩ := hr7
    have u12 := kp_t kp_r u9
    have v13 : q_V r6.2 = q_V δ := (u10).trans rfl
    have v14 := kr_t (kr_r (ad := ad)) u11
    have f15 := ti_b r6.1
    unfold J_X12_touched_38
    exact ok_some (show RI ad h.1 δ0 r6.2 ∧ (kp [(12, 36)] δ r6.2 ∧ q_V r6.2 = q_V δ ∧ kr ad [119] δ r6.2) from ⟨i8, ⟨kp_w (by decide) u12, v13, kr_w (by decide) v14⟩⟩)
  · have c16 : x4.toInt ≠ (0 : Int) := o_ne h4
    refine ok_ite (fun h17 => ?_) (fun h17 => ?_)
    · have c18 : x4.toInt = (1 : Int) := o_eq h17
      refine ok_bind (k_X12_bits L hN (a0 := a0) (x1 := x1) (x2 := x2) (x3 := x3) k_a0 (show 0 ≤ (x1).toInt by first | with_reducible assumption | omega) (show (x1).toInt ≤ 3 by first | with_reducible assumption | omega) (show -1 ≤ (x3).toInt by first | with_reducible assumption | omega) (show (x3).toInt ≤ 65536 by first | with_reducible assumption | omega) I) (fun r19 hr20 => ?_)
      have i21 := hr20
      try rw [i21]
      have f22 := ti_b r19.1
      unfold J_X12_touched_38
      exact ok_some (show RI ad h.1 δ0 δ ∧ (kp [(12, 36)] δ δ ∧ q_V δ = q_V δ ∧ kr ad [119] δ δ) from ⟨I, ⟨kp_w (by decide) kp_r, rfl, kr_w (by decide) (kr_r (ad := ad))⟩⟩)
    · have c23 : x4.toInt ≠ (1 : Int) := o_ne h17
      refine ok_bind (k_X12_sorted L hN (a0 := a0) (x1 := x1) (x2 := x2) (x3 := x3) k_a0 (show 0 ≤ (x1).toInt by first | with_reducible assumption | omega) (show (x1).toInt ≤ 3 by first | with_reducible assumption | omega) I) (fun r24 hr25 => ?_)
      have i26 := hr25
      try rw [i26]
      have f27 := ti_b r24.1
      unfold J_X12_touched_38
      exact ok_some (show RI ad h.1 δ0 δ ∧ (kp [(12, 36)] δ δ ∧ q_V δ = q_V δ ∧ kr ad [119] δ δ) from ⟨I, ⟨kp_w (by decide) kp_r, rfl, kr_w (by decide) (kr_r (ad := ad))⟩⟩)
set_option maxHeartbeats 4000000 in
theorem k_X12_touches {ad : List Nat} {h : hp} (L : Lay TLx ad h) {δ0 : dp} {N : Nat} (hN : 10000000 ≤ N) {a0 : Nat} {x1 : Int32} {x2 : Int32} {x3 : Int32} {x4 : Int32} (k_a0 : q_K h.1 a0 = 12) {δ : dp} (I : RI ad h.1 δ0 δ) : ok (D_X12_touches N h.1 a0 x1 x2 x3 x4 δ) (fun r => RI ad h.1 δ0 r.2 ∧ (kp [(12, 0), (12, 36)] δ r.2 ∧ q_V r.2 = q_V δ ∧ kr ad [100, 119] δ r.2)) := by
  unfold D_X12_touches
  refine ok_bdv (fun d1 e2 => ?_)
  have i3 : RI ad h.1 δ0 d1 := by rw [e2]; exact cs_12_0 L I
  have u4 := kp_I kp_r e2
  have v5 : q_V d1 = q_V δ := ((show q_V d1 = q_V δ by rw [e2]; rfl)).trans rfl
  have v6 := kr_N (kr_r (ad := ad)) (show q_R d1 = q_R δ by rw [e2]; rfl)
  refine ok_bind (k_X12_isHouse L hN (a0 := a0) (x1 := x1) (x2 := (1 : Int32)) k_a0 (show (1 : Int) ≠ 0 by first | with_reducible assumption | omega) i3) (fun r7 hr8 => ?_)
  obtain ⟨i9, ⟨u12, u13, u14⟩, p10, p11⟩ := hr8
  have u15 := kp_t u4 u12
  have v16 : q_V r7.2 = q_V δ := (u13).trans v5
  have v17 := kr_t v6 u14
  have f18 := bo_l p10
  have f19 := ti_b r7.1
  have f20 := ti_b x1
  refine ok_ite (fun h21 => ?_) (fun h21 => ?_)
  · have c22 : r7.1.toInt = (0 : Int) := o_eq h21
    unfold J_X12_touches_54
    exact ok_some (show RI ad h.1 δ0 r7.2 ∧ (kp [(12, 0), (12, 36)] δ r7.2 ∧ q_V r7.2 = q_V δ ∧ kr ad [100, 119] δ r7.2) from ⟨i9, ⟨kp_w (by decide) u15, v16, kr_w (by decide) v17⟩⟩)
  · have c23 : r7.1.toInt ≠ (0 : Int) := o_ne h21
    refine ok_bind (k_X12_isCall L hN (x0 := x2)  i9) (fun r24 hr25 => ?_)
    obtain ⟨i26, p27, p28⟩ := hr25
    try rw [i26]
    have f29 := bo_l p27
    have f30 := ti_b r24.1
    have f31 := ti_b x2
    refine ok_ite (fun h32 => ?_) (fun h32 => ?_)
    · have c33 : r24.1.toInt = (0 : Int) := o_eq h32
      unfold J_X12_touches_45
      unfold J_X12_touches_46
      refine ok_bind (k_X12_may L hN (a0 := a0) (x1 := (0 : Int32)) (x2 := (2 : Int32)) (x3 := (2 : Int32)) k_a0 (show (2 : Int) ≠ 0 by first | with_reducible assumption | omega) (show 0 ≤ (2 : Int) by first | with_reducible assumption | omega) (show (2 : Int) ≤ 2 by first | with_reducible assumption | omega) i9) (fun r34 hr35 => ?_)
      obtain ⟨i36, ⟨u40, u41, u42⟩, p37, p38, p39⟩ := hr35
      have u43 := kp_t u15 u40
      have v44 : q_V r34.2 = q_V δ := (u41).trans v16
      have v45 := kr_t v17 u42
      have f46 := bo_l p37
      have f47 := ti_b r34.1
      replace p38 : ((r34.1).toInt = 1 → (0 : Int) ≠ 0) := p38
      have f48 := ti_b (q_I r7.2 12 0 a0)
      replace p39 : ((q_I r7.2 12 0 a0).toInt = 0 → (r34.1).toInt = 0 → (0 : Int) = 0) := p39
      refine ok_ite (fun h49 => ?_) (fun h49 => ?_)
      · have c50 : r34.1.toInt = (0 : Int) := o_eq h49
        unfold J_X12_touches_54
        exact ok_some (show RI ad h.1 δ0 r34.2 ∧ (kp [(12, 0), (12, 36)] δ r34.2 ∧ q_V r34.2 = q_V δ ∧ kr ad [100, 119] δ r34.2) from ⟨i36, ⟨kp_w (by decide) u43, v44, kr_w (by decide) v45⟩⟩)
      · have c51 : r34.1.toInt ≠ (0 : Int) := o_ne h49
        have f54 := ti_b x3
        refine ok_bind (k_X12_touched L hN (a0 := a0) (x1 := x1) (x2 := x2) (x3 := x3) (x4 := x4) k_a0 (show 0 ≤ (x1).toInt by first | with_reducible assumption | omega) (show (x1).toInt ≤ 3 by first | with_reducible assumption | omega) (show -1 ≤ (x3).toInt by first | with_reducible assumption | omega) (show (x3).toInt ≤ 65536 by first | with_reducible assumption | omega) i36) (fun r52 hr53 => ?_)
        obtain ⟨i55, ⟨u56, u57, u58⟩⟩ := hr53
        have u59 := kp_t u43 u56
        have v60 : q_V r52.2 = q_V δ := (u57).trans v44
        have v61 := kr_t v45 u58
        have f62 := ti_b r52.1
        exact ok_some (show RI ad h.1 δ0 r52.2 ∧ (kp [(12, 0), (12, 36)] δ r52.2 ∧ q_V r52.2 = q_V δ ∧ kr ad [100, 119] δ r52.2) from ⟨i55, ⟨kp_w (by decide) u59, v60, kr_w (by decide) v61⟩⟩)
    · have c63 : r24.1.toInt ≠ (0 : Int) := o_ne h32
      refine ok_bind (k_X12_within L hN (x0 := x4) (x1 := (0 : Int32)) (x2 := (2 : Int32))  i9) (fun r64 hr65 => ?_)
      obtain ⟨i66, p67, p68, p69⟩ := hr65
      try rw [i66]
      have f70 := bo_l p67
      have f71 := ti_b r64.1
      have f72 := ti_b x4
      replace p68 : ((r64.1).toInt = 1 → (0 : Int) ≤ (x4).toInt ∧ (x4).toInt ≤ (2 : Int)) := p68
      replace p69 : ((r64.1).toInt = 0 → (x4).toInt < (0 : Int) ∨ (2 : Int) < (x4).toInt) := p69
      refine ok_ite (fun h73 => ?_) (fun h73 => ?_)
      · have c74 : r64.1.toInt = (0 : Int) := o_eq h73
        unfold J_X12_touches_45
        unfold J_X12_touches_46
        refine ok_bind (k_X12_may L hN (a0 := a0) (x1 := (0 : Int32)) (x2 := (2 : Int32)) (x3 := (2 : Int32)) k_a0 (show (2 : Int) ≠ 0 by first | with_reducible assumption | omega) (show 0 ≤ (2 : Int) by first | with_reducible assumption | omega) (show (2 : Int) ≤ 2 by first | with_reducible assumption | omega) i9) (fun r75 hr76 => ?_)
        obtain ⟨i77, ⟨u81, u82, u83⟩, p78, p79, p80⟩ := hr76
        have u84 := kp_t u15 u81
        have v85 : q_V r75.2 = q_V δ := (u82).trans v16
        have v86 := kr_t v17 u83
        have f87 := bo_l p78
        have f88 := ti_b r75.1
        replace p79 : ((r75.1).toInt = 1 → (0 : Int) ≠ 0) := p79
        have f89 := ti_b (q_I r7.2 12 0 a0)
        replace p80 : ((q_I r7.2 12 0 a0).toInt = 0 → (r75.1).toInt = 0 → (0 : Int) = 0) := p80
        refine ok_ite (fun h90 => ?_) (fun h90 => ?_)
        · have c91 : r75.1.toInt = (0 : Int) := o_eq h90
          unfold J_X12_touches_54
          exact ok_some (show RI ad h.1 δ0 r75.2 ∧ (kp [(12, 0), (12, 36)] δ r75.2 ∧ q_V r75.2 = q_V δ ∧ kr ad [100, 119] δ r75.2) from ⟨i77, ⟨kp_w (by decide) u84, v85, kr_w (by decide) v86⟩⟩)
        · have c92 : r75.1.toInt ≠ (0 : Int) := o_ne h90
          have f95 := ti_b x3
          refine ok_bind (k_X12_touched L hN (a0 := a0) (x1 := x1) (x2 := x2) (x3 := x3) (x4 := x4) k_a0 (show 0 ≤ (x1).toInt by first | with_reducible assumption | omega) (show (x1).toInt ≤ 3 by first | with_reducible assumption | omega) (show -1 ≤ (x3).toInt by first | with_reducible assumption | omega) (show (x3).toInt ≤ 65536 by first | with_reducible assumption | omega) i77) (fun r93 hr94 => ?_)
          obtain ⟨i96, ⟨u97, u98, u99⟩⟩ := hr94
          have u100 := kp_t u84 u97
          have v101 : q_V r93.2 = q_V δ := (u98).trans v85
          have v102 := kr_t v86 u99
          have f103 := ti_b r93.1
          exact ok_some (show RI ad h.1 δ0 r93.2 ∧ (kp [(12, 0), (12, 36)] δ r93.2 ∧ q_V r93.2 = q_V δ ∧ kr ad [100, 119] δ r93.2) from ⟨i96, ⟨kp_w (by decide) u100, v101, kr_w (by decide) v102⟩⟩)
      · have c104 : r64.1.toInt ≠ (0 : Int) := o_ne h73
        refine ok_bind (k_X12_mayAsk L hN (a0 := a0) (x1 := x2) (x2 := x3) k_a0 i9) (fun r105 hr106 => ?_)
        obtain ⟨i107, p108, p109⟩ := hr106
        try rw [i107]
        have f110 := bo_l p108
        have f111 := ti_b r105.1
        have f112 := ti_b x3
        refine ok_ite (fun h113 => ?_) (fun h113 => ?_)
        · have c114 : r105.1.toInt = (0 : Int) := o_eq h113
          unfold J_X12_touches_45
          unfold J_X12_touches_46
          refine ok_bind (k_X12_may L hN (a0 := a0) (x1 := (0 : Int32)) (x2 := (2 : Int32)) (x3 := (2 : Int32)) k_a0 (show (2 : Int) ≠ 0 by first | with_reducible assumption | omega) (show 0 ≤ (2 : Int) by first | with_reducible assumption | omega) (show (2 : Int) ≤ 2 by first | with_reducible assumption | omega) i9) (fun r115 hr116 => ?_)
          obtain ⟨i117, ⟨u121, u122, u123⟩, p118, p119, p120⟩ := hr116
          have u124 := kp_t u15 u121
          have v125 : q_V r115.2 = q_V δ := (u122).trans v16
          have v126 := kr_t v17 u123
          have f127 := bo_l p118
          have f128 := ti_b r115.1
          replace p119 : ((r115.1).toInt = 1 → (0 : Int) ≠ 0) := p119
          have f129 := ti_b (q_I r7.2 12 0 a0)
          replace p120 : ((q_I r7.2 12 0 a0).toInt = 0 → (r115.1).toInt = 0 → (0 : Int) = 0) := p120
          refine ok_ite (fun h130 => ?_) (fun h130 => ?_)
          · have c131 : r115.1.toInt = (0 : Int) := o_eq h130
            unfold J_X12_touches_54
            exact ok_some (show RI ad h.1 δ0 r115.2 ∧ (kp [(12, 0), (12, 36)] δ r115.2 ∧ q_V r115.2 = q_V δ ∧ kr ad [100, 119] δ r115.2) from ⟨i117, ⟨kp_w (by decide) u124, v125, kr_w (by decide) v126⟩⟩)
          · have c132 : r115.1.toInt ≠ (0 : Int) := o_ne h130
            refine ok_bind (k_X12_touched L hN (a0 := a0) (x1 := x1) (x2 := x2) (x3 := x3) (x4 := x4) k_a0 (show 0 ≤ (x1).toInt by first | with_reducible assumption | omega) (show (x1).toInt ≤ 3 by first | with_reducible assumption | omega) (show -1 ≤ (x3).toInt by first | with_reducible assumption | omega) (show (x3).toInt ≤ 65536 by first | with_reducible assumption | omega) i117) (fun r133 hr134 => ?_)
            obtain ⟨i135, ⟨u136, u137, u138⟩⟩ := hr134
            have u139 := kp_t u124 u136
            have v140 : q_V r133.2 = q_V δ := (u137).trans v125
            have v141 := kr_t v126 u138
            have f142 := ti_b r133.1
            exact ok_some (show RI ad h.1 δ0 r133.2 ∧ (kp [(12, 0), (12, 36)] δ r133.2 ∧ q_V r133.2 = q_V δ ∧ kr ad [100, 119] δ r133.2) from ⟨i135, ⟨kp_w (by decide) u139, v140, kr_w (by decide) v141⟩⟩)
        · have c143 : r105.1.toInt ≠ (0 : Int) := o_ne h113
          unfold J_X12_touches_46
          refine ok_bind (k_X12_may L hN (a0 := a0) (x1 := (1 : Int32)) (x2 := (2 : Int32)) (x3 := (2 : Int32)) k_a0 (show (2 : Int) ≠ 0 by first | with_reducible assumption | omega) (show 0 ≤ (2 : Int) by first | with_reducible assumption | omega) (show (2 : Int) ≤ 2 by first | with_reducible assumption | omega) i9) (fun r144 hr145 => ?_)
          obtain ⟨i146, ⟨u150, u151, u152⟩, p147, p148, p149⟩ := hr145
          have u153 := kp_t u15 u150
          have v154 : q_V r144.2 = q_V δ := (u151).trans v16
          have v155 := kr_t v17 u152
          have f156 := bo_l p147
          have f157 := ti_b r144.1
          replace p148 : ((r144.1).toInt = 1 → (1 : Int) ≠ 0) := p148
          have f158 := ti_b (q_I r7.2 12 0 a0)
          replace p149 : ((q_I r7.2 12 0 a0).toInt = 0 → (r144.1).toInt = 0 → (1 : Int) = 0) := p149
          refine ok_ite (fun h159 => ?_) (fun h159 => ?_)
          · have c160 : r144.1.toInt = (0 : Int) := o_eq h159
            unfold J_X12_touches_54
            exact ok_some (show RI ad h.1 δ0 r144.2 ∧ (kp [(12, 0), (12, 36)] δ r144.2 ∧ q_V r144.2 = q_V δ ∧ kr ad [100, 119] δ r144.2) from ⟨i146, ⟨kp_w (by decide) u153, v154, kr_w (by decide) v155⟩⟩)
          · have c161 : r144.1.toInt ≠ (0 : Int) := o_ne h159
            refine ok_bind (k_X12_touched L hN (a0 := a0) (x1 := x1) (x2 := x2) (x3 := x3) (x4 := x4) k_a0 (show 0 ≤ (x1).toInt by first | with_reducible assumption | omega) (show (x1).toInt ≤ 3 by first | with_reducible assumption | omega) (show -1 ≤ (x3).toInt by first | with_reducible assumption | omega) (show (x3).toInt ≤ 65536 by first | with_reducible assumption | omega) i146) (fun r162 hr163 => ?_)
            obtain ⟨i164, ⟨u165, u166, u167⟩⟩ := hr163
            have u168 := kp_t u153 u165
            have v169 : q_V r162.2 = q_V δ := (u166).trans v154
            have v170 := kr_t v155 u167
            have f171 := ti_b r162.1
            exact ok_some (show RI ad h.1 δ0 r162.2 ∧ (kp [(12, 0), (12, 36)] δ r162.2 ∧ q_V r162.2 = q_V δ ∧ kr ad [100, 119] δ r162.2) from ⟨i164, ⟨kp_w (by decide) u168, v169, kr_w (by decide) v170⟩⟩)
set_option maxHeartbeats 4000000 in
theorem kl_X12_cellsOf_63 {ad : List Nat} {h : hp} (L : Lay TLx ad h) {δ0 : dp} {N : Nat} (hN : 10000000 ≤ N) {T : Nat → Int32 → Int32 → Int32 → dp → Option (Int32 × dp)} {K : Int} (hT : ∀ (a0 : Nat) (x1 : Int32) (x2 : Int32) (x3 : Int32) (δ : dp), q_K h.1 a0 = 12 → 1 ≤ (x1).toInt → (x1).toInt ≤ 16 → 0 ≤ (x2).toInt → (x2).toInt ≤ (x3).toInt → (x3).toInt ≤ (x2).toInt + 2000 → (x3).toInt ≤ (q_I δ 12 36 a0).toInt → (q_I δ 12 36 a0).toInt + 2000 * LGf (x1).toInt ≤ 12000 → (x1).toInt < K → RI ad h.1 δ0 δ → ok (T a0 x1 x2 x3 δ) (fun r => RI ad h.1 δ0 r.2 ∧ (kp [(12, 36)] δ r.2 ∧ q_V r.2 = q_V δ ∧ kr ad [119] δ r.2) ∧ (q_I r.2 12 36 a0).toInt = (q_I δ 12 36 a0).toInt)) {a0 : Nat} {x1 : Int32} {x2 : Int32} {x3 : Int32} (k_a0 : q_K h.1 a0 = 12) : ∀ (n : Nat) (x4v : Int32) (x6v : Int32) (x7v : Int32) (δ : dp), RI ad h.1 δ0 δ → 2 ≤ (x1).toInt → (x1).toInt ≤ 16 → 0 ≤ (x2).toInt → (x2).toInt ≤ (x3).toInt → (x3).toInt ≤ (x2).toInt + 2000 → (x3).toInt ≤ (q_I δ 12 36 a0).toInt → (q_I δ 12 36 a0).toInt + 2000 * LGf (x1).toInt ≤ 12000 → (x1).toInt ≤ K → 1 ≤ (x4v).toInt → (x4v).toInt < (x1).toInt → LGf (x4v).toInt + 1 ≤ LGf (x1).toInt → (x2).toInt + 1 ≤ (x7v).toInt → (x7v).toInt ≤ (x3).toInt + 1 → (x3).toInt + 1 - (x7v).toInt < (n : Int) → ok (L_X12_cellsOf_63 N h.1 T a0 x1 x2 x3 n x4v x6v x7v δ) (fun r => RI ad h.1 δ0 r.2 ∧ (kp [(12, 36)] δ r.2 ∧ q_V r.2 = q_V δ ∧ kr ad [119] δ r.2) ∧ (q_I r.2 12 36 a0).toInt = (q_I δ 12 36 a0).toInt) := by
  intro n
  induction n with
  | zero =>
    intro x4v x6v x7v δ I j0 j1 j2 j3 j4 j5 j6 j7 j8 j9 j10 j11 j12 hm
    have f1 := lgb (x1).toInt
    have f2 := lgb (x4v).toInt
    have f3 := ti_b x1
    have f4 := ti_b x2
    have f5 := ti_b x3
    have f6 := cb_12_36 I k_a0
    have f7 := ti_b x4v
    have f8 := ti_b x7v
    exfalso; omega
  | succ n ih =>
    intro x4v x6v x7v δ I j0 j1 j2 j3 j4 j5 j6 j7 j8 j9 j10 j11 j12 hm
    unfold L_X12_cellsOf_63
    have f1 := lgb (x1).toInt
    have f2 := lgb (x4v).toInt
    have f3 := ti_b x1
    have f4 := ti_b x2
    have f5 := ti_b x3
    have f6 := cb_12_36 I k_a0
    have f7 := ti_b x4v
    have f8 := ti_b x7v
    first | (have q10 := te_subc (c := 1) (n := 1) rfl x3 (by omega) (by omega); obtain ⟨f11, f12, f13⟩ := q10) | (obtain ⟨q10, f11, f12, f13⟩ := ti_subc (c := 1) (n := 1) rfl x3)
    refine ok_ite (fun h14 => ?_) (fun h14 => ?_)
    · have c15 : (x3 - (1 : Int32)).toInt ≤ x7v.toInt := o_le h14
      exact ok_some (show RI ad h.1 δ0 δ ∧ (kp [(12, 36)] δ δ ∧ q_V δ = q_V δ ∧ kr ad [119] δ δ) ∧ (q_I δ 12 36 a0).toInt = (q_I δ 12 36 a0).toInt from ⟨I, ⟨kp_w (by decide) kp_r, rfl, kr_w (by decide) (kr_r (ad := ad))⟩, by first | with_reducible assumption | omega⟩)
    · have c16 : x7v.toInt < (x3 - (1 : Int32)).toInt := o_nle h14
      first | (have q18 := te_addc (c := 1) (n := 1) rfl x2 (by omega) (by omega); obtain ⟨f19, f20, f21⟩ := q18) | (obtain ⟨q18, f19, f20, f21⟩ := ti_addc (c := 1) (n := 1) rfl x2)
      refine ok_ite (fun h22 => ?_) (fun h22 => ?_)
      · have c23 : x7v.toInt ≤ (x2 + (1 : Int32)).toInt := o_le h22
        unfold J_X12_cellsOf_107
        obtain ⟨b24, o25, k26, n27, w28⟩ := gO_12_35 L k_a0
        obtain rfl := gS_12_35 L k_a0 o25
        refine ok_at o25 ?_
        have t29 := ti_tn x7v
        refine ok_gd (fun hc30 => ?_) ?_
        · rcases hc30 with hc30 | hc30
          · have c31 : x7v.toInt < (0 : Int) := o_lt hc30
            omega
          · omega
        refine ok_bind (k_X12_rooms L hN (a0 := a0) (x1 := x2) (x2 := x3) (x3 := x4v) (x4 := ((q_R δ (Ad ad 119) x7v.toNatClampNeg) >>> (x4v &&& 31))) k_a0 (show 0 ≤ (x2).toInt by first | with_reducible assumption | omega) (show (x2).toInt ≤ (x3).toInt by first | with_reducible assumption | omega) (show (x3).toInt ≤ (x2).toInt + 2000 by first | with_reducible assumption | omega) (show (x3).toInt ≤ (q_I δ 12 36 a0).toInt by first | with_reducible assumption | omega) (show (q_I δ 12 36 a0).toInt ≤ 12000 by first | with_reducible assumption | omega) I) (fun r32 hr33 => ?_)
        obtain ⟨i34, ⟨u38, u39, u40⟩, p35, p36, p37⟩ := hr33
        have u41 := kp_t kp_r u38
        have v42 : q_V r32.2 = q_V δ := (u39).trans rfl
        have v43 := kr_t (kr_r (ad := ad)) u40
        have f44 := ti_b r32.1
        have f45 := cb_12_36 i34 k_a0
        refine ok_bind (hT a0 x4v r32.1 (q_I r32.2 12 36 a0) r32.2 k_a0 (show 1 ≤ (x4v).toInt by first | with_reducible assumption | omega) (show (x4v).toInt ≤ 16 by first | with_reducible assumption | omega) (show 0 ≤ (r32.1).toInt by first | with_reducible assumption | omega) (show (r32.1).toInt ≤ ((q_I r32.2 12 36 a0)).toInt by first | with_reducible assumption | omega) (show ((q_I r32.2 12 36 a0)).toInt ≤ (r32.1).toInt + 2000 by first | with_reducible assumption | omega) (show ((q_I r32.2 12 36 a0)).toInt ≤ (q_I r32.2 12 36 a0).toInt by first | with_reducible assumption | omega) (show (q_I r32.2 12 36 a0).toInt + 2000 * LGf (x4v).toInt ≤ 12000 by first | with_reducible assumption | omega) (show (x4v).toInt < _ by first | with_reducible assumption | omega) i34) (fun r46 hr47 => ?_)
        obtain ⟨i48, ⟨u50, u51, u52⟩, p49⟩ := hr47
        have u53 := kp_t u41 u50
        have v54 : q_V r46.2 = q_V δ := (u51).trans v42
        have v55 := kr_t v43 u52
        have f56 := cb_12_36 i48 k_a0
        have f57 := ti_b r46.1
        have f60 := ti_b x6v
        refine ok_biv (fun vx58 e59 => ?_)
        first | (have q61 := te_add x6v r46.1 (by omega) (by omega); rw [← e59] at q61; obtain ⟨f62, f63, f64⟩ := q61) | (obtain ⟨q61, f62, f63, f64⟩ : ∃ q : Int, vx58.toInt = x6v.toInt + r46.1.toInt + 4294967296 * q ∧ -2147483648 ≤ vx58.toInt ∧ vx58.toInt ≤ 2147483647 := by rw [e59]; exact ti_add x6v r46.1)
        refine ok_bdv (fun d65 e66 => ?_)
        have i67 : RI ad h.1 δ0 d65 := by rw [e66]; exact cs_12_36 L i48 k_a0 (show 0 ≤ r32.1.toInt by omega) (show r32.1.toInt ≤ 14000 by omega)
        have u68 := kp_I u53 e66
        have v69 : q_V d65 = q_V δ := ((show q_V d65 = q_V r46.2 by rw [e66]; rfl)).trans v54
        have v70 := kr_N v55 (show q_R d65 = q_R r46.2 by rw [e66]; rfl)
        unfold J_X12_cellsOf_150
        refine ok_biv (fun vx71 e72 => ?_)
        first | (have q73 := te_addc (c := 1) (n := 1) rfl x7v (by omega) (by omega); rw [← e72] at q73; obtain ⟨f74, f75, f76⟩ := q73) | (obtain ⟨q73, f74, f75, f76⟩ : ∃ q : Int, vx71.toInt = x7v.toInt + (1 : Int) + 4294967296 * q ∧ -2147483648 ≤ vx71.toInt ∧ vx71.toInt ≤ 2147483647 := by rw [e72]; exact ti_addc (c := 1) (n := 1) rfl x7v)
        have f77 := cb_12_36 i67 k_a0
        have f78 : (q_I d65 12 36 a0).toInt = r32.1.toInt := congrArg Int32.toInt (show q_I d65 12 36 a0 = r32.1 by rw [e66]; exact rI_s)
        refine ok_mono (ih x4v vx58 vx71 d65 i67 (show 2 ≤ (x1).toInt by first | with_reducible assumption | omega) (show (x1).toInt ≤ 16 by first | with_reducible assumption | omega) (show 0 ≤ (x2).toInt by first | with_reducible assumption | omega) (show (x2).toInt ≤ (x3).toInt by first | with_reducible assumption | omega) (show (x3).toInt ≤ (x2).toInt + 2000 by first | with_reducible assumption | omega) (show (x3).toInt ≤ (q_I d65 12 36 a0).toInt by first | with_reducible assumption | omega) (show (q_I d65 12 36 a0).toInt + 2000 * LGf (x1).toInt ≤ 12000 by first | with_reducible assumption | omega) (show (x1).toInt ≤ K by first | with_reducible assumption | omega) (show 1 ≤ (x4v).toInt by first | with_reducible assumption | omega) (show (x4v).toInt < (x1).toInt by first | with_reducible assumption | omega) (show LGf (x4v).toInt + 1 ≤ LGf (x1).toInt by first | with_reducible assumption | omega) (show (x2).toInt + 1 ≤ (vx71).toInt by first | with_reducible assumption | omega) (show (vx71).toInt ≤ (x3).toInt + 1 by first | with_reducible assumption | omega) (show (x3).toInt + 1 - (vx71).toInt < _ by omega)) (fun r79 hr80 => ?_)
        obtain ⟨i81, ⟨u83, u84, u85⟩, p82⟩ := hr80
        have u86 := kp_t u68 u83
        have v87 : q_V r79.2 = q_V δ := (u84).trans v69
        have v88 := kr_t v70 u85
        have f89 := cb_12_36 i81 k_a0
        have f90 := ti_b r79.1
        exact ⟨by first | with_reducible assumption | assumption, ⟨kp_w (by decide) u86, v87, kr_w (by decide) v88⟩, by first | with_reducible assumption | omega⟩
      · have c91 : (x2 + (1 : Int32)).toInt < x7v.toInt := o_nle h22
        obtain ⟨b92, o93, k94, n95, w96⟩ := gO_12_35 L k_a0
        obtain rfl := gS_12_35 L k_a0 o93
        refine ok_at o93 ?_
        have t97 := ti_tn x7v
        refine ok_gd (fun hc98 => ?_) ?_
        · rcases hc98 with hc98 | hc98
          · have c99 : x7v.toInt < (0 : Int) := o_lt hc98
            omega
          · omega
        refine ok_at o93 ?_
        first | (have q101 := te_subc (c := 1) (n := 1) rfl x7v (by omega) (by omega); obtain ⟨f102, f103, f104⟩ := q101) | (obtain ⟨q101, f102, f103, f104⟩ := ti_subc (c := 1) (n := 1) rfl x7v)
        have t105 := ti_tn (x7v - (1 : Int32))
        refine ok_gd (fun hc106 => ?_) ?_
        · rcases hc106 with hc106 | hc106
          · have c107 : (x7v - (1 : Int32)).toInt < (0 : Int) := o_lt hc106
            omega
          · omega
        have f108 := ti_b ((q_R δ (Ad ad 119) x7v.toNatClampNeg) >>> (x4v &&& 31))
        have f109 := ti_b ((q_R δ (Ad ad 119) (x7v - (1 : Int32)).toNatClampNeg) >>> (x4v &&& 31))
        refine ok_ite (fun h110 => ?_) (fun h110 => ?_)
        · have c111 : ((q_R δ (Ad ad 119) x7v.toNatClampNeg) >>> (x4v &&& 31)).toInt = ((q_R δ (Ad ad 119) (x7v - (1 : Int32)).toNatClampNeg) >>> (x4v &&& 31)).toInt := o_eq h110
          unfold J_X12_cellsOf_150
          refine ok_biv (fun vx112 e113 => ?_)
          first | (have q114 := te_addc (c := 1) (n := 1) rfl x7v (by omega) (by omega); rw [← e113] at q114; obtain ⟨f115, f116, f117⟩ := q114) | (obtain ⟨q114, f115, f116, f117⟩ : ∃ q : Int, vx112.toInt = x7v.toInt + (1 : Int) + 4294967296 * q ∧ -2147483648 ≤ vx112.toInt ∧ vx112.toInt ≤ 2147483647 := by rw [e113]; exact ti_addc (c := 1) (n := 1) rfl x7v)
          refine ok_mono (ih x4v x6v vx112 δ I (show 2 ≤ (x1).toInt by first | with_reducible assumption | omega) (show (x1).toInt ≤ 16 by first | with_reducible assumption | omega) (show 0 ≤ (x2).toInt by first | with_reducible assumption | omega) (show (x2).toInt ≤ (x3).toInt by first | with_reducible assumption | omega) (show (x3).toInt ≤ (x2).toInt + 2000 by first | with_reducible assumption | omega) (show (x3).toInt ≤ (q_I δ 12 36 a0).toInt by first | with_reducible assumption | omega) (show (q_I δ 12 36 a0).toInt + 2000 * LGf (x1).toInt ≤ 12000 by first | with_reducible assumption | omega) (show (x1).toInt ≤ K by first | with_reducible assumption | omega) (show 1 ≤ (x4v).toInt by first | with_reducible assumption | omega) (show (x4v).toInt < (x1).toInt by first | with_reducible assumption | omega) (show LGf (x4v).toInt + 1 ≤ LGf (x1).toInt by first | with_reducible assumption | omega) (show (x2).toInt + 1 ≤ (vx112).toInt by first | with_reducible assumption | omega) (show (vx112).toInt ≤ (x3).toInt + 1 by first | with_reducible assumption | omega) (show (x3).toInt + 1 - (vx112).toInt < _ by omega)) (fun r118 hr119 => ?_)
          obtain ⟨i120, ⟨u122, u123, u124⟩, p121⟩ := hr119
          have u125 := kp_t kp_r u122
          have v126 : q_V r118.2 = q_V δ := (u123).trans rfl
          have v127 := kr_t (kr_r (ad := ad)) u124
          have f128 := cb_12_36 i120 k_a0
          have f129 := ti_b r118.1
          exact ⟨by first | with_reducible assumption | assumption, ⟨kp_w (by decide) u125, v126, kr_w (by decide) v127⟩, by first | with_reducible assumption | omega⟩
        · have c130 : ((q_R δ (Ad ad 119) x7v.toNatClampNeg) >>> (x4v &&& 31)).toInt ≠ ((q_R δ (Ad ad 119) (x7v - (1 : Int32)).toNatClampNeg) >>> (x4v &&& 31)).toInt := o_ne h110
          unfold J_X12_cellsOf_107
          refine ok_at o93 ?_
          refine ok_gd (fun hc131 => ?_) ?_
          · rcases hc131 with hc131 | hc131
            · have c132 : x7v.toInt < (0 : Int) := o_lt hc131
              omega
            · omega
          refine ok_bind (k_X12_rooms L hN (a0 := a0) (x1 := x2) (x2 := x3) (x3 := x4v) (x4 := ((q_R δ (Ad ad 119) x7v.toNatClampNeg) >>> (x4v &&& 31))) k_a0 (show 0 ≤ (x2).toInt by first | with_reducible assumption | omega) (show (x2).toInt ≤ (x3).toInt by first | with_reducible assumption | omega) (show (x3).toInt ≤ (x2).toInt + 2000 by first | with_reducible assumption | omega) (show (x3).toInt ≤ (q_I δ 12 36 a0).toInt by first | with_reducible assumption | omega) (show (q_I δ 12 36 a0).toInt ≤ 12000 by first | with_reducible assumption | omega) I) (fun r133 hr134 => ?_)
          obtain ⟨i135, ⟨u139, u140, u141⟩, p136, p137, p138⟩ := hr134
          have u142 := kp_t kp_r u139
          have v143 : q_V r133.2 = q_V δ := (u140).trans rfl
          have v144 := kr_t (kr_r (ad := ad)) u141
          have f145 := ti_b r133.1
          have f146 := cb_12_36 i135 k_a0
          refine ok_bind (hT a0 x4v r133.1 (q_I r133.2 12 36 a0) r133.2 k_a0 (show 1 ≤ (x4v).toInt by first | with_reducible assumption | omega) (show (x4v).toInt ≤ 16 by first | with_reducible assumption | omega) (show 0 ≤ (r133.1).toInt by first | with_reducible assumption | omega) (show (r133.1).toInt ≤ ((q_I r133.2 12 36 a0)).toInt by first | with_reducible assumption | omega) (show ((q_I r133.2 12 36 a0)).toInt ≤ (r133.1).toInt + 2000 by first | with_reducible assumption | omega) (show ((q_I r133.2 12 36 a0)).toInt ≤ (q_I r133.2 12 36 a0).toInt by first | with_reducible assumption | omega) (show (q_I r133.2 12 36 a0).toInt + 2000 * LGf (x4v).toInt ≤ 12000 by first | with_reducible assumption | omega) (show (x4v).toInt < _ by first | with_reducible assumption | omega) i135) (fun r147 hr148 => ?_)
          obtain ⟨i149, ⟨u151, u152, u153⟩, p150⟩ := hr148
          have u154 := kp_t u142 u151
          have v155 : q_V r147.2 = q_V δ := (u152).trans v143
          have v156 := kr_t v144 u153
          have f157 := cb_12_36 i149 k_a0
          have f158 := ti_b r147.1
          have f161 := ti_b x6v
          refine ok_biv (fun vx159 e160 => ?_)
          first | (have q162 := te_add x6v r147.1 (by omega) (by omega); rw [← e160] at q162; obtain ⟨f163, f164, f165⟩ := q162) | (obtain ⟨q162, f163, f164, f165⟩ : ∃ q : Int, vx159.toInt = x6v.toInt + r147.1.toInt + 4294967296 * q ∧ -2147483648 ≤ vx159.toInt ∧ vx159.toInt ≤ 2147483647 := by rw [e160]; exact ti_add x6v r147.1)
          refine ok_bdv (fun d166 e167 => ?_)
          have i168 : RI ad h.1 δ0 d166 := by rw [e167]; exact cs_12_36 L i149 k_a0 (show 0 ≤ r133.1.toInt by omega) (show r133.1.toInt ≤ 14000 by omega)
          have u169 := kp_I u154 e167
          have v170 : q_V d166 = q_V δ := ((show q_V d166 = q_V r147.2 by rw [e167]; rfl)).trans v155
          have v171 := kr_N v156 (show q_R d166 = q_R r147.2 by rw [e167]; rfl)
          unfold J_X12_cellsOf_150
          refine ok_biv (fun vx172 e173 => ?_)
          first | (have q174 := te_addc (c := 1) (n := 1) rfl x7v (by omega) (by omega); rw [← e173] at q174; obtain ⟨f175, f176, f177⟩ := q174) | (obtain ⟨q174, f175, f176, f177⟩ : ∃ q : Int, vx172.toInt = x7v.toInt + (1 : Int) + 4294967296 * q ∧ -2147483648 ≤ vx172.toInt ∧ vx172.toInt ≤ 2147483647 := by rw [e173]; exact ti_addc (c := 1) (n := 1) rfl x7v)
          have f178 := cb_12_36 i168 k_a0
          have f179 : (q_I d166 12 36 a0).toInt = r133.1.toInt := congrArg Int32.toInt (show q_I d166 12 36 a0 = r133.1 by rw [e167]; exact rI_s)
          refine ok_mono (ih x4v vx159 vx172 d166 i168 (show 2 ≤ (x1).toInt by first | with_reducible assumption | omega) (show (x1).toInt ≤ 16 by first | with_reducible assumption | omega) (show 0 ≤ (x2).toInt by first | with_reducible assumption | omega) (show (x2).toInt ≤ (x3).toInt by first | with_reducible assumption | omega) (show (x3).toInt ≤ (x2).toInt + 2000 by first | with_reducible assumption | omega) (show (x3).toInt ≤ (q_I d166 12 36 a0).toInt by first | with_reducible assumption | omega) (show (q_I d166 12 36 a0).toInt + 2000 * LGf (x1).toInt ≤ 12000 by first | with_reducible assumption | omega) (show (x1).toInt ≤ K by first | with_reducible assumption | omega) (show 1 ≤ (x4v).toInt by first | with_reducible assumption | omega) (show (x4v).toInt < (x1).toInt by first | with_reducible assumption | omega) (show LGf (x4v).toInt + 1 ≤ LGf (x1).toInt by first | with_reducible assumption | omega) (show (x2).toInt + 1 ≤ (vx172).toInt by first | with_reducible assumption | omega) (show (vx172).toInt ≤ (x3).toInt + 1 by first | with_reducible assumption | omega) (show (x3).toInt + 1 - (vx172).toInt < _ by omega)) (fun r180 hr181 => ?_)
          obtain ⟨i182, ⟨u184, u185, u186⟩, p183⟩ := hr181
          have u187 := kp_t u169 u184
          have v188 : q_V r180.2 = q_V δ := (u185).trans v170
          have v189 := kr_t v171 u186
          have f190 := cb_12_36 i182 k_a0
          have f191 := ti_b r180.1
          exact ⟨by first | with_reducible assumption | assumption, ⟨kp_w (by decide) u187, v188, kr_w (by decide) v189⟩, by first | with_reducible assumption | omega⟩
set_option maxHeartbeats 4000000 in
theorem ke_X12_cellsOf {ad : List Nat} {h : hp} (L : Lay TLx ad h) {δ0 : dp} {N : Nat} (hN : 10000000 ≤ N) : ∀ (k : Nat), ∀ (a0 : Nat) (x1 : Int32) (x2 : Int32) (x3 : Int32) (δ : dp), q_K h.1 a0 = 12 → 1 ≤ (x1).toInt → (x1).toInt ≤ 16 → 0 ≤ (x2).toInt → (x2).toInt ≤ (x3).toInt → (x3).toInt ≤ (x2).toInt + 2000 → (x3).toInt ≤ (q_I δ 12 36 a0).toInt → (q_I δ 12 36 a0).toInt + 2000 * LGf (x1).toInt ≤ 12000 → (x1).toInt < (k : Int) → RI ad h.1 δ0 δ → ok (E_X12_cellsOf N h.1 k a0 x1 x2 x3 δ) (fun r => RI ad h.1 δ0 r.2 ∧ (kp [(12, 36)] δ r.2 ∧ q_V r.2 = q_V δ ∧ kr ad [119] δ r.2) ∧ (q_I r.2 12 36 a0).toInt = (q_I δ 12 36 a0).toInt) := by
  intro k
  induction k with
  | zero =>
    intro a0 x1 x2 x3 δ k_a0 z0 z1 z2 z3 z4 z5 z6 hd I
    exfalso; omega
  | succ k ih =>
    intro a0 x1 x2 x3 δ k_a0 z0 z1 z2 z3 z4 z5 z6 hd I
    unfold E_X12_cellsOf B_X12_cellsOf
    have f1 := lgb (x1).toInt
    have f2 := ti_b x1
    have f3 := ti_b x2
    have f4 := ti_b x3
    have f5 := cb_12_36 I k_a0
    refine ok_ite (fun h6 => ?_) (fun h6 => ?_)
    · have c7 : x2.toInt = x3.toInt := o_eq h6
      exact ok_some (show RI ad h.1 δ0 δ ∧ (kp [(12, 36)] δ δ ∧ q_V δ = q_V δ ∧ kr ad [119] δ δ) ∧ (q_I δ 12 36 a0).toInt = (q_I δ 12 36 a0).toInt from ⟨I, ⟨kp_w (by decide) kp_r, rfl, kr_w (by decide) (kr_r (ad := ad))⟩, by first | with_reducible assumption | omega⟩)
    · have c8 : x2.toInt ≠ x3.toInt := o_ne h6
      have f9 := cb_12_11 I k_a0
      refine ok_ite (fun h10 => ?_) (fun h10 => ?_)
      · have c11 : (q_I δ 12 11 a0).toInt < x1.toInt := o_lt h10
        refine ok_bind (k_X12_lowerBits L hN (a0 := a0) (x1 := x1) k_a0 (show 2 ≤ (x1).toInt by first | with_reducible assumption | omega) (show (x1).toInt ≤ 16 by first | with_reducible assumption | omega) I) (fun r12 hr13 => ?_)
        obtain ⟨i14, p15, p16, p17, p18, p19, p20⟩ := hr13
        try rw [i14]
        have f21 := ti_b r12.1
        have f22 := lgb (r12.1).toInt
        have f23 := lgb ((x1 - r12.1)).toInt
        first | (have q25 := te_sub x1 r12.1 (by omega) (by omega); obtain ⟨f26, f27, f28⟩ := q25) | (obtain ⟨q25, f26, f27, f28⟩ := ti_sub x1 r12.1)
        refine ok_bind (k_X12_lists L hN (a0 := a0) (x1 := x2) (x2 := x3) (x3 := r12.1) k_a0 (show 0 ≤ (x2).toInt by first | with_reducible assumption | omega) (show (x2).toInt ≤ (x3).toInt by first | with_reducible assumption | omega) (show (x3).toInt ≤ (x2).toInt + 2000 by first | with_reducible assumption | omega) (show (x3).toInt ≤ (q_I δ 12 36 a0).toInt by first | with_reducible assumption | omega) (show (q_I δ 12 36 a0).toInt ≤ 12000 by first | with_reducible assumption | omega) I) (fun r29 hr30 => ?_)
        obtain ⟨i31, ⟨u35, u36, u37⟩, p32, p33, p34⟩ := hr30
        have u38 := kp_t kp_r u35
        have v39 : q_V r29.2 = q_V δ := (u36).trans rfl
        have v40 := kr_t (kr_r (ad := ad)) u37
        have f41 := ti_b r29.1
        have f42 := cb_12_36 i31 k_a0
        refine ok_bind (ih a0 (x1 - r12.1) r29.1 (q_I r29.2 12 36 a0) r29.2 k_a0 (show 1 ≤ ((x1 - r12.1)).toInt by first | with_reducible assumption | omega) (show ((x1 - r12.1)).toInt ≤ 16 by first | with_reducible assumption | omega) (show 0 ≤ (r29.1).toInt by first | with_reducible assumption | omega) (show (r29.1).toInt ≤ ((q_I r29.2 12 36 a0)).toInt by first | with_reducible assumption | omega) (show ((q_I r29.2 12 36 a0)).toInt ≤ (r29.1).toInt + 2000 by first | with_reducible assumption | omega) (show ((q_I r29.2 12 36 a0)).toInt ≤ (q_I r29.2 12 36 a0).toInt by first | with_reducible assumption | omega) (show (q_I r29.2 12 36 a0).toInt + 2000 * LGf ((x1 - r12.1)).toInt ≤ 12000 by first | with_reducible assumption | omega) (show ((x1 - r12.1)).toInt < _ by first | with_reducible assumption | omega) i31) (fun r43 hr44 => ?_)
        obtain ⟨i45, ⟨u47, u48, u49⟩, p46⟩ := hr44
        have u50 := kp_t u38 u47
        have v51 : q_V r43.2 = q_V δ := (u48).trans v39
        have v52 := kr_t v40 u49
        have f53 := cb_12_36 i45 k_a0
        have f54 := ti_b r43.1
        refine ok_biv (fun vx55 e56 => ?_)
        first | (have q57 := te_cadd (c := 2) (n := 2) rfl r43.1 (by omega) (by omega); rw [← e56] at q57; obtain ⟨f58, f59, f60⟩ := q57) | (obtain ⟨q57, f58, f59, f60⟩ : ∃ q : Int, vx55.toInt = (2 : Int) + r43.1.toInt + 4294967296 * q ∧ -2147483648 ≤ vx55.toInt ∧ vx55.toInt ≤ 2147483647 := by rw [e56]; exact ti_cadd (c := 2) (n := 2) rfl r43.1)
        refine ok_bdv (fun d61 e62 => ?_)
        have i63 : RI ad h.1 δ0 d61 := by rw [e62]; exact cs_12_36 L i45 k_a0 (show 0 ≤ r29.1.toInt by omega) (show r29.1.toInt ≤ 14000 by omega)
        have u64 := kp_I u50 e62
        have v65 : q_V d61 = q_V δ := ((show q_V d61 = q_V r43.2 by rw [e62]; rfl)).trans v51
        have v66 := kr_N v52 (show q_R d61 = q_R r43.2 by rw [e62]; rfl)
        refine ok_biv (fun vx67 e68 => ?_)
        first | (have q69 := te_addc (c := 1) (n := 1) rfl x2 (by omega) (by omega); rw [← e68] at q69; obtain ⟨f70, f71, f72⟩ := q69) | (obtain ⟨q69, f70, f71, f72⟩ : ∃ q : Int, vx67.toInt = x2.toInt + (1 : Int) + 4294967296 * q ∧ -2147483648 ≤ vx67.toInt ∧ vx67.toInt ≤ 2147483647 := by rw [e68]; exact ti_addc (c := 1) (n := 1) rfl x2)
        have f73 := cb_12_36 i63 k_a0
        have f74 : (q_I d61 12 36 a0).toInt = r29.1.toInt := congrArg Int32.toInt (show q_I d61 12 36 a0 = r29.1 by rw [e62]; exact rI_s)
        refine ok_mono (kl_X12_cellsOf_63 L hN   ih k_a0 _ r12.1 vx55 vx67 d61 i63 (show 2 ≤ (x1).toInt by first | with_reducible assumption | omega) (show (x1).toInt ≤ 16 by first | with_reducible assumption | omega) (show 0 ≤ (x2).toInt by first | with_reducible assumption | omega) (show (x2).toInt ≤ (x3).toInt by first | with_reducible assumption | omega) (show (x3).toInt ≤ (x2).toInt + 2000 by first | with_reducible assumption | omega) (show (x3).toInt ≤ (q_I d61 12 36 a0).toInt by first | with_reducible assumption | omega) (show (q_I d61 12 36 a0).toInt + 2000 * LGf (x1).toInt ≤ 12000 by first | with_reducible assumption | omega) (show (x1).toInt ≤ (k : Int) by first | with_reducible assumption | omega) (show 1 ≤ (r12.1).toInt by first | with_reducible assumption | omega) (show (r12.1).toInt < (x1).toInt by first | with_reducible assumption | omega) (show LGf (r12.1).toInt + 1 ≤ LGf (x1).toInt by first | with_reducible assumption | omega) (show (x2).toInt + 1 ≤ (vx67).toInt by first | with_reducible assumption | omega) (show (vx67).toInt ≤ (x3).toInt + 1 by first | with_reducible assumption | omega) (show (x3).toInt + 1 - (vx67).toInt < _ by omega)) (fun r75 hr76 => ?_)
        obtain ⟨i77, ⟨u79, u80, u81⟩, p78⟩ := hr76
        have u82 := kp_t u64 u79
        have v83 : q_V r75.2 = q_V δ := (u80).trans v65
        have v84 := kr_t v66 u81
        have f85 := cb_12_36 i77 k_a0
        have f86 := ti_b r75.1
        exact ⟨by first | with_reducible assumption | assumption, ⟨kp_w (by decide) u82, v83, kr_w (by decide) v84⟩, by first | with_reducible assumption | omega⟩
      · have c87 : x1.toInt ≤ (q_I δ 12 11 a0).toInt := o_nlt h10
        exact ok_some (show RI ad h.1 δ0 δ ∧ (kp [(12, 36)] δ δ ∧ q_V δ = q_V δ ∧ kr ad [119] δ δ) ∧ (q_I δ 12 36 a0).toInt = (q_I δ 12 36 a0).toInt from ⟨I, ⟨kp_w (by decide) kp_r, rfl, kr_w (by decide) (kr_r (ad := ad))⟩, by first | with_reducible assumption | omega⟩)
set_option maxHeartbeats 4000000 in
theorem k_X12_cellsOf {ad : List Nat} {h : hp} (L : Lay TLx ad h) {δ0 : dp} {N : Nat} (hN : 10000000 ≤ N) {a0 : Nat} {x1 : Int32} {x2 : Int32} {x3 : Int32} (k_a0 : q_K h.1 a0 = 12) {δ : dp} (z0 : 1 ≤ (x1).toInt) (z1 : (x1).toInt ≤ 16) (z2 : 0 ≤ (x2).toInt) (z3 : (x2).toInt ≤ (x3).toInt) (z4 : (x3).toInt ≤ (x2).toInt + 2000) (z5 : (x3).toInt ≤ (q_I δ 12 36 a0).toInt) (z6 : (q_I δ 12 36 a0).toInt + 2000 * LGf (x1).toInt ≤ 12000) (hd : (x1).toInt < 20) (I : RI ad h.1 δ0 δ) : ok (D_X12_cellsOf N h.1 a0 x1 x2 x3 δ) (fun r => RI ad h.1 δ0 r.2 ∧ (kp [(12, 36)] δ r.2 ∧ q_V r.2 = q_V δ ∧ kr ad [119] δ r.2) ∧ (q_I r.2 12 36 a0).toInt = (q_I δ 12 36 a0).toInt) := ke_X12_cellsOf L hN 20 a0 x1 x2 x3 δ k_a0 z0 z1 z2 z3 z4 z5 z6 hd I
set_option maxHeartbeats 4000000 in
theorem k_X12_size {ad : List Nat} {h : hp} (L : Lay TLx ad h) {δ0 : dp} {N : Nat} (hN : 10000000 ≤ N) {a0 : Nat} {x1 : Int32} {x2 : Int32} (k_a0 : q_K h.1 a0 = 12) {δ : dp} (I : RI ad h.1 δ0 δ) : ok (D_X12_size N h.1 a0 x1 x2 δ) (fun r => RI ad h.1 δ0 r.2 ∧ (kp [(12, 0), (12, 36)] δ r.2 ∧ q_V r.2 = q_V δ ∧ kr ad [100, 119] δ r.2)) := by
  unfold D_X12_size
  refine ok_bdv (fun d1 e2 => ?_)
  have i3 : RI ad h.1 δ0 d1 := by rw [e2]; exact cs_12_0 L I
  have u4 := kp_I kp_r e2
  have v5 : q_V d1 = q_V δ := ((show q_V d1 = q_V δ by rw [e2]; rfl)).trans rfl
  have v6 := kr_N (kr_r (ad := ad)) (show q_R d1 = q_R δ by rw [e2]; rfl)
  refine ok_bind (k_X12_isHouse L hN (a0 := a0) (x1 := x1) (x2 := (1 : Int32)) k_a0 (show (1 : Int) ≠ 0 by first | with_reducible assumption | omega) i3) (fun r7 hr8 => ?_)
  obtain ⟨i9, ⟨u12, u13, u14⟩, p10, p11⟩ := hr8
  have u15 := kp_t u4 u12
  have v16 : q_V r7.2 = q_V δ := (u13).trans v5
  have v17 := kr_t v6 u14
  have f18 := bo_l p10
  have f19 := ti_b r7.1
  have f20 := ti_b x1
  refine ok_ite (fun h21 => ?_) (fun h21 => ?_)
  · have c22 : r7.1.toInt = (0 : Int) := o_eq h21
    unfold J_X12_size_29
    exact ok_some (show RI ad h.1 δ0 r7.2 ∧ (kp [(12, 0), (12, 36)] δ r7.2 ∧ q_V r7.2 = q_V δ ∧ kr ad [100, 119] δ r7.2) from ⟨i9, ⟨kp_w (by decide) u15, v16, kr_w (by decide) v17⟩⟩)
  · have c23 : r7.1.toInt ≠ (0 : Int) := o_ne h21
    refine ok_bind (k_X12_within L hN (x0 := x2) (x1 := (0 : Int32)) (x2 := (2 : Int32))  i9) (fun r24 hr25 => ?_)
    obtain ⟨i26, p27, p28, p29⟩ := hr25
    try rw [i26]
    have f30 := bo_l p27
    have f31 := ti_b r24.1
    have f32 := ti_b x2
    replace p28 : ((r24.1).toInt = 1 → (0 : Int) ≤ (x2).toInt ∧ (x2).toInt ≤ (2 : Int)) := p28
    replace p29 : ((r24.1).toInt = 0 → (x2).toInt < (0 : Int) ∨ (2 : Int) < (x2).toInt) := p29
    refine ok_bind (k_X12_may L hN (a0 := a0) (x1 := r24.1) (x2 := (2 : Int32)) (x3 := (2 : Int32)) k_a0 (show (2 : Int) ≠ 0 by first | with_reducible assumption | omega) (show 0 ≤ (2 : Int) by first | with_reducible assumption | omega) (show (2 : Int) ≤ 2 by first | with_reducible assumption | omega) i9) (fun r33 hr34 => ?_)
    obtain ⟨i35, ⟨u39, u40, u41⟩, p36, p37, p38⟩ := hr34
    have u42 := kp_t u15 u39
    have v43 : q_V r33.2 = q_V δ := (u40).trans v16
    have v44 := kr_t v17 u41
    have f45 := bo_l p36
    have f46 := ti_b r33.1
    have f47 := ti_b (q_I r7.2 12 0 a0)
    refine ok_ite (fun h48 => ?_) (fun h48 => ?_)
    · have c49 : r33.1.toInt = (0 : Int) := o_eq h48
      unfold J_X12_size_29
      exact ok_some (show RI ad h.1 δ0 r33.2 ∧ (kp [(12, 0), (12, 36)] δ r33.2 ∧ q_V r33.2 = q_V δ ∧ kr ad [100, 119] δ r33.2) from ⟨i35, ⟨kp_w (by decide) u42, v43, kr_w (by decide) v44⟩⟩)
    · have c50 : r33.1.toInt ≠ (0 : Int) := o_ne h48
      refine ok_bind (k_X12_lays L hN (a0 := a0) (x1 := x1) k_a0 (show 0 ≤ (x1).toInt by first | with_reducible assumption | omega) (show (x1).toInt ≤ 3 by first | with_reducible assumption | omega) i35) (fun r51 hr52 => ?_)
      obtain ⟨i53, ⟨u55, u56, u57⟩, p54⟩ := hr52
      have u58 := kp_t u42 u55
      have v59 : q_V r51 = q_V δ := (u56).trans v43
      have v60 := kr_t v44 u57
      have f61 := cb_12_36 i53 k_a0
      refine ok_ite (fun h62 => ?_) (fun h62 => ?_)
      · have c63 : x2.toInt = (0 : Int) := o_eq h62
        have f66 : (q_I r51 12 10 a0).toInt = (q_I δ 12 10 a0).toInt := ((show (q_I r51 12 10 a0).toInt = (q_I r33.2 12 10 a0).toInt from congrArg Int32.toInt (u55 12 10 a0 (by decide))).trans ((show (q_I r33.2 12 10 a0).toInt = (q_I r7.2 12 10 a0).toInt from congrArg Int32.toInt (u39 12 10 a0 (by decide))).trans ((show (q_I r7.2 12 10 a0).toInt = (q_I d1 12 10 a0).toInt from congrArg Int32.toInt (u12 12 10 a0 (by decide))).trans (show (q_I d1 12 10 a0).toInt = (q_I δ 12 10 a0).toInt from congrArg Int32.toInt (by rw [e2]; exact rI_o (by decide))))))
        have f67 := cb_12_10 I k_a0
        have f68 := lgb ((q_I r51 12 10 a0)).toInt
        refine ok_bind (k_X12_cellsOf L hN (a0 := a0) (x1 := (q_I r51 12 10 a0)) (x2 := (0 : Int32)) (x3 := (q_I r51 12 36 a0)) k_a0 (show 1 ≤ ((q_I r51 12 10 a0)).toInt by first | with_reducible assumption | omega) (show ((q_I r51 12 10 a0)).toInt ≤ 16 by first | with_reducible assumption | omega) (show 0 ≤ (0 : Int) by first | with_reducible assumption | omega) (show (0 : Int) ≤ ((q_I r51 12 36 a0)).toInt by first | with_reducible assumption | omega) (show ((q_I r51 12 36 a0)).toInt ≤ (0 : Int) + 2000 by first | with_reducible assumption | omega) (show ((q_I r51 12 36 a0)).toInt ≤ (q_I r51 12 36 a0).toInt by first | with_reducible assumption | omega) (show (q_I r51 12 36 a0).toInt + 2000 * LGf ((q_I r51 12 10 a0)).toInt ≤ 12000 by first | with_reducible assumption | omega) (show ((q_I r51 12 10 a0)).toInt < 20 by first | with_reducible assumption | omega) i53) (fun r64 hr65 => ?_)
        obtain ⟨i69, ⟨u71, u72, u73⟩, p70⟩ := hr65
        have u74 := kp_t u58 u71
        have v75 : q_V r64.2 = q_V δ := (u72).trans v59
        have v76 := kr_t v60 u73
        have f77 := cb_12_36 i69 k_a0
        have f78 := ti_b r64.1
        unfold J_X12_size_90
        exact ok_some (show RI ad h.1 δ0 r64.2 ∧ (kp [(12, 0), (12, 36)] δ r64.2 ∧ q_V r64.2 = q_V δ ∧ kr ad [100, 119] δ r64.2) from ⟨i69, ⟨kp_w (by decide) u74, v75, kr_w (by decide) v76⟩⟩)
      · have c79 : x2.toInt ≠ (0 : Int) := o_ne h62
        refine ok_ite (fun h80 => ?_) (fun h80 => ?_)
        · have c81 : x2.toInt = (2 : Int) := o_eq h80
          obtain ⟨b82, o83, k84, n85⟩ := gO_12_14 L k_a0
          obtain rfl := gS_12_14 L k_a0 o83
          refine ok_at o83 ?_
          have t86 := ti_tn x1
          refine ok_gd (fun hc87 => ?_) ?_
          · rcases hc87 with hc87 | hc87
            · have c88 : x1.toInt < (0 : Int) := o_lt hc87
              omega
            · omega
          unfold J_X12_size_90
          exact ok_some (show RI ad h.1 δ0 r51 ∧ (kp [(12, 0), (12, 36)] δ r51 ∧ q_V r51 = q_V δ ∧ kr ad [100, 119] δ r51) from ⟨i53, ⟨kp_w (by decide) u58, v59, kr_w (by decide) v60⟩⟩)
        · have c89 : x2.toInt ≠ (2 : Int) := o_ne h80
          have f90 : (q_I r51 12 10 a0).toInt = (q_I δ 12 10 a0).toInt := ((show (q_I r51 12 10 a0).toInt = (q_I r33.2 12 10 a0).toInt from congrArg Int32.toInt (u55 12 10 a0 (by decide))).trans ((show (q_I r33.2 12 10 a0).toInt = (q_I r7.2 12 10 a0).toInt from congrArg Int32.toInt (u39 12 10 a0 (by decide))).trans ((show (q_I r7.2 12 10 a0).toInt = (q_I d1 12 10 a0).toInt from congrArg Int32.toInt (u12 12 10 a0 (by decide))).trans (show (q_I d1 12 10 a0).toInt = (q_I δ 12 10 a0).toInt from congrArg Int32.toInt (by rw [e2]; exact rI_o (by decide))))))
          have f91 := cb_12_10 I k_a0
          refine ok_ite (fun h92 => ?_) (fun h92 => ?_)
          · have c93 : (5 : Int) ≤ (q_I r51 12 10 a0).toInt := o_le h92
            unfold J_X12_size_90
            exact ok_some (show RI ad h.1 δ0 r51 ∧ (kp [(12, 0), (12, 36)] δ r51 ∧ q_V r51 = q_V δ ∧ kr ad [100, 119] δ r51) from ⟨i53, ⟨kp_w (by decide) u58, v59, kr_w (by decide) v60⟩⟩)
          · have c94 : (q_I r51 12 10 a0).toInt < (5 : Int) := o_nle h92
            unfold J_X12_size_90
            exact ok_some (show RI ad h.1 δ0 r51 ∧ (kp [(12, 0), (12, 36)] δ r51 ∧ q_V r51 = q_V δ ∧ kr ad [100, 119] δ r51) from ⟨i53, ⟨kp_w (by decide) u58, v59, kr_w (by decide) v60⟩⟩)
set_option maxHeartbeats 4000000 in
theorem ke_X12_boundOf {ad : List Nat} {h : hp} (L : Lay TLx ad h) {δ0 : dp} {N : Nat} (hN : 10000000 ≤ N) : ∀ (k : Nat), ∀ (a0 : Nat) (x1 : Int32) (x2 : Int32) (δ : dp), q_K h.1 a0 = 12 → 0 ≤ (x2).toInt → (x2).toInt ≤ 16 → (x2).toInt < (k : Int) → RI ad h.1 δ0 δ → ok (E_X12_boundOf N h.1 k a0 x1 x2 δ) (fun r => r.2 = δ) := by
  intro k
  induction k with
  | zero =>
    intro a0 x1 x2 δ k_a0 z0 z1 hd I
    exfalso; omega
  | succ k ih =>
    intro a0 x1 x2 δ k_a0 z0 z1 hd I
    unfold E_X12_boundOf B_X12_boundOf
    have f1 := ti_b x2
    have f2 := cb_12_11 I k_a0
    refine ok_ite (fun h3 => ?_) (fun h3 => ?_)
    · have c4 : (q_I δ 12 11 a0).toInt < x2.toInt := o_lt h3
      refine ok_bind (k_X12_lowerBits L hN (a0 := a0) (x1 := x2) k_a0 (show 2 ≤ (x2).toInt by first | with_reducible assumption | omega) (show (x2).toInt ≤ 16 by first | with_reducible assumption | omega) I) (fun r5 hr6 => ?_)
      obtain ⟨i7, p8, p9, p10, p11, p12, p13⟩ := hr6
      try rw [i7]
      have f14 := ti_b r5.1
      have f15 := lgb (r5.1).toInt
      have f16 := lgb (x2).toInt
      have f17 := lgb ((x2 - r5.1)).toInt
      first | (have q19 := te_sub x2 r5.1 (by omega) (by omega); obtain ⟨f20, f21, f22⟩ := q19) | (obtain ⟨q19, f20, f21, f22⟩ := ti_sub x2 r5.1)
      refine ok_bind (ih a0 x1 r5.1 δ k_a0 (show 0 ≤ (r5.1).toInt by first | with_reducible assumption | omega) (show (r5.1).toInt ≤ 16 by first | with_reducible assumption | omega) (show (r5.1).toInt < _ by first | with_reducible assumption | omega) I) (fun r23 hr24 => ?_)
      have i25 := hr24
      try rw [i25]
      have f26 := ti_b r23.1
      have f27 := ti_b x1
      refine ok_ite (fun h28 => ?_) (fun h28 => ?_)
      · have c29 : x1.toInt = (2 : Int) := o_eq h28
        exact ok_some (show δ = δ from rfl)
      · have c30 : x1.toInt ≠ (2 : Int) := o_ne h28
        refine ok_bind (ih a0 x1 (x2 - r5.1) δ k_a0 (show 0 ≤ ((x2 - r5.1)).toInt by first | with_reducible assumption | omega) (show ((x2 - r5.1)).toInt ≤ 16 by first | with_reducible assumption | omega) (show ((x2 - r5.1)).toInt < _ by first | with_reducible assumption | omega) I) (fun r31 hr32 => ?_)
        have i33 := hr32
        try rw [i33]
        have f34 := ti_b r31.1
        refine ok_biv (fun vx35 e36 => ?_)
        first | (have q37 := te_cadd (c := 1) (n := 1) rfl r31.1 (by omega) (by omega); rw [← e36] at q37; obtain ⟨f38, f39, f40⟩ := q37) | (obtain ⟨q37, f38, f39, f40⟩ : ∃ q : Int, vx35.toInt = (1 : Int) + r31.1.toInt + 4294967296 * q ∧ -2147483648 ≤ vx35.toInt ∧ vx35.toInt ≤ 2147483647 := by rw [e36]; exact ti_cadd (c := 1) (n := 1) rfl r31.1)
        refine ok_ite (fun h41 => ?_) (fun h41 => ?_)
        · have c42 : x1.toInt = (0 : Int) := o_eq h41
          unfold J_X12_boundOf_64
          refine ok_ite (fun h43 => ?_) (fun h43 => ?_)
          · have c44 : r23.1.toInt ≤ vx35.toInt := o_le h43
            unfold J_X12_boundOf_78
            exact ok_some (show δ = δ from rfl)
          · have c45 : vx35.toInt < r23.1.toInt := o_nle h43
            unfold J_X12_boundOf_78
            exact ok_some (show δ = δ from rfl)
        · have c46 : x1.toInt ≠ (0 : Int) := o_ne h41
          refine ok_ite (fun h47 => ?_) (fun h47 => ?_)
          · have c48 : x1.toInt = (1 : Int) := o_eq h47
            unfold J_X12_boundOf_64
            refine ok_ite (fun h49 => ?_) (fun h49 => ?_)
            · have c50 : r23.1.toInt ≤ vx35.toInt := o_le h49
              unfold J_X12_boundOf_78
              exact ok_some (show δ = δ from rfl)
            · have c51 : vx35.toInt < r23.1.toInt := o_nle h49
              unfold J_X12_boundOf_78
              exact ok_some (show δ = δ from rfl)
          · have c52 : x1.toInt ≠ (1 : Int) := o_ne h47
            unfold J_X12_boundOf_64
            refine ok_ite (fun h53 => ?_) (fun h53 => ?_)
            · have c54 : r23.1.toInt ≤ vx35.toInt := o_le h53
              unfold J_X12_boundOf_78
              exact ok_some (show δ = δ from rfl)
            · have c55 : vx35.toInt < r23.1.toInt := o_nle h53
              unfold J_X12_boundOf_78
              exact ok_some (show δ = δ from rfl)
    · have c56 : x2.toInt ≤ (q_I δ 12 11 a0).toInt := o_nlt h3
      exact ok_some (show δ = δ from rfl)
set_option maxHeartbeats 4000000 in
theorem k_X12_boundOf {ad : List Nat} {h : hp} (L : Lay TLx ad h) {δ0 : dp} {N : Nat} (hN : 10000000 ≤ N) {a0 : Nat} {x1 : Int32} {x2 : Int32} (k_a0 : q_K h.1 a0 = 12) {δ : dp} (z0 : 0 ≤ (x2).toInt) (z1 : (x2).toInt ≤ 16) (hd : (x2).toInt < 20) (I : RI ad h.1 δ0 δ) : ok (D_X12_boundOf N h.1 a0 x1 x2 δ) (fun r => r.2 = δ) := ke_X12_boundOf L hN 20 a0 x1 x2 δ k_a0 z0 z1 hd I
set_option maxHeartbeats 4000000 in
theorem k_X12_bound {ad : List Nat} {h : hp} (L : Lay TLx ad h) {δ0 : dp} {N : Nat} (hN : 10000000 ≤ N) {a0 : Nat} {x1 : Int32} (k_a0 : q_K h.1 a0 = 12) {δ : dp} (I : RI ad h.1 δ0 δ) : ok (D_X12_bound N h.1 a0 x1 δ) (fun r => RI ad h.1 δ0 r.2 ∧ (kp [(12, 0)] δ r.2 ∧ q_V r.2 = q_V δ ∧ kr ad [100] δ r.2)) := by
  unfold D_X12_bound
  refine ok_bdv (fun d1 e2 => ?_)
  have i3 : RI ad h.1 δ0 d1 := by rw [e2]; exact cs_12_0 L I
  have u4 := kp_I kp_r e2
  have v5 : q_V d1 = q_V δ := ((show q_V d1 = q_V δ by rw [e2]; rfl)).trans rfl
  have v6 := kr_N (kr_r (ad := ad)) (show q_R d1 = q_R δ by rw [e2]; rfl)
  refine ok_bind (k_X12_isCall L hN (x0 := x1)  i3) (fun r7 hr8 => ?_)
  obtain ⟨i9, p10, p11⟩ := hr8
  try rw [i9]
  have f12 := bo_l p10
  have f13 := ti_b r7.1
  have f14 := ti_b x1
  refine ok_bind (k_X12_may L hN (a0 := a0) (x1 := r7.1) (x2 := (1 : Int32)) (x3 := (2 : Int32)) k_a0 (show (1 : Int) ≠ 0 by first | with_reducible assumption | omega) (show 0 ≤ (2 : Int) by first | with_reducible assumption | omega) (show (2 : Int) ≤ 2 by first | with_reducible assumption | omega) i3) (fun r15 hr16 => ?_)
  obtain ⟨i17, ⟨u21, u22, u23⟩, p18, p19, p20⟩ := hr16
  have u24 := kp_t u4 u21
  have v25 : q_V r15.2 = q_V δ := (u22).trans v5
  have v26 := kr_t v6 u23
  have f27 := bo_l p18
  have f28 := ti_b r15.1
  have f29 := ti_b (q_I d1 12 0 a0)
  have f30 : (q_I d1 12 0 a0).toInt = (0 : Int) := congrArg Int32.toInt (show q_I d1 12 0 a0 = (0 : Int32) by rw [e2]; exact rI_s)
  refine ok_ite (fun h31 => ?_) (fun h31 => ?_)
  · have c32 : r15.1.toInt = (0 : Int) := o_eq h31
    exact ok_some (show RI ad h.1 δ0 r15.2 ∧ (kp [(12, 0)] δ r15.2 ∧ q_V r15.2 = q_V δ ∧ kr ad [100] δ r15.2) from ⟨i17, ⟨kp_w (by decide) u24, v25, kr_w (by decide) v26⟩⟩)
  · have c33 : r15.1.toInt ≠ (0 : Int) := o_ne h31
    have f36 : (q_I r15.2 12 10 a0).toInt = (q_I δ 12 10 a0).toInt := ((show (q_I r15.2 12 10 a0).toInt = (q_I d1 12 10 a0).toInt from congrArg Int32.toInt (u21 12 10 a0 (by decide))).trans (show (q_I d1 12 10 a0).toInt = (q_I δ 12 10 a0).toInt from congrArg Int32.toInt (by rw [e2]; exact rI_o (by decide))))
    have f37 := cb_12_10 I k_a0
    refine ok_bind (k_X12_boundOf L hN (a0 := a0) (x1 := x1) (x2 := (q_I r15.2 12 10 a0)) k_a0 (show 0 ≤ ((q_I r15.2 12 10 a0)).toInt by first | with_reducible assumption | omega) (show ((q_I r15.2 12 10 a0)).toInt ≤ 16 by first | with_reducible assumption | omega) (show ((q_I r15.2 12 10 a0)).toInt < 20 by first | with_reducible assumption | omega) i17) (fun r34 hr35 => ?_)
    have i38 := hr35
    try rw [i38]
    have f39 := ti_b r34.1
    exact ok_some (show RI ad h.1 δ0 r15.2 ∧ (kp [(12, 0)] δ r15.2 ∧ q_V r15.2 = q_V δ ∧ kr ad [100] δ r15.2) from ⟨i17, ⟨kp_w (by decide) u24, v25, kr_w (by decide) v26⟩⟩)
