/-! 76.m12 (by gen_safe.py) -/
set_option maxHeartbeats 4000000 in
theorem k_X12_halves {ad : List Nat} {h : hp} (L : Lay TLx ad h) {δ0 : dp} {N : Nat} (hN : 10000000 ≤ N) {a0 : Nat} {x1 : Int32} {x2 : Int32} {x3 : Int32} (k_a0 : q_K h.1 a0 = 12) {δ : dp} (z0 : 0 ≤ (x1).toInt) (z1 : (x1).toInt ≤ 3) (I : RI ad h.1 δ0 δ) : ok (D_X12_halves N h.1 a0 x1 x2 x3 δ) (fun r => RI ad h.1 δ0 r.2 ∧ (kp [(12, 36)] δ r.2 ∧ q_V r.2 = q_V δ ∧ kr ad [119] δ r.2)) := by
  unfold D_X12_halves
  have f1 := ti_b x1
  refine ok_bind (k_X12_lays L hN (a0 := a0) (x1 := x1) k_a0 (show 0 ≤ (x1).toInt by first | with_reducible assumption | omega) (show (x1).toInt ≤ 3 by first | with_reducible assumption | omega) I) (fun r2 hr3 => ?_)
  obtain ⟨i4, ⟨u6, u7, u8⟩, p5⟩ := hr3
  have u9 := kp_t kp_r u6
  have v10 : q_V r2 = q_V δ := (u7).trans rfl
  have v11 := kr_t (kr_r (ad := ad)) u8
  have f12 := cb_12_36 i4 k_a0
  have f15 : (q_I r2 12 10 a0).toInt = (q_I δ 12 10 a0).toInt := congrArg Int32.toInt (u6 12 10 a0 (by decide))
  have f16 := cb_12_10 I k_a0
  have f17 := lgb ((q_I r2 12 10 a0)).toInt
  refine ok_bind (k_X12_touch L hN (a0 := a0) (x1 := x2) (x2 := x3) (x3 := (q_I r2 12 10 a0)) (x4 := (0 : Int32)) (x5 := (q_I r2 12 36 a0)) k_a0 (show 1 ≤ ((q_I r2 12 10 a0)).toInt by first | with_reducible assumption | omega) (show ((q_I r2 12 10 a0)).toInt ≤ 16 by first | with_reducible assumption | omega) (show 0 ≤ (0 : Int) by first | with_reducible assumption | omega) (show (0 : Int) ≤ ((q_I r2 12 36 a0)).toInt by first | with_reducible assumption | omega) (show ((q_I r2 12 36 a0)).toInt ≤ (0 : Int) + 2000 by first | with_reducible assumption | omega) (show ((q_I r2 12 36 a0)).toInt ≤ (q_I r2 12 36 a0).toInt by first | with_reducible assumption | omega) (show (q_I r2 12 36 a0).toInt + 2000 * LGf ((q_I r2 12 10 a0)).toInt ≤ 12000 by first | with_reducible assumption | omega) (show ((q_I r2 12 10 a0)).toInt < 20 by first | with_reducible assumption | omega) i4) (fun r13 hr14 => ?_)
  obtain ⟨i18, ⟨u22, u23, u24⟩, p19, p20, p21⟩ := hr14
  have u25 := kp_t u9 u22
  have v26 : q_V r13.2 = q_V δ := (u23).trans v10
  have v27 := kr_t v11 u24
  have f28 := cb_12_36 i18 k_a0
  have f29 := ti_b r13.1
  exact ok_some (show RI ad h.1 δ0 r13.2 ∧ (kp [(12, 36)] δ r13.2 ∧ q_V r13.2 = q_V δ ∧ kr ad [119] δ r13.2) from ⟨i18, ⟨kp_w (by decide) u25, v26, kr_w (by decide) v27⟩⟩)
set_option maxHeartbeats 4000000 in
theorem k_X12_hasIn {ad : List Nat} {h : hp} (L : Lay TLx ad h) {δ0 : dp} {N : Nat} (hN : 10000000 ≤ N) {a0 : Nat} {x1 : Int32} {x2 : Int32} {x3 : Int32} (k_a0 : q_K h.1 a0 = 12) {δ : dp} (z0 : 0 ≤ (x1).toInt) (z1 : (x1).toInt ≤ 3) (I : RI ad h.1 δ0 δ) : ok (D_X12_hasIn N h.1 a0 x1 x2 x3 δ) (fun r => r.2 = δ ∧ bo (r.1)) := by
  unfold D_X12_hasIn
  have f1 := ti_b x1
  refine ok_bind (k_X12_place L hN (a0 := a0) (x1 := x1) (x2 := x3) k_a0 (show 0 ≤ (x1).toInt by first | with_reducible assumption | omega) (show (x1).toInt ≤ 3 by first | with_reducible assumption | omega) I) (fun r2 hr3 => ?_)
  obtain ⟨i4, p5, p6⟩ := hr3
  try rw [i4]
  have f7 := ti_b r2.1
  have t8 := ti_tn x1
  have f9 := rb_103 L I (x1).toNatClampNeg
  refine ok_bind (k_X12_place L hN (a0 := a0) (x1 := x1) (x2 := x2) k_a0 (show 0 ≤ (x1).toInt by first | with_reducible assumption | omega) (show (x1).toInt ≤ 3 by first | with_reducible assumption | omega) I) (fun r10 hr11 => ?_)
  obtain ⟨i12, p13, p14⟩ := hr11
  try rw [i12]
  have f15 := ti_b r10.1
  refine ok_ite (fun h16 => ?_) (fun h16 => ?_)
  · have c17 : r2.1.toInt ≤ r10.1.toInt := o_le h16
    unfold J_X12_hasIn_20
    refine ok_gp (by decide) ?_
    exact ok_some (show δ = δ ∧ bo ((0 : Int32)) from ⟨rfl, bo_0⟩)
  · have c18 : r10.1.toInt < r2.1.toInt := o_nle h16
    unfold J_X12_hasIn_20
    refine ok_gp (by decide) ?_
    exact ok_some (show δ = δ ∧ bo ((1 : Int32)) from ⟨rfl, bo_1⟩)
set_option maxHeartbeats 4000000 in
theorem kl_X12_bits_46 {ad : List Nat} {h : hp} (L : Lay TLx ad h) {δ0 : dp} {N : Nat} (hN : 10000000 ≤ N) {a0 : Nat} {x1 : Int32} {x2 : Int32} {x3 : Int32} (k_a0 : q_K h.1 a0 = 12) : ∀ (n : Nat) (x4v : Int32) (x5v : Int32) (x6v : Int32) (δ : dp), RI ad h.1 δ0 δ → 0 ≤ (x1).toInt → (x1).toInt ≤ 3 → (x4v).toInt ≤ 2047 → 0 ≤ (x5v).toInt → (x5v).toInt ≤ 2048 → 2048 - (x5v).toInt < (n : Int) → ok (L_X12_bits_46 N h.1 a0 x1 x2 x3 n x4v x5v x6v δ) (fun r => r.2 = δ) := by
  intro n
  induction n with
  | zero =>
    intro x4v x5v x6v δ I j0 j1 j2 j3 j4 hm
    have f1 := ti_b x1
    have f2 := ti_b x4v
    have f3 := ti_b x5v
    exfalso; omega
  | succ n ih =>
    intro x4v x5v x6v δ I j0 j1 j2 j3 j4 hm
    unfold L_X12_bits_46
    have f1 := ti_b x1
    have f2 := ti_b x4v
    have f3 := ti_b x5v
    refine ok_ite (fun h4 => ?_) (fun h4 => ?_)
    · have c5 : x4v.toInt ≤ x5v.toInt := o_le h4
      unfold J_X12_bits_95
      exact ok_some (show δ = δ from rfl)
    · have c6 : x5v.toInt < x4v.toInt := o_nle h4
      have f7 := ti_b x6v
      refine ok_ite (fun h8 => ?_) (fun h8 => ?_)
      · have c9 : x6v.toInt = (1 : Int) := o_eq h8
        unfold J_X12_bits_72
        refine ok_bind (k_X12_hasIn L hN (a0 := a0) (x1 := x1) (x2 := (x3 + (1 : Int32))) (x3 := (((32 : Int32) * x5v) + (32 : Int32))) k_a0 (show 0 ≤ (x1).toInt by first | with_reducible assumption | omega) (show (x1).toInt ≤ 3 by first | with_reducible assumption | omega) I) (fun r10 hr11 => ?_)
        obtain ⟨i12, p13⟩ := hr11
        try rw [i12]
        have f14 := bo_l p13
        have f15 := ti_b r10.1
        refine ok_ite (fun h16 => ?_) (fun h16 => ?_)
        · have c17 : r10.1.toInt = (0 : Int) := o_eq h16
          refine ok_biv (fun vx18 e19 => ?_)
          first | (have q20 := te_addc (c := 1) (n := 1) rfl x6v (by omega) (by omega); rw [← e19] at q20; obtain ⟨f21, f22, f23⟩ := q20) | (obtain ⟨q20, f21, f22, f23⟩ : ∃ q : Int, vx18.toInt = x6v.toInt + (1 : Int) + 4294967296 * q ∧ -2147483648 ≤ vx18.toInt ∧ vx18.toInt ≤ 2147483647 := by rw [e19]; exact ti_addc (c := 1) (n := 1) rfl x6v)
          refine ok_biv (fun vx24 e25 => ?_)
          first | (have q26 := te_addc (c := 1) (n := 1) rfl x5v (by omega) (by omega); rw [← e25] at q26; obtain ⟨f27, f28, f29⟩ := q26) | (obtain ⟨q26, f27, f28, f29⟩ : ∃ q : Int, vx24.toInt = x5v.toInt + (1 : Int) + 4294967296 * q ∧ -2147483648 ≤ vx24.toInt ∧ vx24.toInt ≤ 2147483647 := by rw [e25]; exact ti_addc (c := 1) (n := 1) rfl x5v)
          refine ok_mono (ih x4v vx24 vx18 δ I (show 0 ≤ (x1).toInt by first | with_reducible assumption | omega) (show (x1).toInt ≤ 3 by first | with_reducible assumption | omega) (show (x4v).toInt ≤ 2047 by first | with_reducible assumption | omega) (show 0 ≤ (vx24).toInt by first | with_reducible assumption | omega) (show (vx24).toInt ≤ 2048 by first | with_reducible assumption | omega) (show 2048 - (vx24).toInt < _ by omega)) (fun r30 hr31 => ?_)
          have i32 := hr31
          have f33 := ti_b r30.1
          exact by assumption
        · have c34 : r10.1.toInt ≠ (0 : Int) := o_ne h16
          unfold J_X12_bits_95
          exact ok_some (show δ = δ from rfl)
      · have c35 : x6v.toInt ≠ (1 : Int) := o_ne h8
        unfold J_X12_bits_72
        refine ok_bind (k_X12_hasIn L hN (a0 := a0) (x1 := x1) (x2 := ((32 : Int32) * x5v)) (x3 := (((32 : Int32) * x5v) + (32 : Int32))) k_a0 (show 0 ≤ (x1).toInt by first | with_reducible assumption | omega) (show (x1).toInt ≤ 3 by first | with_reducible assumption | omega) I) (fun r36 hr37 => ?_)
        obtain ⟨i38, p39⟩ := hr37
        try rw [i38]
        have f40 := bo_l p39
        have f41 := ti_b r36.1
        refine ok_ite (fun h42 => ?_) (fun h42 => ?_)
        · have c43 : r36.1.toInt = (0 : Int) := o_eq h42
          refine ok_biv (fun vx44 e45 => ?_)
          first | (have q46 := te_addc (c := 1) (n := 1) rfl x6v (by omega) (by omega); rw [← e45] at q46; obtain ⟨f47, f48, f49⟩ := q46) | (obtain ⟨q46, f47, f48, f49⟩ : ∃ q : Int, vx44.toInt = x6v.toInt + (1 : Int) + 4294967296 * q ∧ -2147483648 ≤ vx44.toInt ∧ vx44.toInt ≤ 2147483647 := by rw [e45]; exact ti_addc (c := 1) (n := 1) rfl x6v)
          refine ok_biv (fun vx50 e51 => ?_)
          first | (have q52 := te_addc (c := 1) (n := 1) rfl x5v (by omega) (by omega); rw [← e51] at q52; obtain ⟨f53, f54, f55⟩ := q52) | (obtain ⟨q52, f53, f54, f55⟩ : ∃ q : Int, vx50.toInt = x5v.toInt + (1 : Int) + 4294967296 * q ∧ -2147483648 ≤ vx50.toInt ∧ vx50.toInt ≤ 2147483647 := by rw [e51]; exact ti_addc (c := 1) (n := 1) rfl x5v)
          refine ok_mono (ih x4v vx50 vx44 δ I (show 0 ≤ (x1).toInt by first | with_reducible assumption | omega) (show (x1).toInt ≤ 3 by first | with_reducible assumption | omega) (show (x4v).toInt ≤ 2047 by first | with_reducible assumption | omega) (show 0 ≤ (vx50).toInt by first | with_reducible assumption | omega) (show (vx50).toInt ≤ 2048 by first | with_reducible assumption | omega) (show 2048 - (vx50).toInt < _ by omega)) (fun r56 hr57 => ?_)
          have i58 := hr57
          have f59 := ti_b r56.1
          exact by assumption
        · have c60 : r36.1.toInt ≠ (0 : Int) := o_ne h42
          unfold J_X12_bits_95
          exact ok_some (show δ = δ from rfl)
set_option maxHeartbeats 4000000 in
theorem kl_X12_bits_115 {ad : List Nat} {h : hp} (L : Lay TLx ad h) {δ0 : dp} {N : Nat} (hN : 10000000 ≤ N) {a0 : Nat} {x1 : Int32} {x2 : Int32} {x3 : Int32} (k_a0 : q_K h.1 a0 = 12) : ∀ (n : Nat) (x5v : Int32) (x6v : Int32) (δ : dp), RI ad h.1 δ0 δ → 0 ≤ (x1).toInt → (x1).toInt ≤ 3 → 0 ≤ (x5v).toInt → (x5v).toInt ≤ 2048 → (x5v).toInt < (n : Int) → ok (L_X12_bits_115 N h.1 a0 x1 x2 x3 n x5v x6v δ) (fun r => r.2 = δ) := by
  intro n
  induction n with
  | zero =>
    intro x5v x6v δ I j0 j1 j2 j3 hm
    have f1 := ti_b x1
    have f2 := ti_b x5v
    exfalso; omega
  | succ n ih =>
    intro x5v x6v δ I j0 j1 j2 j3 hm
    unfold L_X12_bits_115
    have f1 := ti_b x1
    have f2 := ti_b x5v
    refine ok_ite (fun h3 => ?_) (fun h3 => ?_)
    · have c4 : x5v.toInt ≤ (0 : Int) := o_le h3
      unfold J_X12_bits_160
      exact ok_some (show δ = δ from rfl)
    · have c5 : (0 : Int) < x5v.toInt := o_nle h3
      have f6 := ti_b x6v
      refine ok_ite (fun h7 => ?_) (fun h7 => ?_)
      · have c8 : x6v.toInt = (1 : Int) := o_eq h7
        unfold J_X12_bits_145
        refine ok_bind (k_X12_hasIn L hN (a0 := a0) (x1 := x1) (x2 := ((32 : Int32) * x5v)) (x3 := x3) k_a0 (show 0 ≤ (x1).toInt by first | with_reducible assumption | omega) (show (x1).toInt ≤ 3 by first | with_reducible assumption | omega) I) (fun r9 hr10 => ?_)
        obtain ⟨i11, p12⟩ := hr10
        try rw [i11]
        have f13 := bo_l p12
        have f14 := ti_b r9.1
        refine ok_ite (fun h15 => ?_) (fun h15 => ?_)
        · have c16 : r9.1.toInt = (0 : Int) := o_eq h15
          refine ok_biv (fun vx17 e18 => ?_)
          first | (have q19 := te_addc (c := 1) (n := 1) rfl x6v (by omega) (by omega); rw [← e18] at q19; obtain ⟨f20, f21, f22⟩ := q19) | (obtain ⟨q19, f20, f21, f22⟩ : ∃ q : Int, vx17.toInt = x6v.toInt + (1 : Int) + 4294967296 * q ∧ -2147483648 ≤ vx17.toInt ∧ vx17.toInt ≤ 2147483647 := by rw [e18]; exact ti_addc (c := 1) (n := 1) rfl x6v)
          refine ok_biv (fun vx23 e24 => ?_)
          first | (have q25 := te_addc (c := -1) (n := -1) (by decide) x5v (by omega) (by omega); rw [← e24] at q25; obtain ⟨f26, f27, f28⟩ := q25) | (obtain ⟨q25, f26, f27, f28⟩ : ∃ q : Int, vx23.toInt = x5v.toInt + (-1 : Int) + 4294967296 * q ∧ -2147483648 ≤ vx23.toInt ∧ vx23.toInt ≤ 2147483647 := by rw [e24]; exact ti_addc (c := -1) (n := -1) (by decide) x5v)
          refine ok_mono (ih vx23 vx17 δ I (show 0 ≤ (x1).toInt by first | with_reducible assumption | omega) (show (x1).toInt ≤ 3 by first | with_reducible assumption | omega) (show 0 ≤ (vx23).toInt by first | with_reducible assumption | omega) (show (vx23).toInt ≤ 2048 by first | with_reducible assumption | omega) (show (vx23).toInt < _ by omega)) (fun r29 hr30 => ?_)
          have i31 := hr30
          have f32 := ti_b r29.1
          exact by assumption
        · have c33 : r9.1.toInt ≠ (0 : Int) := o_ne h15
          unfold J_X12_bits_160
          exact ok_some (show δ = δ from rfl)
      · have c34 : x6v.toInt ≠ (1 : Int) := o_ne h7
        unfold J_X12_bits_145
        refine ok_bind (k_X12_hasIn L hN (a0 := a0) (x1 := x1) (x2 := ((32 : Int32) * x5v)) (x3 := (((32 : Int32) * x5v) + (32 : Int32))) k_a0 (show 0 ≤ (x1).toInt by first | with_reducible assumption | omega) (show (x1).toInt ≤ 3 by first | with_reducible assumption | omega) I) (fun r35 hr36 => ?_)
        obtain ⟨i37, p38⟩ := hr36
        try rw [i37]
        have f39 := bo_l p38
        have f40 := ti_b r35.1
        refine ok_ite (fun h41 => ?_) (fun h41 => ?_)
        · have c42 : r35.1.toInt = (0 : Int) := o_eq h41
          refine ok_biv (fun vx43 e44 => ?_)
          first | (have q45 := te_addc (c := 1) (n := 1) rfl x6v (by omega) (by omega); rw [← e44] at q45; obtain ⟨f46, f47, f48⟩ := q45) | (obtain ⟨q45, f46, f47, f48⟩ : ∃ q : Int, vx43.toInt = x6v.toInt + (1 : Int) + 4294967296 * q ∧ -2147483648 ≤ vx43.toInt ∧ vx43.toInt ≤ 2147483647 := by rw [e44]; exact ti_addc (c := 1) (n := 1) rfl x6v)
          refine ok_biv (fun vx49 e50 => ?_)
          first | (have q51 := te_addc (c := -1) (n := -1) (by decide) x5v (by omega) (by omega); rw [← e50] at q51; obtain ⟨f52, f53, f54⟩ := q51) | (obtain ⟨q51, f52, f53, f54⟩ : ∃ q : Int, vx49.toInt = x5v.toInt + (-1 : Int) + 4294967296 * q ∧ -2147483648 ≤ vx49.toInt ∧ vx49.toInt ≤ 2147483647 := by rw [e50]; exact ti_addc (c := -1) (n := -1) (by decide) x5v)
          refine ok_mono (ih vx49 vx43 δ I (show 0 ≤ (x1).toInt by first | with_reducible assumption | omega) (show (x1).toInt ≤ 3 by first | with_reducible assumption | omega) (show 0 ≤ (vx49).toInt by first | with_reducible assumption | omega) (show (vx49).toInt ≤ 2048 by first | with_reducible assumption | omega) (show (vx49).toInt < _ by omega)) (fun r55 hr56 => ?_)
          have i57 := hr56
          have f58 := ti_b r55.1
          exact by assumption
        · have c59 : r35.1.toInt ≠ (0 : Int) := o_ne h41
          unfold J_X12_bits_160
          exact ok_some (show δ = δ from rfl)
set_option maxHeartbeats 4000000 in
theorem k_X12_bits {ad : List Nat} {h : hp} (L : Lay TLx ad h) {δ0 : dp} {N : Nat} (hN : 10000000 ≤ N) {a0 : Nat} {x1 : Int32} {x2 : Int32} {x3 : Int32} (k_a0 : q_K h.1 a0 = 12) {δ : dp} (z0 : 0 ≤ (x1).toInt) (z1 : (x1).toInt ≤ 3) (z2 : -1 ≤ (x3).toInt) (z3 : (x3).toInt ≤ 65536) (I : RI ad h.1 δ0 δ) : ok (D_X12_bits N h.1 a0 x1 x2 x3 δ) (fun r => r.2 = δ) := by
  unfold D_X12_bits
  have f1 := ti_b x1
  have f2 := ti_b x3
  have f3 := ti_b x2
  refine ok_ite (fun h4 => ?_) (fun h4 => ?_)
  · have c5 : (3 : Int) ≤ x2.toInt := o_le h4
    refine ok_bind (k_X12_all L hN (a0 := a0) k_a0 I) (fun r6 hr7 => ?_)
    obtain ⟨i8, p9, p10, p11, p12⟩ := hr7
    try rw [i8]
    have f13 := ti_b r6.1
    have f14 := cb_12_10 I k_a0
    first | (have q18 := te_subc (c := 1) (n := 1) rfl r6.1 (by omega) (by omega); obtain ⟨f19, f20, f21⟩ := q18) | (obtain ⟨q18, f19, f20, f21⟩ := ti_subc (c := 1) (n := 1) rfl r6.1)
    have f22 := ti_div (c := 32) (n := 32) rfl (by decide) (r6.1 - (1 : Int32))
    have f23 := ti_b ((r6.1 - (1 : Int32)) / (32 : Int32))
    have f24 := ti_dvn (c := 32) (n := 32) rfl (by decide) (r6.1 - (1 : Int32))
    refine ok_biv (fun vx15 e16 => ?_)
    have f25 : vx15.toInt = ((r6.1 - (1 : Int32)) / (32 : Int32)).toInt := congrArg Int32.toInt e16
    refine ok_ite (fun h26 => ?_) (fun h26 => ?_)
    · have c27 : x2.toInt = (3 : Int) := o_eq h26
      refine ok_bind (k_X12_all L hN (a0 := a0) k_a0 I) (fun r28 hr29 => ?_)
      obtain ⟨i30, p31, p32, p33, p34⟩ := hr29
      try rw [i30]
      have f35 := ti_b r28.1
      first | (have q37 := te_subc (c := 1) (n := 1) rfl r28.1 (by omega) (by omega); obtain ⟨f38, f39, f40⟩ := q37) | (obtain ⟨q37, f38, f39, f40⟩ := ti_subc (c := 1) (n := 1) rfl r28.1)
      refine ok_ite (fun h41 => ?_) (fun h41 => ?_)
      · have c42 : x3.toInt = (r28.1 - (1 : Int32)).toInt := o_eq h41
        exact ok_some (show δ = δ from rfl)
      · have c43 : x3.toInt ≠ (r28.1 - (1 : Int32)).toInt := o_ne h41
        first | (have q47 := te_addc (c := 1) (n := 1) rfl x3 (by omega) (by omega); obtain ⟨f48, f49, f50⟩ := q47) | (obtain ⟨q47, f48, f49, f50⟩ := ti_addc (c := 1) (n := 1) rfl x3)
        have f51 := ti_div (c := 32) (n := 32) rfl (by decide) (x3 + (1 : Int32))
        have f52 := ti_b ((x3 + (1 : Int32)) / (32 : Int32))
        have f53 := ti_dvn (c := 32) (n := 32) rfl (by decide) (x3 + (1 : Int32))
        refine ok_biv (fun vx44 e45 => ?_)
        have f54 : vx44.toInt = ((x3 + (1 : Int32)) / (32 : Int32)).toInt := congrArg Int32.toInt e45
        refine ok_mono (kl_X12_bits_46 L hN   k_a0 _ vx15 vx44 (1 : Int32) δ I (show 0 ≤ (x1).toInt by first | with_reducible assumption | omega) (show (x1).toInt ≤ 3 by first | with_reducible assumption | omega) (show (vx15).toInt ≤ 2047 by first | with_reducible assumption | omega) (show 0 ≤ (vx44).toInt by first | with_reducible assumption | omega) (show (vx44).toInt ≤ 2048 by first | with_reducible assumption | omega) (show 2048 - (vx44).toInt < _ by omega)) (fun r55 hr56 => ?_)
        have i57 := hr56
        have f58 := ti_b r55.1
        exact by assumption
    · have c59 : x2.toInt ≠ (3 : Int) := o_ne h26
      refine ok_ite (fun h60 => ?_) (fun h60 => ?_)
      · have c61 : x3.toInt = (0 : Int) := o_eq h60
        exact ok_some (show δ = δ from rfl)
      · have c62 : x3.toInt ≠ (0 : Int) := o_ne h60
        first | (have q66 := te_subc (c := 1) (n := 1) rfl x3 (by omega) (by omega); obtain ⟨f67, f68, f69⟩ := q66) | (obtain ⟨q66, f67, f68, f69⟩ := ti_subc (c := 1) (n := 1) rfl x3)
        have f70 := ti_div (c := 32) (n := 32) rfl (by decide) (x3 - (1 : Int32))
        have f71 := ti_b ((x3 - (1 : Int32)) / (32 : Int32))
        have f72 := ti_dvn (c := 32) (n := 32) rfl (by decide) (x3 - (1 : Int32))
        refine ok_biv (fun vx63 e64 => ?_)
        have f73 : vx63.toInt = ((x3 - (1 : Int32)) / (32 : Int32)).toInt := congrArg Int32.toInt e64
        refine ok_mono (kl_X12_bits_115 L hN   k_a0 _ vx63 (1 : Int32) δ I (show 0 ≤ (x1).toInt by first | with_reducible assumption | omega) (show (x1).toInt ≤ 3 by first | with_reducible assumption | omega) (show 0 ≤ (vx63).toInt by first | with_reducible assumption | omega) (show (vx63).toInt ≤ 2048 by first | with_reducible assumption | omega) (show (vx63).toInt < _ by omega)) (fun r74 hr75 => ?_)
        have i76 := hr75
        have f77 := ti_b r74.1
        exact by assumption
  · have c78 : x2.toInt < (3 : Int) := o_nle h4
    exact ok_some (show δ = δ from rfl)
set_option maxHeartbeats 4000000 in
theorem kl_X12_sorted_28 {ad : List Nat} {h : hp} (L : Lay TLx ad h) {δ0 : dp} {N : Nat} (hN : 10000000 ≤ N) {a0 : Nat} {x1 : Int32} {x2 : Int32} {x3 : Int32} (k_a0 : q_K h.1 a0 = 12) : ∀ (n : Nat) (x4v : Int32) (x5v : Int32) (x6v : Int32) (x7v : Int32) (δ : dp), RI ad h.1 δ0 δ → 0 ≤ (x1).toInt → (x1).toInt ≤ 3 → 0 ≤ (x5v).toInt → ((x5v).toInt = 0 ∨ (x5v).toInt ≤ (x6v).toInt) → -1000 ≤ (x6v).toInt → (x6v).toInt ≤ (q_R δ (Ad ad 103) (x1).toNatClampNeg).toInt → (x6v).toInt - (x5v).toInt + 1000 < (n : Int) → ok (L_X12_sorted_28 N h.1 a0 x1 x2 x3 n x4v x5v x6v x7v δ) (fun r => r.2 = δ) := by
  intro n
  induction n with
  | zero =>
    intro x4v x5v x6v x7v δ I j0 j1 j2 j3 j4 j5 hm
    have f1 := ti_b x1
    have f2 := ti_b x5v
    have f3 := ti_b x6v
    have t4 := ti_tn x1
    have f5 := rb_103 L I (x1).toNatClampNeg
    exfalso; omega
  | succ n ih =>
    intro x4v x5v x6v x7v δ I j0 j1 j2 j3 j4 j5 hm
    unfold L_X12_sorted_28
    have f1 := ti_b x1
    have f2 := ti_b x5v
    have f3 := ti_b x6v
    have t4 := ti_tn x1
    have f5 := rb_103 L I (x1).toNatClampNeg
    refine ok_ite (fun h6 => ?_) (fun h6 => ?_)
    · have c7 : x6v.toInt ≤ x5v.toInt := o_le h6
      have f8 := ti_b x2
      refine ok_ite (fun h9 => ?_) (fun h9 => ?_)
      · have c10 : x2.toInt = (4 : Int) := o_eq h9
        refine ok_ite (fun h11 => ?_) (fun h11 => ?_)
        · have c12 : x5v.toInt ≤ (0 : Int) := o_le h11
          unfold J_X12_sorted_117
          have f15 := ti_b x7v
          refine ok_biv (fun vx13 e14 => ?_)
          first | (have q16 := te_addc (c := 0) (n := 0) rfl x7v (by omega) (by omega); rw [← e14] at q16; obtain ⟨f17, f18, f19⟩ := q16) | (obtain ⟨q16, f17, f18, f19⟩ : ∃ q : Int, vx13.toInt = x7v.toInt + (0 : Int) + 4294967296 * q ∧ -2147483648 ≤ vx13.toInt ∧ vx13.toInt ≤ 2147483647 := by rw [e14]; exact ti_addc (c := 0) (n := 0) rfl x7v)
          obtain ⟨b20, o21, k22, n23⟩ := gO_12_14 L k_a0
          obtain rfl := gS_12_14 L k_a0 o21
          refine ok_at o21 ?_
          have t24 := ti_tn x1
          refine ok_gd (fun hc25 => ?_) ?_
          · rcases hc25 with hc25 | hc25
            · have c26 : x1.toInt < (0 : Int) := o_lt hc25
              omega
            · omega
          have f27 := rb_103 L I x1.toNatClampNeg
          refine ok_ite (fun h28 => ?_) (fun h28 => ?_)
          · have c29 : (q_R δ (Ad ad 103) x1.toNatClampNeg).toInt ≤ x5v.toInt := o_le h28
            unfold J_X12_sorted_152
            unfold J_X12_sorted_153
            refine ok_ite (fun h30 => ?_) (fun h30 => ?_)
            · have c31 : x2.toInt = (0 : Int) := o_eq h30
              refine ok_ite (fun h32 => ?_) (fun h32 => ?_)
              · have c33 : (0 : Int) = (0 : Int) := o_eq h32
                refine ok_at o21 ?_
                refine ok_gd (fun hc34 => ?_) ?_
                · rcases hc34 with hc34 | hc34
                  · have c35 : x1.toInt < (0 : Int) := o_lt hc34
                    omega
                  · omega
                first | (have q39 := te_sub (q_R δ (Ad ad 103) x1.toNatClampNeg) x5v (by omega) (by omega); obtain ⟨f40, f41, f42⟩ := q39) | (obtain ⟨q39, f40, f41, f42⟩ := ti_sub (q_R δ (Ad ad 103) x1.toNatClampNeg) x5v)
                first | (have q44 := te_addc (c := 1) (n := 1) rfl ((q_R δ (Ad ad 103) x1.toNatClampNeg) - x5v) (by omega) (by omega); obtain ⟨f45, f46, f47⟩ := q44) | (obtain ⟨q44, f45, f46, f47⟩ := ti_addc (c := 1) (n := 1) rfl ((q_R δ (Ad ad 103) x1.toNatClampNeg) - x5v))
                refine ok_biv (fun vx36 e37 => ?_)
                first | (have q48 := te_add vx13 (((q_R δ (Ad ad 103) x1.toNatClampNeg) - x5v) + (1 : Int32)) (by omega) (by omega); rw [← e37] at q48; obtain ⟨f49, f50, f51⟩ := q48) | (obtain ⟨q48, f49, f50, f51⟩ : ∃ q : Int, vx36.toInt = vx13.toInt + (((q_R δ (Ad ad 103) x1.toNatClampNeg) - x5v) + (1 : Int32)).toInt + 4294967296 * q ∧ -2147483648 ≤ vx36.toInt ∧ vx36.toInt ≤ 2147483647 := by rw [e37]; exact ti_add vx13 (((q_R δ (Ad ad 103) x1.toNatClampNeg) - x5v) + (1 : Int32)))
                unfold J_X12_sorted_180
                refine ok_ite (fun h52 => ?_) (fun h52 => ?_)
                · have c53 : x2.toInt = (1 : Int) := o_eq h52
                  refine ok_ite (fun h54 => ?_) (fun h54 => ?_)
                  · have c55 : (0 : Int) = (0 : Int) := o_eq h54
                    unfold J_X12_sorted_206
                    exact ok_some (show δ = δ from rfl)
                  · have c56 : (0 : Int) ≠ (0 : Int) := o_ne h54
                    refine ok_at o21 ?_
                    refine ok_gd (fun hc57 => ?_) ?_
                    · rcases hc57 with hc57 | hc57
                      · have c58 : x1.toInt < (0 : Int) := o_lt hc57
                        omega
                      · omega
                    first | (have q62 := te_subc (c := 1) (n := 1) rfl ((q_R δ (Ad ad 103) x1.toNatClampNeg) - x5v) (by omega) (by omega); obtain ⟨f63, f64, f65⟩ := q62) | (obtain ⟨q62, f63, f64, f65⟩ := ti_subc (c := 1) (n := 1) rfl ((q_R δ (Ad ad 103) x1.toNatClampNeg) - x5v))
                    refine ok_biv (fun vx59 e60 => ?_)
                    first | (have q66 := te_add vx36 (((q_R δ (Ad ad 103) x1.toNatClampNeg) - x5v) - (1 : Int32)) (by omega) (by omega); rw [← e60] at q66; obtain ⟨f67, f68, f69⟩ := q66) | (obtain ⟨q66, f67, f68, f69⟩ : ∃ q : Int, vx59.toInt = vx36.toInt + (((q_R δ (Ad ad 103) x1.toNatClampNeg) - x5v) - (1 : Int32)).toInt + 4294967296 * q ∧ -2147483648 ≤ vx59.toInt ∧ vx59.toInt ≤ 2147483647 := by rw [e60]; exact ti_add vx36 (((q_R δ (Ad ad 103) x1.toNatClampNeg) - x5v) - (1 : Int32)))
                    unfold J_X12_sorted_206
                    exact ok_some (show δ = δ from rfl)
                · have c70 : x2.toInt ≠ (1 : Int) := o_ne h52
                  unfold J_X12_sorted_206
                  exact ok_some (show δ = δ from rfl)
              · have c71 : (0 : Int) ≠ (0 : Int) := o_ne h32
                unfold J_X12_sorted_180
                refine ok_ite (fun h72 => ?_) (fun h72 => ?_)
                · have c73 : x2.toInt = (1 : Int) := o_eq h72
                  refine ok_ite (fun h74 => ?_) (fun h74 => ?_)
                  · have c75 : (0 : Int) = (0 : Int) := o_eq h74
                    unfold J_X12_sorted_206
                    exact ok_some (show δ = δ from rfl)
                  · have c76 : (0 : Int) ≠ (0 : Int) := o_ne h74
                    refine ok_at o21 ?_
                    refine ok_gd (fun hc77 => ?_) ?_
                    · rcases hc77 with hc77 | hc77
                      · have c78 : x1.toInt < (0 : Int) := o_lt hc77
                        omega
                      · omega
                    first | (have q82 := te_sub (q_R δ (Ad ad 103) x1.toNatClampNeg) x5v (by omega) (by omega); obtain ⟨f83, f84, f85⟩ := q82) | (obtain ⟨q82, f83, f84, f85⟩ := ti_sub (q_R δ (Ad ad 103) x1.toNatClampNeg) x5v)
                    first | (have q87 := te_subc (c := 1) (n := 1) rfl ((q_R δ (Ad ad 103) x1.toNatClampNeg) - x5v) (by omega) (by omega); obtain ⟨f88, f89, f90⟩ := q87) | (obtain ⟨q87, f88, f89, f90⟩ := ti_subc (c := 1) (n := 1) rfl ((q_R δ (Ad ad 103) x1.toNatClampNeg) - x5v))
                    refine ok_biv (fun vx79 e80 => ?_)
                    first | (have q91 := te_add vx13 (((q_R δ (Ad ad 103) x1.toNatClampNeg) - x5v) - (1 : Int32)) (by omega) (by omega); rw [← e80] at q91; obtain ⟨f92, f93, f94⟩ := q91) | (obtain ⟨q91, f92, f93, f94⟩ : ∃ q : Int, vx79.toInt = vx13.toInt + (((q_R δ (Ad ad 103) x1.toNatClampNeg) - x5v) - (1 : Int32)).toInt + 4294967296 * q ∧ -2147483648 ≤ vx79.toInt ∧ vx79.toInt ≤ 2147483647 := by rw [e80]; exact ti_add vx13 (((q_R δ (Ad ad 103) x1.toNatClampNeg) - x5v) - (1 : Int32)))
                    unfold J_X12_sorted_206
                    exact ok_some (show δ = δ from rfl)
                · have c95 : x2.toInt ≠ (1 : Int) := o_ne h72
                  unfold J_X12_sorted_206
                  exact ok_some (show δ = δ from rfl)
            · have c96 : x2.toInt ≠ (0 : Int) := o_ne h30
              unfold J_X12_sorted_180
              refine ok_ite (fun h97 => ?_) (fun h97 => ?_)
              · have c98 : x2.toInt = (1 : Int) := o_eq h97
                refine ok_ite (fun h99 => ?_) (fun h99 => ?_)
                · have c100 : (0 : Int) = (0 : Int) := o_eq h99
                  unfold J_X12_sorted_206
                  exact ok_some (show δ = δ from rfl)
                · have c101 : (0 : Int) ≠ (0 : Int) := o_ne h99
                  refine ok_at o21 ?_
                  refine ok_gd (fun hc102 => ?_) ?_
                  · rcases hc102 with hc102 | hc102
                    · have c103 : x1.toInt < (0 : Int) := o_lt hc102
                      omega
                    · omega
                  first | (have q107 := te_sub (q_R δ (Ad ad 103) x1.toNatClampNeg) x5v (by omega) (by omega); obtain ⟨f108, f109, f110⟩ := q107) | (obtain ⟨q107, f108, f109, f110⟩ := ti_sub (q_R δ (Ad ad 103) x1.toNatClampNeg) x5v)
                  first | (have q112 := te_subc (c := 1) (n := 1) rfl ((q_R δ (Ad ad 103) x1.toNatClampNeg) - x5v) (by omega) (by omega); obtain ⟨f113, f114, f115⟩ := q112) | (obtain ⟨q112, f113, f114, f115⟩ := ti_subc (c := 1) (n := 1) rfl ((q_R δ (Ad ad 103) x1.toNatClampNeg) - x5v))
                  refine ok_biv (fun vx104 e105 => ?_)
                  first | (have q116 := te_add vx13 (((q_R δ (Ad ad 103) x1.toNatClampNeg) - x5v) - (1 : Int32)) (by omega) (by omega); rw [← e105] at q116; obtain ⟨f117, f118, f119⟩ := q116) | (obtain ⟨q116, f117, f118, f119⟩ : ∃ q : Int, vx104.toInt = vx13.toInt + (((q_R δ (Ad ad 103) x1.toNatClampNeg) - x5v) - (1 : Int32)).toInt + 4294967296 * q ∧ -2147483648 ≤ vx104.toInt ∧ vx104.toInt ≤ 2147483647 := by rw [e105]; exact ti_add vx13 (((q_R δ (Ad ad 103) x1.toNatClampNeg) - x5v) - (1 : Int32)))
                  unfold J_X12_sorted_206
                  exact ok_some (show δ = δ from rfl)
              · have c120 : x2.toInt ≠ (1 : Int) := o_ne h97
                unfold J_X12_sorted_206
                exact ok_some (show δ = δ from rfl)
          · have c121 : x5v.toInt < (q_R δ (Ad ad 103) x1.toNatClampNeg).toInt := o_nle h28
            obtain ⟨b122, o123, k124, n125, w126⟩ := gO_12_13 L k_a0
            obtain rfl := gS_12_13 L k_a0 o123
            refine ok_at o123 ?_
            first | (have q128 := te_mulc (c := 2000) (n := 2000) rfl x1 (by omega) (by omega); obtain ⟨f129, f130, f131⟩ := q128) | (obtain ⟨q128, f129, f130, f131⟩ := ti_mulc (c := 2000) (n := 2000) rfl x1)
            first | (have q133 := te_add ((2000 : Int32) * x1) x5v (by omega) (by omega); obtain ⟨f134, f135, f136⟩ := q133) | (obtain ⟨q133, f134, f135, f136⟩ := ti_add ((2000 : Int32) * x1) x5v)
            have t137 := ti_tn (((2000 : Int32) * x1) + x5v)
            refine ok_gd (fun hc138 => ?_) ?_
            · rcases hc138 with hc138 | hc138
              · have c139 : (((2000 : Int32) * x1) + x5v).toInt < (0 : Int) := o_lt hc138
                omega
              · omega
            have f140 := ti_b (q_R δ (Ad ad 102) (((2000 : Int32) * x1) + x5v).toNatClampNeg)
            have f141 := ti_b x3
            refine ok_ite (fun h142 => ?_) (fun h142 => ?_)
            · have c143 : (q_R δ (Ad ad 102) (((2000 : Int32) * x1) + x5v).toNatClampNeg).toInt = x3.toInt := o_eq h142
              unfold J_X12_sorted_153
              refine ok_ite (fun h144 => ?_) (fun h144 => ?_)
              · have c145 : x2.toInt = (0 : Int) := o_eq h144
                refine ok_ite (fun h146 => ?_) (fun h146 => ?_)
                · have c147 : (1 : Int) = (0 : Int) := o_eq h146
                  refine ok_at o21 ?_
                  refine ok_gd (fun hc148 => ?_) ?_
                  · rcases hc148 with hc148 | hc148
                    · have c149 : x1.toInt < (0 : Int) := o_lt hc148
                      omega
                    · omega
                  first | (have q153 := te_sub (q_R δ (Ad ad 103) x1.toNatClampNeg) x5v (by omega) (by omega); obtain ⟨f154, f155, f156⟩ := q153) | (obtain ⟨q153, f154, f155, f156⟩ := ti_sub (q_R δ (Ad ad 103) x1.toNatClampNeg) x5v)
                  first | (have q158 := te_addc (c := 1) (n := 1) rfl ((q_R δ (Ad ad 103) x1.toNatClampNeg) - x5v) (by omega) (by omega); obtain ⟨f159, f160, f161⟩ := q158) | (obtain ⟨q158, f159, f160, f161⟩ := ti_addc (c := 1) (n := 1) rfl ((q_R δ (Ad ad 103) x1.toNatClampNeg) - x5v))
                  refine ok_biv (fun vx150 e151 => ?_)
                  first | (have q162 := te_add vx13 (((q_R δ (Ad ad 103) x1.toNatClampNeg) - x5v) + (1 : Int32)) (by omega) (by omega); rw [← e151] at q162; obtain ⟨f163, f164, f165⟩ := q162) | (obtain ⟨q162, f163, f164, f165⟩ : ∃ q : Int, vx150.toInt = vx13.toInt + (((q_R δ (Ad ad 103) x1.toNatClampNeg) - x5v) + (1 : Int32)).toInt + 4294967296 * q ∧ -2147483648 ≤ vx150.toInt ∧ vx150.toInt ≤ 2147483647 := by rw [e151]; exact ti_add vx13 (((q_R δ (Ad ad 103) x1.toNatClampNeg) - x5v) + (1 : Int32)))
                  unfold J_X12_sorted_180
                  refine ok_ite (fun h166 => ?_) (fun h166 => ?_)
                  · have c167 : x2.toInt = (1 : Int) := o_eq h166
                    refine ok_ite (fun h168 => ?_) (fun h168 => ?_)
                    · have c169 : (1 : Int) = (0 : Int) := o_eq h168
                      unfold J_X12_sorted_206
                      exact ok_some (show δ = δ from rfl)
                    · have c170 : (1 : Int) ≠ (0 : Int) := o_ne h168
                      refine ok_at o21 ?_
                      refine ok_gd (fun hc171 => ?_) ?_
                      · rcases hc171 with hc171 | hc171
                        · have c172 : x1.toInt < (0 : Int) := o_lt hc171
                          omega
                        · omega
                      first | (have q176 := te_subc (c := 1) (n := 1) rfl ((q_R δ (Ad ad 103) x1.toNatClampNeg) - x5v) (by omega) (by omega); obtain ⟨f177, f178, f179⟩ := q176) | (obtain ⟨q176, f177, f178, f179⟩ := ti_subc (c := 1) (n := 1) rfl ((q_R δ (Ad ad 103) x1.toNatClampNeg) - x5v))
                      refine ok_biv (fun vx173 e174 => ?_)
                      first | (have q180 := te_add vx150 (((q_R δ (Ad ad 103) x1.toNatClampNeg) - x5v) - (1 : Int32)) (by omega) (by omega); rw [← e174] at q180; obtain ⟨f181, f182, f183⟩ := q180) | (obtain ⟨q180, f181, f182, f183⟩ : ∃ q : Int, vx173.toInt = vx150.toInt + (((q_R δ (Ad ad 103) x1.toNatClampNeg) - x5v) - (1 : Int32)).toInt + 4294967296 * q ∧ -2147483648 ≤ vx173.toInt ∧ vx173.toInt ≤ 2147483647 := by rw [e174]; exact ti_add vx150 (((q_R δ (Ad ad 103) x1.toNatClampNeg) - x5v) - (1 : Int32)))
                      unfold J_X12_sorted_206
                      exact ok_some (show δ = δ from rfl)
                  · have c184 : x2.toInt ≠ (1 : Int) := o_ne h166
                    unfold J_X12_sorted_206
                    exact ok_some (show δ = δ from rfl)
                · have c185 : (1 : Int) ≠ (0 : Int) := o_ne h146
                  unfold J_X12_sorted_180
                  refine ok_ite (fun h186 => ?_) (fun h186 => ?_)
                  · have c187 : x2.toInt = (1 : Int) := o_eq h186
                    refine ok_ite (fun h188 => ?_) (fun h188 => ?_)
                    · have c189 : (1 : Int) = (0 : Int) := o_eq h188
                      unfold J_X12_sorted_206
                      exact ok_some (show δ = δ from rfl)
                    · have c190 : (1 : Int) ≠ (0 : Int) := o_ne h188
                      refine ok_at o21 ?_
                      refine ok_gd (fun hc191 => ?_) ?_
                      · rcases hc191 with hc191 | hc191
                        · have c192 : x1.toInt < (0 : Int) := o_lt hc191
                          omega
                        · omega
                      first | (have q196 := te_sub (q_R δ (Ad ad 103) x1.toNatClampNeg) x5v (by omega) (by omega); obtain ⟨f197, f198, f199⟩ := q196) | (obtain ⟨q196, f197, f198, f199⟩ := ti_sub (q_R δ (Ad ad 103) x1.toNatClampNeg) x5v)
                      first | (have q201 := te_subc (c := 1) (n := 1) rfl ((q_R δ (Ad ad 103) x1.toNatClampNeg) - x5v) (by omega) (by omega); obtain ⟨f202, f203, f204⟩ := q201) | (obtain ⟨q201, f202, f203, f204⟩ := ti_subc (c := 1) (n := 1) rfl ((q_R δ (Ad ad 103) x1.toNatClampNeg) - x5v))
                      refine ok_biv (fun vx193 e194 => ?_)
                      first | (have q205 := te_add vx13 (((q_R δ (Ad ad 103) x1.toNatClampNeg) - x5v) - (1 : Int32)) (by omega) (by omega); rw [← e194] at q205; obtain ⟨f206, f207, f208⟩ := q205) | (obtain ⟨q205, f206, f207, f208⟩ : ∃ q : Int, vx193.toInt = vx13.toInt + (((q_R δ (Ad ad 103) x1.toNatClampNeg) - x5v) - (1 : Int32)).toInt + 4294967296 * q ∧ -2147483648 ≤ vx193.toInt ∧ vx193.toInt ≤ 2147483647 := by rw [e194]; exact ti_add vx13 (((q_R δ (Ad ad 103) x1.toNatClampNeg) - x5v) - (1 : Int32)))
                      unfold J_X12_sorted_206
                      exact ok_some (show δ = δ from rfl)
                  · have c209 : x2.toInt ≠ (1 : Int) := o_ne h186
                    unfold J_X12_sorted_206
                    exact ok_some (show δ = δ from rfl)
              · have c210 : x2.toInt ≠ (0 : Int) := o_ne h144
                unfold J_X12_sorted_180
                refine ok_ite (fun h211 => ?_) (fun h211 => ?_)
                · have c212 : x2.toInt = (1 : Int) := o_eq h211
                  refine ok_ite (fun h213 => ?_) (fun h213 => ?_)
                  · have c214 : (1 : Int) = (0 : Int) := o_eq h213
                    unfold J_X12_sorted_206
                    exact ok_some (show δ = δ from rfl)
                  · have c215 : (1 : Int) ≠ (0 : Int) := o_ne h213
                    refine ok_at o21 ?_
                    refine ok_gd (fun hc216 => ?_) ?_
                    · rcases hc216 with hc216 | hc216
                      · have c217 : x1.toInt < (0 : Int) := o_lt hc216
                        omega
                      · omega
                    first | (have q221 := te_sub (q_R δ (Ad ad 103) x1.toNatClampNeg) x5v (by omega) (by omega); obtain ⟨f222, f223, f224⟩ := q221) | (obtain ⟨q221, f222, f223, f224⟩ := ti_sub (q_R δ (Ad ad 103) x1.toNatClampNeg) x5v)
                    first | (have q226 := te_subc (c := 1) (n := 1) rfl ((q_R δ (Ad ad 103) x1.toNatClampNeg) - x5v) (by omega) (by omega); obtain ⟨f227, f228, f229⟩ := q226) | (obtain ⟨q226, f227, f228, f229⟩ := ti_subc (c := 1) (n := 1) rfl ((q_R δ (Ad ad 103) x1.toNatClampNeg) - x5v))
                    refine ok_biv (fun vx218 e219 => ?_)
                    first | (have q230 := te_add vx13 (((q_R δ (Ad ad 103) x1.toNatClampNeg) - x5v) - (1 : Int32)) (by omega) (by omega); rw [← e219] at q230; obtain ⟨f231, f232, f233⟩ := q230) | (obtain ⟨q230, f231, f232, f233⟩ : ∃ q : Int, vx218.toInt = vx13.toInt + (((q_R δ (Ad ad 103) x1.toNatClampNeg) - x5v) - (1 : Int32)).toInt + 4294967296 * q ∧ -2147483648 ≤ vx218.toInt ∧ vx218.toInt ≤ 2147483647 := by rw [e219]; exact ti_add vx13 (((q_R δ (Ad ad 103) x1.toNatClampNeg) - x5v) - (1 : Int32)))
                    unfold J_X12_sorted_206
                    exact ok_some (show δ = δ from rfl)
                · have c234 : x2.toInt ≠ (1 : Int) := o_ne h211
                  unfold J_X12_sorted_206
                  exact ok_some (show δ = δ from rfl)
            · have c235 : (q_R δ (Ad ad 102) (((2000 : Int32) * x1) + x5v).toNatClampNeg).toInt ≠ x3.toInt := o_ne h142
              unfold J_X12_sorted_152
              unfold J_X12_sorted_153
              refine ok_ite (fun h236 => ?_) (fun h236 => ?_)
              · have c237 : x2.toInt = (0 : Int) := o_eq h236
                refine ok_ite (fun h238 => ?_) (fun h238 => ?_)
                · have c239 : (0 : Int) = (0 : Int) := o_eq h238
                  refine ok_at o21 ?_
                  refine ok_gd (fun hc240 => ?_) ?_
                  · rcases hc240 with hc240 | hc240
                    · have c241 : x1.toInt < (0 : Int) := o_lt hc240
                      omega
                    · omega
                  first | (have q245 := te_sub (q_R δ (Ad ad 103) x1.toNatClampNeg) x5v (by omega) (by omega); obtain ⟨f246, f247, f248⟩ := q245) | (obtain ⟨q245, f246, f247, f248⟩ := ti_sub (q_R δ (Ad ad 103) x1.toNatClampNeg) x5v)
                  first | (have q250 := te_addc (c := 1) (n := 1) rfl ((q_R δ (Ad ad 103) x1.toNatClampNeg) - x5v) (by omega) (by omega); obtain ⟨f251, f252, f253⟩ := q250) | (obtain ⟨q250, f251, f252, f253⟩ := ti_addc (c := 1) (n := 1) rfl ((q_R δ (Ad ad 103) x1.toNatClampNeg) - x5v))
                  refine ok_biv (fun vx242 e243 => ?_)
                  first | (have q254 := te_add vx13 (((q_R δ (Ad ad 103) x1.toNatClampNeg) - x5v) + (1 : Int32)) (by omega) (by omega); rw [← e243] at q254; obtain ⟨f255, f256, f257⟩ := q254) | (obtain ⟨q254, f255, f256, f257⟩ : ∃ q : Int, vx242.toInt = vx13.toInt + (((q_R δ (Ad ad 103) x1.toNatClampNeg) - x5v) + (1 : Int32)).toInt + 4294967296 * q ∧ -2147483648 ≤ vx242.toInt ∧ vx242.toInt ≤ 2147483647 := by rw [e243]; exact ti_add vx13 (((q_R δ (Ad ad 103) x1.toNatClampNeg) - x5v) + (1 : Int32)))
                  unfold J_X12_sorted_180
                  refine ok_ite (fun h258 => ?_) (fun h258 => ?_)
                  · have c259 : x2.toInt = (1 : Int) := o_eq h258
                    refine ok_ite (fun h260 => ?_) (fun h260 => ?_)
                    · have c261 : (0 : Int) = (0 : Int) := o_eq h260
                      unfold J_X12_sorted_206
                      exact ok_some (show δ = δ from rfl)
                    · have c262 : (0 : Int) ≠ (0 : Int) := o_ne h260
                      refine ok_at o21 ?_
                      refine ok_gd (fun hc263 => ?_) ?_
                      · rcases hc263 with hc263 | hc263
                        · have c264 : x1.toInt < (0 : Int) := o_lt hc263
                          omega
                        · omega
                      first | (have q268 := te_subc (c := 1) (n := 1) rfl ((q_R δ (Ad ad 103) x1.toNatClampNeg) - x5v) (by omega) (by omega); obtain ⟨f269, f270, f271⟩ := q268) | (obtain ⟨q268, f269, f270, f271⟩ := ti_subc (c := 1) (n := 1) rfl ((q_R δ (Ad ad 103) x1.toNatClampNeg) - x5v))
                      refine ok_biv (fun vx265 e266 => ?_)
                      first | (have q272 := te_add vx242 (((q_R δ (Ad ad 103) x1.toNatClampNeg) - x5v) - (1 : Int32)) (by omega) (by omega); rw [← e266] at q272; obtain ⟨f273, f274, f275⟩ := q272) | (obtain ⟨q272, f273, f274, f275⟩ : ∃ q : Int, vx265.toInt = vx242.toInt + (((q_R δ (Ad ad 103) x1.toNatClampNeg) - x5v) - (1 : Int32)).toInt + 4294967296 * q ∧ -2147483648 ≤ vx265.toInt ∧ vx265.toInt ≤ 2147483647 := by rw [e266]; exact ti_add vx242 (((q_R δ (Ad ad 103) x1.toNatClampNeg) - x5v) - (1 : Int32)))
                      unfold J_X12_sorted_206
                      exact ok_some (show δ = δ from rfl)
                  · have c276 : x2.toInt ≠ (1 : Int) := o_ne h258
                    unfold J_X12_sorted_206
                    exact ok_some (show δ = δ from rfl)
                · have c277 : (0 : Int) ≠ (0 : Int) := o_ne h238
                  unfold J_X12_sorted_180
                  refine ok_ite (fun h278 => ?_) (fun h278 => ?_)
                  · have c279 : x2.toInt = (1 : Int) := o_eq h278
                    refine ok_ite (fun h280 => ?_) (fun h280 => ?_)
                    · have c281 : (0 : Int) = (0 : Int) := o_eq h280
                      unfold J_X12_sorted_206
                      exact ok_some (show δ = δ from rfl)
                    · have c282 : (0 : Int) ≠ (0 : Int) := o_ne h280
                      refine ok_at o21 ?_
                      refine ok_gd (fun hc283 => ?_) ?_
                      · rcases hc283 with hc283 | hc283
                        · have c284 : x1.toInt < (0 : Int) := o_lt hc283
                          omega
                        · omega
                      first | (have q288 := te_sub (q_R δ (Ad ad 103) x1.toNatClampNeg) x5v (by omega) (by omega); obtain ⟨f289, f290, f291⟩ := q288) | (obtain ⟨q288, f289, f290, f291⟩ := ti_sub (q_R δ (Ad ad 103) x1.toNatClampNeg) x5v)
                      first | (have q293 := te_subc (c := 1) (n := 1) rfl ((q_R δ (Ad ad 103) x1.toNatClampNeg) - x5v) (by omega) (by omega); obtain ⟨f294, f295, f296⟩ := q293) | (obtain ⟨q293, f294, f295, f296⟩ := ti_subc (c := 1) (n := 1) rfl ((q_R δ (Ad ad 103) x1.toNatClampNeg) - x5v))
                      refine ok_biv (fun vx285 e286 => ?_)
                      first | (have q297 := te_add vx13 (((q_R δ (Ad ad 103) x1.toNatClampNeg) - x5v) - (1 : Int32)) (by omega) (by omega); rw [← e286] at q297; obtain ⟨f298, f299, f300⟩ := q297) | (obtain ⟨q297, f298, f299, f300⟩ : ∃ q : Int, vx285.toInt = vx13.toInt + (((q_R δ (Ad ad 103) x1.toNatClampNeg) - x5v) - (1 : Int32)).toInt + 4294967296 * q ∧ -2147483648 ≤ vx285.toInt ∧ vx285.toInt ≤ 2147483647 := by rw [e286]; exact ti_add vx13 (((q_R δ (Ad ad 103) x1.toNatClampNeg) - x5v) - (1 : Int32)))
                      unfold J_X12_sorted_206
                      exact ok_some (show δ = δ from rfl)
                  · have c301 : x2.toInt ≠ (1 : Int) := o_ne h278
                    unfold J_X12_sorted_206
                    exact ok_some (show δ = δ from rfl)
              · have c302 : x2.toInt ≠ (0 : Int) := o_ne h236
                unfold J_X12_sorted_180
                refine ok_ite (fun h303 => ?_) (fun h303 => ?_)
                · have c304 : x2.toInt = (1 : Int) := o_eq h303
                  refine ok_ite (fun h305 => ?_) (fun h305 => ?_)
                  · have c306 : (0 : Int) = (0 : Int) := o_eq h305
                    unfold J_X12_sorted_206
                    exact ok_some (show δ = δ from rfl)
                  · have c307 : (0 : Int) ≠ (0 : Int) := o_ne h305
                    refine ok_at o21 ?_
                    refine ok_gd (fun hc308 => ?_) ?_
                    · rcases hc308 with hc308 | hc308
                      · have c309 : x1.toInt < (0 : Int) := o_lt hc308
                        omega
                      · omega
                    first | (have q313 := te_sub (q_R δ (Ad ad 103) x1.toNatClampNeg) x5v (by omega) (by omega); obtain ⟨f314, f315, f316⟩ := q313) | (obtain ⟨q313, f314, f315, f316⟩ := ti_sub (q_R δ (Ad ad 103) x1.toNatClampNeg) x5v)
                    first | (have q318 := te_subc (c := 1) (n := 1) rfl ((q_R δ (Ad ad 103) x1.toNatClampNeg) - x5v) (by omega) (by omega); obtain ⟨f319, f320, f321⟩ := q318) | (obtain ⟨q318, f319, f320, f321⟩ := ti_subc (c := 1) (n := 1) rfl ((q_R δ (Ad ad 103) x1.toNatClampNeg) - x5v))
                    refine ok_biv (fun vx310 e311 => ?_)
                    first | (have q322 := te_add vx13 (((q_R δ (Ad ad 103) x1.toNatClampNeg) - x5v) - (1 : Int32)) (by omega) (by omega); rw [← e311] at q322; obtain ⟨f323, f324, f325⟩ := q322) | (obtain ⟨q322, f323, f324, f325⟩ : ∃ q : Int, vx310.toInt = vx13.toInt + (((q_R δ (Ad ad 103) x1.toNatClampNeg) - x5v) - (1 : Int32)).toInt + 4294967296 * q ∧ -2147483648 ≤ vx310.toInt ∧ vx310.toInt ≤ 2147483647 := by rw [e311]; exact ti_add vx13 (((q_R δ (Ad ad 103) x1.toNatClampNeg) - x5v) - (1 : Int32)))
                    unfold J_X12_sorted_206
                    exact ok_some (show δ = δ from rfl)
                · have c326 : x2.toInt ≠ (1 : Int) := o_ne h303
                  unfold J_X12_sorted_206
                  exact ok_some (show δ = δ from rfl)
        · have c327 : (0 : Int) < x5v.toInt := o_nle h11
          unfold J_X12_sorted_117
          have f330 := ti_b x7v
          refine ok_biv (fun vx328 e329 => ?_)
          first | (have q331 := te_addc (c := 1) (n := 1) rfl x7v (by omega) (by omega); rw [← e329] at q331; obtain ⟨f332, f333, f334⟩ := q331) | (obtain ⟨q331, f332, f333, f334⟩ : ∃ q : Int, vx328.toInt = x7v.toInt + (1 : Int) + 4294967296 * q ∧ -2147483648 ≤ vx328.toInt ∧ vx328.toInt ≤ 2147483647 := by rw [e329]; exact ti_addc (c := 1) (n := 1) rfl x7v)
          obtain ⟨b335, o336, k337, n338⟩ := gO_12_14 L k_a0
          obtain rfl := gS_12_14 L k_a0 o336
          refine ok_at o336 ?_
          have t339 := ti_tn x1
          refine ok_gd (fun hc340 => ?_) ?_
          · rcases hc340 with hc340 | hc340
            · have c341 : x1.toInt < (0 : Int) := o_lt hc340
              omega
            · omega
          have f342 := rb_103 L I x1.toNatClampNeg
          refine ok_ite (fun h343 => ?_) (fun h343 => ?_)
          · have c344 : (q_R δ (Ad ad 103) x1.toNatClampNeg).toInt ≤ x5v.toInt := o_le h343
            unfold J_X12_sorted_152
            unfold J_X12_sorted_153
            refine ok_ite (fun h345 => ?_) (fun h345 => ?_)
            · have c346 : x2.toInt = (0 : Int) := o_eq h345
              refine ok_ite (fun h347 => ?_) (fun h347 => ?_)
              · have c348 : (0 : Int) = (0 : Int) := o_eq h347
                refine ok_at o336 ?_
                refine ok_gd (fun hc349 => ?_) ?_
                · rcases hc349 with hc349 | hc349
                  · have c350 : x1.toInt < (0 : Int) := o_lt hc349
                    omega
                  · omega
                first | (have q354 := te_sub (q_R δ (Ad ad 103) x1.toNatClampNeg) x5v (by omega) (by omega); obtain ⟨f355, f356, f357⟩ := q354) | (obtain ⟨q354, f355, f356, f357⟩ := ti_sub (q_R δ (Ad ad 103) x1.toNatClampNeg) x5v)
                first | (have q359 := te_addc (c := 1) (n := 1) rfl ((q_R δ (Ad ad 103) x1.toNatClampNeg) - x5v) (by omega) (by omega); obtain ⟨f360, f361, f362⟩ := q359) | (obtain ⟨q359, f360, f361, f362⟩ := ti_addc (c := 1) (n := 1) rfl ((q_R δ (Ad ad 103) x1.toNatClampNeg) - x5v))
                refine ok_biv (fun vx351 e352 => ?_)
                first | (have q363 := te_add vx328 (((q_R δ (Ad ad 103) x1.toNatClampNeg) - x5v) + (1 : Int32)) (by omega) (by omega); rw [← e352] at q363; obtain ⟨f364, f365, f366⟩ := q363) | (obtain ⟨q363, f364, f365, f366⟩ : ∃ q : Int, vx351.toInt = vx328.toInt + (((q_R δ (Ad ad 103) x1.toNatClampNeg) - x5v) + (1 : Int32)).toInt + 4294967296 * q ∧ -2147483648 ≤ vx351.toInt ∧ vx351.toInt ≤ 2147483647 := by rw [e352]; exact ti_add vx328 (((q_R δ (Ad ad 103) x1.toNatClampNeg) - x5v) + (1 : Int32)))
                unfold J_X12_sorted_180
                refine ok_ite (fun h367 => ?_) (fun h367 => ?_)
                · have c368 : x2.toInt = (1 : Int) := o_eq h367
                  refine ok_ite (fun h369 => ?_) (fun h369 => ?_)
                  · have c370 : (0 : Int) = (0 : Int) := o_eq h369
                    unfold J_X12_sorted_206
                    exact ok_some (show δ = δ from rfl)
                  · have c371 : (0 : Int) ≠ (0 : Int) := o_ne h369
                    refine ok_at o336 ?_
                    refine ok_gd (fun hc372 => ?_) ?_
                    · rcases hc372 with hc372 | hc372
                      · have c373 : x1.toInt < (0 : Int) := o_lt hc372
                        omega
                      · omega
                    first | (have q377 := te_subc (c := 1) (n := 1) rfl ((q_R δ (Ad ad 103) x1.toNatClampNeg) - x5v) (by omega) (by omega); obtain ⟨f378, f379, f380⟩ := q377) | (obtain ⟨q377, f378, f379, f380⟩ := ti_subc (c := 1) (n := 1) rfl ((q_R δ (Ad ad 103) x1.toNatClampNeg) - x5v))
                    refine ok_biv (fun vx374 e375 => ?_)
                    first | (have q381 := te_add vx351 (((q_R δ (Ad ad 103) x1.toNatClampNeg) - x5v) - (1 : Int32)) (by omega) (by omega); rw [← e375] at q381; obtain ⟨f382, f383, f384⟩ := q381) | (obtain ⟨q381, f382, f383, f384⟩ : ∃ q : Int, vx374.toInt = vx351.toInt + (((q_R δ (Ad ad 103) x1.toNatClampNeg) - x5v) - (1 : Int32)).toInt + 4294967296 * q ∧ -2147483648 ≤ vx374.toInt ∧ vx374.toInt ≤ 2147483647 := by rw [e375]; exact ti_add vx351 (((q_R δ (Ad ad 103) x1.toNatClampNeg) - x5v) - (1 : Int32)))
                    unfold J_X12_sorted_206
                    exact ok_some (show δ = δ from rfl)
                · have c385 : x2.toInt ≠ (1 : Int) := o_ne h367
                  unfold J_X12_sorted_206
                  exact ok_some (show δ = δ from rfl)
              · have c386 : (0 : Int) ≠ (0 : Int) := o_ne h347
                unfold J_X12_sorted_180
                refine ok_ite (fun h387 => ?_) (fun h387 => ?_)
                · have c388 : x2.toInt = (1 : Int) := o_eq h387
                  refine ok_ite (fun h389 => ?_) (fun h389 => ?_)
                  · have c390 : (0 : Int) = (0 : Int) := o_eq h389
                    unfold J_X12_sorted_206
                    exact ok_some (show δ = δ from rfl)
                  · have c391 : (0 : Int) ≠ (0 : Int) := o_ne h389
                    refine ok_at o336 ?_
                    refine ok_gd (fun hc392 => ?_) ?_
                    · rcases hc392 with hc392 | hc392
                      · have c393 : x1.toInt < (0 : Int) := o_lt hc392
                        omega
                      · omega
                    first | (have q397 := te_sub (q_R δ (Ad ad 103) x1.toNatClampNeg) x5v (by omega) (by omega); obtain ⟨f398, f399, f400⟩ := q397) | (obtain ⟨q397, f398, f399, f400⟩ := ti_sub (q_R δ (Ad ad 103) x1.toNatClampNeg) x5v)
                    first | (have q402 := te_subc (c := 1) (n := 1) rfl ((q_R δ (Ad ad 103) x1.toNatClampNeg) - x5v) (by omega) (by omega); obtain ⟨f403, f404, f405⟩ := q402) | (obtain ⟨q402, f403, f404, f405⟩ := ti_subc (c := 1) (n := 1) rfl ((q_R δ (Ad ad 103) x1.toNatClampNeg) - x5v))
                    refine ok_biv (fun vx394 e395 => ?_)
                    first | (have q406 := te_add vx328 (((q_R δ (Ad ad 103) x1.toNatClampNeg) - x5v) - (1 : Int32)) (by omega) (by omega); rw [← e395] at q406; obtain ⟨f407, f408, f409⟩ := q406) | (obtain ⟨q406, f407, f408, f409⟩ : ∃ q : Int, vx394.toInt = vx328.toInt + (((q_R δ (Ad ad 103) x1.toNatClampNeg) - x5v) - (1 : Int32)).toInt + 4294967296 * q ∧ -2147483648 ≤ vx394.toInt ∧ vx394.toInt ≤ 2147483647 := by rw [e395]; exact ti_add vx328 (((q_R δ (Ad ad 103) x1.toNatClampNeg) - x5v) - (1 : Int32)))
                    unfold J_X12_sorted_206
                    exact ok_some (show δ = δ from rfl)
                · have c410 : x2.toInt ≠ (1 : Int) := o_ne h387
                  unfold J_X12_sorted_206
                  exact ok_some (show δ = δ from rfl)
            · have c411 : x2.toInt ≠ (0 : Int) := o_ne h345
              unfold J_X12_sorted_180
              refine ok_ite (fun h412 => ?_) (fun h412 => ?_)
              · have c413 : x2.toInt = (1 : Int) := o_eq h412
                refine ok_ite (fun h414 => ?_) (fun h414 => ?_)
                · have c415 : (0 : Int) = (0 : Int) := o_eq h414
                  unfold J_X12_sorted_206
                  exact ok_some (show δ = δ from rfl)
                · have c416 : (0 : Int) ≠ (0 : Int) := o_ne h414
                  refine ok_at o336 ?_
                  refine ok_gd (fun hc417 => ?_) ?_
                  · rcases hc417 with hc417 | hc417
                    · have c418 : x1.toInt < (0 : Int) := o_lt hc417
                      omega
                    · omega
                  first | (have q422 := te_sub (q_R δ (Ad ad 103) x1.toNatClampNeg) x5v (by omega) (by omega); obtain ⟨f423, f424, f425⟩ := q422) | (obtain ⟨q422, f423, f424, f425⟩ := ti_sub (q_R δ (Ad ad 103) x1.toNatClampNeg) x5v)
                  first | (have q427 := te_subc (c := 1) (n := 1) rfl ((q_R δ (Ad ad 103) x1.toNatClampNeg) - x5v) (by omega) (by omega); obtain ⟨f428, f429, f430⟩ := q427) | (obtain ⟨q427, f428, f429, f430⟩ := ti_subc (c := 1) (n := 1) rfl ((q_R δ (Ad ad 103) x1.toNatClampNeg) - x5v))
                  refine ok_biv (fun vx419 e420 => ?_)
                  first | (have q431 := te_add vx328 (((q_R δ (Ad ad 103) x1.toNatClampNeg) - x5v) - (1 : Int32)) (by omega) (by omega); rw [← e420] at q431; obtain ⟨f432, f433, f434⟩ := q431) | (obtain ⟨q431, f432, f433, f434⟩ : ∃ q : Int, vx419.toInt = vx328.toInt + (((q_R δ (Ad ad 103) x1.toNatClampNeg) - x5v) - (1 : Int32)).toInt + 4294967296 * q ∧ -2147483648 ≤ vx419.toInt ∧ vx419.toInt ≤ 2147483647 := by rw [e420]; exact ti_add vx328 (((q_R δ (Ad ad 103) x1.toNatClampNeg) - x5v) - (1 : Int32)))
                  unfold J_X12_sorted_206
                  exact ok_some (show δ = δ from rfl)
              · have c435 : x2.toInt ≠ (1 : Int) := o_ne h412
                unfold J_X12_sorted_206
                exact ok_some (show δ = δ from rfl)
          · have c436 : x5v.toInt < (q_R δ (Ad ad 103) x1.toNatClampNeg).toInt := o_nle h343
            obtain ⟨b437, o438, k439, n440, w441⟩ := gO_12_13 L k_a0
            obtain rfl := gS_12_13 L k_a0 o438
            refine ok_at o438 ?_
            first | (have q443 := te_mulc (c := 2000) (n := 2000) rfl x1 (by omega) (by omega); obtain ⟨f444, f445, f446⟩ := q443) | (obtain ⟨q443, f444, f445, f446⟩ := ti_mulc (c := 2000) (n := 2000) rfl x1)
            first | (have q448 := te_add ((2000 : Int32) * x1) x5v (by omega) (by omega); obtain ⟨f449, f450, f451⟩ := q448) | (obtain ⟨q448, f449, f450, f451⟩ := ti_add ((2000 : Int32) * x1) x5v)
            have t452 := ti_tn (((2000 : Int32) * x1) + x5v)
            refine ok_gd (fun hc453 => ?_) ?_
            · rcases hc453 with hc453 | hc453
              · have c454 : (((2000 : Int32) * x1) + x5v).toInt < (0 : Int) := o_lt hc453
                omega
              · omega
            have f455 := ti_b (q_R δ (Ad ad 102) (((2000 : Int32) * x1) + x5v).toNatClampNeg)
            have f456 := ti_b x3
            refine ok_ite (fun h457 => ?_) (fun h457 => ?_)
            · have c458 : (q_R δ (Ad ad 102) (((2000 : Int32) * x1) + x5v).toNatClampNeg).toInt = x3.toInt := o_eq h457
              unfold J_X12_sorted_153
              refine ok_ite (fun h459 => ?_) (fun h459 => ?_)
              · have c460 : x2.toInt = (0 : Int) := o_eq h459
                refine ok_ite (fun h461 => ?_) (fun h461 => ?_)
                · have c462 : (1 : Int) = (0 : Int) := o_eq h461
                  refine ok_at o336 ?_
                  refine ok_gd (fun hc463 => ?_) ?_
                  · rcases hc463 with hc463 | hc463
                    · have c464 : x1.toInt < (0 : Int) := o_lt hc463
                      omega
                    · omega
                  first | (have q468 := te_sub (q_R δ (Ad ad 103) x1.toNatClampNeg) x5v (by omega) (by omega); obtain ⟨f469, f470, f471⟩ := q468) | (obtain ⟨q468, f469, f470, f471⟩ := ti_sub (q_R δ (Ad ad 103) x1.toNatClampNeg) x5v)
                  first | (have q473 := te_addc (c := 1) (n := 1) rfl ((q_R δ (Ad ad 103) x1.toNatClampNeg) - x5v) (by omega) (by omega); obtain ⟨f474, f475, f476⟩ := q473) | (obtain ⟨q473, f474, f475, f476⟩ := ti_addc (c := 1) (n := 1) rfl ((q_R δ (Ad ad 103) x1.toNatClampNeg) - x5v))
                  refine ok_biv (fun vx465 e466 => ?_)
                  first | (have q477 := te_add vx328 (((q_R δ (Ad ad 103) x1.toNatClampNeg) - x5v) + (1 : Int32)) (by omega) (by omega); rw [← e466] at q477; obtain ⟨f478, f479, f480⟩ := q477) | (obtain ⟨q477, f478, f479, f480⟩ : ∃ q : Int, vx465.toInt = vx328.toInt + (((q_R δ (Ad ad 103) x1.toNatClampNeg) - x5v) + (1 : Int32)).toInt + 4294967296 * q ∧ -2147483648 ≤ vx465.toInt ∧ vx465.toInt ≤ 2147483647 := by rw [e466]; exact ti_add vx328 (((q_R δ (Ad ad 103) x1.toNatClampNeg) - x5v) + (1 : Int32)))
                  unfold J_X12_sorted_180
                  refine ok_ite (fun h481 => ?_) (fun h481 => ?_)
                  · have c482 : x2.toInt = (1 : Int) := o_eq h481
                    refine ok_ite (fun h483 => ?_) (fun h483 => ?_)
                    · have c484 : (1 : Int) = (0 : Int) := o_eq h483
                      unfold J_X12_sorted_206
                      exact ok_some (show δ = δ from rfl)
                    · have c485 : (1 : Int) ≠ (0 : Int) := o_ne h483
                      refine ok_at o336 ?_
                      refine ok_gd (fun hc486 => ?_) ?_
                      · rcases hc486 with hc486 | hc486
                        · have c487 : x1.toInt < (0 : Int) := o_lt hc486
                          omega
                        · omega
                      first | (have q491 := te_subc (c := 1) (n := 1) rfl ((q_R δ (Ad ad 103) x1.toNatClampNeg) - x5v) (by omega) (by omega); obtain ⟨f492, f493, f494⟩ := q491) | (obtain ⟨q491, f492, f493, f494⟩ := ti_subc (c := 1) (n := 1) rfl ((q_R δ (Ad ad 103) x1.toNatClampNeg) - x5v))
                      refine ok_biv (fun vx488 e489 => ?_)
                      first | (have q495 := te_add vx465 (((q_R δ (Ad ad 103) x1.toNatClampNeg) - x5v) - (1 : Int32)) (by omega) (by omega); rw [← e489] at q495; obtain ⟨f496, f497, f498⟩ := q495) | (obtain ⟨q495, f496, f497, f498⟩ : ∃ q : Int, vx488.toInt = vx465.toInt + (((q_R δ (Ad ad 103) x1.toNatClampNeg) - x5v) - (1 : Int32)).toInt + 4294967296 * q ∧ -2147483648 ≤ vx488.toInt ∧ vx488.toInt ≤ 2147483647 := by rw [e489]; exact ti_add vx465 (((q_R δ (Ad ad 103) x1.toNatClampNeg) - x5v) - (1 : Int32)))
                      unfold J_X12_sorted_206
                      exact ok_some (show δ = δ from rfl)
                  · have c499 : x2.toInt ≠ (1 : Int) := o_ne h481
                    unfold J_X12_sorted_206
                    exact ok_some (show δ = δ from rfl)
                · have c500 : (1 : Int) ≠ (0 : Int) := o_ne h461
                  unfold J_X12_sorted_180
                  refine ok_ite (fun h501 => ?_) (fun h501 => ?_)
                  · have c502 : x2.toInt = (1 : Int) := o_eq h501
                    refine ok_ite (fun h503 => ?_) (fun h503 => ?_)
                    · have c504 : (1 : Int) = (0 : Int) := o_eq h503
                      unfold J_X12_sorted_206
                      exact ok_some (show δ = δ from rfl)
                    · have c505 : (1 : Int) ≠ (0 : Int) := o_ne h503
                      refine ok_at o336 ?_
                      refine ok_gd (fun hc506 => ?_) ?_
                      · rcases hc506 with hc506 | hc506
                        · have c507 : x1.toInt < (0 : Int) := o_lt hc506
                          omega
                        · omega
                      first | (have q511 := te_sub (q_R δ (Ad ad 103) x1.toNatClampNeg) x5v (by omega) (by omega); obtain ⟨f512, f513, f514⟩ := q511) | (obtain ⟨q511, f512, f513, f514⟩ := ti_sub (q_R δ (Ad ad 103) x1.toNatClampNeg) x5v)
                      first | (have q516 := te_subc (c := 1) (n := 1) rfl ((q_R δ (Ad ad 103) x1.toNatClampNeg) - x5v) (by omega) (by omega); obtain ⟨f517, f518, f519⟩ := q516) | (obtain ⟨q516, f517, f518, f519⟩ := ti_subc (c := 1) (n := 1) rfl ((q_R δ (Ad ad 103) x1.toNatClampNeg) - x5v))
                      refine ok_biv (fun vx508 e509 => ?_)
                      first | (have q520 := te_add vx328 (((q_R δ (Ad ad 103) x1.toNatClampNeg) - x5v) - (1 : Int32)) (by omega) (by omega); rw [← e509] at q520; obtain ⟨f521, f522, f523⟩ := q520) | (obtain ⟨q520, f521, f522, f523⟩ : ∃ q : Int, vx508.toInt = vx328.toInt + (((q_R δ (Ad ad 103) x1.toNatClampNeg) - x5v) - (1 : Int32)).toInt + 4294967296 * q ∧ -2147483648 ≤ vx508.toInt ∧ vx508.toInt ≤ 2147483647 := by rw [e509]; exact ti_add vx328 (((q_R δ (Ad ad 103) x1.toNatClampNeg) - x5v) - (1 : Int32)))
                      unfold J_X12_sorted_206
                      exact ok_some (show δ = δ from rfl)
                  · have c524 : x2.toInt ≠ (1 : Int) := o_ne h501
                    unfold J_X12_sorted_206
                    exact ok_some (show δ = δ from rfl)
              · have c525 : x2.toInt ≠ (0 : Int) := o_ne h459
                unfold J_X12_sorted_180
                refine ok_ite (fun h526 => ?_) (fun h526 => ?_)
                · have c527 : x2.toInt = (1 : Int) := o_eq h526
                  refine ok_ite (fun h528 => ?_) (fun h528 => ?_)
                  · have c529 : (1 : Int) = (0 : Int) := o_eq h528
                    unfold J_X12_sorted_206
                    exact ok_some (show δ = δ from rfl)
                  · have c530 : (1 : Int) ≠ (0 : Int) := o_ne h528
                    refine ok_at o336 ?_
                    refine ok_gd (fun hc531 => ?_) ?_
                    · rcases hc531 with hc531 | hc531
                      · have c532 : x1.toInt < (0 : Int) := o_lt hc531
                        omega
                      · omega
                    first | (have q536 := te_sub (q_R δ (Ad ad 103) x1.toNatClampNeg) x5v (by omega) (by omega); obtain ⟨f537, f538, f539⟩ := q536) | (obtain ⟨q536, f537, f538, f539⟩ := ti_sub (q_R δ (Ad ad 103) x1.toNatClampNeg) x5v)
                    first | (have q541 := te_subc (c := 1) (n := 1) rfl ((q_R δ (Ad ad 103) x1.toNatClampNeg) - x5v) (by omega) (by omega); obtain ⟨f542, f543, f544⟩ := q541) | (obtain ⟨q541, f542, f543, f544⟩ := ti_subc (c := 1) (n := 1) rfl ((q_R δ (Ad ad 103) x1.toNatClampNeg) - x5v))
                    refine ok_biv (fun vx533 e534 => ?_)
                    first | (have q545 := te_add vx328 (((q_R δ (Ad ad 103) x1.toNatClampNeg) - x5v) - (1 : Int32)) (by omega) (by omega); rw [← e534] at q545; obtain ⟨f546, f547, f548⟩ := q545) | (obtain ⟨q545, f546, f547, f548⟩ : ∃ q : Int, vx533.toInt = vx328.toInt + (((q_R δ (Ad ad 103) x1.toNatClampNeg) - x5v) - (1 : Int32)).toInt + 4294967296 * q ∧ -2147483648 ≤ vx533.toInt ∧ vx533.toInt ≤ 2147483647 := by rw [e534]; exact ti_add vx328 (((q_R δ (Ad ad 103) x1.toNatClampNeg) - x5v) - (1 : Int32)))
                    unfold J_X12_sorted_206
                    exact ok_some (show δ = δ from rfl)
                · have c549 : x2.toInt ≠ (1 : Int) := o_ne h526
                  unfold J_X12_sorted_206
                  exact ok_some (show δ = δ from rfl)
            · have c550 : (q_R δ (Ad ad 102) (((2000 : Int32) * x1) + x5v).toNatClampNeg).toInt ≠ x3.toInt := o_ne h457
              unfold J_X12_sorted_152
              unfold J_X12_sorted_153
              refine ok_ite (fun h551 => ?_) (fun h551 => ?_)
              · have c552 : x2.toInt = (0 : Int) := o_eq h551
                refine ok_ite (fun h553 => ?_) (fun h553 => ?_)
                · have c554 : (0 : Int) = (0 : Int) := o_eq h553
                  refine ok_at o336 ?_
                  refine ok_gd (fun hc555 => ?_) ?_
                  · rcases hc555 with hc555 | hc555
                    · have c556 : x1.toInt < (0 : Int) := o_lt hc555
                      omega
                    · omega
                  first | (have q560 := te_sub (q_R δ (Ad ad 103) x1.toNatClampNeg) x5v (by omega) (by omega); obtain ⟨f561, f562, f563⟩ := q560) | (obtain ⟨q560, f561, f562, f563⟩ := ti_sub (q_R δ (Ad ad 103) x1.toNatClampNeg) x5v)
                  first | (have q565 := te_addc (c := 1) (n := 1) rfl ((q_R δ (Ad ad 103) x1.toNatClampNeg) - x5v) (by omega) (by omega); obtain ⟨f566, f567, f568⟩ := q565) | (obtain ⟨q565, f566, f567, f568⟩ := ti_addc (c := 1) (n := 1) rfl ((q_R δ (Ad ad 103) x1.toNatClampNeg) - x5v))
                  refine ok_biv (fun vx557 e558 => ?_)
                  first | (have q569 := te_add vx328 (((q_R δ (Ad ad 103) x1.toNatClampNeg) - x5v) + (1 : Int32)) (by omega) (by omega); rw [← e558] at q569; obtain ⟨f570, f571, f572⟩ := q569) | (obtain ⟨q569, f570, f571, f572⟩ : ∃ q : Int, vx557.toInt = vx328.toInt + (((q_R δ (Ad ad 103) x1.toNatClampNeg) - x5v) + (1 : Int32)).toInt + 4294967296 * q ∧ -2147483648 ≤ vx557.toInt ∧ vx557.toInt ≤ 2147483647 := by rw [e558]; exact ti_add vx328 (((q_R δ (Ad ad 103) x1.toNatClampNeg) - x5v) + (1 : Int32)))
                  unfold J_X12_sorted_180
                  refine ok_ite (fun h573 => ?_) (fun h573 => ?_)
                  · have c574 : x2.toInt = (1 : Int) := o_eq h573
                    refine ok_ite (fun h575 => ?_) (fun h575 => ?_)
                    · have c576 : (0 : Int) = (0 : Int) := o_eq h575
                      unfold J_X12_sorted_206
                      exact ok_some (show δ = δ from rfl)
                    · have c577 : (0 : Int) ≠ (0 : Int) := o_ne h575
                      refine ok_at o336 ?_
                      refine ok_gd (fun hc578 => ?_) ?_
                      · rcases hc578 with hc578 | hc578
                        · have c579 : x1.toInt < (0 : Int) := o_lt hc578
                          omega
                        · omega
                      first | (have q583 := te_subc (c := 1) (n := 1) rfl ((q_R δ (Ad ad 103) x1.toNatClampNeg) - x5v) (by omega) (by omega); obtain ⟨f584, f585, f586⟩ := q583) | (obtain ⟨q583, f584, f585, f586⟩ := ti_subc (c := 1) (n := 1) rfl ((q_R δ (Ad ad 103) x1.toNatClampNeg) - x5v))
                      refine ok_biv (fun vx580 e581 => ?_)
                      first | (have q587 := te_add vx557 (((q_R δ (Ad ad 103) x1.toNatClampNeg) - x5v) - (1 : Int32)) (by omega) (by omega); rw [← e581] at q587; obtain ⟨f588, f589, f590⟩ := q587) | (obtain ⟨q587, f588, f589, f590⟩ : ∃ q : Int, vx580.toInt = vx557.toInt + (((q_R δ (Ad ad 103) x1.toNatClampNeg) - x5v) - (1 : Int32)).toInt + 4294967296 * q ∧ -2147483648 ≤ vx580.toInt ∧ vx580.toInt ≤ 2147483647 := by rw [e581]; exact ti_add vx557 (((q_R δ (Ad ad 103) x1.toNatClampNeg) - x5v) - (1 : Int32)))
                      unfold J_X12_sorted_206
                      exact ok_some (show δ = δ from rfl)
                  · have c591 : x2.toInt ≠ (1 : Int) := o_ne h573
                    unfold J_X12_sorted_206
                    exact ok_some (show δ = δ from rfl)
                · have c592 : (0 : Int) ≠ (0 : Int) := o_ne h553
                  unfold J_X12_sorted_180
                  refine ok_ite (fun h593 => ?_) (fun h593 => ?_)
                  · have c594 : x2.toInt = (1 : Int) := o_eq h593
                    refine ok_ite (fun h595 => ?_) (fun h595 => ?_)
                    · have c596 : (0 : Int) = (0 : Int) := o_eq h595
                      unfold J_X12_sorted_206
                      exact ok_some (show δ = δ from rfl)
                    · have c597 : (0 : Int) ≠ (0 : Int) := o_ne h595
                      refine ok_at o336 ?_
                      refine ok_gd (fun hc598 => ?_) ?_
                      · rcases hc598 with hc598 | hc598
                        · have c599 : x1.toInt < (0 : Int) := o_lt hc598
                          omega
                        · omega
                      first | (have q603 := te_sub (q_R δ (Ad ad 103) x1.toNatClampNeg) x5v (by omega) (by omega); obtain ⟨f604, f605, f606⟩ := q603) | (obtain ⟨q603, f604, f605, f606⟩ := ti_sub (q_R δ (Ad ad 103) x1.toNatClampNeg) x5v)
                      first | (have q608 := te_subc (c := 1) (n := 1) rfl ((q_R δ (Ad ad 103) x1.toNatClampNeg) - x5v) (by omega) (by omega); obtain ⟨f609, f610, f611⟩ := q608) | (obtain ⟨q608, f609, f610, f611⟩ := ti_subc (c := 1) (n := 1) rfl ((q_R δ (Ad ad 103) x1.toNatClampNeg) - x5v))
                      refine ok_biv (fun vx600 e601 => ?_)
                      first | (have q612 := te_add vx328 (((q_R δ (Ad ad 103) x1.toNatClampNeg) - x5v) - (1 : Int32)) (by omega) (by omega); rw [← e601] at q612; obtain ⟨f613, f614, f615⟩ := q612) | (obtain ⟨q612, f613, f614, f615⟩ : ∃ q : Int, vx600.toInt = vx328.toInt + (((q_R δ (Ad ad 103) x1.toNatClampNeg) - x5v) - (1 : Int32)).toInt + 4294967296 * q ∧ -2147483648 ≤ vx600.toInt ∧ vx600.toInt ≤ 2147483647 := by rw [e601]; exact ti_add vx328 (((q_R δ (Ad ad 103) x1.toNatClampNeg) - x5v) - (1 : Int32)))
                      unfold J_X12_sorted_206
                      exact ok_some (show δ = δ from rfl)
                  · have c616 : x2.toInt ≠ (1 : Int) := o_ne h593
                    unfold J_X12_sorted_206
                    exact ok_some (show δ = δ from rfl)
              · have c617 : x2.toInt ≠ (0 : Int) := o_ne h551
                unfold J_X12_sorted_180
                refine ok_ite (fun h618 => ?_) (fun h618 => ?_)
                · have c619 : x2.toInt = (1 : Int) := o_eq h618
                  refine ok_ite (fun h620 => ?_) (fun h620 => ?_)
                  · have c621 : (0 : Int) = (0 : Int) := o_eq h620
                    unfold J_X12_sorted_206
                    exact ok_some (show δ = δ from rfl)
                  · have c622 : (0 : Int) ≠ (0 : Int) := o_ne h620
                    refine ok_at o336 ?_
                    refine ok_gd (fun hc623 => ?_) ?_
                    · rcases hc623 with hc623 | hc623
                      · have c624 : x1.toInt < (0 : Int) := o_lt hc623
                        omega
                      · omega
                    first | (have q628 := te_sub (q_R δ (Ad ad 103) x1.toNatClampNeg) x5v (by omega) (by omega); obtain ⟨f629, f630, f631⟩ := q628) | (obtain ⟨q628, f629, f630, f631⟩ := ti_sub (q_R δ (Ad ad 103) x1.toNatClampNeg) x5v)
                    first | (have q633 := te_subc (c := 1) (n := 1) rfl ((q_R δ (Ad ad 103) x1.toNatClampNeg) - x5v) (by omega) (by omega); obtain ⟨f634, f635, f636⟩ := q633) | (obtain ⟨q633, f634, f635, f636⟩ := ti_subc (c := 1) (n := 1) rfl ((q_R δ (Ad ad 103) x1.toNatClampNeg) - x5v))
                    refine ok_biv (fun vx625 e626 => ?_)
                    first | (have q637 := te_add vx328 (((q_R δ (Ad ad 103) x1.toNatClampNeg) - x5v) - (1 : Int32)) (by omega) (by omega); rw [← e626] at q637; obtain ⟨f638, f639, f640⟩ := q637) | (obtain ⟨q637, f638, f639, f640⟩ : ∃ q : Int, vx625.toInt = vx328.toInt + (((q_R δ (Ad ad 103) x1.toNatClampNeg) - x5v) - (1 : Int32)).toInt + 4294967296 * q ∧ -2147483648 ≤ vx625.toInt ∧ vx625.toInt ≤ 2147483647 := by rw [e626]; exact ti_add vx328 (((q_R δ (Ad ad 103) x1.toNatClampNeg) - x5v) - (1 : Int32)))
                    unfold J_X12_sorted_206
                    exact ok_some (show δ = δ from rfl)
                · have c641 : x2.toInt ≠ (1 : Int) := o_ne h618
                  unfold J_X12_sorted_206
                  exact ok_some (show δ = δ from rfl)
      · have c642 : x2.toInt ≠ (4 : Int) := o_ne h9
        obtain ⟨b643, o644, k645, n646⟩ := gO_12_14 L k_a0
        obtain rfl := gS_12_14 L k_a0 o644
        refine ok_at o644 ?_
        have t647 := ti_tn x1
        refine ok_gd (fun hc648 => ?_) ?_
        · rcases hc648 with hc648 | hc648
          · have c649 : x1.toInt < (0 : Int) := o_lt hc648
            omega
          · omega
        have f650 := rb_103 L I x1.toNatClampNeg
        refine ok_ite (fun h651 => ?_) (fun h651 => ?_)
        · have c652 : (q_R δ (Ad ad 103) x1.toNatClampNeg).toInt ≤ x5v.toInt := o_le h651
          unfold J_X12_sorted_117
          have f655 := ti_b x7v
          refine ok_biv (fun vx653 e654 => ?_)
          first | (have q656 := te_addc (c := 0) (n := 0) rfl x7v (by omega) (by omega); rw [← e654] at q656; obtain ⟨f657, f658, f659⟩ := q656) | (obtain ⟨q656, f657, f658, f659⟩ : ∃ q : Int, vx653.toInt = x7v.toInt + (0 : Int) + 4294967296 * q ∧ -2147483648 ≤ vx653.toInt ∧ vx653.toInt ≤ 2147483647 := by rw [e654]; exact ti_addc (c := 0) (n := 0) rfl x7v)
          refine ok_at o644 ?_
          refine ok_gd (fun hc660 => ?_) ?_
          · rcases hc660 with hc660 | hc660
            · have c661 : x1.toInt < (0 : Int) := o_lt hc660
              omega
            · omega
          refine ok_ite (fun h662 => ?_) (fun h662 => ?_)
          · have c663 : (q_R δ (Ad ad 103) x1.toNatClampNeg).toInt ≤ x5v.toInt := o_le h662
            unfold J_X12_sorted_152
            unfold J_X12_sorted_153
            refine ok_ite (fun h664 => ?_) (fun h664 => ?_)
            · have c665 : x2.toInt = (0 : Int) := o_eq h664
              refine ok_ite (fun h666 => ?_) (fun h666 => ?_)
              · have c667 : (0 : Int) = (0 : Int) := o_eq h666
                refine ok_at o644 ?_
                refine ok_gd (fun hc668 => ?_) ?_
                · rcases hc668 with hc668 | hc668
                  · have c669 : x1.toInt < (0 : Int) := o_lt hc668
                    omega
                  · omega
                first | (have q673 := te_sub (q_R δ (Ad ad 103) x1.toNatClampNeg) x5v (by omega) (by omega); obtain ⟨f674, f675, f676⟩ := q673) | (obtain ⟨q673, f674, f675, f676⟩ := ti_sub (q_R δ (Ad ad 103) x1.toNatClampNeg) x5v)
                first | (have q678 := te_addc (c := 1) (n := 1) rfl ((q_R δ (Ad ad 103) x1.toNatClampNeg) - x5v) (by omega) (by omega); obtain ⟨f679, f680, f681⟩ := q678) | (obtain ⟨q678, f679, f680, f681⟩ := ti_addc (c := 1) (n := 1) rfl ((q_R δ (Ad ad 103) x1.toNatClampNeg) - x5v))
                refine ok_biv (fun vx670 e671 => ?_)
                first | (have q682 := te_add vx653 (((q_R δ (Ad ad 103) x1.toNatClampNeg) - x5v) + (1 : Int32)) (by omega) (by omega); rw [← e671] at q682; obtain ⟨f683, f684, f685⟩ := q682) | (obtain ⟨q682, f683, f684, f685⟩ : ∃ q : Int, vx670.toInt = vx653.toInt + (((q_R δ (Ad ad 103) x1.toNatClampNeg) - x5v) + (1 : Int32)).toInt + 4294967296 * q ∧ -2147483648 ≤ vx670.toInt ∧ vx670.toInt ≤ 2147483647 := by rw [e671]; exact ti_add vx653 (((q_R δ (Ad ad 103) x1.toNatClampNeg) - x5v) + (1 : Int32)))
                unfold J_X12_sorted_180
                refine ok_ite (fun h686 => ?_) (fun h686 => ?_)
                · have c687 : x2.toInt = (1 : Int) := o_eq h686
                  refine ok_ite (fun h688 => ?_) (fun h688 => ?_)
                  · have c689 : (0 : Int) = (0 : Int) := o_eq h688
                    unfold J_X12_sorted_206
                    exact ok_some (show δ = δ from rfl)
                  · have c690 : (0 : Int) ≠ (0 : Int) := o_ne h688
                    refine ok_at o644 ?_
                    refine ok_gd (fun hc691 => ?_) ?_
                    · rcases hc691 with hc691 | hc691
                      · have c692 : x1.toInt < (0 : Int) := o_lt hc691
                        omega
                      · omega
                    first | (have q696 := te_subc (c := 1) (n := 1) rfl ((q_R δ (Ad ad 103) x1.toNatClampNeg) - x5v) (by omega) (by omega); obtain ⟨f697, f698, f699⟩ := q696) | (obtain ⟨q696, f697, f698, f699⟩ := ti_subc (c := 1) (n := 1) rfl ((q_R δ (Ad ad 103) x1.toNatClampNeg) - x5v))
                    refine ok_biv (fun vx693 e694 => ?_)
                    first | (have q700 := te_add vx670 (((q_R δ (Ad ad 103) x1.toNatClampNeg) - x5v) - (1 : Int32)) (by omega) (by omega); rw [← e694] at q700; obtain ⟨f701, f702, f703⟩ := q700) | (obtain ⟨q700, f701, f702, f703⟩ : ∃ q : Int, vx693.toInt = vx670.toInt + (((q_R δ (Ad ad 103) x1.toNatClampNeg) - x5v) - (1 : Int32)).toInt + 4294967296 * q ∧ -2147483648 ≤ vx693.toInt ∧ vx693.toInt ≤ 2147483647 := by rw [e694]; exact ti_add vx670 (((q_R δ (Ad ad 103) x1.toNatClampNeg) - x5v) - (1 : Int32)))
                    unfold J_X12_sorted_206
                    exact ok_some (show δ = δ from rfl)
                · have c704 : x2.toInt ≠ (1 : Int) := o_ne h686
                  unfold J_X12_sorted_206
                  exact ok_some (show δ = δ from rfl)
              · have c705 : (0 : Int) ≠ (0 : Int) := o_ne h666
                unfold J_X12_sorted_180
                refine ok_ite (fun h706 => ?_) (fun h706 => ?_)
                · have c707 : x2.toInt = (1 : Int) := o_eq h706
                  refine ok_ite (fun h708 => ?_) (fun h708 => ?_)
                  · have c709 : (0 : Int) = (0 : Int) := o_eq h708
                    unfold J_X12_sorted_206
                    exact ok_some (show δ = δ from rfl)
                  · have c710 : (0 : Int) ≠ (0 : Int) := o_ne h708
                    refine ok_at o644 ?_
                    refine ok_gd (fun hc711 => ?_) ?_
                    · rcases hc711 with hc711 | hc711
                      · have c712 : x1.toInt < (0 : Int) := o_lt hc711
                        omega
                      · omega
                    first | (have q716 := te_sub (q_R δ (Ad ad 103) x1.toNatClampNeg) x5v (by omega) (by omega); obtain ⟨f717, f718, f719⟩ := q716) | (obtain ⟨q716, f717, f718, f719⟩ := ti_sub (q_R δ (Ad ad 103) x1.toNatClampNeg) x5v)
                    first | (have q721 := te_subc (c := 1) (n := 1) rfl ((q_R δ (Ad ad 103) x1.toNatClampNeg) - x5v) (by omega) (by omega); obtain ⟨f722, f723, f724⟩ := q721) | (obtain ⟨q721, f722, f723, f724⟩ := ti_subc (c := 1) (n := 1) rfl ((q_R δ (Ad ad 103) x1.toNatClampNeg) - x5v))
                    refine ok_biv (fun vx713 e714 => ?_)
                    first | (have q725 := te_add vx653 (((q_R δ (Ad ad 103) x1.toNatClampNeg) - x5v) - (1 : Int32)) (by omega) (by omega); rw [← e714] at q725; obtain ⟨f726, f727, f728⟩ := q725) | (obtain ⟨q725, f726, f727, f728⟩ : ∃ q : Int, vx713.toInt = vx653.toInt + (((q_R δ (Ad ad 103) x1.toNatClampNeg) - x5v) - (1 : Int32)).toInt + 4294967296 * q ∧ -2147483648 ≤ vx713.toInt ∧ vx713.toInt ≤ 2147483647 := by rw [e714]; exact ti_add vx653 (((q_R δ (Ad ad 103) x1.toNatClampNeg) - x5v) - (1 : Int32)))
                    unfold J_X12_sorted_206
                    exact ok_some (show δ = δ from rfl)
                · have c729 : x2.toInt ≠ (1 : Int) := o_ne h706
                  unfold J_X12_sorted_206
                  exact ok_some (show δ = δ from rfl)
            · have c730 : x2.toInt ≠ (0 : Int) := o_ne h664
              unfold J_X12_sorted_180
              refine ok_ite (fun h731 => ?_) (fun h731 => ?_)
              · have c732 : x2.toInt = (1 : Int) := o_eq h731
                refine ok_ite (fun h733 => ?_) (fun h733 => ?_)
                · have c734 : (0 : Int) = (0 : Int) := o_eq h733
                  unfold J_X12_sorted_206
                  exact ok_some (show δ = δ from rfl)
                · have c735 : (0 : Int) ≠ (0 : Int) := o_ne h733
                  refine ok_at o644 ?_
                  refine ok_gd (fun hc736 => ?_) ?_
                  · rcases hc736 with hc736 | hc736
                    · have c737 : x1.toInt < (0 : Int) := o_lt hc736
                      omega
                    · omega
                  first | (have q741 := te_sub (q_R δ (Ad ad 103) x1.toNatClampNeg) x5v (by omega) (by omega); obtain ⟨f742, f743, f744⟩ := q741) | (obtain ⟨q741, f742, f743, f744⟩ := ti_sub (q_R δ (Ad ad 103) x1.toNatClampNeg) x5v)
                  first | (have q746 := te_subc (c := 1) (n := 1) rfl ((q_R δ (Ad ad 103) x1.toNatClampNeg) - x5v) (by omega) (by omega); obtain ⟨f747, f748, f749⟩ := q746) | (obtain ⟨q746, f747, f748, f749⟩ := ti_subc (c := 1) (n := 1) rfl ((q_R δ (Ad ad 103) x1.toNatClampNeg) - x5v))
                  refine ok_biv (fun vx738 e739 => ?_)
                  first | (have q750 := te_add vx653 (((q_R δ (Ad ad 103) x1.toNatClampNeg) - x5v) - (1 : Int32)) (by omega) (by omega); rw [← e739] at q750; obtain ⟨f751, f752, f753⟩ := q750) | (obtain ⟨q750, f751, f752, f753⟩ : ∃ q : Int, vx738.toInt = vx653.toInt + (((q_R δ (Ad ad 103) x1.toNatClampNeg) - x5v) - (1 : Int32)).toInt + 4294967296 * q ∧ -2147483648 ≤ vx738.toInt ∧ vx738.toInt ≤ 2147483647 := by rw [e739]; exact ti_add vx653 (((q_R δ (Ad ad 103) x1.toNatClampNeg) - x5v) - (1 : Int32)))
                  unfold J_X12_sorted_206
                  exact ok_some (show δ = δ from rfl)
              · have c754 : x2.toInt ≠ (1 : Int) := o_ne h731
                unfold J_X12_sorted_206
                exact ok_some (show δ = δ from rfl)
          · have c755 : x5v.toInt < (q_R δ (Ad ad 103) x1.toNatClampNeg).toInt := o_nle h662
            obtain ⟨b756, o757, k758, n759, w760⟩ := gO_12_13 L k_a0
            obtain rfl := gS_12_13 L k_a0 o757
            refine ok_at o757 ?_
            first | (have q762 := te_mulc (c := 2000) (n := 2000) rfl x1 (by omega) (by omega); obtain ⟨f763, f764, f765⟩ := q762) | (obtain ⟨q762, f763, f764, f765⟩ := ti_mulc (c := 2000) (n := 2000) rfl x1)
            first | (have q767 := te_add ((2000 : Int32) * x1) x5v (by omega) (by omega); obtain ⟨f768, f769, f770⟩ := q767) | (obtain ⟨q767, f768, f769, f770⟩ := ti_add ((2000 : Int32) * x1) x5v)
            have t771 := ti_tn (((2000 : Int32) * x1) + x5v)
            refine ok_gd (fun hc772 => ?_) ?_
            · rcases hc772 with hc772 | hc772
              · have c773 : (((2000 : Int32) * x1) + x5v).toInt < (0 : Int) := o_lt hc772
                omega
              · omega
            have f774 := ti_b (q_R δ (Ad ad 102) (((2000 : Int32) * x1) + x5v).toNatClampNeg)
            have f775 := ti_b x3
            refine ok_ite (fun h776 => ?_) (fun h776 => ?_)
            · have c777 : (q_R δ (Ad ad 102) (((2000 : Int32) * x1) + x5v).toNatClampNeg).toInt = x3.toInt := o_eq h776
              unfold J_X12_sorted_153
              refine ok_ite (fun h778 => ?_) (fun h778 => ?_)
              · have c779 : x2.toInt = (0 : Int) := o_eq h778
                refine ok_ite (fun h780 => ?_) (fun h780 => ?_)
                · have c781 : (1 : Int) = (0 : Int) := o_eq h780
                  refine ok_at o644 ?_
                  refine ok_gd (fun hc782 => ?_) ?_
                  · rcases hc782 with hc782 | hc782
                    · have c783 : x1.toInt < (0 : Int) := o_lt hc782
                      omega
                    · omega
                  first | (have q787 := te_sub (q_R δ (Ad ad 103) x1.toNatClampNeg) x5v (by omega) (by omega); obtain ⟨f788, f789, f790⟩ := q787) | (obtain ⟨q787, f788, f789, f790⟩ := ti_sub (q_R δ (Ad ad 103) x1.toNatClampNeg) x5v)
                  first | (have q792 := te_addc (c := 1) (n := 1) rfl ((q_R δ (Ad ad 103) x1.toNatClampNeg) - x5v) (by omega) (by omega); obtain ⟨f793, f794, f795⟩ := q792) | (obtain ⟨q792, f793, f794, f795⟩ := ti_addc (c := 1) (n := 1) rfl ((q_R δ (Ad ad 103) x1.toNatClampNeg) - x5v))
                  refine ok_biv (fun vx784 e785 => ?_)
                  first | (have q796 := te_add vx653 (((q_R δ (Ad ad 103) x1.toNatClampNeg) - x5v) + (1 : Int32)) (by omega) (by omega); rw [← e785] at q796; obtain ⟨f797, f798, f799⟩ := q796) | (obtain ⟨q796, f797, f798, f799⟩ : ∃ q : Int, vx784.toInt = vx653.toInt + (((q_R δ (Ad ad 103) x1.toNatClampNeg) - x5v) + (1 : Int32)).toInt + 4294967296 * q ∧ -2147483648 ≤ vx784.toInt ∧ vx784.toInt ≤ 2147483647 := by rw [e785]; exact ti_add vx653 (((q_R δ (Ad ad 103) x1.toNatClampNeg) - x5v) + (1 : Int32)))
                  unfold J_X12_sorted_180
                  refine ok_ite (fun h800 => ?_) (fun h800 => ?_)
                  · have c801 : x2.toInt = (1 : Int) := o_eq h800
                    refine ok_ite (fun h802 => ?_) (fun h802 => ?_)
                    · have c803 : (1 : Int) = (0 : Int) := o_eq h802
                      unfold J_X12_sorted_206
                      exact ok_some (show δ = δ from rfl)
                    · have c804 : (1 : Int) ≠ (0 : Int) := o_ne h802
                      refine ok_at o644 ?_
                      refine ok_gd (fun hc805 => ?_) ?_
                      · rcases hc805 with hc805 | hc805
                        · have c806 : x1.toInt < (0 : Int) := o_lt hc805
                          omega
                        · omega
                      first | (have q810 := te_subc (c := 1) (n := 1) rfl ((q_R δ (Ad ad 103) x1.toNatClampNeg) - x5v) (by omega) (by omega); obtain ⟨f811, f812, f813⟩ := q810) | (obtain ⟨q810, f811, f812, f813⟩ := ti_subc (c := 1) (n := 1) rfl ((q_R δ (Ad ad 103) x1.toNatClampNeg) - x5v))
                      refine ok_biv (fun vx807 e808 => ?_)
                      first | (have q814 := te_add vx784 (((q_R δ (Ad ad 103) x1.toNatClampNeg) - x5v) - (1 : Int32)) (by omega) (by omega); rw [← e808] at q814; obtain ⟨f815, f816, f817⟩ := q814) | (obtain ⟨q814, f815, f816, f817⟩ : ∃ q : Int, vx807.toInt = vx784.toInt + (((q_R δ (Ad ad 103) x1.toNatClampNeg) - x5v) - (1 : Int32)).toInt + 4294967296 * q ∧ -2147483648 ≤ vx807.toInt ∧ vx807.toInt ≤ 2147483647 := by rw [e808]; exact ti_add vx784 (((q_R δ (Ad ad 103) x1.toNatClampNeg) - x5v) - (1 : Int32)))
                      unfold J_X12_sorted_206
                      exact ok_some (show δ = δ from rfl)
                  · have c818 : x2.toInt ≠ (1 : Int) := o_ne h800
                    unfold J_X12_sorted_206
                    exact ok_some (show δ = δ from rfl)
                · have c819 : (1 : Int) ≠ (0 : Int) := o_ne h780
                  unfold J_X12_sorted_180
                  refine ok_ite (fun h820 => ?_) (fun h820 => ?_)
                  · have c821 : x2.toInt = (1 : Int) := o_eq h820
                    refine ok_ite (fun h822 => ?_) (fun h822 => ?_)
                    · have c823 : (1 : Int) = (0 : Int) := o_eq h822
                      unfold J_X12_sorted_206
                      exact ok_some (show δ = δ from rfl)
                    · have c824 : (1 : Int) ≠ (0 : Int) := o_ne h822
                      refine ok_at o644 ?_
                      refine ok_gd (fun hc825 => ?_) ?_
                      · rcases hc825 with hc825 | hc825
                        · have c826 : x1.toInt < (0 : Int) := o_lt hc825
                          omega
                        · omega
                      first | (have q830 := te_sub (q_R δ (Ad ad 103) x1.toNatClampNeg) x5v (by omega) (by omega); obtain ⟨f831, f832, f833⟩ := q830) | (obtain ⟨q830, f831, f832, f833⟩ := ti_sub (q_R δ (Ad ad 103) x1.toNatClampNeg) x5v)
                      first | (have q835 := te_subc (c := 1) (n := 1) rfl ((q_R δ (Ad ad 103) x1.toNatClampNeg) - x5v) (by omega) (by omega); obtain ⟨f836, f837, f838⟩ := q835) | (obtain ⟨q835, f836, f837, f838⟩ := ti_subc (c := 1) (n := 1) rfl ((q_R δ (Ad ad 103) x1.toNatClampNeg) - x5v))
                      refine ok_biv (fun vx827 e828 => ?_)
                      first | (have q839 := te_add vx653 (((q_R δ (Ad ad 103) x1.toNatClampNeg) - x5v) - (1 : Int32)) (by omega) (by omega); rw [← e828] at q839; obtain ⟨f840, f841, f842⟩ := q839) | (obtain ⟨q839, f840, f841, f842⟩ : ∃ q : Int, vx827.toInt = vx653.toInt + (((q_R δ (Ad ad 103) x1.toNatClampNeg) - x5v) - (1 : Int32)).toInt + 4294967296 * q ∧ -2147483648 ≤ vx827.toInt ∧ vx827.toInt ≤ 2147483647 := by rw [e828]; exact ti_add vx653 (((q_R δ (Ad ad 103) x1.toNatClampNeg) - x5v) - (1 : Int32)))
                      unfold J_X12_sorted_206
                      exact ok_some (show δ = δ from rfl)
                  · have c843 : x2.toInt ≠ (1 : Int) := o_ne h820
                    unfold J_X12_sorted_206
                    exact ok_some (show δ = δ from rfl)
              · have c844 : x2.toInt ≠ (0 : Int) := o_ne h778
                unfold J_X12_sorted_180
                refine ok_ite (fun h845 => ?_) (fun h845 => ?_)
                · have c846 : x2.toInt = (1 : Int) := o_eq h845
                  refine ok_ite (fun h847 => ?_) (fun h847 => ?_)
                  · have c848 : (1 : Int) = (0 : Int) := o_eq h847
                    unfold J_X12_sorted_206
                    exact ok_some (show δ = δ from rfl)
                  · have c849 : (1 : Int) ≠ (0 : Int) := o_ne h847
                    refine ok_at o644 ?_
                    refine ok_gd (fun hc850 => ?_) ?_
                    · rcases hc850 with hc850 | hc850
                      · have c851 : x1.toInt < (0 : Int) := o_lt hc850
                        omega
                      · omega
                    first | (have q855 := te_sub (q_R δ (Ad ad 103) x1.toNatClampNeg) x5v (by omega) (by omega); obtain ⟨f856, f857, f858⟩ := q855) | (obtain ⟨q855, f856, f857, f858⟩ := ti_sub (q_R δ (Ad ad 103) x1.toNatClampNeg) x5v)
                    first | (have q860 := te_subc (c := 1) (n := 1) rfl ((q_R δ (Ad ad 103) x1.toNatClampNeg) - x5v) (by omega) (by omega); obtain ⟨f861, f862, f863⟩ := q860) | (obtain ⟨q860, f861, f862, f863⟩ := ti_subc (c := 1) (n := 1) rfl ((q_R δ (Ad ad 103) x1.toNatClampNeg) - x5v))
                    refine ok_biv (fun vx852 e853 => ?_)
                    first | (have q864 := te_add vx653 (((q_R δ (Ad ad 103) x1.toNatClampNeg) - x5v) - (1 : Int32)) (by omega) (by omega); rw [← e853] at q864; obtain ⟨f865, f866, f867⟩ := q864) | (obtain ⟨q864, f865, f866, f867⟩ : ∃ q : Int, vx852.toInt = vx653.toInt + (((q_R δ (Ad ad 103) x1.toNatClampNeg) - x5v) - (1 : Int32)).toInt + 4294967296 * q ∧ -2147483648 ≤ vx852.toInt ∧ vx852.toInt ≤ 2147483647 := by rw [e853]; exact ti_add vx653 (((q_R δ (Ad ad 103) x1.toNatClampNeg) - x5v) - (1 : Int32)))
                    unfold J_X12_sorted_206
                    exact ok_some (show δ = δ from rfl)
                · have c868 : x2.toInt ≠ (1 : Int) := o_ne h845
                  unfold J_X12_sorted_206
                  exact ok_some (show δ = δ from rfl)
            · have c869 : (q_R δ (Ad ad 102) (((2000 : Int32) * x1) + x5v).toNatClampNeg).toInt ≠ x3.toInt := o_ne h776
              unfold J_X12_sorted_152
              unfold J_X12_sorted_153
              refine ok_ite (fun h870 => ?_) (fun h870 => ?_)
              · have c871 : x2.toInt = (0 : Int) := o_eq h870
                refine ok_ite (fun h872 => ?_) (fun h872 => ?_)
                · have c873 : (0 : Int) = (0 : Int) := o_eq h872
                  refine ok_at o644 ?_
                  refine ok_gd (fun hc874 => ?_) ?_
                  · rcases hc874 with hc874 | hc874
                    · have c875 : x1.toInt < (0 : Int) := o_lt hc874
                      omega
                    · omega
                  first | (have q879 := te_sub (q_R δ (Ad ad 103) x1.toNatClampNeg) x5v (by omega) (by omega); obtain ⟨f880, f881, f882⟩ := q879) | (obtain ⟨q879, f880, f881, f882⟩ := ti_sub (q_R δ (Ad ad 103) x1.toNatClampNeg) x5v)
                  first | (have q884 := te_addc (c := 1) (n := 1) rfl ((q_R δ (Ad ad 103) x1.toNatClampNeg) - x5v) (by omega) (by omega); obtain ⟨f885, f886, f887⟩ := q884) | (obtain ⟨q884, f885, f886, f887⟩ := ti_addc (c := 1) (n := 1) rfl ((q_R δ (Ad ad 103) x1.toNatClampNeg) - x5v))
                  refine ok_biv (fun vx876 e877 => ?_)
                  first | (have q888 := te_add vx653 (((q_R δ (Ad ad 103) x1.toNatClampNeg) - x5v) + (1 : Int32)) (by omega) (by omega); rw [← e877] at q888; obtain ⟨f889, f890, f891⟩ := q888) | (obtain ⟨q888, f889, f890, f891⟩ : ∃ q : Int, vx876.toInt = vx653.toInt + (((q_R δ (Ad ad 103) x1.toNatClampNeg) - x5v) + (1 : Int32)).toInt + 4294967296 * q ∧ -2147483648 ≤ vx876.toInt ∧ vx876.toInt ≤ 2147483647 := by rw [e877]; exact ti_add vx653 (((q_R δ (Ad ad 103) x1.toNatClampNeg) - x5v) + (1 : Int32)))
                  unfold J_X12_sorted_180
                  refine ok_ite (fun h892 => ?_) (fun h892 => ?_)
                  · have c893 : x2.toInt = (1 : Int) := o_eq h892
                    refine ok_ite (fun h894 => ?_) (fun h894 => ?_)
                    · have c895 : (0 : Int) = (0 : Int) := o_eq h894
                      unfold J_X12_sorted_206
                      exact ok_some (show δ = δ from rfl)
                    · have c896 : (0 : Int) ≠ (0 : Int) := o_ne h894
                      refine ok_at o644 ?_
                      refine ok_gd (fun hc897 => ?_) ?_
                      · rcases hc897 with hc897 | hc897
                        · have c898 : x1.toInt < (0 : Int) := o_lt hc897
                          omega
                        · omega
                      first | (have q902 := te_subc (c := 1) (n := 1) rfl ((q_R δ (Ad ad 103) x1.toNatClampNeg) - x5v) (by omega) (by omega); obtain ⟨f903, f904, f905⟩ := q902) | (obtain ⟨q902, f903, f904, f905⟩ := ti_subc (c := 1) (n := 1) rfl ((q_R δ (Ad ad 103) x1.toNatClampNeg) - x5v))
                      refine ok_biv (fun vx899 e900 => ?_)
                      first | (have q906 := te_add vx876 (((q_R δ (Ad ad 103) x1.toNatClampNeg) - x5v) - (1 : Int32)) (by omega) (by omega); rw [← e900] at q906; obtain ⟨f907, f908, f909⟩ := q906) | (obtain ⟨q906, f907, f908, f909⟩ : ∃ q : Int, vx899.toInt = vx876.toInt + (((q_R δ (Ad ad 103) x1.toNatClampNeg) - x5v) - (1 : Int32)).toInt + 4294967296 * q ∧ -2147483648 ≤ vx899.toInt ∧ vx899.toInt ≤ 2147483647 := by rw [e900]; exact ti_add vx876 (((q_R δ (Ad ad 103) x1.toNatClampNeg) - x5v) - (1 : Int32)))
                      unfold J_X12_sorted_206
                      exact ok_some (show δ = δ from rfl)
                  · have c910 : x2.toInt ≠ (1 : Int) := o_ne h892
                    unfold J_X12_sorted_206
                    exact ok_some (show δ = δ from rfl)
                · have c911 : (0 : Int) ≠ (0 : Int) := o_ne h872
                  unfold J_X12_sorted_180
                  refine ok_ite (fun h912 => ?_) (fun h912 => ?_)
                  · have c913 : x2.toInt = (1 : Int) := o_eq h912
                    refine ok_ite (fun h914 => ?_) (fun h914 => ?_)
                    · have c915 : (0 : Int) = (0 : Int) := o_eq h914
                      unfold J_X12_sorted_206
                      exact ok_some (show δ = δ from rfl)
                    · have c916 : (0 : Int) ≠ (0 : Int) := o_ne h914
                      refine ok_at o644 ?_
                      refine ok_gd (fun hc917 => ?_) ?_
                      · rcases hc917 with hc917 | hc917
                        · have c918 : x1.toInt < (0 : Int) := o_lt hc917
                          omega
                        · omega
                      first | (have q922 := te_sub (q_R δ (Ad ad 103) x1.toNatClampNeg) x5v (by omega) (by omega); obtain ⟨f923, f924, f925⟩ := q922) | (obtain ⟨q922, f923, f924, f925⟩ := ti_sub (q_R δ (Ad ad 103) x1.toNatClampNeg) x5v)
                      first | (have q927 := te_subc (c := 1) (n := 1) rfl ((q_R δ (Ad ad 103) x1.toNatClampNeg) - x5v) (by omega) (by omega); obtain ⟨f928, f929, f930⟩ := q927) | (obtain ⟨q927, f928, f929, f930⟩ := ti_subc (c := 1) (n := 1) rfl ((q_R δ (Ad ad 103) x1.toNatClampNeg) - x5v))
                      refine ok_biv (fun vx919 e920 => ?_)
                      first | (have q931 := te_add vx653 (((q_R δ (Ad ad 103) x1.toNatClampNeg) - x5v) - (1 : Int32)) (by omega) (by omega); rw [← e920] at q931; obtain ⟨f932, f933, f934⟩ := q931) | (obtain ⟨q931, f932, f933, f934⟩ : ∃ q : Int, vx919.toInt = vx653.toInt + (((q_R δ (Ad ad 103) x1.toNatClampNeg) - x5v) - (1 : Int32)).toInt + 4294967296 * q ∧ -2147483648 ≤ vx919.toInt ∧ vx919.toInt ≤ 2147483647 := by rw [e920]; exact ti_add vx653 (((q_R δ (Ad ad 103) x1.toNatClampNeg) - x5v) - (1 : Int32)))
                      unfold J_X12_sorted_206
                      exact ok_some (show δ = δ from rfl)
                  · have c935 : x2.toInt ≠ (1 : Int) := o_ne h912
                    unfold J_X12_sorted_206
                    exact ok_some (show δ = δ from rfl)
              · have c936 : x2.toInt ≠ (0 : Int) := o_ne h870
                unfold J_X12_sorted_180
                refine ok_ite (fun h937 => ?_) (fun h937 => ?_)
                · have c938 : x2.toInt = (1 : Int) := o_eq h937
                  refine ok_ite (fun h939 => ?_) (fun h939 => ?_)
                  · have c940 : (0 : Int) = (0 : Int) := o_eq h939
                    unfold J_X12_sorted_206
                    exact ok_some (show δ = δ from rfl)
                  · have c941 : (0 : Int) ≠ (0 : Int) := o_ne h939
                    refine ok_at o644 ?_
                    refine ok_gd (fun hc942 => ?_) ?_
                    · rcases hc942 with hc942 | hc942
                      · have c943 : x1.toInt < (0 : Int) := o_lt hc942
                        omega
                      · omega
                    first | (have q947 := te_sub (q_R δ (Ad ad 103) x1.toNatClampNeg) x5v (by omega) (by omega); obtain ⟨f948, f949, f950⟩ := q947) | (obtain ⟨q947, f948, f949, f950⟩ := ti_sub (q_R δ (Ad ad 103) x1.toNatClampNeg) x5v)
                    first | (have q952 := te_subc (c := 1) (n := 1) rfl ((q_R δ (Ad ad 103) x1.toNatClampNeg) - x5v) (by omega) (by omega); obtain ⟨f953, f954, f955⟩ := q952) | (obtain ⟨q952, f953, f954, f955⟩ := ti_subc (c := 1) (n := 1) rfl ((q_R δ (Ad ad 103) x1.toNatClampNeg) - x5v))
                    refine ok_biv (fun vx944 e945 => ?_)
                    first | (have q956 := te_add vx653 (((q_R δ (Ad ad 103) x1.toNatClampNeg) - x5v) - (1 : Int32)) (by omega) (by omega); rw [← e945] at q956; obtain ⟨f957, f958, f959⟩ := q956) | (obtain ⟨q956, f957, f958, f959⟩ : ∃ q : Int, vx944.toInt = vx653.toInt + (((q_R δ (Ad ad 103) x1.toNatClampNeg) - x5v) - (1 : Int32)).toInt + 4294967296 * q ∧ -2147483648 ≤ vx944.toInt ∧ vx944.toInt ≤ 2147483647 := by rw [e945]; exact ti_add vx653 (((q_R δ (Ad ad 103) x1.toNatClampNeg) - x5v) - (1 : Int32)))
                    unfold J_X12_sorted_206
                    exact ok_some (show δ = δ from rfl)
                · have c960 : x2.toInt ≠ (1 : Int) := o_ne h937
                  unfold J_X12_sorted_206
                  exact ok_some (show δ = δ from rfl)
        · have c961 : x5v.toInt < (q_R δ (Ad ad 103) x1.toNatClampNeg).toInt := o_nle h651
          unfold J_X12_sorted_117
          have f964 := ti_b x7v
          refine ok_biv (fun vx962 e963 => ?_)
          first | (have q965 := te_addc (c := 1) (n := 1) rfl x7v (by omega) (by omega); rw [← e963] at q965; obtain ⟨f966, f967, f968⟩ := q965) | (obtain ⟨q965, f966, f967, f968⟩ : ∃ q : Int, vx962.toInt = x7v.toInt + (1 : Int) + 4294967296 * q ∧ -2147483648 ≤ vx962.toInt ∧ vx962.toInt ≤ 2147483647 := by rw [e963]; exact ti_addc (c := 1) (n := 1) rfl x7v)
          refine ok_at o644 ?_
          refine ok_gd (fun hc969 => ?_) ?_
          · rcases hc969 with hc969 | hc969
            · have c970 : x1.toInt < (0 : Int) := o_lt hc969
              omega
            · omega
          refine ok_ite (fun h971 => ?_) (fun h971 => ?_)
          · have c972 : (q_R δ (Ad ad 103) x1.toNatClampNeg).toInt ≤ x5v.toInt := o_le h971
            unfold J_X12_sorted_152
            unfold J_X12_sorted_153
            refine ok_ite (fun h973 => ?_) (fun h973 => ?_)
            · have c974 : x2.toInt = (0 : Int) := o_eq h973
              refine ok_ite (fun h975 => ?_) (fun h975 => ?_)
              · have c976 : (0 : Int) = (0 : Int) := o_eq h975
                refine ok_at o644 ?_
                refine ok_gd (fun hc977 => ?_) ?_
                · rcases hc977 with hc977 | hc977
                  · have c978 : x1.toInt < (0 : Int) := o_lt hc977
                    omega
                  · omega
                first | (have q982 := te_sub (q_R δ (Ad ad 103) x1.toNatClampNeg) x5v (by omega) (by omega); obtain ⟨f983, f984, f985⟩ := q982) | (obtain ⟨q982, f983, f984, f985⟩ := ti_sub (q_R δ (Ad ad 103) x1.toNatClampNeg) x5v)
                first | (have q987 := te_addc (c := 1) (n := 1) rfl ((q_R δ (Ad ad 103) x1.toNatClampNeg) - x5v) (by omega) (by omega); obtain ⟨f988, f989, f990⟩ := q987) | (obtain ⟨q987, f988, f989, f990⟩ := ti_addc (c := 1) (n := 1) rfl ((q_R δ (Ad ad 103) x1.toNatClampNeg) - x5v))
                refine ok_biv (fun vx979 e980 => ?_)
                first | (have q991 := te_add vx962 (((q_R δ (Ad ad 103) x1.toNatClampNeg) - x5v) + (1 : Int32)) (by omega) (by omega); rw [← e980] at q991; obtain ⟨f992, f993, f994⟩ := q991) | (obtain ⟨q991, f992, f993, f994⟩ : ∃ q : Int, vx979.toInt = vx962.toInt + (((q_R δ (Ad ad 103) x1.toNatClampNeg) - x5v) + (1 : Int32)).toInt + 4294967296 * q ∧ -2147483648 ≤ vx979.toInt ∧ vx979.toInt ≤ 2147483647 := by rw [e980]; exact ti_add vx962 (((q_R δ (Ad ad 103) x1.toNatClampNeg) - x5v) + (1 : Int32)))
                unfold J_X12_sorted_180
                refine ok_ite (fun h995 => ?_) (fun h995 => ?_)
                · have c996 : x2.toInt = (1 : Int) := o_eq h995
                  refine ok_ite (fun h997 => ?_) (fun h997 => ?_)
                  · have c998 : (0 : Int) = (0 : Int) := o_eq h997
                    unfold J_X12_sorted_206
                    exact ok_some (show δ = δ from rfl)
                  · have c999 : (0 : Int) ≠ (0 : Int) := o_ne h997
                    refine ok_at o644 ?_
                    refine ok_gd (fun hc1000 => ?_) ?_
                    · rcases hc1000 with hc1000 | hc1000
                      · have c1001 : x1.toInt < (0 : Int) := o_lt hc1000
                        omega
                      · omega
                    first | (have q1005 := te_subc (c := 1) (n := 1) rfl ((q_R δ (Ad ad 103) x1.toNatClampNeg) - x5v) (by omega) (by omega); obtain ⟨f1006, f1007, f1008⟩ := q1005) | (obtain ⟨q1005, f1006, f1007, f1008⟩ := ti_subc (c := 1) (n := 1) rfl ((q_R δ (Ad ad 103) x1.toNatClampNeg) - x5v))
                    refine ok_biv (fun vx1002 e1003 => ?_)
                    first | (have q1009 := te_add vx979 (((q_R δ (Ad ad 103) x1.toNatClampNeg) - x5v) - (1 : Int32)) (by omega) (by omega); rw [← e1003] at q1009; obtain ⟨f1010, f1011, f1012⟩ := q1009) | (obtain ⟨q1009, f1010, f1011, f1012⟩ : ∃ q : Int, vx1002.toInt = vx979.toInt + (((q_R δ (Ad ad 103) x1.toNatClampNeg) - x5v) - (1 : Int32)).toInt + 4294967296 * q ∧ -2147483648 ≤ vx1002.toInt ∧ vx1002.toInt ≤ 2147483647 := by rw [e1003]; exact ti_add vx979 (((q_R δ (Ad ad 103) x1.toNatClampNeg) - x5v) - (1 : Int32)))
                    unfold J_X12_sorted_206
                    exact ok_some (show δ = δ from rfl)
                · have c1013 : x2.toInt ≠ (1 : Int) := o_ne h995
                  unfold J_X12_sorted_206
                  exact ok_some (show δ = δ from rfl)
              · have c1014 : (0 : Int) ≠ (0 : Int) := o_ne h975
                unfold J_X12_sorted_180
                refine ok_ite (fun h1015 => ?_) (fun h1015 => ?_)
                · have c1016 : x2.toInt = (1 : Int) := o_eq h1015
                  refine ok_ite (fun h1017 => ?_) (fun h1017 => ?_)
                  · have c1018 : (0 : Int) = (0 : Int) := o_eq h1017
                    unfold J_X12_sorted_206
                    exact ok_some (show δ = δ from rfl)
                  · have c1019 : (0 : Int) ≠ (0 : Int) := o_ne h1017
                    refine ok_at o644 ?_
                    refine ok_gd (fun hc1020 => ?_) ?_
                    · rcases hc1020 with hc1020 | hc1020
                      · have c1021 : x1.toInt < (0 : Int) := o_lt hc1020
                        omega
                      · omega
                    first | (have q1025 := te_sub (q_R δ (Ad ad 103) x1.toNatClampNeg) x5v (by omega) (by omega); obtain ⟨f1026, f1027, f1028⟩ := q1025) | (obtain ⟨q1025, f1026, f1027, f1028⟩ := ti_sub (q_R δ (Ad ad 103) x1.toNatClampNeg) x5v)
                    first | (have q1030 := te_subc (c := 1) (n := 1) rfl ((q_R δ (Ad ad 103) x1.toNatClampNeg) - x5v) (by omega) (by omega); obtain ⟨f1031, f1032, f1033⟩ := q1030) | (obtain ⟨q1030, f1031, f1032, f1033⟩ := ti_subc (c := 1) (n := 1) rfl ((q_R δ (Ad ad 103) x1.toNatClampNeg) - x5v))
                    refine ok_biv (fun vx1022 e1023 => ?_)
                    first | (have q1034 := te_add vx962 (((q_R δ (Ad ad 103) x1.toNatClampNeg) - x5v) - (1 : Int32)) (by omega) (by omega); rw [← e1023] at q1034; obtain ⟨f1035, f1036, f1037⟩ := q1034) | (obtain ⟨q1034, f1035, f1036, f1037⟩ : ∃ q : Int, vx1022.toInt = vx962.toInt + (((q_R δ (Ad ad 103) x1.toNatClampNeg) - x5v) - (1 : Int32)).toInt + 4294967296 * q ∧ -2147483648 ≤ vx1022.toInt ∧ vx1022.toInt ≤ 2147483647 := by rw [e1023]; exact ti_add vx962 (((q_R δ (Ad ad 103) x1.toNatClampNeg) - x5v) - (1 : Int32)))
                    unfold J_X12_sorted_206
                    exact ok_some (show δ = δ from rfl)
                · have c1038 : x2.toInt ≠ (1 : Int) := o_ne h1015
                  unfold J_X12_sorted_206
                  exact ok_some (show δ = δ from rfl)
            · have c1039 : x2.toInt ≠ (0 : Int) := o_ne h973
              unfold J_X12_sorted_180
              refine ok_ite (fun h1040 => ?_) (fun h1040 => ?_)
              · have c1041 : x2.toInt = (1 : Int) := o_eq h1040
                refine ok_ite (fun h1042 => ?_) (fun h1042 => ?_)
                · have c1043 : (0 : Int) = (0 : Int) := o_eq h1042
                  unfold J_X12_sorted_206
                  exact ok_some (show δ = δ from rfl)
                · have c1044 : (0 : Int) ≠ (0 : Int) := o_ne h1042
                  refine ok_at o644 ?_
                  refine ok_gd (fun hc1045 => ?_) ?_
                  · rcases hc1045 with hc1045 | hc1045
                    · have c1046 : x1.toInt < (0 : Int) := o_lt hc1045
                      omega
                    · omega
                  first | (have q1050 := te_sub (q_R δ (Ad ad 103) x1.toNatClampNeg) x5v (by omega) (by omega); obtain ⟨f1051, f1052, f1053⟩ := q1050) | (obtain ⟨q1050, f1051, f1052, f1053⟩ := ti_sub (q_R δ (Ad ad 103) x1.toNatClampNeg) x5v)
                  first | (have q1055 := te_subc (c := 1) (n := 1) rfl ((q_R δ (Ad ad 103) x1.toNatClampNeg) - x5v) (by omega) (by omega); obtain ⟨f1056, f1057, f1058⟩ := q1055) | (obtain ⟨q1055, f1056, f1057, f1058⟩ := ti_subc (c := 1) (n := 1) rfl ((q_R δ (Ad ad 103) x1.toNatClampNeg) - x5v))
                  refine ok_biv (fun vx1047 e1048 => ?_)
                  first | (have q1059 := te_add vx962 (((q_R δ (Ad ad 103) x1.toNatClampNeg) - x5v) - (1 : Int32)) (by omega) (by omega); rw [← e1048] at q1059; obtain ⟨f1060, f1061, f1062⟩ := q1059) | (obtain ⟨q1059, f1060, f1061, f1062⟩ : ∃ q : Int, vx1047.toInt = vx962.toInt + (((q_R δ (Ad ad 103) x1.toNatClampNeg) - x5v) - (1 : Int32)).toInt + 4294967296 * q ∧ -2147483648 ≤ vx1047.toInt ∧ vx1047.toInt ≤ 2147483647 := by rw [e1048]; exact ti_add vx962 (((q_R δ (Ad ad 103) x1.toNatClampNeg) - x5v) - (1 : Int32)))
                  unfold J_X12_sorted_206
                  exact ok_some (show δ = δ from rfl)
              · have c1063 : x2.toInt ≠ (1 : Int) := o_ne h1040
                unfold J_X12_sorted_206
                exact ok_some (show δ = δ from rfl)
          · have c1064 : x5v.toInt < (q_R δ (Ad ad 103) x1.toNatClampNeg).toInt := o_nle h971
            obtain ⟨b1065, o1066, k1067, n1068, w1069⟩ := gO_12_13 L k_a0
            obtain rfl := gS_12_13 L k_a0 o1066
            refine ok_at o1066 ?_
            first | (have q1071 := te_mulc (c := 2000) (n := 2000) rfl x1 (by omega) (by omega); obtain ⟨f1072, f1073, f1074⟩ := q1071) | (obtain ⟨q1071, f1072, f1073, f1074⟩ := ti_mulc (c := 2000) (n := 2000) rfl x1)
            first | (have q1076 := te_add ((2000 : Int32) * x1) x5v (by omega) (by omega); obtain ⟨f1077, f1078, f1079⟩ := q1076) | (obtain ⟨q1076, f1077, f1078, f1079⟩ := ti_add ((2000 : Int32) * x1) x5v)
            have t1080 := ti_tn (((2000 : Int32) * x1) + x5v)
            refine ok_gd (fun hc1081 => ?_) ?_
            · rcases hc1081 with hc1081 | hc1081
              · have c1082 : (((2000 : Int32) * x1) + x5v).toInt < (0 : Int) := o_lt hc1081
                omega
              · omega
            have f1083 := ti_b (q_R δ (Ad ad 102) (((2000 : Int32) * x1) + x5v).toNatClampNeg)
            have f1084 := ti_b x3
            refine ok_ite (fun h1085 => ?_) (fun h1085 => ?_)
            · have c1086 : (q_R δ (Ad ad 102) (((2000 : Int32) * x1) + x5v).toNatClampNeg).toInt = x3.toInt := o_eq h1085
              unfold J_X12_sorted_153
              refine ok_ite (fun h1087 => ?_) (fun h1087 => ?_)
              · have c1088 : x2.toInt = (0 : Int) := o_eq h1087
                refine ok_ite (fun h1089 => ?_) (fun h1089 => ?_)
                · have c1090 : (1 : Int) = (0 : Int) := o_eq h1089
                  refine ok_at o644 ?_
                  refine ok_gd (fun hc1091 => ?_) ?_
                  · rcases hc1091 with hc1091 | hc1091
                    · have c1092 : x1.toInt < (0 : Int) := o_lt hc1091
                      omega
                    · omega
                  first | (have q1096 := te_sub (q_R δ (Ad ad 103) x1.toNatClampNeg) x5v (by omega) (by omega); obtain ⟨f1097, f1098, f1099⟩ := q1096) | (obtain ⟨q1096, f1097, f1098, f1099⟩ := ti_sub (q_R δ (Ad ad 103) x1.toNatClampNeg) x5v)
                  first | (have q1101 := te_addc (c := 1) (n := 1) rfl ((q_R δ (Ad ad 103) x1.toNatClampNeg) - x5v) (by omega) (by omega); obtain ⟨f1102, f1103, f1104⟩ := q1101) | (obtain ⟨q1101, f1102, f1103, f1104⟩ := ti_addc (c := 1) (n := 1) rfl ((q_R δ (Ad ad 103) x1.toNatClampNeg) - x5v))
                  refine ok_biv (fun vx1093 e1094 => ?_)
                  first | (have q1105 := te_add vx962 (((q_R δ (Ad ad 103) x1.toNatClampNeg) - x5v) + (1 : Int32)) (by omega) (by omega); rw [← e1094] at q1105; obtain ⟨f1106, f1107, f1108⟩ := q1105) | (obtain ⟨q1105, f1106, f1107, f1108⟩ : ∃ q : Int, vx1093.toInt = vx962.toInt + (((q_R δ (Ad ad 103) x1.toNatClampNeg) - x5v) + (1 : Int32)).toInt + 4294967296 * q ∧ -2147483648 ≤ vx1093.toInt ∧ vx1093.toInt ≤ 2147483647 := by rw [e1094]; exact ti_add vx962 (((q_R δ (Ad ad 103) x1.toNatClampNeg) - x5v) + (1 : Int32)))
                  unfold J_X12_sorted_180
                  refine ok_ite (fun h1109 => ?_) (fun h1109 => ?_)
                  · have c1110 : x2.toInt = (1 : Int) := o_eq h1109
                    refine ok_ite (fun h1111 => ?_) (fun h1111 => ?_)
                    · have c1112 : (1 : Int) = (0 : Int) := o_eq h1111
                      unfold J_X12_sorted_206
                      exact ok_some (show δ = δ from rfl)
                    · have c1113 : (1 : Int) ≠ (0 : Int) := o_ne h1111
                      refine ok_at o644 ?_
                      refine ok_gd (fun hc1114 => ?_) ?_
                      · rcases hc1114 with hc1114 | hc1114
                        · have c1115 : x1.toInt < (0 : Int) := o_lt hc1114
                          omega
                        · omega
                      first | (have q1119 := te_subc (c := 1) (n := 1) rfl ((q_R δ (Ad ad 103) x1.toNatClampNeg) - x5v) (by omega) (by omega); obtain ⟨f1120, f1121, f1122⟩ := q1119) | (obtain ⟨q1119, f1120, f1121, f1122⟩ := ti_subc (c := 1) (n := 1) rfl ((q_R δ (Ad ad 103) x1.toNatClampNeg) - x5v))
                      refine ok_biv (fun vx1116 e1117 => ?_)
                      first | (have q1123 := te_add vx1093 (((q_R δ (Ad ad 103) x1.toNatClampNeg) - x5v) - (1 : Int32)) (by omega) (by omega); rw [← e1117] at q1123; obtain ⟨f1124, f1125, f1126⟩ := q1123) | (obtain ⟨q1123, f1124, f1125, f1126⟩ : ∃ q : Int, vx1116.toInt = vx1093.toInt + (((q_R δ (Ad ad 103) x1.toNatClampNeg) - x5v) - (1 : Int32)).toInt + 4294967296 * q ∧ -2147483648 ≤ vx1116.toInt ∧ vx1116.toInt ≤ 2147483647 := by rw [e1117]; exact ti_add vx1093 (((q_R δ (Ad ad 103) x1.toNatClampNeg) - x5v) - (1 : Int32)))
                      unfold J_X12_sorted_206
                      exact ok_some (show δ = δ from rfl)
                  · have c1127 : x2.toInt ≠ (1 : Int) := o_ne h1109
                    unfold J_X12_sorted_206
                    exact ok_some (show δ = δ from rfl)
                · have c1128 : (1 : Int) ≠ (0 : Int) := o_ne h1089
                  unfold J_X12_sorted_180
                  refine ok_ite (fun h1129 => ?_) (fun h1129 => ?_)
                  · have c1130 : x2.toInt = (1 : Int) := o_eq h1129
                    refine ok_ite (fun h1131 => ?_) (fun h1131 => ?_)
                    · have c1132 : (1 : Int) = (0 : Int) := o_eq h1131
                      unfold J_X12_sorted_206
                      exact ok_some (show δ = δ from rfl)
                    · have c1133 : (1 : Int) ≠ (0 : Int) := o_ne h1131
                      refine ok_at o644 ?_
                      refine ok_gd (fun hc1134 => ?_) ?_
                      · rcases hc1134 with hc1134 | hc1134
                        · have c1135 : x1.toInt < (0 : Int) := o_lt hc1134
                          omega
                        · omega
                      first | (have q1139 := te_sub (q_R δ (Ad ad 103) x1.toNatClampNeg) x5v (by omega) (by omega); obtain ⟨f1140, f1141, f1142⟩ := q1139) | (obtain ⟨q1139, f1140, f1141, f1142⟩ := ti_sub (q_R δ (Ad ad 103) x1.toNatClampNeg) x5v)
                      first | (have q1144 := te_subc (c := 1) (n := 1) rfl ((q_R δ (Ad ad 103) x1.toNatClampNeg) - x5v) (by omega) (by omega); obtain ⟨f1145, f1146, f1147⟩ := q1144) | (obtain ⟨q1144, f1145, f1146, f1147⟩ := ti_subc (c := 1) (n := 1) rfl ((q_R δ (Ad ad 103) x1.toNatClampNeg) - x5v))
                      refine ok_biv (fun vx1136 e1137 => ?_)
                      first | (have q1148 := te_add vx962 (((q_R δ (Ad ad 103) x1.toNatClampNeg) - x5v) - (1 : Int32)) (by omega) (by omega); rw [← e1137] at q1148; obtain ⟨f1149, f1150, f1151⟩ := q1148) | (obtain ⟨q1148, f1149, f1150, f1151⟩ : ∃ q : Int, vx1136.toInt = vx962.toInt + (((q_R δ (Ad ad 103) x1.toNatClampNeg) - x5v) - (1 : Int32)).toInt + 4294967296 * q ∧ -2147483648 ≤ vx1136.toInt ∧ vx1136.toInt ≤ 2147483647 := by rw [e1137]; exact ti_add vx962 (((q_R δ (Ad ad 103) x1.toNatClampNeg) - x5v) - (1 : Int32)))
                      unfold J_X12_sorted_206
                      exact ok_some (show δ = δ from rfl)
                  · have c1152 : x2.toInt ≠ (1 : Int) := o_ne h1129
                    unfold J_X12_sorted_206
                    exact ok_some (show δ = δ from rfl)
              · have c1153 : x2.toInt ≠ (0 : Int) := o_ne h1087
                unfold J_X12_sorted_180
                refine ok_ite (fun h1154 => ?_) (fun h1154 => ?_)
                · have c1155 : x2.toInt = (1 : Int) := o_eq h1154
                  refine ok_ite (fun h1156 => ?_) (fun h1156 => ?_)
                  · have c1157 : (1 : Int) = (0 : Int) := o_eq h1156
                    unfold J_X12_sorted_206
                    exact ok_some (show δ = δ from rfl)
                  · have c1158 : (1 : Int) ≠ (0 : Int) := o_ne h1156
                    refine ok_at o644 ?_
                    refine ok_gd (fun hc1159 => ?_) ?_
                    · rcases hc1159 with hc1159 | hc1159
                      · have c1160 : x1.toInt < (0 : Int) := o_lt hc1159
                        omega
                      · omega
                    first | (have q1164 := te_sub (q_R δ (Ad ad 103) x1.toNatClampNeg) x5v (by omega) (by omega); obtain ⟨f1165, f1166, f1167⟩ := q1164) | (obtain ⟨q1164, f1165, f1166, f1167⟩ := ti_sub (q_R δ (Ad ad 103) x1.toNatClampNeg) x5v)
                    first | (have q1169 := te_subc (c := 1) (n := 1) rfl ((q_R δ (Ad ad 103) x1.toNatClampNeg) - x5v) (by omega) (by omega); obtain ⟨f1170, f1171, f1172⟩ := q1169) | (obtain ⟨q1169, f1170, f1171, f1172⟩ := ti_subc (c := 1) (n := 1) rfl ((q_R δ (Ad ad 103) x1.toNatClampNeg) - x5v))
                    refine ok_biv (fun vx1161 e1162 => ?_)
                    first | (have q1173 := te_add vx962 (((q_R δ (Ad ad 103) x1.toNatClampNeg) - x5v) - (1 : Int32)) (by omega) (by omega); rw [← e1162] at q1173; obtain ⟨f1174, f1175, f1176⟩ := q1173) | (obtain ⟨q1173, f1174, f1175, f1176⟩ : ∃ q : Int, vx1161.toInt = vx962.toInt + (((q_R δ (Ad ad 103) x1.toNatClampNeg) - x5v) - (1 : Int32)).toInt + 4294967296 * q ∧ -2147483648 ≤ vx1161.toInt ∧ vx1161.toInt ≤ 2147483647 := by rw [e1162]; exact ti_add vx962 (((q_R δ (Ad ad 103) x1.toNatClampNeg) - x5v) - (1 : Int32)))
                    unfold J_X12_sorted_206
                    exact ok_some (show δ = δ from rfl)
                · have c1177 : x2.toInt ≠ (1 : Int) := o_ne h1154
                  unfold J_X12_sorted_206
                  exact ok_some (show δ = δ from rfl)
            · have c1178 : (q_R δ (Ad ad 102) (((2000 : Int32) * x1) + x5v).toNatClampNeg).toInt ≠ x3.toInt := o_ne h1085
              unfold J_X12_sorted_152
              unfold J_X12_sorted_153
              refine ok_ite (fun h1179 => ?_) (fun h1179 => ?_)
              · have c1180 : x2.toInt = (0 : Int) := o_eq h1179
                refine ok_ite (fun h1181 => ?_) (fun h1181 => ?_)
                · have c1182 : (0 : Int) = (0 : Int) := o_eq h1181
                  refine ok_at o644 ?_
                  refine ok_gd (fun hc1183 => ?_) ?_
                  · rcases hc1183 with hc1183 | hc1183
                    · have c1184 : x1.toInt < (0 : Int) := o_lt hc1183
                      omega
                    · omega
                  first | (have q1188 := te_sub (q_R δ (Ad ad 103) x1.toNatClampNeg) x5v (by omega) (by omega); obtain ⟨f1189, f1190, f1191⟩ := q1188) | (obtain ⟨q1188, f1189, f1190, f1191⟩ := ti_sub (q_R δ (Ad ad 103) x1.toNatClampNeg) x5v)
                  first | (have q1193 := te_addc (c := 1) (n := 1) rfl ((q_R δ (Ad ad 103) x1.toNatClampNeg) - x5v) (by omega) (by omega); obtain ⟨f1194, f1195, f1196⟩ := q1193) | (obtain ⟨q1193, f1194, f1195, f1196⟩ := ti_addc (c := 1) (n := 1) rfl ((q_R δ (Ad ad 103) x1.toNatClampNeg) - x5v))
                  refine ok_biv (fun vx1185 e1186 => ?_)
                  first | (have q1197 := te_add vx962 (((q_R δ (Ad ad 103) x1.toNatClampNeg) - x5v) + (1 : Int32)) (by omega) (by omega); rw [← e1186] at q1197; obtain ⟨f1198, f1199, f1200⟩ := q1197) | (obtain ⟨q1197, f1198, f1199, f1200⟩ : ∃ q : Int, vx1185.toInt = vx962.toInt + (((q_R δ (Ad ad 103) x1.toNatClampNeg) - x5v) + (1 : Int32)).toInt + 4294967296 * q ∧ -2147483648 ≤ vx1185.toInt ∧ vx1185.toInt ≤ 2147483647 := by rw [e1186]; exact ti_add vx962 (((q_R δ (Ad ad 103) x1.toNatClampNeg) - x5v) + (1 : Int32)))
                  unfold J_X12_sorted_180
                  refine ok_ite (fun h1201 => ?_) (fun h1201 => ?_)
                  · have c1202 : x2.toInt = (1 : Int) := o_eq h1201
                    refine ok_ite (fun h1203 => ?_) (fun h1203 => ?_)
                    · have c1204 : (0 : Int) = (0 : Int) := o_eq h1203
                      unfold J_X12_sorted_206
                      exact ok_some (show δ = δ from rfl)
                    · have c1205 : (0 : Int) ≠ (0 : Int) := o_ne h1203
                      refine ok_at o644 ?_
                      refine ok_gd (fun hc1206 => ?_) ?_
                      · rcases hc1206 with hc1206 | hc1206
                        · have c1207 : x1.toInt < (0 : Int) := o_lt hc1206
                          omega
                        · omega
                      first | (have q1211 := te_subc (c := 1) (n := 1) rfl ((q_R δ (Ad ad 103) x1.toNatClampNeg) - x5v) (by omega) (by omega); obtain ⟨f1212, f1213, f1214⟩ := q1211) | (obtain ⟨q1211, f1212, f1213, f1214⟩ := ti_subc (c := 1) (n := 1) rfl ((q_R δ (Ad ad 103) x1.toNatClampNeg) - x5v))
                      refine ok_biv (fun vx1208 e1209 => ?_)
                      first | (have q1215 := te_add vx1185 (((q_R δ (Ad ad 103) x1.toNatClampNeg) - x5v) - (1 : Int32)) (by omega) (by omega); rw [← e1209] at q1215; obtain ⟨f1216, f1217, f1218⟩ := q1215) | (obtain ⟨q1215, f1216, f1217, f1218⟩ : ∃ q : Int, vx1208.toInt = vx1185.toInt + (((q_R δ (Ad ad 103) x1.toNatClampNeg) - x5v) - (1 : Int32)).toInt + 4294967296 * q ∧ -2147483648 ≤ vx1208.toInt ∧ vx1208.toInt ≤ 2147483647 := by rw [e1209]; exact ti_add vx1185 (((q_R δ (Ad ad 103) x1.toNatClampNeg) - x5v) - (1 : Int32)))
                      unfold J_X12_sorted_206
                      exact ok_some (show δ = δ from rfl)
                  · have c1219 : x2.toInt ≠ (1 : Int) := o_ne h1201
                    unfold J_X12_sorted_206
                    exact ok_some (show δ = δ from rfl)
                · have c1220 : (0 : Int) ≠ (0 : Int) := o_ne h1181
                  unfold J_X12_sorted_180
                  refine ok_ite (fun h1221 => ?_) (fun h1221 => ?_)
                  · have c1222 : x2.toInt = (1 : Int) := o_eq h1221
                    refine ok_ite (fun h1223 => ?_) (fun h1223 => ?_)
                    · have c1224 : (0 : Int) = (0 : Int) := o_eq h1223
                      unfold J_X12_sorted_206
                      exact ok_some (show δ = δ from rfl)
                    · have c1225 : (0 : Int) ≠ (0 : Int) := o_ne h1223
                      refine ok_at o644 ?_
                      refine ok_gd (fun hc1226 => ?_) ?_
                      · rcases hc1226 with hc1226 | hc1226
                        · have c1227 : x1.toInt < (0 : Int) := o_lt hc1226
                          omega
                        · omega
                      first | (have q1231 := te_sub (q_R δ (Ad ad 103) x1.toNatClampNeg) x5v (by omega) (by omega); obtain ⟨f1232, f1233, f1234⟩ := q1231) | (obtain ⟨q1231, f1232, f1233, f1234⟩ := ti_sub (q_R δ (Ad ad 103) x1.toNatClampNeg) x5v)
                      first | (have q1236 := te_subc (c := 1) (n := 1) rfl ((q_R δ (Ad ad 103) x1.toNatClampNeg) - x5v) (by omega) (by omega); obtain ⟨f1237, f1238, f1239⟩ := q1236) | (obtain ⟨q1236, f1237, f1238, f1239⟩ := ti_subc (c := 1) (n := 1) rfl ((q_R δ (Ad ad 103) x1.toNatClampNeg) - x5v))
                      refine ok_biv (fun vx1228 e1229 => ?_)
                      first | (have q1240 := te_add vx962 (((q_R δ (Ad ad 103) x1.toNatClampNeg) - x5v) - (1 : Int32)) (by omega) (by omega); rw [← e1229] at q1240; obtain ⟨f1241, f1242, f1243⟩ := q1240) | (obtain ⟨q1240, f1241, f1242, f1243⟩ : ∃ q : Int, vx1228.toInt = vx962.toInt + (((q_R δ (Ad ad 103) x1.toNatClampNeg) - x5v) - (1 : Int32)).toInt + 4294967296 * q ∧ -2147483648 ≤ vx1228.toInt ∧ vx1228.toInt ≤ 2147483647 := by rw [e1229]; exact ti_add vx962 (((q_R δ (Ad ad 103) x1.toNatClampNeg) - x5v) - (1 : Int32)))
                      unfold J_X12_sorted_206
                      exact ok_some (show δ = δ from rfl)
                  · have c1244 : x2.toInt ≠ (1 : Int) := o_ne h1221
                    unfold J_X12_sorted_206
                    exact ok_some (show δ = δ from rfl)
              · have c1245 : x2.toInt ≠ (0 : Int) := o_ne h1179
                unfold J_X12_sorted_180
                refine ok_ite (fun h1246 => ?_) (fun h1246 => ?_)
                · have c1247 : x2.toInt = (1 : Int) := o_eq h1246
                  refine ok_ite (fun h1248 => ?_) (fun h1248 => ?_)
                  · have c1249 : (0 : Int) = (0 : Int) := o_eq h1248
                    unfold J_X12_sorted_206
                    exact ok_some (show δ = δ from rfl)
                  · have c1250 : (0 : Int) ≠ (0 : Int) := o_ne h1248
                    refine ok_at o644 ?_
                    refine ok_gd (fun hc1251 => ?_) ?_
                    · rcases hc1251 with hc1251 | hc1251
                      · have c1252 : x1.toInt < (0 : Int) := o_lt hc1251
                        omega
                      · omega
                    first | (have q1256 := te_sub (q_R δ (Ad ad 103) x1.toNatClampNeg) x5v (by omega) (by omega); obtain ⟨f1257, f1258, f1259⟩ := q1256) | (obtain ⟨q1256, f1257, f1258, f1259⟩ := ti_sub (q_R δ (Ad ad 103) x1.toNatClampNeg) x5v)
                    first | (have q1261 := te_subc (c := 1) (n := 1) rfl ((q_R δ (Ad ad 103) x1.toNatClampNeg) - x5v) (by omega) (by omega); obtain ⟨f1262, f1263, f1264⟩ := q1261) | (obtain ⟨q1261, f1262, f1263, f1264⟩ := ti_subc (c := 1) (n := 1) rfl ((q_R δ (Ad ad 103) x1.toNatClampNeg) - x5v))
                    refine ok_biv (fun vx1253 e1254 => ?_)
                    first | (have q1265 := te_add vx962 (((q_R δ (Ad ad 103) x1.toNatClampNeg) - x5v) - (1 : Int32)) (by omega) (by omega); rw [← e1254] at q1265; obtain ⟨f1266, f1267, f1268⟩ := q1265) | (obtain ⟨q1265, f1266, f1267, f1268⟩ : ∃ q : Int, vx1253.toInt = vx962.toInt + (((q_R δ (Ad ad 103) x1.toNatClampNeg) - x5v) - (1 : Int32)).toInt + 4294967296 * q ∧ -2147483648 ≤ vx1253.toInt ∧ vx1253.toInt ≤ 2147483647 := by rw [e1254]; exact ti_add vx962 (((q_R δ (Ad ad 103) x1.toNatClampNeg) - x5v) - (1 : Int32)))
                    unfold J_X12_sorted_206
                    exact ok_some (show δ = δ from rfl)
                · have c1269 : x2.toInt ≠ (1 : Int) := o_ne h1246
                  unfold J_X12_sorted_206
                  exact ok_some (show δ = δ from rfl)
    · have c1270 : x5v.toInt < x6v.toInt := o_nle h6
      first | (have q1274 := te_add x5v x6v (by omega) (by omega); obtain ⟨f1275, f1276, f1277⟩ := q1274) | (obtain ⟨q1274, f1275, f1276, f1277⟩ := ti_add x5v x6v)
      have f1278 := ti_div (c := 2) (n := 2) rfl (by decide) (x5v + x6v)
      have f1279 := ti_b ((x5v + x6v) / (2 : Int32))
      have f1280 := ti_dvn (c := 2) (n := 2) rfl (by decide) (x5v + x6v)
      refine ok_biv (fun vx1271 e1272 => ?_)
      have f1281 : vx1271.toInt = ((x5v + x6v) / (2 : Int32)).toInt := congrArg Int32.toInt e1272
      have f1284 := ti_b x7v
      refine ok_biv (fun vx1282 e1283 => ?_)
      first | (have q1285 := te_addc (c := 1) (n := 1) rfl x7v (by omega) (by omega); rw [← e1283] at q1285; obtain ⟨f1286, f1287, f1288⟩ := q1285) | (obtain ⟨q1285, f1286, f1287, f1288⟩ : ∃ q : Int, vx1282.toInt = x7v.toInt + (1 : Int) + 4294967296 * q ∧ -2147483648 ≤ vx1282.toInt ∧ vx1282.toInt ≤ 2147483647 := by rw [e1283]; exact ti_addc (c := 1) (n := 1) rfl x7v)
      obtain ⟨b1289, o1290, k1291, n1292, w1293⟩ := gO_12_13 L k_a0
      obtain rfl := gS_12_13 L k_a0 o1290
      refine ok_at o1290 ?_
      first | (have q1295 := te_mulc (c := 2000) (n := 2000) rfl x1 (by omega) (by omega); obtain ⟨f1296, f1297, f1298⟩ := q1295) | (obtain ⟨q1295, f1296, f1297, f1298⟩ := ti_mulc (c := 2000) (n := 2000) rfl x1)
      first | (have q1300 := te_add ((2000 : Int32) * x1) vx1271 (by omega) (by omega); obtain ⟨f1301, f1302, f1303⟩ := q1300) | (obtain ⟨q1300, f1301, f1302, f1303⟩ := ti_add ((2000 : Int32) * x1) vx1271)
      have t1304 := ti_tn (((2000 : Int32) * x1) + vx1271)
      refine ok_gd (fun hc1305 => ?_) ?_
      · rcases hc1305 with hc1305 | hc1305
        · have c1306 : (((2000 : Int32) * x1) + vx1271).toInt < (0 : Int) := o_lt hc1305
          omega
        · omega
      have f1307 := ti_b x4v
      have f1308 := ti_b (q_R δ (Ad ad 102) (((2000 : Int32) * x1) + vx1271).toNatClampNeg)
      refine ok_ite (fun h1309 => ?_) (fun h1309 => ?_)
      · have c1310 : x4v.toInt ≤ (q_R δ (Ad ad 102) (((2000 : Int32) * x1) + vx1271).toNatClampNeg).toInt := o_le h1309
        unfold J_X12_sorted_78
        refine ok_mono (ih x4v x5v vx1271 vx1282 δ I (show 0 ≤ (x1).toInt by first | with_reducible assumption | omega) (show (x1).toInt ≤ 3 by first | with_reducible assumption | omega) (show 0 ≤ (x5v).toInt by first | with_reducible assumption | omega) (show (x5v).toInt = 0 ∨ (x5v).toInt ≤ (vx1271).toInt by first | with_reducible assumption | omega) (show -1000 ≤ (vx1271).toInt by first | with_reducible assumption | omega) (show (vx1271).toInt ≤ (q_R δ (Ad ad 103) (x1).toNatClampNeg).toInt by first | with_reducible assumption | omega) (show (vx1271).toInt - (x5v).toInt + 1000 < _ by omega)) (fun r1311 hr1312 => ?_)
        have i1313 := hr1312
        have f1314 := ti_b r1311.1
        exact by assumption
      · have c1315 : (q_R δ (Ad ad 102) (((2000 : Int32) * x1) + vx1271).toNatClampNeg).toInt < x4v.toInt := o_nle h1309
        refine ok_biv (fun vx1316 e1317 => ?_)
        first | (have q1318 := te_addc (c := 1) (n := 1) rfl vx1271 (by omega) (by omega); rw [← e1317] at q1318; obtain ⟨f1319, f1320, f1321⟩ := q1318) | (obtain ⟨q1318, f1319, f1320, f1321⟩ : ∃ q : Int, vx1316.toInt = vx1271.toInt + (1 : Int) + 4294967296 * q ∧ -2147483648 ≤ vx1316.toInt ∧ vx1316.toInt ≤ 2147483647 := by rw [e1317]; exact ti_addc (c := 1) (n := 1) rfl vx1271)
        unfold J_X12_sorted_78
        refine ok_mono (ih x4v vx1316 x6v vx1282 δ I (show 0 ≤ (x1).toInt by first | with_reducible assumption | omega) (show (x1).toInt ≤ 3 by first | with_reducible assumption | omega) (show 0 ≤ (vx1316).toInt by first | with_reducible assumption | omega) (show (vx1316).toInt = 0 ∨ (vx1316).toInt ≤ (x6v).toInt by first | with_reducible assumption | omega) (show -1000 ≤ (x6v).toInt by first | with_reducible assumption | omega) (show (x6v).toInt ≤ (q_R δ (Ad ad 103) (x1).toNatClampNeg).toInt by first | with_reducible assumption | omega) (show (x6v).toInt - (vx1316).toInt + 1000 < _ by omega)) (fun r1322 hr1323 => ?_)
        have i1324 := hr1323
        have f1325 := ti_b r1322.1
        exact by assumption
set_option maxHeartbeats 4000000 in
theorem k_X12_sorted {ad : List Nat} {h : hp} (L : Lay TLx ad h) {δ0 : dp} {N : Nat} (hN : 10000000 ≤ N) {a0 : Nat} {x1 : Int32} {x2 : Int32} {x3 : Int32} (k_a0 : q_K h.1 a0 = 12) {δ : dp} (z0 : 0 ≤ (x1).toInt) (z1 : (x1).toInt ≤ 3) (I : RI ad h.1 δ0 δ) : ok (D_X12_sorted N h.1 a0 x1 x2 x3 δ) (fun r => r.2 = δ) := by
  unfold D_X12_sorted
  have f1 := ti_b x1
  have f2 := ti_b x2
  refine ok_ite (fun h3 => ?_) (fun h3 => ?_)
  · have c4 : x2.toInt = (3 : Int) := o_eq h3
    unfold J_X12_sorted_12
    obtain ⟨b5, o6, k7, n8⟩ := gO_12_14 L k_a0
    obtain rfl := gS_12_14 L k_a0 o6
    refine ok_at o6 ?_
    have t9 := ti_tn x1
    refine ok_gd (fun hc10 => ?_) ?_
    · rcases hc10 with hc10 | hc10
      · have c11 : x1.toInt < (0 : Int) := o_lt hc10
        omega
      · omega
    have f14 := rb_103 L I x1.toNatClampNeg
    refine ok_biv (fun vx12 e13 => ?_)
    have f15 : vx12.toInt = (q_R δ (Ad ad 103) x1.toNatClampNeg).toInt := congrArg Int32.toInt e13
    have t16 := ti_tn x1
    have f17 := rb_103 L I (x1).toNatClampNeg
    refine ok_mono (kl_X12_sorted_28 L hN   k_a0 _ (x3 + (1 : Int32)) (0 : Int32) vx12 (0 : Int32) δ I (show 0 ≤ (x1).toInt by first | with_reducible assumption | omega) (show (x1).toInt ≤ 3 by first | with_reducible assumption | omega) (show 0 ≤ (0 : Int) by first | with_reducible assumption | omega) (show (0 : Int) = 0 ∨ (0 : Int) ≤ (vx12).toInt by first | with_reducible assumption | omega) (show -1000 ≤ (vx12).toInt by first | with_reducible assumption | omega) (show (vx12).toInt ≤ (q_R δ (Ad ad 103) (x1).toNatClampNeg).toInt by first | with_reducible assumption | omega) (show (vx12).toInt - (0 : Int) + 1000 < _ by omega)) (fun r18 hr19 => ?_)
    have i20 := hr19
    have f21 := ti_b r18.1
    exact by assumption
  · have c22 : x2.toInt ≠ (3 : Int) := o_ne h3
    unfold J_X12_sorted_12
    obtain ⟨b23, o24, k25, n26⟩ := gO_12_14 L k_a0
    obtain rfl := gS_12_14 L k_a0 o24
    refine ok_at o24 ?_
    have t27 := ti_tn x1
    refine ok_gd (fun hc28 => ?_) ?_
    · rcases hc28 with hc28 | hc28
      · have c29 : x1.toInt < (0 : Int) := o_lt hc28
        omega
      · omega
    have f32 := rb_103 L I x1.toNatClampNeg
    refine ok_biv (fun vx30 e31 => ?_)
    have f33 : vx30.toInt = (q_R δ (Ad ad 103) x1.toNatClampNeg).toInt := congrArg Int32.toInt e31
    have t34 := ti_tn x1
    have f35 := rb_103 L I (x1).toNatClampNeg
    refine ok_mono (kl_X12_sorted_28 L hN   k_a0 _ x3 (0 : Int32) vx30 (0 : Int32) δ I (show 0 ≤ (x1).toInt by first | with_reducible assumption | omega) (show (x1).toInt ≤ 3 by first | with_reducible assumption | omega) (show 0 ≤ (0 : Int) by first | with_reducible assumption | omega) (show (0 : Int) = 0 ∨ (0 : Int) ≤ (vx30).toInt by first | with_reducible assumption | omega) (show -1000 ≤ (vx30).toInt by first | with_reducible assumption | omega) (show (vx30).toInt ≤ (q_R δ (Ad ad 103) (x1).toNatClampNeg).toInt by first | with_reducible assumption | omega) (show (vx30).toInt - (0 : Int) + 1000 < _ by omega)) (fun r36 hr37 => ?_)
    have i38 := hr37
    have f39 := ti_b r36.1
    exact by assumption
set_option maxHeartbeats 4000000 in
theorem k_X12_isCall {ad : List Nat} {h : hp} (L : Lay TLx ad h) {δ0 : dp} {N : Nat} (hN : 10000000 ≤ N) {x0 : Int32} {δ : dp} (I : RI ad h.1 δ0 δ) : ok (D_X12_isCall N h.1 x0 δ) (fun r => r.2 = δ ∧ bo (r.1) ∧ ((r.1).toInt = 1 → 0 ≤ (x0).toInt ∧ (x0).toInt ≤ 4)) := by
  unfold D_X12_isCall
  refine ok_bind (k_X12_within L hN (x0 := x0) (x1 := (0 : Int32)) (x2 := (4 : Int32))  I) (fun r1 hr2 => ?_)
  obtain ⟨i3, p4, p5, p6⟩ := hr2
  try rw [i3]
  have f7 := bo_l p4
  have f8 := ti_b r1.1
  have f9 := ti_b x0
  replace p5 : ((r1.1).toInt = 1 → (0 : Int) ≤ (x0).toInt ∧ (x0).toInt ≤ (4 : Int)) := p5
  replace p6 : ((r1.1).toInt = 0 → (x0).toInt < (0 : Int) ∨ (4 : Int) < (x0).toInt) := p6
  refine ok_gp (show bo r1.1 by first | assumption | exact bo_0 | exact bo_1 | exact bo_i (by omega) (by omega)) ?_
  exact ok_some (show δ = δ ∧ bo (r1.1) ∧ ((r1.1).toInt = 1 → 0 ≤ (x0).toInt ∧ (x0).toInt ≤ 4) from ⟨rfl, by first | assumption | exact bo_0 | exact bo_1 | exact bo_i (by omega) (by omega), by first | with_reducible assumption | omega⟩)
set_option maxHeartbeats 4000000 in
theorem k_X12_touched {ad : List Nat} {h : hp} (L : Lay TLx ad h) {δ0 : dp} {N : Nat} (hN : 10000000 ≤ N) {a0 : Nat} {x1 : Int32} {x2 : Int32} {x3 : Int32} {x4 : Int32} (k_a0 : q_K h.1 a0 = 12) {δ : dp} (z0 : 0 ≤ (x1).toInt) (z1 : (x1).toInt ≤ 3) (z2 : -1 ≤ (x3).toInt) (z3 : (x3).toInt ≤ 65536) (I : RI ad h.1 δ0 δ) : ok (D_X12_touched N h.1 a0 x1 x2 x3 x4 δ) (fun r => RI ad h.1 δ0 r.2 ∧ (kp [(12, 36)] δ r.2 ∧ q_V r.2 = q_V δ ∧ kr ad [119] δ r.2)) := by
  unfold D_X12_touched
  have f1 := ti_b x1
  have f2 := ti_b x3
  have f3 := ti_b x4
  refine ok_ite (fun h4 => ?_) (fun h4 => ?_)
  · have c5 : x4.toInt = (0 : Int) := o_eq h4
    refine ok_bind (k_X12_halves L hN (a0 := a0) (x1 := x1) (x2 := x2) (x3 := x3) k_a0 (show 0 ≤ (x1).toInt by first | with_reducible assumption | omega) (show (x1).toInt ≤ 3 by first | with_reducible assumption | omega) I) (fun r6 hr7 => ?_)
    obtain ⟨i8, ⟨u9, u10, u11⟩⟩ := hr7
    have u12 := kp_t kp_r u9
    have v13 : q_V r6.2 = q_V δ := (u10).trans rfl
    have v14 := kr_t (kr_r (ad := ad)) u11
    have f15 := ti_b r6.1
    unfold J_X12_touched_38
    exact ok_some (show RI ad h.1 δ0 r6.2 ∧ (kp [(12, 36)] δ r6.2 ∧ q_V r6.2 = q_V δ ∧ kr ad [119] δ r6.2) from ⟨i8, ⟨kp_w (by decide) u12, v13, kr_w (by decide) v14⟩⟩)
  · have c16 : x4.toInt ≠ (0 : Int) := o_ne h4
    refine ok_ite (fun h17 => ?_) (fun h17 => ?_)
    · have c18 : x4.toInt = (1 : Int) := o_eq h17
      refine ok_bind (k_X12_bits L hN (a0 := a0) (x1 := x1) (x2 := x2) (x3 := x3) k_a0 (show 0 ≤ (x1).toInt by first | with_reducible assumption | omega) (show (x1).toInt ≤ 3 by first | with_reducible assumption | omega) (show -1 ≤ (x3).toInt by first | with_reducible assumption | omega) (show (x3).toInt ≤ 65536 by first | with_reducible assumption | omega) I) (fun r19 hr20 => ?_)
      have i21 := hr20
      try rw [i21]
      have f22 := ti_b r19.1
      unfold J_X12_touched_38
      exact ok_some (show RI ad h.1 δ0 δ ∧ (kp [(12, 36)] δ δ ∧ q_V δ = q_V δ ∧ kr ad [119] δ δ) from ⟨I, ⟨kp_w (by decide) kp_r, rfl, kr_w (by decide) (kr_r (ad := ad))⟩⟩)
    · have c23 : x4.toInt ≠ (1 : Int) := o_ne h17
      refine ok_bind (k_X12_sorted L hN (a0 := a0) (x1 := x1) (x2 := x2) (x3 := x3) k_a0 (show 0 ≤ (x1).toInt by first | with_reducible assumption | omega) (show (x1).toInt ≤ 3 by first | with_reducible assumption | omega) I) (fun r24 hr25 => ?_)
      have i26 := hr25
      try rw [i26]
      have f27 := ti_b r24.1
      unfold J_X12_touched_38
      exact ok_some (show RI ad h.1 δ0 δ ∧ (kp [(12, 36)] δ δ ∧ q_V δ = q_V δ ∧ kr ad [119] δ δ) from ⟨I, ⟨kp_w (by decide) kp_r, rfl, kr_w (by decide) (kr_r (ad := ad))⟩⟩)
set_option maxHeartbeats 4000000 in
theorem k_X12_touches {ad : List Nat} {h : hp} (L : Lay TLx ad h) {δ0 : dp} {N : Nat} (hN : 10000000 ≤ N) {a0 : Nat} {x1 : Int32} {x2 : Int32} {x3 : Int32} {x4 : Int32} (k_a0 : q_K h.1 a0 = 12) {δ : dp} (I : RI ad h.1 δ0 δ) : ok (D_X12_touches N h.1 a0 x1 x2 x3 x4 δ) (fun r => RI ad h.1 δ0 r.2 ∧ (kp [(12, 0), (12, 36)] δ r.2 ∧ q_V r.2 = q_V δ ∧ kr ad [100, 119] δ r.2)) := by
  unfold D_X12_touches
  refine ok_bdv (fun d1 e2 => ?_)
  have i3 : RI ad h.1 δ0 d1 := by rw [e2]; exact cs_12_0 L I
  have u4 := kp_I kp_r e2
  have v5 : q_V d1 = q_V δ := ((show q_V d1 = q_V δ by rw [e2]; rfl)).trans rfl
  have v6 := kr_N (kr_r (ad := ad)) (show q_R d1 = q_R δ by rw [e2]; rfl)
  refine ok_bind (k_X12_isHouse L hN (a0 := a0) (x1 := x1) (x2 := (1 : Int32)) k_a0 (show (1 : Int) ≠ 0 by first | with_reducible assumption | omega) i3) (fun r7 hr8 => ?_)
  obtain ⟨i9, ⟨u12, u13, u14⟩, p10, p11⟩ := hr8
  have u15 := kp_t u4 u12
  have v16 : q_V r7.2 = q_V δ := (u13).trans v5
  have v17 := kr_t v6 u14
  have f18 := bo_l p10
  have f19 := ti_b r7.1
  have f20 := ti_b x1
  refine ok_ite (fun h21 => ?_) (fun h21 => ?_)
  · have c22 : r7.1.toInt = (0 : Int) := o_eq h21
    unfold J_X12_touches_54
    exact ok_some (show RI ad h.1 δ0 r7.2 ∧ (kp [(12, 0), (12, 36)] δ r7.2 ∧ q_V r7.2 = q_V δ ∧ kr ad [100, 119] δ r7.2) from ⟨i9, ⟨kp_w (by decide) u15, v16, kr_w (by decide) v17⟩⟩)
  · have c23 : r7.1.toInt ≠ (0 : Int) := o_ne h21
    refine ok_bind (k_X12_isCall L hN (x0 := x2)  i9) (fun r24 hr25 => ?_)
    obtain ⟨i26, p27, p28⟩ := hr25
    try rw [i26]
    have f29 := bo_l p27
    have f30 := ti_b r24.1
    have f31 := ti_b x2
    refine ok_ite (fun h32 => ?_) (fun h32 => ?_)
    · have c33 : r24.1.toInt = (0 : Int) := o_eq h32
      unfold J_X12_touches_45
      unfold J_X12_touches_46
      refine ok_bind (k_X12_may L hN (a0 := a0) (x1 := (0 : Int32)) (x2 := (2 : Int32)) (x3 := (2 : Int32)) k_a0 (show (2 : Int) ≠ 0 by first | with_reducible assumption | omega) (show 0 ≤ (2 : Int) by first | with_reducible assumption | omega) (show (2 : Int) ≤ 2 by first | with_reducible assumption | omega) i9) (fun r34 hr35 => ?_)
      obtain ⟨i36, ⟨u40, u41, u42⟩, p37, p38, p39⟩ := hr35
      have u43 := kp_t u15 u40
      have v44 : q_V r34.2 = q_V δ := (u41).trans v16
      have v45 := kr_t v17 u42
      have f46 := bo_l p37
      have f47 := ti_b r34.1
      replace p38 : ((r34.1).toInt = 1 → (0 : Int) ≠ 0) := p38
      have f48 := ti_b (q_I r7.2 12 0 a0)
      replace p39 : ((q_I r7.2 12 0 a0).toInt = 0 → (r34.1).toInt = 0 → (0 : Int) = 0) := p39
      refine ok_ite (fun h49 => ?_) (fun h49 => ?_)
      · have c50 : r34.1.toInt = (0 : Int) := o_eq h49
        unfold J_X12_touches_54
        exact ok_some (show RI ad h.1 δ0 r34.2 ∧ (kp [(12, 0), (12, 36)] δ r34.2 ∧ q_V r34.2 = q_V δ ∧ kr ad [100, 119] δ r34.2) from ⟨i36, ⟨kp_w (by decide) u43, v44, kr_w (by decide) v45⟩⟩)
      · have c51 : r34.1.toInt ≠ (0 : Int) := o_ne h49
        have f54 := ti_b x3
        refine ok_bind (k_X12_touched L hN (a0 := a0) (x1 := x1) (x2 := x2) (x3 := x3) (x4 := x4) k_a0 (show 0 ≤ (x1).toInt by first | with_reducible assumption | omega) (show (x1).toInt ≤ 3 by first | with_reducible assumption | omega) (show -1 ≤ (x3).toInt by first | with_reducible assumption | omega) (show (x3).toInt ≤ 65536 by first | with_reducible assumption | omega) i36) (fun r52 hr53 => ?_)
        obtain ⟨i55, ⟨u56, u57, u58⟩⟩ := hr53
        have u59 := kp_t u43 u56
        have v60 : q_V r52.2 = q_V δ := (u57).trans v44
        have v61 := kr_t v45 u58
        have f62 := ti_b r52.1
        exact ok_some (show RI ad h.1 δ0 r52.2 ∧ (kp [(12, 0), (12, 36)] δ r52.2 ∧ q_V r52.2 = q_V δ ∧ kr ad [100, 119] δ r52.2) from ⟨i55, ⟨kp_w (by decide) u59, v60, kr_w (by decide) v61⟩⟩)
    · have c63 : r24.1.toInt ≠ (0 : Int) := o_ne h32
      refine ok_bind (k_X12_within L hN (x0 := x4) (x1 := (0 : Int32)) (x2 := (2 : Int32))  i9) (fun r64 hr65 => ?_)
      obtain ⟨i66, p67, p68, p69⟩ := hr65
      try rw [i66]
      have f70 := bo_l p67
      have f71 := ti_b r64.1
      have f72 := ti_b x4
      replace p68 : ((r64.1).toInt = 1 → (0 : Int) ≤ (x4).toInt ∧ (x4).toInt ≤ (2 : Int)) := p68
      replace p69 : ((r64.1).toInt = 0 → (x4).toInt < (0 : Int) ∨ (2 : Int) < (x4).toInt) := p69
      refine ok_ite (fun h73 => ?_) (fun h73 => ?_)
      · have c74 : r64.1.toInt = (0 : Int) := o_eq h73
        unfold J_X12_touches_45
        unfold J_X12_touches_46
        refine ok_bind (k_X12_may L hN (a0 := a0) (x1 := (0 : Int32)) (x2 := (2 : Int32)) (x3 := (2 : Int32)) k_a0 (show (2 : Int) ≠ 0 by first | with_reducible assumption | omega) (show 0 ≤ (2 : Int) by first | with_reducible assumption | omega) (show (2 : Int) ≤ 2 by first | with_reducible assumption | omega) i9) (fun r75 hr76 => ?_)
        obtain ⟨i77, ⟨u81, u82, u83⟩, p78, p79, p80⟩ := hr76
        have u84 := kp_t u15 u81
        have v85 : q_V r75.2 = q_V δ := (u82).trans v16
        have v86 := kr_t v17 u83
        have f87 := bo_l p78
        have f88 := ti_b r75.1
        replace p79 : ((r75.1).toInt = 1 → (0 : Int) ≠ 0) := p79
        have f89 := ti_b (q_I r7.2 12 0 a0)
        replace p80 : ((q_I r7.2 12 0 a0).toInt = 0 → (r75.1).toInt = 0 → (0 : Int) = 0) := p80
        refine ok_ite (fun h90 => ?_) (fun h90 => ?_)
        · have c91 : r75.1.toInt = (0 : Int) := o_eq h90
          unfold J_X12_touches_54
          exact ok_some (show RI ad h.1 δ0 r75.2 ∧ (kp [(12, 0), (12, 36)] δ r75.2 ∧ q_V r75.2 = q_V δ ∧ kr ad [100, 119] δ r75.2) from ⟨i77, ⟨kp_w (by decide) u84, v85, kr_w (by decide) v86⟩⟩)
        · have c92 : r75.1.toInt ≠ (0 : Int) := o_ne h90
          have f95 := ti_b x3
          refine ok_bind (k_X12_touched L hN (a0 := a0) (x1 := x1) (x2 := x2) (x3 := x3) (x4 := x4) k_a0 (show 0 ≤ (x1).toInt by first | with_reducible assumption | omega) (show (x1).toInt ≤ 3 by first | with_reducible assumption | omega) (show -1 ≤ (x3).toInt by first | with_reducible assumption | omega) (show (x3).toInt ≤ 65536 by first | with_reducible assumption | omega) i77) (fun r93 hr94 => ?_)
          obtain ⟨i96, ⟨u97, u98, u99⟩⟩ := hr94
          have u100 := kp_t u84 u97
          have v101 : q_V r93.2 = q_V δ := (u98).trans v85
          have v102 := kr_t v86 u99
          have f103 := ti_b r93.1
          exact ok_some (show RI ad h.1 δ0 r93.2 ∧ (kp [(12, 0), (12, 36)] δ r93.2 ∧ q_V r93.2 = q_V δ ∧ kr ad [100, 119] δ r93.2) from ⟨i96, ⟨kp_w (by decide) u100, v101, kr_w (by decide) v102⟩⟩)
      · have c104 : r64.1.toInt ≠ (0 : Int) := o_ne h73
        refine ok_bind (k_X12_mayAsk L hN (a0 := a0) (x1 := x2) (x2 := x3) k_a0 i9) (fun r105 hr106 => ?_)
        obtain ⟨i107, p108, p109⟩ := hr106
        try rw [i107]
        have f110 := bo_l p108
        have f111 := ti_b r105.1
        have f112 := ti_b x3
        refine ok_ite (fun h113 => ?_) (fun h113 => ?_)
        · have c114 : r105.1.toInt = (0 : Int) := o_eq h113
          unfold J_X12_touches_45
          unfold J_X12_touches_46
          refine ok_bind (k_X12_may L hN (a0 := a0) (x1 := (0 : Int32)) (x2 := (2 : Int32)) (x3 := (2 : Int32)) k_a0 (show (2 : Int) ≠ 0 by first | with_reducible assumption | omega) (show 0 ≤ (2 : Int) by first | with_reducible assumption | omega) (show (2 : Int) ≤ 2 by first | with_reducible assumption | omega) i9) (fun r115 hr116 => ?_)
          obtain ⟨i117, ⟨u121, u122, u123⟩, p118, p119, p120⟩ := hr116
          have u124 := kp_t u15 u121
          have v125 : q_V r115.2 = q_V δ := (u122).trans v16
          have v126 := kr_t v17 u123
          have f127 := bo_l p118
          have f128 := ti_b r115.1
          replace p119 : ((r115.1).toInt = 1 → (0 : Int) ≠ 0) := p119
          have f129 := ti_b (q_I r7.2 12 0 a0)
          replace p120 : ((q_I r7.2 12 0 a0).toInt = 0 → (r115.1).toInt = 0 → (0 : Int) = 0) := p120
          refine ok_ite (fun h130 => ?_) (fun h130 => ?_)
          · have c131 : r115.1.toInt = (0 : Int) := o_eq h130
            unfold J_X12_touches_54
            exact ok_some (show RI ad h.1 δ0 r115.2 ∧ (kp [(12, 0), (12, 36)] δ r115.2 ∧ q_V r115.2 = q_V δ ∧ kr ad [100, 119] δ r115.2) from ⟨i117, ⟨kp_w (by decide) u124, v125, kr_w (by decide) v126⟩⟩)
          · have c132 : r115.1.toInt ≠ (0 : Int) := o_ne h130
            refine ok_bind (k_X12_touched L hN (a0 := a0) (x1 := x1) (x2 := x2) (x3 := x3) (x4 := x4) k_a0 (show 0 ≤ (x1).toInt by first | with_reducible assumption | omega) (show (x1).toInt ≤ 3 by first | with_reducible assumption | omega) (show -1 ≤ (x3).toInt by first | with_reducible assumption | omega) (show (x3).toInt ≤ 65536 by first | with_reducible assumption | omega) i117) (fun r133 hr134 => ?_)
            obtain ⟨i135, ⟨u136, u137, u138⟩⟩ := hr134
            have u139 := kp_t u124 u136
            have v140 : q_V r133.2 = q_V δ := (u137).trans v125
            have v141 := kr_t v126 u138
            have f142 := ti_b r133.1
            exact ok_some (show RI ad h.1 δ0 r133.2 ∧ (kp [(12, 0), (12, 36)] δ r133.2 ∧ q_V r133.2 = q_V δ ∧ kr ad [100, 119] δ r133.2) from ⟨i135, ⟨kp_w (by decide) u139, v140, kr_w (by decide) v141⟩⟩)
        · have c143 : r105.1.toInt ≠ (0 : Int) := o_ne h113
          unfold J_X12_touches_46
          refine ok_bind (k_X12_may L hN (a0 := a0) (x1 := (1 : Int32)) (x2 := (2 : Int32)) (x3 := (2 : Int32)) k_a0 (show (2 : Int) ≠ 0 by first | with_reducible assumption | omega) (show 0 ≤ (2 : Int) by first | with_reducible assumption | omega) (show (2 : Int) ≤ 2 by first | with_reducible assumption | omega) i9) (fun r144 hr145 => ?_)
          obtain ⟨i146, ⟨u150, u151, u152⟩, p147, p148, p149⟩ := hr145
          have u153 := kp_t u15 u150
          have v154 : q_V r144.2 = q_V δ := (u151).trans v16
          have v155 := kr_t v17 u152
          have f156 := bo_l p147
          have f157 := ti_b r144.1
          replace p148 : ((r144.1).toInt = 1 → (1 : Int) ≠ 0) := p148
          have f158 := ti_b (q_I r7.2 12 0 a0)
          replace p149 : ((q_I r7.2 12 0 a0).toInt = 0 → (r144.1).toInt = 0 → (1 : Int) = 0) := p149
          refine ok_ite (fun h159 => ?_) (fun h159 => ?_)
          · have c160 : r144.1.toInt = (0 : Int) := o_eq h159
            unfold J_X12_touches_54
            exact ok_some (show RI ad h.1 δ0 r144.2 ∧ (kp [(12, 0), (12, 36)] δ r144.2 ∧ q_V r144.2 = q_V δ ∧ kr ad [100, 119] δ r144.2) from ⟨i146, ⟨kp_w (by decide) u153, v154, kr_w (by decide) v155⟩⟩)
          · have c161 : r144.1.toInt ≠ (0 : Int) := o_ne h159
            refine ok_bind (k_X12_touched L hN (a0 := a0) (x1 := x1) (x2 := x2) (x3 := x3) (x4 := x4) k_a0 (show 0 ≤ (x1).toInt by first | with_reducible assumption | omega) (show (x1).toInt ≤ 3 by first | with_reducible assumption | omega) (show -1 ≤ (x3).toInt by first | with_reducible assumption | omega) (show (x3).toInt ≤ 65536 by first | with_reducible assumption | omega) i146) (fun r162 hr163 => ?_)
            obtain ⟨i164, ⟨u165, u166, u167⟩⟩ := hr163
            have u168 := kp_t u153 u165
            have v169 : q_V r162.2 = q_V δ := (u166).trans v154
            have v170 := kr_t v155 u167
            have f171 := ti_b r162.1
            exact ok_some (show RI ad h.1 δ0 r162.2 ∧ (kp [(12, 0), (12, 36)] δ r162.2 ∧ q_V r162.2 = q_V δ ∧ kr ad [100, 119] δ r162.2) from ⟨i164, ⟨kp_w (by decide) u168, v169, kr_w (by decide) v170⟩⟩)
set_option maxHeartbeats 4000000 in
theorem kl_X12_cellsOf_63 {ad : List Nat} {h : hp} (L : Lay TLx ad h) {δ0 : dp} {N : Nat} (hN : 10000000 ≤ N) {T : Nat → Int32 → Int32 → Int32 → dp → Option (Int32 × dp)} {K : Int} (hT : ∀ (a0 : Nat) (x1 : Int32) (x2 : Int32) (x3 : Int32) (δ : dp), q_K h.1 a0 = 12 → 1 ≤ (x1).toInt → (x1).toInt ≤ 16 → 0 ≤ (x2).toInt → (x2).toInt ≤ (x3).toInt → (x3).toInt ≤ (x2).toInt + 2000 → (x3).toInt ≤ (q_I δ 12 36 a0).toInt → (q_I δ 12 36 a0).toInt + 2000 * LGf (x1).toInt ≤ 12000 → (x1).toInt < K → RI ad h.1 δ0 δ → ok (T a0 x1 x2 x3 δ) (fun r => RI ad h.1 δ0 r.2 ∧ (kp [(12, 36)] δ r.2 ∧ q_V r.2 = q_V δ ∧ kr ad [119] δ r.2) ∧ (q_I r.2 12 36 a0).toInt = (q_I δ 12 36 a0).toInt)) {a0 : Nat} {x1 : Int32} {x2 : Int32} {x3 : Int32} (k_a0 : q_K h.1 a0 = 12) : ∀ (n : Nat) (x4v : Int32) (x6v : Int32) (x7v : Int32) (δ : dp), RI ad h.1 δ0 δ → 2 ≤ (x1).toInt → (x1).toInt ≤ 16 → 0 ≤ (x2).toInt → (x2).toInt ≤ (x3).toInt → (x3).toInt ≤ (x2).toInt + 2000 → (x3).toInt ≤ (q_I δ 12 36 a0).toInt → (q_I δ 12 36 a0).toInt + 2000 * LGf (x1).toInt ≤ 12000 → (x1).toInt ≤ K → 1 ≤ (x4v).toInt → (x4v).toInt < (x1).toInt → LGf (x4v).toInt + 1 ≤ LGf (x1).toInt → (x2).toInt + 1 ≤ (x7v).toInt → (x7v).toInt ≤ (x3).toInt + 1 → (x3).toInt + 1 - (x7v).toInt < (n : Int) → ok (L_X12_cellsOf_63 N h.1 T a0 x1 x2 x3 n x4v x6v x7v δ) (fun r => RI ad h.1 δ0 r.2 ∧ (kp [(12, 36)] δ r.2 ∧ q_V r.2 = q_V δ ∧ kr ad [119] δ r.2) ∧ (q_I r.2 12 36 a0).toInt = (q_I δ 12 36 a0).toInt) := by
  intro n
  induction n with
  | zero =>
    intro x4v x6v x7v δ I j0 j1 j2 j3 j4 j5 j6 j7 j8 j9 j10 j11 j12 hm
    have f1 := lgb (x1).toInt
    have f2 := lgb (x4v).toInt
    have f3 := ti_b x1
    have f4 := ti_b x2
    have f5 := ti_b x3
    have f6 := cb_12_36 I k_a0
    have f7 := ti_b x4v
    have f8 := ti_b x7v
    exfalso; omega
  | succ n ih =>
    intro x4v x6v x7v δ I j0 j1 j2 j3 j4 j5 j6 j7 j8 j9 j10 j11 j12 hm
    unfold L_X12_cellsOf_63
    have f1 := lgb (x1).toInt
    have f2 := lgb (x4v).toInt
    have f3 := ti_b x1
    have f4 := ti_b x2
    have f5 := ti_b x3
    have f6 := cb_12_36 I k_a0
    have f7 := ti_b x4v
    have f8 := ti_b x7v
    first | (have q10 := te_subc (c := 1) (n := 1) rfl x3 (by omega) (by omega); obtain ⟨f11, f12, f13⟩ := q10) | (obtain ⟨q10, f11, f12, f13⟩ := ti_subc (c := 1) (n := 1) rfl x3)
    refine ok_ite (fun h14 => ?_) (fun h14 => ?_)
    · have c15 : (x3 - (1 : Int32)).toInt ≤ x7v.toInt := o_le h14
      exact ok_some (show RI ad h.1 δ0 δ ∧ (kp [(12, 36)] δ δ ∧ q_V δ = q_V δ ∧ kr ad [119] δ δ) ∧ (q_I δ 12 36 a0).toInt = (q_I δ 12 36 a0).toInt from ⟨I, ⟨kp_w (by decide) kp_r, rfl, kr_w (by decide) (kr_r (ad := ad))⟩, by first | with_reducible assumption | omega⟩)
    · have c16 : x7v.toInt < (x3 - (1 : Int32)).toInt := o_nle h14
      first | (have q18 := te_addc (c := 1) (n := 1) rfl x2 (by omega) (by omega); obtain ⟨f19, f20, f21⟩ := q18) | (obtain ⟨q18, f19, f20, f21⟩ := ti_addc (c := 1) (n := 1) rfl x2)
      refine ok_ite (fun h22 => ?_) (fun h22 => ?_)
      · have c23 : x7v.toInt ≤ (x2 + (1 : Int32)).toInt := o_le h22
        unfold J_X12_cellsOf_107
        obtain ⟨b24, o25, k26, n27, w28⟩ := gO_12_35 L k_a0
        obtain rfl := gS_12_35 L k_a0 o25
        refine ok_at o25 ?_
        have t29 := ti_tn x7v
        refine ok_gd (fun hc30 => ?_) ?_
        · rcases hc30 with hc30 | hc30
          · have c31 : x7v.toInt < (0 : Int) := o_lt hc30
            omega
          · omega
        refine ok_bind (k_X12_rooms L hN (a0 := a0) (x1 := x2) (x2 := x3) (x3 := x4v) (x4 := ((q_R δ (Ad ad 119) x7v.toNatClampNeg) >>> (x4v &&& 31))) k_a0 (show 0 ≤ (x2).toInt by first | with_reducible assumption | omega) (show (x2).toInt ≤ (x3).toInt by first | with_reducible assumption | omega) (show (x3).toInt ≤ (x2).toInt + 2000 by first | with_reducible assumption | omega) (show (x3).toInt ≤ (q_I δ 12 36 a0).toInt by first | with_reducible assumption | omega) (show (q_I δ 12 36 a0).toInt ≤ 12000 by first | with_reducible assumption | omega) I) (fun r32 hr33 => ?_)
        obtain ⟨i34, ⟨u38, u39, u40⟩, p35, p36, p37⟩ := hr33
        have u41 := kp_t kp_r u38
        have v42 : q_V r32.2 = q_V δ := (u39).trans rfl
        have v43 := kr_t (kr_r (ad := ad)) u40
        have f44 := ti_b r32.1
        have f45 := cb_12_36 i34 k_a0
        refine ok_bind (hT a0 x4v r32.1 (q_I r32.2 12 36 a0) r32.2 k_a0 (show 1 ≤ (x4v).toInt by first | with_reducible assumption | omega) (show (x4v).toInt ≤ 16 by first | with_reducible assumption | omega) (show 0 ≤ (r32.1).toInt by first | with_reducible assumption | omega) (show (r32.1).toInt ≤ ((q_I r32.2 12 36 a0)).toInt by first | with_reducible assumption | omega) (show ((q_I r32.2 12 36 a0)).toInt ≤ (r32.1).toInt + 2000 by first | with_reducible assumption | omega) (show ((q_I r32.2 12 36 a0)).toInt ≤ (q_I r32.2 12 36 a0).toInt by first | with_reducible assumption | omega) (show (q_I r32.2 12 36 a0).toInt + 2000 * LGf (x4v).toInt ≤ 12000 by first | with_reducible assumption | omega) (show (x4v).toInt < _ by first | with_reducible assumption | omega) i34) (fun r46 hr47 => ?_)
        obtain ⟨i48, ⟨u50, u51, u52⟩, p49⟩ := hr47
        have u53 := kp_t u41 u50
        have v54 : q_V r46.2 = q_V δ := (u51).trans v42
        have v55 := kr_t v43 u52
        have f56 := cb_12_36 i48 k_a0
        have f57 := ti_b r46.1
        have f60 := ti_b x6v
        refine ok_biv (fun vx58 e59 => ?_)
        first | (have q61 := te_add x6v r46.1 (by omega) (by omega); rw [← e59] at q61; obtain ⟨f62, f63, f64⟩ := q61) | (obtain ⟨q61, f62, f63, f64⟩ : ∃ q : Int, vx58.toInt = x6v.toInt + r46.1.toInt + 4294967296 * q ∧ -2147483648 ≤ vx58.toInt ∧ vx58.toInt ≤ 2147483647 := by rw [e59]; exact ti_add x6v r46.1)
        refine ok_bdv (fun d65 e66 => ?_)
        have i67 : RI ad h.1 δ0 d65 := by rw [e66]; exact cs_12_36 L i48 k_a0 (show 0 ≤ r32.1.toInt by omega) (show r32.1.toInt ≤ 14000 by omega)
        have u68 := kp_I u53 e66
        have v69 : q_V d65 = q_V δ := ((show q_V d65 = q_V r46.2 by rw [e66]; rfl)).trans v54
        have v70 := kr_N v55 (show q_R d65 = q_R r46.2 by rw [e66]; rfl)
        unfold J_X12_cellsOf_150
        refine ok_biv (fun vx71 e72 => ?_)
        first | (have q73 := te_addc (c := 1) (n := 1) rfl x7v (by omega) (by omega); rw [← e72] at q73; obtain ⟨f74, f75, f76⟩ := q73) | (obtain ⟨q73, f74, f75, f76⟩ : ∃ q : Int, vx71.toInt = x7v.toInt + (1 : Int) + 4294967296 * q ∧ -2147483648 ≤ vx71.toInt ∧ vx71.toInt ≤ 2147483647 := by rw [e72]; exact ti_addc (c := 1) (n := 1) rfl x7v)
        have f77 := cb_12_36 i67 k_a0
        have f78 : (q_I d65 12 36 a0).toInt = r32.1.toInt := congrArg Int32.toInt (show q_I d65 12 36 a0 = r32.1 by rw [e66]; exact rI_s)
        refine ok_mono (ih x4v vx58 vx71 d65 i67 (show 2 ≤ (x1).toInt by first | with_reducible assumption | omega) (show (x1).toInt ≤ 16 by first | with_reducible assumption | omega) (show 0 ≤ (x2).toInt by first | with_reducible assumption | omega) (show (x2).toInt ≤ (x3).toInt by first | with_reducible assumption | omega) (show (x3).toInt ≤ (x2).toInt + 2000 by first | with_reducible assumption | omega) (show (x3).toInt ≤ (q_I d65 12 36 a0).toInt by first | with_reducible assumption | omega) (show (q_I d65 12 36 a0).toInt + 2000 * LGf (x1).toInt ≤ 12000 by first | with_reducible assumption | omega) (show (x1).toInt ≤ K by first | with_reducible assumption | omega) (show 1 ≤ (x4v).toInt by first | with_reducible assumption | omega) (show (x4v).toInt < (x1).toInt by first | with_reducible assumption | omega) (show LGf (x4v).toInt + 1 ≤ LGf (x1).toInt by first | with_reducible assumption | omega) (show (x2).toInt + 1 ≤ (vx71).toInt by first | with_reducible assumption | omega) (show (vx71).toInt ≤ (x3).toInt + 1 by first | with_reducible assumption | omega) (show (x3).toInt + 1 - (vx71).toInt < _ by omega)) (fun r79 hr80 => ?_)
        obtain ⟨i81, ⟨u83, u84, u85⟩, p82⟩ := hr80
        have u86 := kp_t u68 u83
        have v87 : q_V r79.2 = q_V δ := (u84).trans v69
        have v88 := kr_t v70 u85
        have f89 := cb_12_36 i81 k_a0
        have f90 := ti_b r79.1
        exact ⟨by first | with_reducible assumption | assumption, ⟨kp_w (by decide) u86, v87, kr_w (by decide) v88⟩, by first | with_reducible assumption | omega⟩
      · have c91 : (x2 + (1 : Int32)).toInt < x7v.toInt := o_nle h22
        obtain ⟨b92, o93, k94, n95, w96⟩ := gO_12_35 L k_a0
        obtain rfl := gS_12_35 L k_a0 o93
        refine ok_at o93 ?_
        have t97 := ti_tn x7v
        refine ok_gd (fun hc98 => ?_) ?_
        · rcases hc98 with hc98 | hc98
          · have c99 : x7v.toInt < (0 : Int) := o_lt hc98
            omega
          · omega
        refine ok_at o93 ?_
        first | (have q101 := te_subc (c := 1) (n := 1) rfl x7v (by omega) (by omega); obtain ⟨f102, f103, f104⟩ := q101) | (obtain ⟨q101, f102, f103, f104⟩ := ti_subc (c := 1) (n := 1) rfl x7v)
        have t105 := ti_tn (x7v - (1 : Int32))
        refine ok_gd (fun hc106 => ?_) ?_
        · rcases hc106 with hc106 | hc106
          · have c107 : (x7v - (1 : Int32)).toInt < (0 : Int) := o_lt hc106
            omega
          · omega
        have f108 := ti_b ((q_R δ (Ad ad 119) x7v.toNatClampNeg) >>> (x4v &&& 31))
        have f109 := ti_b ((q_R δ (Ad ad 119) (x7v - (1 : Int32)).toNatClampNeg) >>> (x4v &&& 31))
        refine ok_ite (fun h110 => ?_) (fun h110 => ?_)
        · have c111 : ((q_R δ (Ad ad 119) x7v.toNatClampNeg) >>> (x4v &&& 31)).toInt = ((q_R δ (Ad ad 119) (x7v - (1 : Int32)).toNatClampNeg) >>> (x4v &&& 31)).toInt := o_eq h110
          unfold J_X12_cellsOf_150
          refine ok_biv (fun vx112 e113 => ?_)
          first | (have q114 := te_addc (c := 1) (n := 1) rfl x7v (by omega) (by omega); rw [← e113] at q114; obtain ⟨f115, f116, f117⟩ := q114) | (obtain ⟨q114, f115, f116, f117⟩ : ∃ q : Int, vx112.toInt = x7v.toInt + (1 : Int) + 4294967296 * q ∧ -2147483648 ≤ vx112.toInt ∧ vx112.toInt ≤ 2147483647 := by rw [e113]; exact ti_addc (c := 1) (n := 1) rfl x7v)
          refine ok_mono (ih x4v x6v vx112 δ I (show 2 ≤ (x1).toInt by first | with_reducible assumption | omega) (show (x1).toInt ≤ 16 by first | with_reducible assumption | omega) (show 0 ≤ (x2).toInt by first | with_reducible assumption | omega) (show (x2).toInt ≤ (x3).toInt by first | with_reducible assumption | omega) (show (x3).toInt ≤ (x2).toInt + 2000 by first | with_reducible assumption | omega) (show (x3).toInt ≤ (q_I δ 12 36 a0).toInt by first | with_reducible assumption | omega) (show (q_I δ 12 36 a0).toInt + 2000 * LGf (x1).toInt ≤ 12000 by first | with_reducible assumption | omega) (show (x1).toInt ≤ K by first | with_reducible assumption | omega) (show 1 ≤ (x4v).toInt by first | with_reducible assumption | omega) (show (x4v).toInt < (x1).toInt by first | with_reducible assumption | omega) (show LGf (x4v).toInt + 1 ≤ LGf (x1).toInt by first | with_reducible assumption | omega) (show (x2).toInt + 1 ≤ (vx112).toInt by first | with_reducible assumption | omega) (show (vx112).toInt ≤ (x3).toInt + 1 by first | with_reducible assumption | omega) (show (x3).toInt + 1 - (vx112).toInt < _ by omega)) (fun r118 hr119 => ?_)
          obtain ⟨i120, ⟨u122, u123, u124⟩, p121⟩ := hr119
          have u125 := kp_t kp_r u122
          have v126 : q_V r118.2 = q_V δ := (u123).trans rfl
          have v127 := kr_t (kr_r (ad := ad)) u124
          have f128 := cb_12_36 i120 k_a0
          have f129 := ti_b r118.1
          exact ⟨by first | with_reducible assumption | assumption, ⟨kp_w (by decide) u125, v126, kr_w (by decide) v127⟩, by first | with_reducible assumption | omega⟩
        · have c130 : ((q_R δ (Ad ad 119) x7v.toNatClampNeg) >>> (x4v &&& 31)).toInt ≠ ((q_R δ (Ad ad 119) (x7v - (1 : Int32)).toNatClampNeg) >>> (x4v &&& 31)).toInt := o_ne h110
          unfold J_X12_cellsOf_107
          refine ok_at o93 ?_
          refine ok_gd (fun hc131 => ?_) ?_
          · rcases hc131 with hc131 | hc131
            · have c132 : x7v.toInt < (0 : Int) := o_lt hc131
              omega
            · omega
          refine ok_bind (k_X12_rooms L hN (a0 := a0) (x1 := x2) (x2 := x3) (x3 := x4v) (x4 := ((q_R δ (Ad ad 119) x7v.toNatClampNeg) >>> (x4v &&& 31))) k_a0 (show 0 ≤ (x2).toInt by first | with_reducible assumption | omega) (show (x2).toInt ≤ (x3).toInt by first | with_reducible assumption | omega) (show (x3).toInt ≤ (x2).toInt + 2000 by first | with_reducible assumption | omega) (show (x3).toInt ≤ (q_I δ 12 36 a0).toInt by first | with_reducible assumption | omega) (show (q_I δ 12 36 a0).toInt ≤ 12000 by first | with_reducible assumption | omega) I) (fun r133 hr134 => ?_)
          obtain ⟨i135, ⟨u139, u140, u141⟩, p136, p137, p138⟩ := hr134
          have u142 := kp_t kp_r u139
          have v143 : q_V r133.2 = q_V δ := (u140).trans rfl
          have v144 := kr_t (kr_r (ad := ad)) u141
          have f145 := ti_b r133.1
          have f146 := cb_12_36 i135 k_a0
          refine ok_bind (hT a0 x4v r133.1 (q_I r133.2 12 36 a0) r133.2 k_a0 (show 1 ≤ (x4v).toInt by first | with_reducible assumption | omega) (show (x4v).toInt ≤ 16 by first | with_reducible assumption | omega) (show 0 ≤ (r133.1).toInt by first | with_reducible assumption | omega) (show (r133.1).toInt ≤ ((q_I r133.2 12 36 a0)).toInt by first | with_reducible assumption | omega) (show ((q_I r133.2 12 36 a0)).toInt ≤ (r133.1).toInt + 2000 by first | with_reducible assumption | omega) (show ((q_I r133.2 12 36 a0)).toInt ≤ (q_I r133.2 12 36 a0).toInt by first | with_reducible assumption | omega) (show (q_I r133.2 12 36 a0).toInt + 2000 * LGf (x4v).toInt ≤ 12000 by first | with_reducible assumption | omega) (show (x4v).toInt < _ by first | with_reducible assumption | omega) i135) (fun r147 hr148 => ?_)
          obtain ⟨i149, ⟨u151, u152, u153⟩, p150⟩ := hr148
          have u154 := kp_t u142 u151
          have v155 : q_V r147.2 = q_V δ := (u152).trans v143
          have v156 := kr_t v144 u153
          have f157 := cb_12_36 i149 k_a0
          have f158 := ti_b r147.1
          have f161 := ti_b x6v
          refine ok_biv (fun vx159 e160 => ?_)
          first | (have q162 := te_add x6v r147.1 (by omega) (by omega); rw [← e160] at q162; obtain ⟨f163, f164, f165⟩ := q162) | (obtain ⟨q162, f163, f164, f165⟩ : ∃ q : Int, vx159.toInt = x6v.toInt + r147.1.toInt + 4294967296 * q ∧ -2147483648 ≤ vx159.toInt ∧ vx159.toInt ≤ 2147483647 := by rw [e160]; exact ti_add x6v r147.1)
          refine ok_bdv (fun d166 e167 => ?_)
          have i168 : RI ad h.1 δ0 d166 := by rw [e167]; exact cs_12_36 L i149 k_a0 (show 0 ≤ r133.1.toInt by omega) (show r133.1.toInt ≤ 14000 by omega)
          have u169 := kp_I u154 e167
          have v170 : q_V d166 = q_V δ := ((show q_V d166 = q_V r147.2 by rw [e167]; rfl)).trans v155
          have v171 := kr_N v156 (show q_R d166 = q_R r147.2 by rw [e167]; rfl)
          unfold J_X12_cellsOf_150
          refine ok_biv (fun vx172 e173 => ?_)
          first | (have q174 := te_addc (c := 1) (n := 1) rfl x7v (by omega) (by omega); rw [← e173] at q174; obtain ⟨f175, f176, f177⟩ := q174) | (obtain ⟨q174, f175, f176, f177⟩ : ∃ q : Int, vx172.toInt = x7v.toInt + (1 : Int) + 4294967296 * q ∧ -2147483648 ≤ vx172.toInt ∧ vx172.toInt ≤ 2147483647 := by rw [e173]; exact ti_addc (c := 1) (n := 1) rfl x7v)
          have f178 := cb_12_36 i168 k_a0
          have f179 : (q_I d166 12 36 a0).toInt = r133.1.toInt := congrArg Int32.toInt (show q_I d166 12 36 a0 = r133.1 by rw [e167]; exact rI_s)
          refine ok_mono (ih x4v vx159 vx172 d166 i168 (show 2 ≤ (x1).toInt by first | with_reducible assumption | omega) (show (x1).toInt ≤ 16 by first | with_reducible assumption | omega) (show 0 ≤ (x2).toInt by first | with_reducible assumption | omega) (show (x2).toInt ≤ (x3).toInt by first | with_reducible assumption | omega) (show (x3).toInt ≤ (x2).toInt + 2000 by first | with_reducible assumption | omega) (show (x3).toInt ≤ (q_I d166 12 36 a0).toInt by first | with_reducible assumption | omega) (show (q_I d166 12 36 a0).toInt + 2000 * LGf (x1).toInt ≤ 12000 by first | with_reducible assumption | omega) (show (x1).toInt ≤ K by first | with_reducible assumption | omega) (show 1 ≤ (x4v).toInt by first | with_reducible assumption | omega) (show (x4v).toInt < (x1).toInt by first | with_reducible assumption | omega) (show LGf (x4v).toInt + 1 ≤ LGf (x1).toInt by first | with_reducible assumption | omega) (show (x2).toInt + 1 ≤ (vx172).toInt by first | with_reducible assumption | omega) (show (vx172).toInt ≤ (x3).toInt + 1 by first | with_reducible assumption | omega) (show (x3).toInt + 1 - (vx172).toInt < _ by omega)) (fun r180 hr181 => ?_)
          obtain ⟨i182, ⟨u184, u185, u186⟩, p183⟩ := hr181
          have u187 := kp_t u169 u184
          have v188 : q_V r180.2 = q_V δ := (u185).trans v170
          have v189 := kr_t v171 u186
          have f190 := cb_12_36 i182 k_a0
          have f191 := ti_b r180.1
          exact ⟨by first | with_reducible assumption | assumption, ⟨kp_w (by decide) u187, v188, kr_w (by decide) v189⟩, by first | with_reducible assumption | omega⟩
set_option maxHeartbeats 4000000 in
theorem ke_X12_cellsOf {ad : List Nat} {h : hp} (L : Lay TLx ad h) {δ0 : dp} {N : Nat} (hN : 10000000 ≤ N) : ∀ (k : Nat), ∀ (a0 : Nat) (x1 : Int32) (x2 : Int32) (x3 : Int32) (δ : dp), q_K h.1 a0 = 12 → 1 ≤ (x1).toInt → (x1).toInt ≤ 16 → 0 ≤ (x2).toInt → (x2).toInt ≤ (x3).toInt → (x3).toInt ≤ (x2).toInt + 2000 → (x3).toInt ≤ (q_I δ 12 36 a0).toInt → (q_I δ 12 36 a0).toInt + 2000 * LGf (x1).toInt ≤ 12000 → (x1).toInt < (k : Int) → RI ad h.1 δ0 δ → ok (E_X12_cellsOf N h.1 k a0 x1 x2 x3 δ) (fun r => RI ad h.1 δ0 r.2 ∧ (kp [(12, 36)] δ r.2 ∧ q_V r.2 = q_V δ ∧ kr ad [119] δ r.2) ∧ (q_I r.2 12 36 a0).toInt = (q_I δ 12 36 a0).toInt) := by
  intro k
  induction k with
  | zero =>
    intro a0 x1 x2 x3 δ k_a0 z0 z1 z2 z3 z4 z5 z6 hd I
    exfalso; omega
  | succ k ih =>
    intro a0 x1 x2 x3 δ k_a0 z0 z1 z2 z3 z4 z5 z6 hd I
    unfold E_X12_cellsOf B_X12_cellsOf
    have f1 := lgb (x1).toInt
    have f2 := ti_b x1
    have f3 := ti_b x2
    have f4 := ti_b x3
    have f5 := cb_12_36 I k_a0
    refine ok_ite (fun h6 => ?_) (fun h6 => ?_)
    · have c7 : x2.toInt = x3.toInt := o_eq h6
      exact ok_some (show RI ad h.1 δ0 δ ∧ (kp [(12, 36)] δ δ ∧ q_V δ = q_V δ ∧ kr ad [119] δ δ) ∧ (q_I δ 12 36 a0).toInt = (q_I δ 12 36 a0).toInt from ⟨I, ⟨kp_w (by decide) kp_r, rfl, kr_w (by decide) (kr_r (ad := ad))⟩, by first | with_reducible assumption | omega⟩)
    · have c8 : x2.toInt ≠ x3.toInt := o_ne h6
      have f9 := cb_12_11 I k_a0
      refine ok_ite (fun h10 => ?_) (fun h10 => ?_)
      · have c11 : (q_I δ 12 11 a0).toInt < x1.toInt := o_lt h10
        refine ok_bind (k_X12_lowerBits L hN (a0 := a0) (x1 := x1) k_a0 (show 2 ≤ (x1).toInt by first | with_reducible assumption | omega) (show (x1).toInt ≤ 16 by first | with_reducible assumption | omega) I) (fun r12 hr13 => ?_)
        obtain ⟨i14, p15, p16, p17, p18, p19, p20⟩ := hr13
        try rw [i14]
        have f21 := ti_b r12.1
        have f22 := lgb (r12.1).toInt
        have f23 := lgb ((x1 - r12.1)).toInt
        first | (have q25 := te_sub x1 r12.1 (by omega) (by omega); obtain ⟨f26, f27, f28⟩ := q25) | (obtain ⟨q25, f26, f27, f28⟩ := ti_sub x1 r12.1)
        refine ok_bind (k_X12_lists L hN (a0 := a0) (x1 := x2) (x2 := x3) (x3 := r12.1) k_a0 (show 0 ≤ (x2).toInt by first | with_reducible assumption | omega) (show (x2).toInt ≤ (x3).toInt by first | with_reducible assumption | omega) (show (x3).toInt ≤ (x2).toInt + 2000 by first | with_reducible assumption | omega) (show (x3).toInt ≤ (q_I δ 12 36 a0).toInt by first | with_reducible assumption | omega) (show (q_I δ 12 36 a0).toInt ≤ 12000 by first | with_reducible assumption | omega) I) (fun r29 hr30 => ?_)
        obtain ⟨i31, ⟨u35, u36, u37⟩, p32, p33, p34⟩ := hr30
        have u38 := kp_t kp_r u35
        have v39 : q_V r29.2 = q_V δ := (u36).trans rfl
        have v40 := kr_t (kr_r (ad := ad)) u37
        have f41 := ti_b r29.1
        have f42 := cb_12_36 i31 k_a0
        refine ok_bind (ih a0 (x1 - r12.1) r29.1 (q_I r29.2 12 36 a0) r29.2 k_a0 (show 1 ≤ ((x1 - r12.1)).toInt by first | with_reducible assumption | omega) (show ((x1 - r12.1)).toInt ≤ 16 by first | with_reducible assumption | omega) (show 0 ≤ (r29.1).toInt by first | with_reducible assumption | omega) (show (r29.1).toInt ≤ ((q_I r29.2 12 36 a0)).toInt by first | with_reducible assumption | omega) (show ((q_I r29.2 12 36 a0)).toInt ≤ (r29.1).toInt + 2000 by first | with_reducible assumption | omega) (show ((q_I r29.2 12 36 a0)).toInt ≤ (q_I r29.2 12 36 a0).toInt by first | with_reducible assumption | omega) (show (q_I r29.2 12 36 a0).toInt + 2000 * LGf ((x1 - r12.1)).toInt ≤ 12000 by first | with_reducible assumption | omega) (show ((x1 - r12.1)).toInt < _ by first | with_reducible assumption | omega) i31) (fun r43 hr44 => ?_)
        obtain ⟨i45, ⟨u47, u48, u49⟩, p46⟩ := hr44
        have u50 := kp_t u38 u47
        have v51 : q_V r43.2 = q_V δ := (u48).trans v39
        have v52 := kr_t v40 u49
        have f53 := cb_12_36 i45 k_a0
        have f54 := ti_b r43.1
        refine ok_biv (fun vx55 e56 => ?_)
        first | (have q57 := te_cadd (c := 2) (n := 2) rfl r43.1 (by omega) (by omega); rw [← e56] at q57; obtain ⟨f58, f59, f60⟩ := q57) | (obtain ⟨q57, f58, f59, f60⟩ : ∃ q : Int, vx55.toInt = (2 : Int) + r43.1.toInt + 4294967296 * q ∧ -2147483648 ≤ vx55.toInt ∧ vx55.toInt ≤ 2147483647 := by rw [e56]; exact ti_cadd (c := 2) (n := 2) rfl r43.1)
        refine ok_bdv (fun d61 e62 => ?_)
        have i63 : RI ad h.1 δ0 d61 := by rw [e62]; exact cs_12_36 L i45 k_a0 (show 0 ≤ r29.1.toInt by omega) (show r29.1.toInt ≤ 14000 by omega)
        have u64 := kp_I u50 e62
        have v65 : q_V d61 = q_V δ := ((show q_V d61 = q_V r43.2 by rw [e62]; rfl)).trans v51
        have v66 := kr_N v52 (show q_R d61 = q_R r43.2 by rw [e62]; rfl)
        refine ok_biv (fun vx67 e68 => ?_)
        first | (have q69 := te_addc (c := 1) (n := 1) rfl x2 (by omega) (by omega); rw [← e68] at q69; obtain ⟨f70, f71, f72⟩ := q69) | (obtain ⟨q69, f70, f71, f72⟩ : ∃ q : Int, vx67.toInt = x2.toInt + (1 : Int) + 4294967296 * q ∧ -2147483648 ≤ vx67.toInt ∧ vx67.toInt ≤ 2147483647 := by rw [e68]; exact ti_addc (c := 1) (n := 1) rfl x2)
        have f73 := cb_12_36 i63 k_a0
        have f74 : (q_I d61 12 36 a0).toInt = r29.1.toInt := congrArg Int32.toInt (show q_I d61 12 36 a0 = r29.1 by rw [e62]; exact rI_s)
        refine ok_mono (kl_X12_cellsOf_63 L hN   ih k_a0 _ r12.1 vx55 vx67 d61 i63 (show 2 ≤ (x1).toInt by first | with_reducible assumption | omega) (show (x1).toInt ≤ 16 by first | with_reducible assumption | omega) (show 0 ≤ (x2).toInt by first | with_reducible assumption | omega) (show (x2).toInt ≤ (x3).toInt by first | with_reducible assumption | omega) (show (x3).toInt ≤ (x2).toInt + 2000 by first | with_reducible assumption | omega) (show (x3).toInt ≤ (q_I d61 12 36 a0).toInt by first | with_reducible assumption | omega) (show (q_I d61 12 36 a0).toInt + 2000 * LGf (x1).toInt ≤ 12000 by first | with_reducible assumption | omega) (show (x1).toInt ≤ (k : Int) by first | with_reducible assumption | omega) (show 1 ≤ (r12.1).toInt by first | with_reducible assumption | omega) (show (r12.1).toInt < (x1).toInt by first | with_reducible assumption | omega) (show LGf (r12.1).toInt + 1 ≤ LGf (x1).toInt by first | with_reducible assumption | omega) (show (x2).toInt + 1 ≤ (vx67).toInt by first | with_reducible assumption | omega) (show (vx67).toInt ≤ (x3).toInt + 1 by first | with_reducible assumption | omega) (show (x3).toInt + 1 - (vx67).toInt < _ by omega)) (fun r75 hr76 => ?_)
        obtain ⟨i77, ⟨u79, u80, u81⟩, p78⟩ := hr76
        have u82 := kp_t u64 u79
        have v83 : q_V r75.2 = q_V δ := (u80).trans v65
        have v84 := kr_t v66 u81
        have f85 := cb_12_36 i77 k_a0
        have f86 := ti_b r75.1
        exact ⟨by first | with_reducible assumption | assumption, ⟨kp_w (by decide) u82, v83, kr_w (by decide) v84⟩, by first | with_reducible assumption | omega⟩
      · have c87 : x1.toInt ≤ (q_I δ 12 11 a0).toInt := o_nlt h10
        exact ok_some (show RI ad h.1 δ0 δ ∧ (kp [(12, 36)] δ δ ∧ q_V δ = q_V δ ∧ kr ad [119] δ δ) ∧ (q_I δ 12 36 a0).toInt = (q_I δ 12 36 a0).toInt from ⟨I, ⟨kp_w (by decide) kp_r, rfl, kr_w (by decide) (kr_r (ad := ad))⟩, by first | with_reducible assumption | omega⟩)
set_option maxHeartbeats 4000000 in
theorem k_X12_cellsOf {ad : List Nat} {h : hp} (L : Lay TLx ad h) {δ0 : dp} {N : Nat} (hN : 10000000 ≤ N) {a0 : Nat} {x1 : Int32} {x2 : Int32} {x3 : Int32} (k_a0 : q_K h.1 a0 = 12) {δ : dp} (z0 : 1 ≤ (x1).toInt) (z1 : (x1).toInt ≤ 16) (z2 : 0 ≤ (x2).toInt) (z3 : (x2).toInt ≤ (x3).toInt) (z4 : (x3).toInt ≤ (x2).toInt + 2000) (z5 : (x3).toInt ≤ (q_I δ 12 36 a0).toInt) (z6 : (q_I δ 12 36 a0).toInt + 2000 * LGf (x1).toInt ≤ 12000) (hd : (x1).toInt < 20) (I : RI ad h.1 δ0 δ) : ok (D_X12_cellsOf N h.1 a0 x1 x2 x3 δ) (fun r => RI ad h.1 δ0 r.2 ∧ (kp [(12, 36)] δ r.2 ∧ q_V r.2 = q_V δ ∧ kr ad [119] δ r.2) ∧ (q_I r.2 12 36 a0).toInt = (q_I δ 12 36 a0).toInt) := ke_X12_cellsOf L hN 20 a0 x1 x2 x3 δ k_a0 z0 z1 z2 z3 z4 z5 z6 hd I
set_option maxHeartbeats 4000000 in
theorem k_X12_size {ad : List Nat} {h : hp} (L : Lay TLx ad h) {δ0 : dp} {N : Nat} (hN : 10000000 ≤ N) {a0 : Nat} {x1 : Int32} {x2 : Int32} (k_a0 : q_K h.1 a0 = 12) {δ : dp} (I : RI ad h.1 δ0 δ) : ok (D_X12_size N h.1 a0 x1 x2 δ) (fun r => RI ad h.1 δ0 r.2 ∧ (kp [(12, 0), (12, 36)] δ r.2 ∧ q_V r.2 = q_V δ ∧ kr ad [100, 119] δ r.2)) := by
  unfold D_X12_size
  refine ok_bdv (fun d1 e2 => ?_)
  have i3 : RI ad h.1 δ0 d1 := by rw [e2]; exact cs_12_0 L I
  have u4 := kp_I kp_r e2
  have v5 : q_V d1 = q_V δ := ((show q_V d1 = q_V δ by rw [e2]; rfl)).trans rfl
  have v6 := kr_N (kr_r (ad := ad)) (show q_R d1 = q_R δ by rw [e2]; rfl)
  refine ok_bind (k_X12_isHouse L hN (a0 := a0) (x1 := x1) (x2 := (1 : Int32)) k_a0 (show (1 : Int) ≠ 0 by first | with_reducible assumption | omega) i3) (fun r7 hr8 => ?_)
  obtain ⟨i9, ⟨u12, u13, u14⟩, p10, p11⟩ := hr8
  have u15 := kp_t u4 u12
  have v16 : q_V r7.2 = q_V δ := (u13).trans v5
  have v17 := kr_t v6 u14
  have f18 := bo_l p10
  have f19 := ti_b r7.1
  have f20 := ti_b x1
  refine ok_ite (fun h21 => ?_) (fun h21 => ?_)
  · have c22 : r7.1.toInt = (0 : Int) := o_eq h21
    unfold J_X12_size_29
    exact ok_some (show RI ad h.1 δ0 r7.2 ∧ (kp [(12, 0), (12, 36)] δ r7.2 ∧ q_V r7.2 = q_V δ ∧ kr ad [100, 119] δ r7.2) from ⟨i9, ⟨kp_w (by decide) u15, v16, kr_w (by decide) v17⟩⟩)
  · have c23 : r7.1.toInt ≠ (0 : Int) := o_ne h21
    refine ok_bind (k_X12_within L hN (x0 := x2) (x1 := (0 : Int32)) (x2 := (2 : Int32))  i9) (fun r24 hr25 => ?_)
    obtain ⟨i26, p27, p28, p29⟩ := hr25
    try rw [i26]
    have f30 := bo_l p27
    have f31 := ti_b r24.1
    have f32 := ti_b x2
    replace p28 : ((r24.1).toInt = 1 → (0 : Int) ≤ (x2).toInt ∧ (x2).toInt ≤ (2 : Int)) := p28
    replace p29 : ((r24.1).toInt = 0 → (x2).toInt < (0 : Int) ∨ (2 : Int) < (x2).toInt) := p29
    refine ok_bind (k_X12_may L hN (a0 := a0) (x1 := r24.1) (x2 := (2 : Int32)) (x3 := (2 : Int32)) k_a0 (show (2 : Int) ≠ 0 by first | with_reducible assumption | omega) (show 0 ≤ (2 : Int) by first | with_reducible assumption | omega) (show (2 : Int) ≤ 2 by first | with_reducible assumption | omega) i9) (fun r33 hr34 => ?_)
    obtain ⟨i35, ⟨u39, u40, u41⟩, p36, p37, p38⟩ := hr34
    have u42 := kp_t u15 u39
    have v43 : q_V r33.2 = q_V δ := (u40).trans v16
    have v44 := kr_t v17 u41
    have f45 := bo_l p36
    have f46 := ti_b r33.1
    have f47 := ti_b (q_I r7.2 12 0 a0)
    refine ok_ite (fun h48 => ?_) (fun h48 => ?_)
    · have c49 : r33.1.toInt = (0 : Int) := o_eq h48
      unfold J_X12_size_29
      exact ok_some (show RI ad h.1 δ0 r33.2 ∧ (kp [(12, 0), (12, 36)] δ r33.2 ∧ q_V r33.2 = q_V δ ∧ kr ad [100, 119] δ r33.2) from ⟨i35, ⟨kp_w (by decide) u42, v43, kr_w (by decide) v44⟩⟩)
    · have c50 : r33.1.toInt ≠ (0 : Int) := o_ne h48
      refine ok_bind (k_X12_lays L hN (a0 := a0) (x1 := x1) k_a0 (show 0 ≤ (x1).toInt by first | with_reducible assumption | omega) (show (x1).toInt ≤ 3 by first | with_reducible assumption | omega) i35) (fun r51 hr52 => ?_)
      obtain ⟨i53, ⟨u55, u56, u57⟩, p54⟩ := hr52
      have u58 := kp_t u42 u55
      have v59 : q_V r51 = q_V δ := (u56).trans v43
      have v60 := kr_t v44 u57
      have f61 := cb_12_36 i53 k_a0
      refine ok_ite (fun h62 => ?_) (fun h62 => ?_)
      · have c63 : x2.toInt = (0 : Int) := o_eq h62
        have f66 : (q_I r51 12 10 a0).toInt = (q_I δ 12 10 a0).toInt := ((show (q_I r51 12 10 a0).toInt = (q_I r33.2 12 10 a0).toInt from congrArg Int32.toInt (u55 12 10 a0 (by decide))).trans ((show (q_I r33.2 12 10 a0).toInt = (q_I r7.2 12 10 a0).toInt from congrArg Int32.toInt (u39 12 10 a0 (by decide))).trans ((show (q_I r7.2 12 10 a0).toInt = (q_I d1 12 10 a0).toInt from congrArg Int32.toInt (u12 12 10 a0 (by decide))).trans (show (q_I d1 12 10 a0).toInt = (q_I δ 12 10 a0).toInt from congrArg Int32.toInt (by rw [e2]; exact rI_o (by decide))))))
        have f67 := cb_12_10 I k_a0
        have f68 := lgb ((q_I r51 12 10 a0)).toInt
        refine ok_bind (k_X12_cellsOf L hN (a0 := a0) (x1 := (q_I r51 12 10 a0)) (x2 := (0 : Int32)) (x3 := (q_I r51 12 36 a0)) k_a0 (show 1 ≤ ((q_I r51 12 10 a0)).toInt by first | with_reducible assumption | omega) (show ((q_I r51 12 10 a0)).toInt ≤ 16 by first | with_reducible assumption | omega) (show 0 ≤ (0 : Int) by first | with_reducible assumption | omega) (show (0 : Int) ≤ ((q_I r51 12 36 a0)).toInt by first | with_reducible assumption | omega) (show ((q_I r51 12 36 a0)).toInt ≤ (0 : Int) + 2000 by first | with_reducible assumption | omega) (show ((q_I r51 12 36 a0)).toInt ≤ (q_I r51 12 36 a0).toInt by first | with_reducible assumption | omega) (show (q_I r51 12 36 a0).toInt + 2000 * LGf ((q_I r51 12 10 a0)).toInt ≤ 12000 by first | with_reducible assumption | omega) (show ((q_I r51 12 10 a0)).toInt < 20 by first | with_reducible assumption | omega) i53) (fun r64 hr65 => ?_)
        obtain ⟨i69, ⟨u71, u72, u73⟩, p70⟩ := hr65
        have u74 := kp_t u58 u71
        have v75 : q_V r64.2 = q_V δ := (u72).trans v59
        have v76 := kr_t v60 u73
        have f77 := cb_12_36 i69 k_a0
        have f78 := ti_b r64.1
        unfold J_X12_size_90
        exact ok_some (show RI ad h.1 δ0 r64.2 ∧ (kp [(12, 0), (12, 36)] δ r64.2 ∧ q_V r64.2 = q_V δ ∧ kr ad [100, 119] δ r64.2) from ⟨i69, ⟨kp_w (by decide) u74, v75, kr_w (by decide) v76⟩⟩)
      · have c79 : x2.toInt ≠ (0 : Int) := o_ne h62
        refine ok_ite (fun h80 => ?_) (fun h80 => ?_)
        · have c81 : x2.toInt = (2 : Int) := o_eq h80
          obtain ⟨b82, o83, k84, n85⟩ := gO_12_14 L k_a0
          obtain rfl := gS_12_14 L k_a0 o83
          refine ok_at o83 ?_
          have t86 := ti_tn x1
          refine ok_gd (fun hc87 => ?_) ?_
          · rcases hc87 with hc87 | hc87
            · have c88 : x1.toInt < (0 : Int) := o_lt hc87
              omega
            · omega
          unfold J_X12_size_90
          exact ok_some (show RI ad h.1 δ0 r51 ∧ (kp [(12, 0), (12, 36)] δ r51 ∧ q_V r51 = q_V δ ∧ kr ad [100, 119] δ r51) from ⟨i53, ⟨kp_w (by decide) u58, v59, kr_w (by decide) v60⟩⟩)
        · have c89 : x2.toInt ≠ (2 : Int) := o_ne h80
          have f90 : (q_I r51 12 10 a0).toInt = (q_I δ 12 10 a0).toInt := ((show (q_I r51 12 10 a0).toInt = (q_I r33.2 12 10 a0).toInt from congrArg Int32.toInt (u55 12 10 a0 (by decide))).trans ((show (q_I r33.2 12 10 a0).toInt = (q_I r7.2 12 10 a0).toInt from congrArg Int32.toInt (u39 12 10 a0 (by decide))).trans ((show (q_I r7.2 12 10 a0).toInt = (q_I d1 12 10 a0).toInt from congrArg Int32.toInt (u12 12 10 a0 (by decide))).trans (show (q_I d1 12 10 a0).toInt = (q_I δ 12 10 a0).toInt from congrArg Int32.toInt (by rw [e2]; exact rI_o (by decide))))))
          have f91 := cb_12_10 I k_a0
          refine ok_ite (fun h92 => ?_) (fun h92 => ?_)
          · have c93 : (5 : Int) ≤ (q_I r51 12 10 a0).toInt := o_le h92
            unfold J_X12_size_90
            exact ok_some (show RI ad h.1 δ0 r51 ∧ (kp [(12, 0), (12, 36)] δ r51 ∧ q_V r51 = q_V δ ∧ kr ad [100, 119] δ r51) from ⟨i53, ⟨kp_w (by decide) u58, v59, kr_w (by decide) v60⟩⟩)
          · have c94 : (q_I r51 12 10 a0).toInt < (5 : Int) := o_nle h92
            unfold J_X12_size_90
            exact ok_some (show RI ad h.1 δ0 r51 ∧ (kp [(12, 0), (12, 36)] δ r51 ∧ q_V r51 = q_V δ ∧ kr ad [100, 119] δ r51) from ⟨i53, ⟨kp_w (by decide) u58, v59, kr_w (by decide) v60⟩⟩)
set_option maxHeartbeats 4000000 in
theorem ke_X12_boundOf {ad : List Nat} {h : hp} (L : Lay TLx ad h) {δ0 : dp} {N : Nat} (hN : 10000000 ≤ N) : ∀ (k : Nat), ∀ (a0 : Nat) (x1 : Int32) (x2 : Int32) (δ : dp), q_K h.1 a0 = 12 → 0 ≤ (x2).toInt → (x2).toInt ≤ 16 → (x2).toInt < (k : Int) → RI ad h.1 δ0 δ → ok (E_X12_boundOf N h.1 k a0 x1 x2 δ) (fun r => r.2 = δ) := by
  intro k
  induction k with
  | zero =>
    intro a0 x1 x2 δ k_a0 z0 z1 hd I
    exfalso; omega
  | succ k ih =>
    intro a0 x1 x2 δ k_a0 z0 z1 hd I
    unfold E_X12_boundOf B_X12_boundOf
    have f1 := ti_b x2
    have f2 := cb_12_11 I k_a0
    refine ok_ite (fun h3 => ?_) (fun h3 => ?_)
    · have c4 : (q_I δ 12 11 a0).toInt < x2.toInt := o_lt h3
      refine ok_bind (k_X12_lowerBits L hN (a0 := a0) (x1 := x2) k_a0 (show 2 ≤ (x2).toInt by first | with_reducible assumption | omega) (show (x2).toInt ≤ 16 by first | with_reducible assumption | omega) I) (fun r5 hr6 => ?_)
      obtain ⟨i7, p8, p9, p10, p11, p12, p13⟩ := hr6
      try rw [i7]
      have f14 := ti_b r5.1
      have f15 := lgb (r5.1).toInt
      have f16 := lgb (x2).toInt
      have f17 := lgb ((x2 - r5.1)).toInt
      first | (have q19 := te_sub x2 r5.1 (by omega) (by omega); obtain ⟨f20, f21, f22⟩ := q19) | (obtain ⟨q19, f20, f21, f22⟩ := ti_sub x2 r5.1)
      refine ok_bind (ih a0 x1 r5.1 δ k_a0 (show 0 ≤ (r5.1).toInt by first | with_reducible assumption | omega) (show (r5.1).toInt ≤ 16 by first | with_reducible assumption | omega) (show (r5.1).toInt < _ by first | with_reducible assumption | omega) I) (fun r23 hr24 => ?_)
      have i25 := hr24
      try rw [i25]
      have f26 := ti_b r23.1
      have f27 := ti_b x1
      refine ok_ite (fun h28 => ?_) (fun h28 => ?_)
      · have c29 : x1.toInt = (2 : Int) := o_eq h28
        exact ok_some (show δ = δ from rfl)
      · have c30 : x1.toInt ≠ (2 : Int) := o_ne h28
        refine ok_bind (ih a0 x1 (x2 - r5.1) δ k_a0 (show 0 ≤ ((x2 - r5.1)).toInt by first | with_reducible assumption | omega) (show ((x2 - r5.1)).toInt ≤ 16 by first | with_reducible assumption | omega) (show ((x2 - r5.1)).toInt < _ by first | with_reducible assumption | omega) I) (fun r31 hr32 => ?_)
        have i33 := hr32
        try rw [i33]
        have f34 := ti_b r31.1
        refine ok_biv (fun vx35 e36 => ?_)
        first | (have q37 := te_cadd (c := 1) (n := 1) rfl r31.1 (by omega) (by omega); rw [← e36] at q37; obtain ⟨f38, f39, f40⟩ := q37) | (obtain ⟨q37, f38, f39, f40⟩ : ∃ q : Int, vx35.toInt = (1 : Int) + r31.1.toInt + 4294967296 * q ∧ -2147483648 ≤ vx35.toInt ∧ vx35.toInt ≤ 2147483647 := by rw [e36]; exact ti_cadd (c := 1) (n := 1) rfl r31.1)
        refine ok_ite (fun h41 => ?_) (fun h41 => ?_)
        · have c42 : x1.toInt = (0 : Int) := o_eq h41
          unfold J_X12_boundOf_64
          refine ok_ite (fun h43 => ?_) (fun h43 => ?_)
          · have c44 : r23.1.toInt ≤ vx35.toInt := o_le h43
            unfold J_X12_boundOf_78
            exact ok_some (show δ = δ from rfl)
          · have c45 : vx35.toInt < r23.1.toInt := o_nle h43
            unfold J_X12_boundOf_78
            exact ok_some (show δ = δ from rfl)
        · have c46 : x1.toInt ≠ (0 : Int) := o_ne h41
          refine ok_ite (fun h47 => ?_) (fun h47 => ?_)
          · have c48 : x1.toInt = (1 : Int) := o_eq h47
            unfold J_X12_boundOf_64
            refine ok_ite (fun h49 => ?_) (fun h49 => ?_)
            · have c50 : r23.1.toInt ≤ vx35.toInt := o_le h49
              unfold J_X12_boundOf_78
              exact ok_some (show δ = δ from rfl)
            · have c51 : vx35.toInt < r23.1.toInt := o_nle h49
              unfold J_X12_boundOf_78
              exact ok_some (show δ = δ from rfl)
          · have c52 : x1.toInt ≠ (1 : Int) := o_ne h47
            unfold J_X12_boundOf_64
            refine ok_ite (fun h53 => ?_) (fun h53 => ?_)
            · have c54 : r23.1.toInt ≤ vx35.toInt := o_le h53
              unfold J_X12_boundOf_78
              exact ok_some (show δ = δ from rfl)
            · have c55 : vx35.toInt < r23.1.toInt := o_nle h53
              unfold J_X12_boundOf_78
              exact ok_some (show δ = δ from rfl)
    · have c56 : x2.toInt ≤ (q_I δ 12 11 a0).toInt := o_nlt h3
      exact ok_some (show δ = δ from rfl)
set_option maxHeartbeats 4000000 in
theorem k_X12_boundOf {ad : List Nat} {h : hp} (L : Lay TLx ad h) {δ0 : dp} {N : Nat} (hN : 10000000 ≤ N) {a0 : Nat} {x1 : Int32} {x2 : Int32} (k_a0 : q_K h.1 a0 = 12) {δ : dp} (z0 : 0 ≤ (x2).toInt) (z1 : (x2).toInt ≤ 16) (hd : (x2).toInt < 20) (I : RI ad h.1 δ0 δ) : ok (D_X12_boundOf N h.1 a0 x1 x2 δ) (fun r => r.2 = δ) := ke_X12_boundOf L hN 20 a0 x1 x2 δ k_a0 z0 z1 hd I
set_option maxHeartbeats 4000000 in
theorem k_X12_bound {ad : List Nat} {h : hp} (L : Lay TLx ad h) {δ0 : dp} {N : Nat} (hN : 10000000 ≤ N) {a0 : Nat} {x1 : Int32} (k_a0 : q_K h.1 a0 = 12) {δ : dp} (I : RI ad h.1 δ0 δ) : ok (D_X12_bound N h.1 a0 x1 δ) (fun r => RI ad h.1 δ0 r.2 ∧ (kp [(12, 0)] δ r.2 ∧ q_V r.2 = q_V δ ∧ kr ad [100] δ r.2)) := by
  unfold D_X12_bound
  refine ok_bdv (fun d1 e2 => ?_)
  have i3 : RI ad h.1 δ0 d1 := by rw [e2]; exact cs_12_0 L I
  have u4 := kp_I kp_r e2
  have v5 : q_V d1 = q_V δ := ((show q_V d1 = q_V δ by rw [e2]; rfl)).trans rfl
  have v6 := kr_N (kr_r (ad := ad)) (show q_R d1 = q_R δ by rw [e2]; rfl)
  refine ok_bind (k_X12_isCall L hN (x0 := x1)  i3) (fun r7 hr8 => ?_)
  obtain ⟨i9, p10, p11⟩ := hr8
  try rw [i9]
  have f12 := bo_l p10
  have f13 := ti_b r7.1
  have f14 := ti_b x1
  refine ok_bind (k_X12_may L hN (a0 := a0) (x1 := r7.1) (x2 := (1 : Int32)) (x3 := (2 : Int32)) k_a0 (show (1 : Int) ≠ 0 by first | with_reducible assumption | omega) (show 0 ≤ (2 : Int) by first | with_reducible assumption | omega) (show (2 : Int) ≤ 2 by first | with_reducible assumption | omega) i3) (fun r15 hr16 => ?_)
  obtain ⟨i17, ⟨u21, u22, u23⟩, p18, p19, p20⟩ := hr16
  have u24 := kp_t u4 u21
  have v25 : q_V r15.2 = q_V δ := (u22).trans v5
  have v26 := kr_t v6 u23
  have f27 := bo_l p18
  have f28 := ti_b r15.1
  have f29 := ti_b (q_I d1 12 0 a0)
  have f30 : (q_I d1 12 0 a0).toInt = (0 : Int) := congrArg Int32.toInt (show q_I d1 12 0 a0 = (0 : Int32) by rw [e2]; exact rI_s)
  refine ok_ite (fun h31 => ?_) (fun h31 => ?_)
  · have c32 : r15.1.toInt = (0 : Int) := o_eq h31
    exact ok_some (show RI ad h.1 δ0 r15.2 ∧ (kp [(12, 0)] δ r15.2 ∧ q_V r15.2 = q_V δ ∧ kr ad [100] δ r15.2) from ⟨i17, ⟨kp_w (by decide) u24, v25, kr_w (by decide) v26⟩⟩)
  · have c33 : r15.1.toInt ≠ (0 : Int) := o_ne h31
    have f36 : (q_I r15.2 12 10 a0).toInt = (q_I δ 12 10 a0).toInt := ((show (q_I r15.2 12 10 a0).toInt = (q_I d1 12 10 a0).toInt from congrArg Int32.toInt (u21 12 10 a0 (by decide))).trans (show (q_I d1 12 10 a0).toInt = (q_I δ 12 10 a0).toInt from congrArg Int32.toInt (by rw [e2]; exact rI_o (by decide))))
    have f37 := cb_12_10 I k_a0
    refine ok_bind (k_X12_boundOf L hN (a0 := a0) (x1 := x1) (x2 := (q_I r15.2 12 10 a0)) k_a0 (show 0 ≤ ((q_I r15.2 12 10 a0)).toInt by first | with_reducible assumption | omega) (show ((q_I r15.2 12 10 a0)).toInt ≤ 16 by first | with_reducible assumption | omega) (show ((q_I r15.2 12 10 a0)).toInt < 20 by first | with_reducible assumption | omega) i17) (fun r34 hr35 => ?_)
    have i38 := hr35
    try rw [i38]
    have f39 := ti_b r34.1
    exact ok_some (show RI ad h.1 δ0 r15.2 ∧ (kp [(12, 0)] δ r15.2 ∧ q_V r15.2 = q_V δ ∧ kr ad [100] δ r15.2) from ⟨i17, ⟨kp_w (by decide) u24, v25, kr_w (by decide) v26⟩⟩)
