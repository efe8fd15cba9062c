/-! 63.kX9 (by gen_safe.py) -/
set_option maxHeartbeats 4000000 in
theorem k_X9_isOver {ad : List Nat} {h : hp} (L : Lay TLx ad h) {δ0 : dp} {N : Nat} (hN : 10000000 ≤ N) {tp th : Nat} {a0 : Nat} (k_a0 : q_K h.1 a0 = 9) {δ : dp} (hv0 : q_V δ 9 0 a0 = some tp) (hv1 : q_V δ 9 1 a0 = some th) (ktp : q_K h.1 tp = 7) (kth : q_K h.1 th = 8) (I : CI ad h.1 δ0 δ) : ok (D_X9_isOver N h.1 a0 δ) (fun r => CI ad h.1 δ0 r.2 ∧ (kp [(7, 3), (7, 4)] δ r.2 ∧ q_V r.2 = q_V δ ∧ q_R r.2 = q_R δ) ∧ bo (r.1)) := by
  unfold D_X9_isOver
  have f1 := cb_9_4 I k_a0
  refine ok_ite (fun h2 => ?_) (fun h2 => ?_)
  · have c3 : (q_I δ 9 4 a0).toInt = (0 : Int) := o_eq h2
    refine ok_at ((rfl).trans hv0) ?_
    refine ok_gp ktp ?_
    refine ok_bind (k_X7_ahead L hN (a0 := tp) ktp I) (fun r4 hr5 => ?_)
    obtain ⟨i6, ⟨u8, u9, u10⟩, p7⟩ := hr5
    have u11 := kp_t kp_r u8
    have v12 : q_V r4.2 = q_V δ := (u9).trans rfl
    have v13 : q_R r4.2 = q_R δ := (u10).trans rfl
    have f14 := ti_b r4.1
    have f15 := cb_7_3 i6 ktp
    have f16 := cb_7_2 i6 ktp
    have f17 : (q_I r4.2 7 2 tp).toInt = (q_I δ 7 2 tp).toInt := congrArg Int32.toInt (u8 7 2 tp (by decide))
    have f18 := cb_7_2 I ktp
    have f19 := ti_b r4.1
    refine ok_ite (fun h20 => ?_) (fun h20 => ?_)
    · have c21 : r4.1.toInt = (-1 : Int) := o_eq h20
      unfold J_X9_isOver_23
      refine ok_gp (by decide) ?_
      exact ok_some (show CI ad h.1 δ0 r4.2 ∧ (kp [(7, 3), (7, 4)] δ r4.2 ∧ q_V r4.2 = q_V δ ∧ q_R r4.2 = q_R δ) ∧ bo ((1 : Int32)) from ⟨i6, ⟨kp_w (by decide) u11, v12, v13⟩, bo_1⟩)
    · have c22 : r4.1.toInt ≠ (-1 : Int) := o_ne h20
      unfold J_X9_isOver_22
      unfold J_X9_isOver_23
      refine ok_gp (by decide) ?_
      exact ok_some (show CI ad h.1 δ0 r4.2 ∧ (kp [(7, 3), (7, 4)] δ r4.2 ∧ q_V r4.2 = q_V δ ∧ q_R r4.2 = q_R δ) ∧ bo ((0 : Int32)) from ⟨i6, ⟨kp_w (by decide) u11, v12, v13⟩, bo_0⟩)
  · have c23 : (q_I δ 9 4 a0).toInt ≠ (0 : Int) := o_ne h2
    unfold J_X9_isOver_22
    unfold J_X9_isOver_23
    refine ok_gp (by decide) ?_
    exact ok_some (show CI ad h.1 δ0 δ ∧ (kp [(7, 3), (7, 4)] δ δ ∧ q_V δ = q_V δ ∧ q_R δ = q_R δ) ∧ bo ((0 : Int32)) from ⟨I, ⟨kp_w (by decide) kp_r, rfl, rfl⟩, bo_0⟩)
set_option maxHeartbeats 4000000 in
theorem k_X9_callOfWord {ad : List Nat} {h : hp} (L : Lay TLx ad h) {δ0 : dp} {N : Nat} (hN : 10000000 ≤ N) {tp th : Nat} {a0 : Nat} (k_a0 : q_K h.1 a0 = 9) {δ : dp} (hv0 : q_V δ 9 0 a0 = some tp) (hv1 : q_V δ 9 1 a0 = some th) (ktp : q_K h.1 tp = 7) (kth : q_K h.1 th = 8) (I : CI ad h.1 δ0 δ) : ok (D_X9_callOfWord N h.1 a0 δ) (fun r => r.2 = δ ∧ -1 ≤ (r.1).toInt ∧ (r.1).toInt ≤ 4) := by
  unfold D_X9_callOfWord
  refine ok_at ((rfl).trans hv0) ?_
  refine ok_gp ktp ?_
  refine ok_bind (k_X7_wordIs L hN (a0 := tp) (a1 := 5) ktp (show 5 < 16 by first | assumption | omega) I) (fun r1 hr2 => ?_)
  obtain ⟨i3, p4⟩ := hr2
  try rw [i3]
  have f5 := bo_t p4
  have f6 := ti_b r1.1
  refine ok_ite (fun h7 => ?_) (fun h7 => ?_)
  · have c8 : r1.1.toInt = (0 : Int) := o_eq h7
    refine ok_at ((rfl).trans hv0) ?_
    refine ok_gp ktp ?_
    refine ok_bind (k_X7_wordIs L hN (a0 := tp) (a1 := 6) ktp (show 6 < 16 by first | assumption | omega) I) (fun r9 hr10 => ?_)
    obtain ⟨i11, p12⟩ := hr10
    try rw [i11]
    have f13 := bo_t p12
    have f14 := ti_b r9.1
    refine ok_ite (fun h15 => ?_) (fun h15 => ?_)
    · have c16 : r9.1.toInt = (0 : Int) := o_eq h15
      refine ok_at ((rfl).trans hv0) ?_
      refine ok_gp ktp ?_
      refine ok_bind (k_X7_wordIs L hN (a0 := tp) (a1 := 7) ktp (show 7 < 16 by first | assumption | omega) I) (fun r17 hr18 => ?_)
      obtain ⟨i19, p20⟩ := hr18
      try rw [i19]
      have f21 := bo_t p20
      have f22 := ti_b r17.1
      refine ok_ite (fun h23 => ?_) (fun h23 => ?_)
      · have c24 : r17.1.toInt = (0 : Int) := o_eq h23
        refine ok_at ((rfl).trans hv0) ?_
        refine ok_gp ktp ?_
        refine ok_bind (k_X7_wordIs L hN (a0 := tp) (a1 := 8) ktp (show 8 < 16 by first | assumption | omega) I) (fun r25 hr26 => ?_)
        obtain ⟨i27, p28⟩ := hr26
        try rw [i27]
        have f29 := bo_t p28
        have f30 := ti_b r25.1
        refine ok_ite (fun h31 => ?_) (fun h31 => ?_)
        · have c32 : r25.1.toInt = (0 : Int) := o_eq h31
          refine ok_at ((rfl).trans hv0) ?_
          refine ok_gp ktp ?_
          refine ok_bind (k_X7_wordIs L hN (a0 := tp) (a1 := 9) ktp (show 9 < 16 by first | assumption | omega) I) (fun r33 hr34 => ?_)
          obtain ⟨i35, p36⟩ := hr34
          try rw [i35]
          have f37 := bo_t p36
          have f38 := ti_b r33.1
          refine ok_ite (fun h39 => ?_) (fun h39 => ?_)
          · have c40 : r33.1.toInt = (0 : Int) := o_eq h39
            unfold J_X9_callOfWord_73
            exact ok_some (show δ = δ ∧ -1 ≤ (-1 : Int) ∧ (-1 : Int) ≤ 4 from ⟨rfl, by first | assumption | omega, by first | assumption | omega⟩)
          · have c41 : r33.1.toInt ≠ (0 : Int) := o_ne h39
            unfold J_X9_callOfWord_73
            exact ok_some (show δ = δ ∧ -1 ≤ (4 : Int) ∧ (4 : Int) ≤ 4 from ⟨rfl, by first | assumption | omega, by first | assumption | omega⟩)
        · have c42 : r25.1.toInt ≠ (0 : Int) := o_ne h31
          exact ok_some (show δ = δ ∧ -1 ≤ (3 : Int) ∧ (3 : Int) ≤ 4 from ⟨rfl, by first | assumption | omega, by first | assumption | omega⟩)
      · have c43 : r17.1.toInt ≠ (0 : Int) := o_ne h23
        exact ok_some (show δ = δ ∧ -1 ≤ (2 : Int) ∧ (2 : Int) ≤ 4 from ⟨rfl, by first | assumption | omega, by first | assumption | omega⟩)
    · have c44 : r9.1.toInt ≠ (0 : Int) := o_ne h15
      exact ok_some (show δ = δ ∧ -1 ≤ (1 : Int) ∧ (1 : Int) ≤ 4 from ⟨rfl, by first | assumption | omega, by first | assumption | omega⟩)
  · have c45 : r1.1.toInt ≠ (0 : Int) := o_ne h7
    exact ok_some (show δ = δ ∧ -1 ≤ (0 : Int) ∧ (0 : Int) ≤ 4 from ⟨rfl, by first | assumption | omega, by first | assumption | omega⟩)
set_option maxHeartbeats 4000000 in
theorem k_X9_addName {ad : List Nat} {h : hp} (L : Lay TLx ad h) {δ0 : dp} {N : Nat} (hN : 10000000 ≤ N) {tp th : Nat} {a0 : Nat} (k_a0 : q_K h.1 a0 = 9) {δ : dp} (hv0 : q_V δ 9 0 a0 = some tp) (hv1 : q_V δ 9 1 a0 = some th) (ktp : q_K h.1 tp = 7) (kth : q_K h.1 th = 8) (I : CI ad h.1 δ0 δ) : ok (D_X9_addName N h.1 a0 δ) (fun r => CI ad h.1 δ0 r ∧ (kp [(7, 5), (7, 6), (8, 2), (8, 3)] δ r ∧ q_V r = q_V δ ∧ q_R r (Ad ad 7) = q_R δ (Ad ad 7)) ∧ (q_I δ 8 2 th).toInt ≤ (q_I r 8 2 th).toInt) := by
  unfold D_X9_addName
  refine ok_at ((rfl).trans hv0) ?_
  refine ok_gp ktp ?_
  refine ok_bind (k_X7_wordIs L hN (a0 := tp) (a1 := 11) ktp (show 11 < 16 by first | assumption | omega) I) (fun r1 hr2 => ?_)
  obtain ⟨i3, p4⟩ := hr2
  try rw [i3]
  have f5 := bo_t p4
  have f6 := ti_b r1.1
  refine ok_ite (fun h7 => ?_) (fun h7 => ?_)
  · have c8 : r1.1.toInt = (0 : Int) := o_eq h7
    refine ok_at ((rfl).trans hv0) ?_
    refine ok_gp ktp ?_
    refine ok_bind (k_X7_wordIs L hN (a0 := tp) (a1 := 12) ktp (show 12 < 16 by first | assumption | omega) I) (fun r9 hr10 => ?_)
    obtain ⟨i11, p12⟩ := hr10
    try rw [i11]
    have f13 := bo_t p12
    have f14 := ti_b r9.1
    refine ok_ite (fun h15 => ?_) (fun h15 => ?_)
    · have c16 : r9.1.toInt = (0 : Int) := o_eq h15
      refine ok_at ((rfl).trans hv0) ?_
      refine ok_gp ktp ?_
      refine ok_bind (k_X7_wordIs L hN (a0 := tp) (a1 := 13) ktp (show 13 < 16 by first | assumption | omega) I) (fun r17 hr18 => ?_)
      obtain ⟨i19, p20⟩ := hr18
      try rw [i19]
      have f21 := bo_t p20
      have f22 := ti_b r17.1
      refine ok_ite (fun h23 => ?_) (fun h23 => ?_)
      · have c24 : r17.1.toInt = (0 : Int) := o_eq h23
        refine ok_at ((rfl).trans hv0) ?_
        refine ok_gp ktp ?_
        refine ok_bind (k_X7_wordIs L hN (a0 := tp) (a1 := 14) ktp (show 14 < 16 by first | assumption | omega) I) (fun r25 hr26 => ?_)
        obtain ⟨i27, p28⟩ := hr26
        try rw [i27]
        have f29 := bo_t p28
        have f30 := ti_b r25.1
        refine ok_ite (fun h31 => ?_) (fun h31 => ?_)
        · have c32 : r25.1.toInt = (0 : Int) := o_eq h31
          refine ok_at ((rfl).trans hv0) ?_
          refine ok_gp ktp ?_
          refine ok_bind (k_X7_wordIs L hN (a0 := tp) (a1 := 15) ktp (show 15 < 16 by first | assumption | omega) I) (fun r33 hr34 => ?_)
          obtain ⟨i35, p36⟩ := hr34
          try rw [i35]
          have f37 := bo_t p36
          have f38 := ti_b r33.1
          refine ok_ite (fun h39 => ?_) (fun h39 => ?_)
          · have c40 : r33.1.toInt = (0 : Int) := o_eq h39
            refine ok_at ((rfl).trans hv0) ?_
            refine ok_gp ktp ?_
            refine ok_bind (k_X7_refuse L hN (a0 := tp) (x1 := (1 : Int32)) ktp (show (1 : Int) ≠ 0 by first | assumption | omega) I) (fun r41 hr42 => ?_)
            obtain ⟨i43, ⟨u45, u46, u47⟩, p44⟩ := hr42
            have u48 := kp_t kp_r u45
            have v49 : q_V r41 = q_V δ := (u46).trans rfl
            have v50 : q_R r41 (Ad ad 7) = q_R δ (Ad ad 7) := (congrFun u47 (Ad ad 7)).trans rfl
            have f51 := ti_b (q_I r41 7 5 tp)
            unfold J_X9_addName_151
            have f52 := cb_8_2 I kth
            have f53 := cb_8_2 i43 kth
            have f54 : (q_I r41 8 2 th).toInt = (q_I δ 8 2 th).toInt := congrArg Int32.toInt (u45 8 2 th (by decide))
            exact ok_some (show CI ad h.1 δ0 r41 ∧ (kp [(7, 5), (7, 6), (8, 2), (8, 3)] δ r41 ∧ q_V r41 = q_V δ ∧ q_R r41 (Ad ad 7) = q_R δ (Ad ad 7)) ∧ (q_I δ 8 2 th).toInt ≤ (q_I r41 8 2 th).toInt from ⟨i43, ⟨kp_w (by decide) u48, v49, v50⟩, by first | assumption | omega⟩)
          · have c55 : r33.1.toInt ≠ (0 : Int) := o_ne h39
            refine ok_at ((rfl).trans hv1) ?_
            refine ok_gp kth ?_
            have f58 := cb_8_2 I kth
            refine ok_bind (k_X8_add L hN (a0 := th) (x1 := (4 : Int32)) (x2 := (0 : Int32)) kth (show 0 ≤ (0 : Int) by first | assumption | omega) (show (4 : Int) = 1 → (0 : Int) < 4 by first | assumption | omega) (show (4 : Int) = 11 → (q_I δ 8 2 th).toInt < 500 → (0 : Int) < 500 by first | assumption | omega) I) (fun r56 hr57 => ?_)
            obtain ⟨i59, ⟨u61, u62, u63⟩, p60⟩ := hr57
            have u64 := kp_t kp_r u61
            have v65 : q_V r56 = q_V δ := (u62).trans rfl
            have v66 : q_R r56 (Ad ad 7) = q_R δ (Ad ad 7) := (u63).trans rfl
            have f67 := cb_8_2 i59 kth
            unfold J_X9_addName_151
            exact ok_some (show CI ad h.1 δ0 r56 ∧ (kp [(7, 5), (7, 6), (8, 2), (8, 3)] δ r56 ∧ q_V r56 = q_V δ ∧ q_R r56 (Ad ad 7) = q_R δ (Ad ad 7)) ∧ (q_I δ 8 2 th).toInt ≤ (q_I r56 8 2 th).toInt from ⟨i59, ⟨kp_w (by decide) u64, v65, v66⟩, by first | assumption | omega⟩)
        · have c68 : r25.1.toInt ≠ (0 : Int) := o_ne h31
          refine ok_at ((rfl).trans hv1) ?_
          refine ok_gp kth ?_
          have f71 := cb_8_2 I kth
          refine ok_bind (k_X8_add L hN (a0 := th) (x1 := (3 : Int32)) (x2 := (0 : Int32)) kth (show 0 ≤ (0 : Int) by first | assumption | omega) (show (3 : Int) = 1 → (0 : Int) < 4 by first | assumption | omega) (show (3 : Int) = 11 → (q_I δ 8 2 th).toInt < 500 → (0 : Int) < 500 by first | assumption | omega) I) (fun r69 hr70 => ?_)
          obtain ⟨i72, ⟨u74, u75, u76⟩, p73⟩ := hr70
          have u77 := kp_t kp_r u74
          have v78 : q_V r69 = q_V δ := (u75).trans rfl
          have v79 : q_R r69 (Ad ad 7) = q_R δ (Ad ad 7) := (u76).trans rfl
          have f80 := cb_8_2 i72 kth
          unfold J_X9_addName_151
          exact ok_some (show CI ad h.1 δ0 r69 ∧ (kp [(7, 5), (7, 6), (8, 2), (8, 3)] δ r69 ∧ q_V r69 = q_V δ ∧ q_R r69 (Ad ad 7) = q_R δ (Ad ad 7)) ∧ (q_I δ 8 2 th).toInt ≤ (q_I r69 8 2 th).toInt from ⟨i72, ⟨kp_w (by decide) u77, v78, v79⟩, by first | assumption | omega⟩)
      · have c81 : r17.1.toInt ≠ (0 : Int) := o_ne h23
        refine ok_at ((rfl).trans hv1) ?_
        refine ok_gp kth ?_
        have f84 := cb_8_2 I kth
        refine ok_bind (k_X8_add L hN (a0 := th) (x1 := (2 : Int32)) (x2 := (0 : Int32)) kth (show 0 ≤ (0 : Int) by first | assumption | omega) (show (2 : Int) = 1 → (0 : Int) < 4 by first | assumption | omega) (show (2 : Int) = 11 → (q_I δ 8 2 th).toInt < 500 → (0 : Int) < 500 by first | assumption | omega) I) (fun r82 hr83 => ?_)
        obtain ⟨i85, ⟨u87, u88, u89⟩, p86⟩ := hr83
        have u90 := kp_t kp_r u87
        have v91 : q_V r82 = q_V δ := (u88).trans rfl
        have v92 : q_R r82 (Ad ad 7) = q_R δ (Ad ad 7) := (u89).trans rfl
        have f93 := cb_8_2 i85 kth
        unfold J_X9_addName_151
        exact ok_some (show CI ad h.1 δ0 r82 ∧ (kp [(7, 5), (7, 6), (8, 2), (8, 3)] δ r82 ∧ q_V r82 = q_V δ ∧ q_R r82 (Ad ad 7) = q_R δ (Ad ad 7)) ∧ (q_I δ 8 2 th).toInt ≤ (q_I r82 8 2 th).toInt from ⟨i85, ⟨kp_w (by decide) u90, v91, v92⟩, by first | assumption | omega⟩)
    · have c94 : r9.1.toInt ≠ (0 : Int) := o_ne h15
      unfold J_X9_addName_24
      refine ok_at ((rfl).trans hv0) ?_
      refine ok_gp ktp ?_
      refine ok_bind (k_X7_wordIs L hN (a0 := tp) (a1 := 11) ktp (show 11 < 16 by first | assumption | omega) I) (fun r95 hr96 => ?_)
      obtain ⟨i97, p98⟩ := hr96
      try rw [i97]
      have f99 := bo_t p98
      have f100 := ti_b r95.1
      refine ok_ite (fun h101 => ?_) (fun h101 => ?_)
      · have c102 : r95.1.toInt = (0 : Int) := o_eq h101
        unfold J_X9_addName_45
        have f105 := cb_9_4 I k_a0
        refine ok_biv (fun vx103 e104 => ?_)
        first | (have q106 := te_subc (c := 2) (n := 2) rfl (q_I δ 9 4 a0) (by omega) (by omega); rw [← e104] at q106; obtain ⟨f107, f108, f109⟩ := q106) | (obtain ⟨q106, f107, f108, f109⟩ : ∃ q : Int, vx103.toInt = (q_I δ 9 4 a0).toInt - (2 : Int) + 4294967296 * q ∧ -2147483648 ≤ vx103.toInt ∧ vx103.toInt ≤ 2147483647 := by rw [e104]; exact ti_subc (c := 2) (n := 2) rfl (q_I δ 9 4 a0))
        refine ok_at ((rfl).trans hv1) ?_
        refine ok_gp kth ?_
        refine ok_ite (fun h110 => ?_) (fun h110 => ?_)
        · have c111 : (0 : Int) ≤ vx103.toInt := o_le h110
          unfold J_X9_addName_60
          refine ok_bind (k_J9_max_7cf53 L hN (x0 := vx103) (x1 := (0 : Int32))  I) (fun r112 hr113 => ?_)
          obtain ⟨i114, p115, p116, p117⟩ := hr113
          try rw [i114]
          have f118 := ti_b r112.1
          replace p116 : (0 : Int) ≤ (r112.1).toInt := p116
          replace p117 : ((r112.1).toInt = (vx103).toInt ∨ (r112.1).toInt = (0 : Int)) := p117
          have f119 := ti_b r112.1
          have f122 := cb_8_2 I kth
          refine ok_bind (k_X8_add L hN (a0 := th) (x1 := (1 : Int32)) (x2 := r112.1) kth (show 0 ≤ (r112.1).toInt by first | assumption | omega) (show (1 : Int) = 1 → (r112.1).toInt < 4 by first | assumption | omega) (show (1 : Int) = 11 → (q_I δ 8 2 th).toInt < 500 → (r112.1).toInt < 500 by first | assumption | omega) I) (fun r120 hr121 => ?_)
          obtain ⟨i123, ⟨u125, u126, u127⟩, p124⟩ := hr121
          have u128 := kp_t kp_r u125
          have v129 : q_V r120 = q_V δ := (u126).trans rfl
          have v130 : q_R r120 (Ad ad 7) = q_R δ (Ad ad 7) := (u127).trans rfl
          have f131 := cb_8_2 i123 kth
          unfold J_X9_addName_151
          exact ok_some (show CI ad h.1 δ0 r120 ∧ (kp [(7, 5), (7, 6), (8, 2), (8, 3)] δ r120 ∧ q_V r120 = q_V δ ∧ q_R r120 (Ad ad 7) = q_R δ (Ad ad 7)) ∧ (q_I δ 8 2 th).toInt ≤ (q_I r120 8 2 th).toInt from ⟨i123, ⟨kp_w (by decide) u128, v129, v130⟩, by first | assumption | omega⟩)
        · have c132 : vx103.toInt < (0 : Int) := o_nle h110
          unfold J_X9_addName_60
          refine ok_bind (k_J9_max_7cf53 L hN (x0 := vx103) (x1 := (0 : Int32))  I) (fun r133 hr134 => ?_)
          obtain ⟨i135, p136, p137, p138⟩ := hr134
          try rw [i135]
          have f139 := ti_b r133.1
          replace p137 : (0 : Int) ≤ (r133.1).toInt := p137
          replace p138 : ((r133.1).toInt = (vx103).toInt ∨ (r133.1).toInt = (0 : Int)) := p138
          have f140 := ti_b r133.1
          have f143 := cb_8_2 I kth
          refine ok_bind (k_X8_add L hN (a0 := th) (x1 := (0 : Int32)) (x2 := r133.1) kth (show 0 ≤ (r133.1).toInt by first | assumption | omega) (show (0 : Int) = 1 → (r133.1).toInt < 4 by first | assumption | omega) (show (0 : Int) = 11 → (q_I δ 8 2 th).toInt < 500 → (r133.1).toInt < 500 by first | assumption | omega) I) (fun r141 hr142 => ?_)
          obtain ⟨i144, ⟨u146, u147, u148⟩, p145⟩ := hr142
          have u149 := kp_t kp_r u146
          have v150 : q_V r141 = q_V δ := (u147).trans rfl
          have v151 : q_R r141 (Ad ad 7) = q_R δ (Ad ad 7) := (u148).trans rfl
          have f152 := cb_8_2 i144 kth
          unfold J_X9_addName_151
          exact ok_some (show CI ad h.1 δ0 r141 ∧ (kp [(7, 5), (7, 6), (8, 2), (8, 3)] δ r141 ∧ q_V r141 = q_V δ ∧ q_R r141 (Ad ad 7) = q_R δ (Ad ad 7)) ∧ (q_I δ 8 2 th).toInt ≤ (q_I r141 8 2 th).toInt from ⟨i144, ⟨kp_w (by decide) u149, v150, v151⟩, by first | assumption | omega⟩)
      · have c153 : r95.1.toInt ≠ (0 : Int) := o_ne h101
        unfold J_X9_addName_45
        have f156 := cb_9_4 I k_a0
        refine ok_biv (fun vx154 e155 => ?_)
        first | (have q157 := te_subc (c := 1) (n := 1) rfl (q_I δ 9 4 a0) (by omega) (by omega); rw [← e155] at q157; obtain ⟨f158, f159, f160⟩ := q157) | (obtain ⟨q157, f158, f159, f160⟩ : ∃ q : Int, vx154.toInt = (q_I δ 9 4 a0).toInt - (1 : Int) + 4294967296 * q ∧ -2147483648 ≤ vx154.toInt ∧ vx154.toInt ≤ 2147483647 := by rw [e155]; exact ti_subc (c := 1) (n := 1) rfl (q_I δ 9 4 a0))
        refine ok_at ((rfl).trans hv1) ?_
        refine ok_gp kth ?_
        refine ok_ite (fun h161 => ?_) (fun h161 => ?_)
        · have c162 : (0 : Int) ≤ vx154.toInt := o_le h161
          unfold J_X9_addName_60
          refine ok_bind (k_J9_max_7cf53 L hN (x0 := vx154) (x1 := (0 : Int32))  I) (fun r163 hr164 => ?_)
          obtain ⟨i165, p166, p167, p168⟩ := hr164
          try rw [i165]
          have f169 := ti_b r163.1
          replace p167 : (0 : Int) ≤ (r163.1).toInt := p167
          replace p168 : ((r163.1).toInt = (vx154).toInt ∨ (r163.1).toInt = (0 : Int)) := p168
          have f170 := ti_b r163.1
          have f173 := cb_8_2 I kth
          refine ok_bind (k_X8_add L hN (a0 := th) (x1 := (1 : Int32)) (x2 := r163.1) kth (show 0 ≤ (r163.1).toInt by first | assumption | omega) (show (1 : Int) = 1 → (r163.1).toInt < 4 by first | assumption | omega) (show (1 : Int) = 11 → (q_I δ 8 2 th).toInt < 500 → (r163.1).toInt < 500 by first | assumption | omega) I) (fun r171 hr172 => ?_)
          obtain ⟨i174, ⟨u176, u177, u178⟩, p175⟩ := hr172
          have u179 := kp_t kp_r u176
          have v180 : q_V r171 = q_V δ := (u177).trans rfl
          have v181 : q_R r171 (Ad ad 7) = q_R δ (Ad ad 7) := (u178).trans rfl
          have f182 := cb_8_2 i174 kth
          unfold J_X9_addName_151
          exact ok_some (show CI ad h.1 δ0 r171 ∧ (kp [(7, 5), (7, 6), (8, 2), (8, 3)] δ r171 ∧ q_V r171 = q_V δ ∧ q_R r171 (Ad ad 7) = q_R δ (Ad ad 7)) ∧ (q_I δ 8 2 th).toInt ≤ (q_I r171 8 2 th).toInt from ⟨i174, ⟨kp_w (by decide) u179, v180, v181⟩, by first | assumption | omega⟩)
        · have c183 : vx154.toInt < (0 : Int) := o_nle h161
          unfold J_X9_addName_60
          refine ok_bind (k_J9_max_7cf53 L hN (x0 := vx154) (x1 := (0 : Int32))  I) (fun r184 hr185 => ?_)
          obtain ⟨i186, p187, p188, p189⟩ := hr185
          try rw [i186]
          have f190 := ti_b r184.1
          replace p188 : (0 : Int) ≤ (r184.1).toInt := p188
          replace p189 : ((r184.1).toInt = (vx154).toInt ∨ (r184.1).toInt = (0 : Int)) := p189
          have f191 := ti_b r184.1
          have f194 := cb_8_2 I kth
          refine ok_bind (k_X8_add L hN (a0 := th) (x1 := (0 : Int32)) (x2 := r184.1) kth (show 0 ≤ (r184.1).toInt by first | assumption | omega) (show (0 : Int) = 1 → (r184.1).toInt < 4 by first | assumption | omega) (show (0 : Int) = 11 → (q_I δ 8 2 th).toInt < 500 → (r184.1).toInt < 500 by first | assumption | omega) I) (fun r192 hr193 => ?_)
          obtain ⟨i195, ⟨u197, u198, u199⟩, p196⟩ := hr193
          have u200 := kp_t kp_r u197
          have v201 : q_V r192 = q_V δ := (u198).trans rfl
          have v202 : q_R r192 (Ad ad 7) = q_R δ (Ad ad 7) := (u199).trans rfl
          have f203 := cb_8_2 i195 kth
          unfold J_X9_addName_151
          exact ok_some (show CI ad h.1 δ0 r192 ∧ (kp [(7, 5), (7, 6), (8, 2), (8, 3)] δ r192 ∧ q_V r192 = q_V δ ∧ q_R r192 (Ad ad 7) = q_R δ (Ad ad 7)) ∧ (q_I δ 8 2 th).toInt ≤ (q_I r192 8 2 th).toInt from ⟨i195, ⟨kp_w (by decide) u200, v201, v202⟩, by first | assumption | omega⟩)
  · have c204 : r1.1.toInt ≠ (0 : Int) := o_ne h7
    unfold J_X9_addName_24
    refine ok_at ((rfl).trans hv0) ?_
    refine ok_gp ktp ?_
    refine ok_bind (k_X7_wordIs L hN (a0 := tp) (a1 := 11) ktp (show 11 < 16 by first | assumption | omega) I) (fun r205 hr206 => ?_)
    obtain ⟨i207, p208⟩ := hr206
    try rw [i207]
    have f209 := bo_t p208
    have f210 := ti_b r205.1
    refine ok_ite (fun h211 => ?_) (fun h211 => ?_)
    · have c212 : r205.1.toInt = (0 : Int) := o_eq h211
      unfold J_X9_addName_45
      have f215 := cb_9_4 I k_a0
      refine ok_biv (fun vx213 e214 => ?_)
      first | (have q216 := te_subc (c := 2) (n := 2) rfl (q_I δ 9 4 a0) (by omega) (by omega); rw [← e214] at q216; obtain ⟨f217, f218, f219⟩ := q216) | (obtain ⟨q216, f217, f218, f219⟩ : ∃ q : Int, vx213.toInt = (q_I δ 9 4 a0).toInt - (2 : Int) + 4294967296 * q ∧ -2147483648 ≤ vx213.toInt ∧ vx213.toInt ≤ 2147483647 := by rw [e214]; exact ti_subc (c := 2) (n := 2) rfl (q_I δ 9 4 a0))
      refine ok_at ((rfl).trans hv1) ?_
      refine ok_gp kth ?_
      refine ok_ite (fun h220 => ?_) (fun h220 => ?_)
      · have c221 : (0 : Int) ≤ vx213.toInt := o_le h220
        unfold J_X9_addName_60
        refine ok_bind (k_J9_max_7cf53 L hN (x0 := vx213) (x1 := (0 : Int32))  I) (fun r222 hr223 => ?_)
        obtain ⟨i224, p225, p226, p227⟩ := hr223
        try rw [i224]
        have f228 := ti_b r222.1
        replace p226 : (0 : Int) ≤ (r222.1).toInt := p226
        replace p227 : ((r222.1).toInt = (vx213).toInt ∨ (r222.1).toInt = (0 : Int)) := p227
        have f229 := ti_b r222.1
        have f232 := cb_8_2 I kth
        refine ok_bind (k_X8_add L hN (a0 := th) (x1 := (1 : Int32)) (x2 := r222.1) kth (show 0 ≤ (r222.1).toInt by first | assumption | omega) (show (1 : Int) = 1 → (r222.1).toInt < 4 by first | assumption | omega) (show (1 : Int) = 11 → (q_I δ 8 2 th).toInt < 500 → (r222.1).toInt < 500 by first | assumption | omega) I) (fun r230 hr231 => ?_)
        obtain ⟨i233, ⟨u235, u236, u237⟩, p234⟩ := hr231
        have u238 := kp_t kp_r u235
        have v239 : q_V r230 = q_V δ := (u236).trans rfl
        have v240 : q_R r230 (Ad ad 7) = q_R δ (Ad ad 7) := (u237).trans rfl
        have f241 := cb_8_2 i233 kth
        unfold J_X9_addName_151
        exact ok_some (show CI ad h.1 δ0 r230 ∧ (kp [(7, 5), (7, 6), (8, 2), (8, 3)] δ r230 ∧ q_V r230 = q_V δ ∧ q_R r230 (Ad ad 7) = q_R δ (Ad ad 7)) ∧ (q_I δ 8 2 th).toInt ≤ (q_I r230 8 2 th).toInt from ⟨i233, ⟨kp_w (by decide) u238, v239, v240⟩, by first | assumption | omega⟩)
      · have c242 : vx213.toInt < (0 : Int) := o_nle h220
        unfold J_X9_addName_60
        refine ok_bind (k_J9_max_7cf53 L hN (x0 := vx213) (x1 := (0 : Int32))  I) (fun r243 hr244 => ?_)
        obtain ⟨i245, p246, p247, p248⟩ := hr244
        try rw [i245]
        have f249 := ti_b r243.1
        replace p247 : (0 : Int) ≤ (r243.1).toInt := p247
        replace p248 : ((r243.1).toInt = (vx213).toInt ∨ (r243.1).toInt = (0 : Int)) := p248
        have f250 := ti_b r243.1
        have f253 := cb_8_2 I kth
        refine ok_bind (k_X8_add L hN (a0 := th) (x1 := (0 : Int32)) (x2 := r243.1) kth (show 0 ≤ (r243.1).toInt by first | assumption | omega) (show (0 : Int) = 1 → (r243.1).toInt < 4 by first | assumption | omega) (show (0 : Int) = 11 → (q_I δ 8 2 th).toInt < 500 → (r243.1).toInt < 500 by first | assumption | omega) I) (fun r251 hr252 => ?_)
        obtain ⟨i254, ⟨u256, u257, u258⟩, p255⟩ := hr252
        have u259 := kp_t kp_r u256
        have v260 : q_V r251 = q_V δ := (u257).trans rfl
        have v261 : q_R r251 (Ad ad 7) = q_R δ (Ad ad 7) := (u258).trans rfl
        have f262 := cb_8_2 i254 kth
        unfold J_X9_addName_151
        exact ok_some (show CI ad h.1 δ0 r251 ∧ (kp [(7, 5), (7, 6), (8, 2), (8, 3)] δ r251 ∧ q_V r251 = q_V δ ∧ q_R r251 (Ad ad 7) = q_R δ (Ad ad 7)) ∧ (q_I δ 8 2 th).toInt ≤ (q_I r251 8 2 th).toInt from ⟨i254, ⟨kp_w (by decide) u259, v260, v261⟩, by first | assumption | omega⟩)
    · have c263 : r205.1.toInt ≠ (0 : Int) := o_ne h211
      unfold J_X9_addName_45
      have f266 := cb_9_4 I k_a0
      refine ok_biv (fun vx264 e265 => ?_)
      first | (have q267 := te_subc (c := 1) (n := 1) rfl (q_I δ 9 4 a0) (by omega) (by omega); rw [← e265] at q267; obtain ⟨f268, f269, f270⟩ := q267) | (obtain ⟨q267, f268, f269, f270⟩ : ∃ q : Int, vx264.toInt = (q_I δ 9 4 a0).toInt - (1 : Int) + 4294967296 * q ∧ -2147483648 ≤ vx264.toInt ∧ vx264.toInt ≤ 2147483647 := by rw [e265]; exact ti_subc (c := 1) (n := 1) rfl (q_I δ 9 4 a0))
      refine ok_at ((rfl).trans hv1) ?_
      refine ok_gp kth ?_
      refine ok_ite (fun h271 => ?_) (fun h271 => ?_)
      · have c272 : (0 : Int) ≤ vx264.toInt := o_le h271
        unfold J_X9_addName_60
        refine ok_bind (k_J9_max_7cf53 L hN (x0 := vx264) (x1 := (0 : Int32))  I) (fun r273 hr274 => ?_)
        obtain ⟨i275, p276, p277, p278⟩ := hr274
        try rw [i275]
        have f279 := ti_b r273.1
        replace p277 : (0 : Int) ≤ (r273.1).toInt := p277
        replace p278 : ((r273.1).toInt = (vx264).toInt ∨ (r273.1).toInt = (0 : Int)) := p278
        have f280 := ti_b r273.1
        have f283 := cb_8_2 I kth
        refine ok_bind (k_X8_add L hN (a0 := th) (x1 := (1 : Int32)) (x2 := r273.1) kth (show 0 ≤ (r273.1).toInt by first | assumption | omega) (show (1 : Int) = 1 → (r273.1).toInt < 4 by first | assumption | omega) (show (1 : Int) = 11 → (q_I δ 8 2 th).toInt < 500 → (r273.1).toInt < 500 by first | assumption | omega) I) (fun r281 hr282 => ?_)
        obtain ⟨i284, ⟨u286, u287, u288⟩, p285⟩ := hr282
        have u289 := kp_t kp_r u286
        have v290 : q_V r281 = q_V δ := (u287).trans rfl
        have v291 : q_R r281 (Ad ad 7) = q_R δ (Ad ad 7) := (u288).trans rfl
        have f292 := cb_8_2 i284 kth
        unfold J_X9_addName_151
        exact ok_some (show CI ad h.1 δ0 r281 ∧ (kp [(7, 5), (7, 6), (8, 2), (8, 3)] δ r281 ∧ q_V r281 = q_V δ ∧ q_R r281 (Ad ad 7) = q_R δ (Ad ad 7)) ∧ (q_I δ 8 2 th).toInt ≤ (q_I r281 8 2 th).toInt from ⟨i284, ⟨kp_w (by decide) u289, v290, v291⟩, by first | assumption | omega⟩)
      · have c293 : vx264.toInt < (0 : Int) := o_nle h271
        unfold J_X9_addName_60
        refine ok_bind (k_J9_max_7cf53 L hN (x0 := vx264) (x1 := (0 : Int32))  I) (fun r294 hr295 => ?_)
        obtain ⟨i296, p297, p298, p299⟩ := hr295
        try rw [i296]
        have f300 := ti_b r294.1
        replace p298 : (0 : Int) ≤ (r294.1).toInt := p298
        replace p299 : ((r294.1).toInt = (vx264).toInt ∨ (r294.1).toInt = (0 : Int)) := p299
        have f301 := ti_b r294.1
        have f304 := cb_8_2 I kth
        refine ok_bind (k_X8_add L hN (a0 := th) (x1 := (0 : Int32)) (x2 := r294.1) kth (show 0 ≤ (r294.1).toInt by first | assumption | omega) (show (0 : Int) = 1 → (r294.1).toInt < 4 by first | assumption | omega) (show (0 : Int) = 11 → (q_I δ 8 2 th).toInt < 500 → (r294.1).toInt < 500 by first | assumption | omega) I) (fun r302 hr303 => ?_)
        obtain ⟨i305, ⟨u307, u308, u309⟩, p306⟩ := hr303
        have u310 := kp_t kp_r u307
        have v311 : q_V r302 = q_V δ := (u308).trans rfl
        have v312 : q_R r302 (Ad ad 7) = q_R δ (Ad ad 7) := (u309).trans rfl
        have f313 := cb_8_2 i305 kth
        unfold J_X9_addName_151
        exact ok_some (show CI ad h.1 δ0 r302 ∧ (kp [(7, 5), (7, 6), (8, 2), (8, 3)] δ r302 ∧ q_V r302 = q_V δ ∧ q_R r302 (Ad ad 7) = q_R δ (Ad ad 7)) ∧ (q_I δ 8 2 th).toInt ≤ (q_I r302 8 2 th).toInt from ⟨i305, ⟨kp_w (by decide) u310, v311, v312⟩, by first | assumption | omega⟩)
set_option maxHeartbeats 4000000 in
theorem k_bX9_readUnit {ad : List Nat} {h : hp} (L : Lay TLx ad h) {δ0 : dp} {N : Nat} (hN : 10000000 ≤ N) {tp th : Nat} {T : Nat → Int32 → dp → Option (dp)} {K : Int} (hT : ∀ (a0 : Nat) (x1 : Int32) (δ : dp), q_K h.1 a0 = 9 → 0 ≤ (x1).toInt → (x1).toInt ≤ 6 → 6 - (x1).toInt < K → q_V δ 9 0 a0 = some tp → q_V δ 9 1 a0 = some th → q_K h.1 tp = 7 → q_K h.1 th = 8 → CI ad h.1 δ0 δ → ok (T a0 x1 δ) (fun r => CI ad h.1 δ0 r ∧ (kp [(7, 3), (7, 4), (7, 5), (7, 6), (8, 2), (8, 3)] δ r ∧ q_V r = q_V δ ∧ q_R r (Ad ad 7) = q_R δ (Ad ad 7)) ∧ (q_I δ 8 2 th).toInt ≤ (q_I r 8 2 th).toInt)) {a0 : Nat} {x1 : Int32} (k_a0 : q_K h.1 a0 = 9) {δ : dp} (z0 : 0 ≤ (x1).toInt) (z1 : (x1).toInt ≤ 6) (z2 : 6 - (x1).toInt ≤ K) (hv0 : q_V δ 9 0 a0 = some tp) (hv1 : q_V δ 9 1 a0 = some th) (ktp : q_K h.1 tp = 7) (kth : q_K h.1 th = 8) (I : CI ad h.1 δ0 δ) : ok (B_X9_readUnit N h.1 T a0 x1 δ) (fun r => CI ad h.1 δ0 r ∧ (kp [(7, 3), (7, 4), (7, 5), (7, 6), (8, 2), (8, 3)] δ r ∧ q_V r = q_V δ ∧ q_R r (Ad ad 7) = q_R δ (Ad ad 7)) ∧ (q_I δ 8 2 th).toInt ≤ (q_I r 8 2 th).toInt) := by
  unfold B_X9_readUnit
  have f1 := ti_b x1
  refine ok_at ((rfl).trans hv0) ?_
  refine ok_gp ktp ?_
  refine ok_bind (k_X7_ahead L hN (a0 := tp) ktp I) (fun r2 hr3 => ?_)
  obtain ⟨i4, ⟨u6, u7, u8⟩, p5⟩ := hr3
  have u9 := kp_t kp_r u6
  have v10 : q_V r2.2 = q_V δ := (u7).trans rfl
  have v11 : q_R r2.2 (Ad ad 7) = q_R δ (Ad ad 7) := (congrFun u8 (Ad ad 7)).trans rfl
  have f12 := ti_b r2.1
  have f13 := cb_7_3 i4 ktp
  have f14 := cb_7_2 i4 ktp
  have f15 : (q_I r2.2 7 2 tp).toInt = (q_I δ 7 2 tp).toInt := congrArg Int32.toInt (u6 7 2 tp (by decide))
  have f16 := cb_7_2 I ktp
  have f17 := ti_b r2.1
  refine ok_ite (fun h18 => ?_) (fun h18 => ?_)
  · have c19 : r2.1.toInt = (40 : Int) := o_eq h18
    refine ok_ite (fun h20 => ?_) (fun h20 => ?_)
    · have c21 : x1.toInt < (6 : Int) := o_lt h20
      refine ok_at ((congrFun (congrFun (congrFun v10 9) 0) a0).trans hv0) ?_
      refine ok_gp ktp ?_
      refine ok_bind (k_X7_needSign L hN (a0 := tp) (x1 := (40 : Int32)) ktp (show (40 : Int) ≠ -1 by first | assumption | omega) i4) (fun r22 hr23 => ?_)
      obtain ⟨i24, ⟨u26, u27, u28⟩, p25⟩ := hr23
      have u29 := kp_t u9 u26
      have v30 : q_V r22 = q_V δ := (u27).trans v10
      have v31 : q_R r22 (Ad ad 7) = q_R δ (Ad ad 7) := (congrFun u28 (Ad ad 7)).trans v11
      have f32 := ti_b (q_I r2.2 7 5 tp)
      have f33 : (q_I r2.2 7 5 tp).toInt = (q_I δ 7 5 tp).toInt := congrArg Int32.toInt (u6 7 5 tp (by decide))
      have f34 := ti_b (q_I δ 7 5 tp)
      have f35 := ti_b (q_I r22 7 5 tp)
      first | (have q39 := te_addc (c := 1) (n := 1) rfl x1 (by omega) (by omega); obtain ⟨f40, f41, f42⟩ := q39) | (obtain ⟨q39, f40, f41, f42⟩ := ti_addc (c := 1) (n := 1) rfl x1)
      refine ok_bind (hT a0 (x1 + (1 : Int32)) r22 k_a0 (show 0 ≤ ((x1 + (1 : Int32))).toInt by first | assumption | omega) (show ((x1 + (1 : Int32))).toInt ≤ 6 by first | assumption | omega) (show 6 - ((x1 + (1 : Int32))).toInt < _ by first | assumption | omega) ((congrFun (congrFun (congrFun v30 9) 0) a0).trans hv0) ((congrFun (congrFun (congrFun v30 9) 1) a0).trans hv1) ktp kth i24) (fun r36 hr37 => ?_)
      obtain ⟨i43, ⟨u45, u46, u47⟩, p44⟩ := hr37
      have u48 := kp_t u29 u45
      have v49 : q_V r36 = q_V δ := (u46).trans v30
      have v50 : q_R r36 (Ad ad 7) = q_R δ (Ad ad 7) := (u47).trans v31
      have f51 := cb_8_2 i24 kth
      have f52 : (q_I r22 8 2 th).toInt = (q_I r2.2 8 2 th).toInt := congrArg Int32.toInt (u26 8 2 th (by decide))
      have f53 := cb_8_2 i4 kth
      have f54 : (q_I r2.2 8 2 th).toInt = (q_I δ 8 2 th).toInt := congrArg Int32.toInt (u6 8 2 th (by decide))
      have f55 := cb_8_2 I kth
      have f56 := cb_8_2 i43 kth
      refine ok_at ((congrFun (congrFun (congrFun v49 9) 0) a0).trans hv0) ?_
      refine ok_gp ktp ?_
      refine ok_bind (k_X7_needSign L hN (a0 := tp) (x1 := (41 : Int32)) ktp (show (41 : Int) ≠ -1 by first | assumption | omega) i43) (fun r57 hr58 => ?_)
      obtain ⟨i59, ⟨u61, u62, u63⟩, p60⟩ := hr58
      have u64 := kp_t u48 u61
      have v65 : q_V r57 = q_V δ := (u62).trans v49
      have v66 : q_R r57 (Ad ad 7) = q_R δ (Ad ad 7) := (congrFun u63 (Ad ad 7)).trans v50
      have f67 := ti_b (q_I r36 7 5 tp)
      have f68 := ti_b (q_I r57 7 5 tp)
      unfold J_X9_readUnit_101
      have f69 := cb_8_2 i59 kth
      have f70 : (q_I r57 8 2 th).toInt = (q_I r36 8 2 th).toInt := congrArg Int32.toInt (u61 8 2 th (by decide))
      exact ok_some (show CI ad h.1 δ0 r57 ∧ (kp [(7, 3), (7, 4), (7, 5), (7, 6), (8, 2), (8, 3)] δ r57 ∧ q_V r57 = q_V δ ∧ q_R r57 (Ad ad 7) = q_R δ (Ad ad 7)) ∧ (q_I δ 8 2 th).toInt ≤ (q_I r57 8 2 th).toInt from ⟨i59, ⟨kp_w (by decide) u64, v65, v66⟩, by first | assumption | omega⟩)
    · have c71 : (6 : Int) ≤ x1.toInt := o_nlt h20
      refine ok_at ((congrFun (congrFun (congrFun v10 9) 0) a0).trans hv0) ?_
      refine ok_gp ktp ?_
      refine ok_bind (k_X7_refuse L hN (a0 := tp) (x1 := (3 : Int32)) ktp (show (3 : Int) ≠ 0 by first | assumption | omega) i4) (fun r72 hr73 => ?_)
      obtain ⟨i74, ⟨u76, u77, u78⟩, p75⟩ := hr73
      have u79 := kp_t u9 u76
      have v80 : q_V r72 = q_V δ := (u77).trans v10
      have v81 : q_R r72 (Ad ad 7) = q_R δ (Ad ad 7) := (congrFun u78 (Ad ad 7)).trans v11
      have f82 := ti_b (q_I r72 7 5 tp)
      have f83 := cb_8_2 I kth
      have f84 := cb_8_2 i74 kth
      have f85 : (q_I r72 8 2 th).toInt = (q_I r2.2 8 2 th).toInt := congrArg Int32.toInt (u76 8 2 th (by decide))
      have f86 := cb_8_2 i4 kth
      have f87 : (q_I r2.2 8 2 th).toInt = (q_I δ 8 2 th).toInt := congrArg Int32.toInt (u6 8 2 th (by decide))
      exact ok_some (show CI ad h.1 δ0 r72 ∧ (kp [(7, 3), (7, 4), (7, 5), (7, 6), (8, 2), (8, 3)] δ r72 ∧ q_V r72 = q_V δ ∧ q_R r72 (Ad ad 7) = q_R δ (Ad ad 7)) ∧ (q_I δ 8 2 th).toInt ≤ (q_I r72 8 2 th).toInt from ⟨i74, ⟨kp_w (by decide) u79, v80, v81⟩, by first | assumption | omega⟩)
  · have c88 : r2.1.toInt ≠ (40 : Int) := o_ne h18
    refine ok_ite (fun h89 => ?_) (fun h89 => ?_)
    · have c90 : r2.1.toInt < (48 : Int) := o_lt h89
      unfold J_X9_readUnit_90
      refine ok_at ((congrFun (congrFun (congrFun v10 9) 0) a0).trans hv0) ?_
      refine ok_gp ktp ?_
      refine ok_bind (k_X7_readWord L hN (a0 := tp) ktp i4) (fun r91 hr92 => ?_)
      obtain ⟨i93, ⟨u94, u95, u96⟩⟩ := hr92
      have u97 := kp_t u9 u94
      have v98 : q_V r91 = q_V δ := (u95).trans v10
      have v99 : q_R r91 (Ad ad 7) = q_R δ (Ad ad 7) := (congrFun u96 (Ad ad 7)).trans v11
      refine ok_bind (k_X9_addName L hN (a0 := a0) k_a0 ((congrFun (congrFun (congrFun v98 9) 0) a0).trans hv0) ((congrFun (congrFun (congrFun v98 9) 1) a0).trans hv1) ktp kth i93) (fun r100 hr101 => ?_)
      obtain ⟨i102, ⟨u104, u105, u106⟩, p103⟩ := hr101
      have u107 := kp_t u97 u104
      have v108 : q_V r100 = q_V δ := (u105).trans v98
      have v109 : q_R r100 (Ad ad 7) = q_R δ (Ad ad 7) := (u106).trans v99
      have f110 := cb_8_2 i93 kth
      have f111 : (q_I r91 8 2 th).toInt = (q_I r2.2 8 2 th).toInt := congrArg Int32.toInt (u94 8 2 th (by decide))
      have f112 := cb_8_2 i4 kth
      have f113 : (q_I r2.2 8 2 th).toInt = (q_I δ 8 2 th).toInt := congrArg Int32.toInt (u6 8 2 th (by decide))
      have f114 := cb_8_2 I kth
      have f115 := cb_8_2 i102 kth
      unfold J_X9_readUnit_101
      exact ok_some (show CI ad h.1 δ0 r100 ∧ (kp [(7, 3), (7, 4), (7, 5), (7, 6), (8, 2), (8, 3)] δ r100 ∧ q_V r100 = q_V δ ∧ q_R r100 (Ad ad 7) = q_R δ (Ad ad 7)) ∧ (q_I δ 8 2 th).toInt ≤ (q_I r100 8 2 th).toInt from ⟨i102, ⟨kp_w (by decide) u107, v108, v109⟩, by first | assumption | omega⟩)
    · have c116 : (48 : Int) ≤ r2.1.toInt := o_nlt h89
      refine ok_ite (fun h117 => ?_) (fun h117 => ?_)
      · have c118 : (57 : Int) < r2.1.toInt := o_lt h117
        unfold J_X9_readUnit_90
        refine ok_at ((congrFun (congrFun (congrFun v10 9) 0) a0).trans hv0) ?_
        refine ok_gp ktp ?_
        refine ok_bind (k_X7_readWord L hN (a0 := tp) ktp i4) (fun r119 hr120 => ?_)
        obtain ⟨i121, ⟨u122, u123, u124⟩⟩ := hr120
        have u125 := kp_t u9 u122
        have v126 : q_V r119 = q_V δ := (u123).trans v10
        have v127 : q_R r119 (Ad ad 7) = q_R δ (Ad ad 7) := (congrFun u124 (Ad ad 7)).trans v11
        refine ok_bind (k_X9_addName L hN (a0 := a0) k_a0 ((congrFun (congrFun (congrFun v126 9) 0) a0).trans hv0) ((congrFun (congrFun (congrFun v126 9) 1) a0).trans hv1) ktp kth i121) (fun r128 hr129 => ?_)
        obtain ⟨i130, ⟨u132, u133, u134⟩, p131⟩ := hr129
        have u135 := kp_t u125 u132
        have v136 : q_V r128 = q_V δ := (u133).trans v126
        have v137 : q_R r128 (Ad ad 7) = q_R δ (Ad ad 7) := (u134).trans v127
        have f138 := cb_8_2 i121 kth
        have f139 : (q_I r119 8 2 th).toInt = (q_I r2.2 8 2 th).toInt := congrArg Int32.toInt (u122 8 2 th (by decide))
        have f140 := cb_8_2 i4 kth
        have f141 : (q_I r2.2 8 2 th).toInt = (q_I δ 8 2 th).toInt := congrArg Int32.toInt (u6 8 2 th (by decide))
        have f142 := cb_8_2 I kth
        have f143 := cb_8_2 i130 kth
        unfold J_X9_readUnit_101
        exact ok_some (show CI ad h.1 δ0 r128 ∧ (kp [(7, 3), (7, 4), (7, 5), (7, 6), (8, 2), (8, 3)] δ r128 ∧ q_V r128 = q_V δ ∧ q_R r128 (Ad ad 7) = q_R δ (Ad ad 7)) ∧ (q_I δ 8 2 th).toInt ≤ (q_I r128 8 2 th).toInt from ⟨i130, ⟨kp_w (by decide) u135, v136, v137⟩, by first | assumption | omega⟩)
      · have c144 : r2.1.toInt ≤ (57 : Int) := o_nlt h117
        refine ok_at ((congrFun (congrFun (congrFun v10 9) 1) a0).trans hv1) ?_
        refine ok_gp kth ?_
        refine ok_at ((congrFun (congrFun (congrFun v10 9) 0) a0).trans hv0) ?_
        refine ok_gp ktp ?_
        refine ok_bind (k_X7_readNumber L hN (a0 := tp) (x1 := (0 : Int32)) (x2 := (99999 : Int32)) ktp i4) (fun r145 hr146 => ?_)
        obtain ⟨i147, ⟨u152, u153, u154⟩, p148, p149, p150, p151⟩ := hr146
        have u155 := kp_t u9 u152
        have v156 : q_V r145.2 = q_V δ := (u153).trans v10
        have v157 : q_R r145.2 (Ad ad 7) = q_R δ (Ad ad 7) := (congrFun u154 (Ad ad 7)).trans v11
        have f158 := ti_b r145.1
        have f159 := ti_b (q_I r2.2 7 5 tp)
        have f160 : (q_I r2.2 7 5 tp).toInt = (q_I δ 7 5 tp).toInt := congrArg Int32.toInt (u6 7 5 tp (by decide))
        have f161 := ti_b (q_I δ 7 5 tp)
        have f162 := ti_b (q_I r145.2 7 5 tp)
        replace p151 : ((q_I r145.2 7 5 tp).toInt = 0 → (0 : Int) ≤ (r145.1).toInt ∧ (r145.1).toInt ≤ (99999 : Int)) := p151
        have f163 := ti_b r145.1
        have f166 := cb_8_2 i147 kth
        have f167 : (q_I r145.2 8 2 th).toInt = (q_I r2.2 8 2 th).toInt := congrArg Int32.toInt (u152 8 2 th (by decide))
        have f168 := cb_8_2 i4 kth
        have f169 : (q_I r2.2 8 2 th).toInt = (q_I δ 8 2 th).toInt := congrArg Int32.toInt (u6 8 2 th (by decide))
        have f170 := cb_8_2 I kth
        refine ok_bind (k_X8_add L hN (a0 := th) (x1 := (0 : Int32)) (x2 := r145.1) kth (show 0 ≤ (r145.1).toInt by first | assumption | omega) (show (0 : Int) = 1 → (r145.1).toInt < 4 by first | assumption | omega) (show (0 : Int) = 11 → (q_I r145.2 8 2 th).toInt < 500 → (r145.1).toInt < 500 by first | assumption | omega) i147) (fun r164 hr165 => ?_)
        obtain ⟨i171, ⟨u173, u174, u175⟩, p172⟩ := hr165
        have u176 := kp_t u155 u173
        have v177 : q_V r164 = q_V δ := (u174).trans v156
        have v178 : q_R r164 (Ad ad 7) = q_R δ (Ad ad 7) := (u175).trans v157
        have f179 := cb_8_2 i171 kth
        unfold J_X9_readUnit_101
        exact ok_some (show CI ad h.1 δ0 r164 ∧ (kp [(7, 3), (7, 4), (7, 5), (7, 6), (8, 2), (8, 3)] δ r164 ∧ q_V r164 = q_V δ ∧ q_R r164 (Ad ad 7) = q_R δ (Ad ad 7)) ∧ (q_I δ 8 2 th).toInt ≤ (q_I r164 8 2 th).toInt from ⟨i171, ⟨kp_w (by decide) u176, v177, v178⟩, by first | assumption | omega⟩)
set_option maxHeartbeats 4000000 in
theorem kl_X9_readProduct_7 {ad : List Nat} {h : hp} (L : Lay TLx ad h) {δ0 : dp} {N : Nat} (hN : 10000000 ≤ N) {tp th : Nat} {T : Nat → Int32 → dp → Option (dp)} {K : Int} (hT : ∀ (a0 : Nat) (x1 : Int32) (δ : dp), q_K h.1 a0 = 9 → 0 ≤ (x1).toInt → (x1).toInt ≤ 6 → 6 - (x1).toInt < K → q_V δ 9 0 a0 = some tp → q_V δ 9 1 a0 = some th → q_K h.1 tp = 7 → q_K h.1 th = 8 → CI ad h.1 δ0 δ → ok (T a0 x1 δ) (fun r => CI ad h.1 δ0 r ∧ (kp [(7, 3), (7, 4), (7, 5), (7, 6), (8, 2), (8, 3)] δ r ∧ q_V r = q_V δ ∧ q_R r (Ad ad 7) = q_R δ (Ad ad 7)) ∧ (q_I δ 8 2 th).toInt ≤ (q_I r 8 2 th).toInt)) {a0 : Nat} {x1 : Int32} (k_a0 : q_K h.1 a0 = 9) : ∀ (n : Nat) (x2v : Int32) (δ : dp), CI ad h.1 δ0 δ → 0 ≤ (x1).toInt → (x1).toInt ≤ 6 → 6 - (x1).toInt ≤ K → 0 ≤ (x2v).toInt → (x2v).toInt ≤ 500 → q_V δ 9 0 a0 = some tp → q_V δ 9 1 a0 = some th → q_K h.1 tp = 7 → q_K h.1 th = 8 → 500 - (x2v).toInt < (n : Int) → ok (L_X9_readProduct_7 N h.1 T a0 x1 n x2v δ) (fun r => CI ad h.1 δ0 r ∧ (kp [(7, 3), (7, 4), (7, 5), (7, 6), (8, 2), (8, 3)] δ r ∧ q_V r = q_V δ ∧ q_R r (Ad ad 7) = q_R δ (Ad ad 7)) ∧ (q_I δ 8 2 th).toInt ≤ (q_I r 8 2 th).toInt) := by
  intro n
  induction n with
  | zero =>
    intro x2v δ I j0 j1 j2 j3 j4 hv0 hv1 ktp kth hm
    have f1 := ti_b x1
    have f2 := ti_b x2v
    exfalso; omega
  | succ n ih =>
    intro x2v δ I j0 j1 j2 j3 j4 hv0 hv1 ktp kth hm
    unfold L_X9_readProduct_7
    have f1 := ti_b x1
    have f2 := ti_b x2v
    refine ok_ite (fun h3 => ?_) (fun h3 => ?_)
    · have c4 : (500 : Int) ≤ x2v.toInt := o_le h3
      unfold J_X9_readProduct_85
      have f5 := cb_8_2 I kth
      exact ok_some (show CI ad h.1 δ0 δ ∧ (kp [(7, 3), (7, 4), (7, 5), (7, 6), (8, 2), (8, 3)] δ δ ∧ q_V δ = q_V δ ∧ q_R δ (Ad ad 7) = q_R δ (Ad ad 7)) ∧ (q_I δ 8 2 th).toInt ≤ (q_I δ 8 2 th).toInt from ⟨I, ⟨kp_w (by decide) kp_r, rfl, rfl⟩, by first | assumption | omega⟩)
    · have c6 : x2v.toInt < (500 : Int) := o_nle h3
      refine ok_at ((rfl).trans hv0) ?_
      refine ok_gp ktp ?_
      refine ok_bind (k_X7_isSound L hN (a0 := tp) ktp I) (fun r7 hr8 => ?_)
      obtain ⟨i9, p10, p11, p12⟩ := hr8
      try rw [i9]
      have f13 := bo_t p10
      have f14 := ti_b r7.1
      have f15 := ti_b (q_I δ 7 5 tp)
      have f16 := ti_b r7.1
      refine ok_ite (fun h17 => ?_) (fun h17 => ?_)
      · have c18 : r7.1.toInt = (0 : Int) := o_eq h17
        unfold J_X9_readProduct_85
        have f19 := cb_8_2 I kth
        exact ok_some (show CI ad h.1 δ0 δ ∧ (kp [(7, 3), (7, 4), (7, 5), (7, 6), (8, 2), (8, 3)] δ δ ∧ q_V δ = q_V δ ∧ q_R δ (Ad ad 7) = q_R δ (Ad ad 7)) ∧ (q_I δ 8 2 th).toInt ≤ (q_I δ 8 2 th).toInt from ⟨I, ⟨kp_w (by decide) kp_r, rfl, rfl⟩, by first | assumption | omega⟩)
      · have c20 : r7.1.toInt ≠ (0 : Int) := o_ne h17
        refine ok_at ((rfl).trans hv0) ?_
        refine ok_gp ktp ?_
        refine ok_bind (k_X7_ahead L hN (a0 := tp) ktp I) (fun r21 hr22 => ?_)
        obtain ⟨i23, ⟨u25, u26, u27⟩, p24⟩ := hr22
        have u28 := kp_t kp_r u25
        have v29 : q_V r21.2 = q_V δ := (u26).trans rfl
        have v30 : q_R r21.2 (Ad ad 7) = q_R δ (Ad ad 7) := (congrFun u27 (Ad ad 7)).trans rfl
        have f31 := ti_b r21.1
        have f32 := cb_7_3 i23 ktp
        have f33 := cb_7_2 i23 ktp
        have f34 : (q_I r21.2 7 2 tp).toInt = (q_I δ 7 2 tp).toInt := congrArg Int32.toInt (u25 7 2 tp (by decide))
        have f35 := cb_7_2 I ktp
        have f36 := ti_b r21.1
        refine ok_ite (fun h37 => ?_) (fun h37 => ?_)
        · have c38 : r21.1.toInt = (42 : Int) := o_eq h37
          unfold J_X9_readProduct_45
          refine ok_at ((congrFun (congrFun (congrFun v29 9) 0) a0).trans hv0) ?_
          refine ok_gp ktp ?_
          refine ok_bind (k_X7_needSign L hN (a0 := tp) (x1 := r21.1) ktp (show (r21.1).toInt ≠ -1 by first | assumption | omega) i23) (fun r39 hr40 => ?_)
          obtain ⟨i41, ⟨u43, u44, u45⟩, p42⟩ := hr40
          have u46 := kp_t u28 u43
          have v47 : q_V r39 = q_V δ := (u44).trans v29
          have v48 : q_R r39 (Ad ad 7) = q_R δ (Ad ad 7) := (congrFun u45 (Ad ad 7)).trans v30
          have f49 := ti_b (q_I r21.2 7 5 tp)
          have f50 : (q_I r21.2 7 5 tp).toInt = (q_I δ 7 5 tp).toInt := congrArg Int32.toInt (u25 7 5 tp (by decide))
          have f51 := ti_b (q_I r39 7 5 tp)
          refine ok_bind (k_bX9_readUnit L hN (a0 := a0) (x1 := x1) hT k_a0 (show 0 ≤ (x1).toInt by first | assumption | omega) (show (x1).toInt ≤ 6 by first | assumption | omega) (show 6 - (x1).toInt ≤ K by first | assumption | omega) ((congrFun (congrFun (congrFun v47 9) 0) a0).trans hv0) ((congrFun (congrFun (congrFun v47 9) 1) a0).trans hv1) ktp kth i41) (fun r52 hr53 => ?_)
          obtain ⟨i54, ⟨u56, u57, u58⟩, p55⟩ := hr53
          have u59 := kp_t u46 u56
          have v60 : q_V r52 = q_V δ := (u57).trans v47
          have v61 : q_R r52 (Ad ad 7) = q_R δ (Ad ad 7) := (u58).trans v48
          have f62 := cb_8_2 i41 kth
          have f63 : (q_I r39 8 2 th).toInt = (q_I r21.2 8 2 th).toInt := congrArg Int32.toInt (u43 8 2 th (by decide))
          have f64 := cb_8_2 i23 kth
          have f65 : (q_I r21.2 8 2 th).toInt = (q_I δ 8 2 th).toInt := congrArg Int32.toInt (u25 8 2 th (by decide))
          have f66 := cb_8_2 I kth
          have f67 := cb_8_2 i54 kth
          refine ok_at ((congrFun (congrFun (congrFun v60 9) 1) a0).trans hv1) ?_
          refine ok_gp kth ?_
          refine ok_ite (fun h68 => ?_) (fun h68 => ?_)
          · have c69 : r21.1.toInt = (42 : Int) := o_eq h68
            unfold J_X9_readProduct_75
            refine ok_bind (k_X8_add L hN (a0 := th) (x1 := (7 : Int32)) (x2 := (0 : Int32)) kth (show 0 ≤ (0 : Int) by first | assumption | omega) (show (7 : Int) = 1 → (0 : Int) < 4 by first | assumption | omega) (show (7 : Int) = 11 → (q_I r52 8 2 th).toInt < 500 → (0 : Int) < 500 by first | assumption | omega) i54) (fun r70 hr71 => ?_)
            obtain ⟨i72, ⟨u74, u75, u76⟩, p73⟩ := hr71
            have u77 := kp_t u59 u74
            have v78 : q_V r70 = q_V δ := (u75).trans v60
            have v79 : q_R r70 (Ad ad 7) = q_R δ (Ad ad 7) := (u76).trans v61
            have f80 := cb_8_2 i72 kth
            refine ok_biv (fun vx81 e82 => ?_)
            first | (have q83 := te_addc (c := 1) (n := 1) rfl x2v (by omega) (by omega); rw [← e82] at q83; obtain ⟨f84, f85, f86⟩ := q83) | (obtain ⟨q83, f84, f85, f86⟩ : ∃ q : Int, vx81.toInt = x2v.toInt + (1 : Int) + 4294967296 * q ∧ -2147483648 ≤ vx81.toInt ∧ vx81.toInt ≤ 2147483647 := by rw [e82]; exact ti_addc (c := 1) (n := 1) rfl x2v)
            refine ok_mono (ih vx81 r70 i72 (show 0 ≤ (x1).toInt by first | assumption | omega) (show (x1).toInt ≤ 6 by first | assumption | omega) (show 6 - (x1).toInt ≤ K by first | assumption | omega) (show 0 ≤ (vx81).toInt by first | assumption | omega) (show (vx81).toInt ≤ 500 by first | assumption | omega) ((congrFun (congrFun (congrFun v78 9) 0) a0).trans hv0) ((congrFun (congrFun (congrFun v78 9) 1) a0).trans hv1) ktp kth (show 500 - (vx81).toInt < _ by omega)) (fun r87 hr88 => ?_)
            obtain ⟨i89, ⟨u91, u92, u93⟩, p90⟩ := hr88
            have u94 := kp_t u77 u91
            have v95 : q_V r87 = q_V δ := (u92).trans v78
            have v96 : q_R r87 (Ad ad 7) = q_R δ (Ad ad 7) := (u93).trans v79
            have f97 := cb_8_2 i89 kth
            exact ⟨by assumption, ⟨kp_w (by decide) u94, v95, v96⟩, by first | assumption | omega⟩
          · have c98 : r21.1.toInt ≠ (42 : Int) := o_ne h68
            unfold J_X9_readProduct_75
            refine ok_bind (k_X8_add L hN (a0 := th) (x1 := (8 : Int32)) (x2 := (0 : Int32)) kth (show 0 ≤ (0 : Int) by first | assumption | omega) (show (8 : Int) = 1 → (0 : Int) < 4 by first | assumption | omega) (show (8 : Int) = 11 → (q_I r52 8 2 th).toInt < 500 → (0 : Int) < 500 by first | assumption | omega) i54) (fun r99 hr100 => ?_)
            obtain ⟨i101, ⟨u103, u104, u105⟩, p102⟩ := hr100
            have u106 := kp_t u59 u103
            have v107 : q_V r99 = q_V δ := (u104).trans v60
            have v108 : q_R r99 (Ad ad 7) = q_R δ (Ad ad 7) := (u105).trans v61
            have f109 := cb_8_2 i101 kth
            refine ok_biv (fun vx110 e111 => ?_)
            first | (have q112 := te_addc (c := 1) (n := 1) rfl x2v (by omega) (by omega); rw [← e111] at q112; obtain ⟨f113, f114, f115⟩ := q112) | (obtain ⟨q112, f113, f114, f115⟩ : ∃ q : Int, vx110.toInt = x2v.toInt + (1 : Int) + 4294967296 * q ∧ -2147483648 ≤ vx110.toInt ∧ vx110.toInt ≤ 2147483647 := by rw [e111]; exact ti_addc (c := 1) (n := 1) rfl x2v)
            refine ok_mono (ih vx110 r99 i101 (show 0 ≤ (x1).toInt by first | assumption | omega) (show (x1).toInt ≤ 6 by first | assumption | omega) (show 6 - (x1).toInt ≤ K by first | assumption | omega) (show 0 ≤ (vx110).toInt by first | assumption | omega) (show (vx110).toInt ≤ 500 by first | assumption | omega) ((congrFun (congrFun (congrFun v107 9) 0) a0).trans hv0) ((congrFun (congrFun (congrFun v107 9) 1) a0).trans hv1) ktp kth (show 500 - (vx110).toInt < _ by omega)) (fun r116 hr117 => ?_)
            obtain ⟨i118, ⟨u120, u121, u122⟩, p119⟩ := hr117
            have u123 := kp_t u106 u120
            have v124 : q_V r116 = q_V δ := (u121).trans v107
            have v125 : q_R r116 (Ad ad 7) = q_R δ (Ad ad 7) := (u122).trans v108
            have f126 := cb_8_2 i118 kth
            exact ⟨by assumption, ⟨kp_w (by decide) u123, v124, v125⟩, by first | assumption | omega⟩
        · have c127 : r21.1.toInt ≠ (42 : Int) := o_ne h37
          refine ok_ite (fun h128 => ?_) (fun h128 => ?_)
          · have c129 : r21.1.toInt = (37 : Int) := o_eq h128
            unfold J_X9_readProduct_45
            refine ok_at ((congrFun (congrFun (congrFun v29 9) 0) a0).trans hv0) ?_
            refine ok_gp ktp ?_
            refine ok_bind (k_X7_needSign L hN (a0 := tp) (x1 := r21.1) ktp (show (r21.1).toInt ≠ -1 by first | assumption | omega) i23) (fun r130 hr131 => ?_)
            obtain ⟨i132, ⟨u134, u135, u136⟩, p133⟩ := hr131
            have u137 := kp_t u28 u134
            have v138 : q_V r130 = q_V δ := (u135).trans v29
            have v139 : q_R r130 (Ad ad 7) = q_R δ (Ad ad 7) := (congrFun u136 (Ad ad 7)).trans v30
            have f140 := ti_b (q_I r21.2 7 5 tp)
            have f141 : (q_I r21.2 7 5 tp).toInt = (q_I δ 7 5 tp).toInt := congrArg Int32.toInt (u25 7 5 tp (by decide))
            have f142 := ti_b (q_I r130 7 5 tp)
            refine ok_bind (k_bX9_readUnit L hN (a0 := a0) (x1 := x1) hT k_a0 (show 0 ≤ (x1).toInt by first | assumption | omega) (show (x1).toInt ≤ 6 by first | assumption | omega) (show 6 - (x1).toInt ≤ K by first | assumption | omega) ((congrFun (congrFun (congrFun v138 9) 0) a0).trans hv0) ((congrFun (congrFun (congrFun v138 9) 1) a0).trans hv1) ktp kth i132) (fun r143 hr144 => ?_)
            obtain ⟨i145, ⟨u147, u148, u149⟩, p146⟩ := hr144
            have u150 := kp_t u137 u147
            have v151 : q_V r143 = q_V δ := (u148).trans v138
            have v152 : q_R r143 (Ad ad 7) = q_R δ (Ad ad 7) := (u149).trans v139
            have f153 := cb_8_2 i132 kth
            have f154 : (q_I r130 8 2 th).toInt = (q_I r21.2 8 2 th).toInt := congrArg Int32.toInt (u134 8 2 th (by decide))
            have f155 := cb_8_2 i23 kth
            have f156 : (q_I r21.2 8 2 th).toInt = (q_I δ 8 2 th).toInt := congrArg Int32.toInt (u25 8 2 th (by decide))
            have f157 := cb_8_2 I kth
            have f158 := cb_8_2 i145 kth
            refine ok_at ((congrFun (congrFun (congrFun v151 9) 1) a0).trans hv1) ?_
            refine ok_gp kth ?_
            refine ok_ite (fun h159 => ?_) (fun h159 => ?_)
            · have c160 : r21.1.toInt = (42 : Int) := o_eq h159
              unfold J_X9_readProduct_75
              refine ok_bind (k_X8_add L hN (a0 := th) (x1 := (7 : Int32)) (x2 := (0 : Int32)) kth (show 0 ≤ (0 : Int) by first | assumption | omega) (show (7 : Int) = 1 → (0 : Int) < 4 by first | assumption | omega) (show (7 : Int) = 11 → (q_I r143 8 2 th).toInt < 500 → (0 : Int) < 500 by first | assumption | omega) i145) (fun r161 hr162 => ?_)
              obtain ⟨i163, ⟨u165, u166, u167⟩, p164⟩ := hr162
              have u168 := kp_t u150 u165
              have v169 : q_V r161 = q_V δ := (u166).trans v151
              have v170 : q_R r161 (Ad ad 7) = q_R δ (Ad ad 7) := (u167).trans v152
              have f171 := cb_8_2 i163 kth
              refine ok_biv (fun vx172 e173 => ?_)
              first | (have q174 := te_addc (c := 1) (n := 1) rfl x2v (by omega) (by omega); rw [← e173] at q174; obtain ⟨f175, f176, f177⟩ := q174) | (obtain ⟨q174, f175, f176, f177⟩ : ∃ q : Int, vx172.toInt = x2v.toInt + (1 : Int) + 4294967296 * q ∧ -2147483648 ≤ vx172.toInt ∧ vx172.toInt ≤ 2147483647 := by rw [e173]; exact ti_addc (c := 1) (n := 1) rfl x2v)
              refine ok_mono (ih vx172 r161 i163 (show 0 ≤ (x1).toInt by first | assumption | omega) (show (x1).toInt ≤ 6 by first | assumption | omega) (show 6 - (x1).toInt ≤ K by first | assumption | omega) (show 0 ≤ (vx172).toInt by first | assumption | omega) (show (vx172).toInt ≤ 500 by first | assumption | omega) ((congrFun (congrFun (congrFun v169 9) 0) a0).trans hv0) ((congrFun (congrFun (congrFun v169 9) 1) a0).trans hv1) ktp kth (show 500 - (vx172).toInt < _ by omega)) (fun r178 hr179 => ?_)
              obtain ⟨i180, ⟨u182, u183, u184⟩, p181⟩ := hr179
              have u185 := kp_t u168 u182
              have v186 : q_V r178 = q_V δ := (u183).trans v169
              have v187 : q_R r178 (Ad ad 7) = q_R δ (Ad ad 7) := (u184).trans v170
              have f188 := cb_8_2 i180 kth
              exact ⟨by assumption, ⟨kp_w (by decide) u185, v186, v187⟩, by first | assumption | omega⟩
            · have c189 : r21.1.toInt ≠ (42 : Int) := o_ne h159
              unfold J_X9_readProduct_75
              refine ok_bind (k_X8_add L hN (a0 := th) (x1 := (8 : Int32)) (x2 := (0 : Int32)) kth (show 0 ≤ (0 : Int) by first | assumption | omega) (show (8 : Int) = 1 → (0 : Int) < 4 by first | assumption | omega) (show (8 : Int) = 11 → (q_I r143 8 2 th).toInt < 500 → (0 : Int) < 500 by first | assumption | omega) i145) (fun r190 hr191 => ?_)
              obtain ⟨i192, ⟨u194, u195, u196⟩, p193⟩ := hr191
              have u197 := kp_t u150 u194
              have v198 : q_V r190 = q_V δ := (u195).trans v151
              have v199 : q_R r190 (Ad ad 7) = q_R δ (Ad ad 7) := (u196).trans v152
              have f200 := cb_8_2 i192 kth
              refine ok_biv (fun vx201 e202 => ?_)
              first | (have q203 := te_addc (c := 1) (n := 1) rfl x2v (by omega) (by omega); rw [← e202] at q203; obtain ⟨f204, f205, f206⟩ := q203) | (obtain ⟨q203, f204, f205, f206⟩ : ∃ q : Int, vx201.toInt = x2v.toInt + (1 : Int) + 4294967296 * q ∧ -2147483648 ≤ vx201.toInt ∧ vx201.toInt ≤ 2147483647 := by rw [e202]; exact ti_addc (c := 1) (n := 1) rfl x2v)
              refine ok_mono (ih vx201 r190 i192 (show 0 ≤ (x1).toInt by first | assumption | omega) (show (x1).toInt ≤ 6 by first | assumption | omega) (show 6 - (x1).toInt ≤ K by first | assumption | omega) (show 0 ≤ (vx201).toInt by first | assumption | omega) (show (vx201).toInt ≤ 500 by first | assumption | omega) ((congrFun (congrFun (congrFun v198 9) 0) a0).trans hv0) ((congrFun (congrFun (congrFun v198 9) 1) a0).trans hv1) ktp kth (show 500 - (vx201).toInt < _ by omega)) (fun r207 hr208 => ?_)
              obtain ⟨i209, ⟨u211, u212, u213⟩, p210⟩ := hr208
              have u214 := kp_t u197 u211
              have v215 : q_V r207 = q_V δ := (u212).trans v198
              have v216 : q_R r207 (Ad ad 7) = q_R δ (Ad ad 7) := (u213).trans v199
              have f217 := cb_8_2 i209 kth
              exact ⟨by assumption, ⟨kp_w (by decide) u214, v215, v216⟩, by first | assumption | omega⟩
          · have c218 : r21.1.toInt ≠ (37 : Int) := o_ne h128
            have f219 := cb_8_2 I kth
            have f220 := cb_8_2 i23 kth
            have f221 : (q_I r21.2 8 2 th).toInt = (q_I δ 8 2 th).toInt := congrArg Int32.toInt (u25 8 2 th (by decide))
            exact ok_some (show CI ad h.1 δ0 r21.2 ∧ (kp [(7, 3), (7, 4), (7, 5), (7, 6), (8, 2), (8, 3)] δ r21.2 ∧ q_V r21.2 = q_V δ ∧ q_R r21.2 (Ad ad 7) = q_R δ (Ad ad 7)) ∧ (q_I δ 8 2 th).toInt ≤ (q_I r21.2 8 2 th).toInt from ⟨i23, ⟨kp_w (by decide) u28, v29, v30⟩, by first | assumption | omega⟩)
set_option maxHeartbeats 4000000 in
theorem k_bX9_readProduct {ad : List Nat} {h : hp} (L : Lay TLx ad h) {δ0 : dp} {N : Nat} (hN : 10000000 ≤ N) {tp th : Nat} {T : Nat → Int32 → dp → Option (dp)} {K : Int} (hT : ∀ (a0 : Nat) (x1 : Int32) (δ : dp), q_K h.1 a0 = 9 → 0 ≤ (x1).toInt → (x1).toInt ≤ 6 → 6 - (x1).toInt < K → q_V δ 9 0 a0 = some tp → q_V δ 9 1 a0 = some th → q_K h.1 tp = 7 → q_K h.1 th = 8 → CI ad h.1 δ0 δ → ok (T a0 x1 δ) (fun r => CI ad h.1 δ0 r ∧ (kp [(7, 3), (7, 4), (7, 5), (7, 6), (8, 2), (8, 3)] δ r ∧ q_V r = q_V δ ∧ q_R r (Ad ad 7) = q_R δ (Ad ad 7)) ∧ (q_I δ 8 2 th).toInt ≤ (q_I r 8 2 th).toInt)) {a0 : Nat} {x1 : Int32} (k_a0 : q_K h.1 a0 = 9) {δ : dp} (z0 : 0 ≤ (x1).toInt) (z1 : (x1).toInt ≤ 6) (z2 : 6 - (x1).toInt ≤ K) (hv0 : q_V δ 9 0 a0 = some tp) (hv1 : q_V δ 9 1 a0 = some th) (ktp : q_K h.1 tp = 7) (kth : q_K h.1 th = 8) (I : CI ad h.1 δ0 δ) : ok (B_X9_readProduct N h.1 T a0 x1 δ) (fun r => CI ad h.1 δ0 r ∧ (kp [(7, 3), (7, 4), (7, 5), (7, 6), (8, 2), (8, 3)] δ r ∧ q_V r = q_V δ ∧ q_R r (Ad ad 7) = q_R δ (Ad ad 7)) ∧ (q_I δ 8 2 th).toInt ≤ (q_I r 8 2 th).toInt) := by
  unfold B_X9_readProduct
  have f1 := ti_b x1
  refine ok_bind (k_bX9_readUnit L hN (a0 := a0) (x1 := x1) hT k_a0 (show 0 ≤ (x1).toInt by first | assumption | omega) (show (x1).toInt ≤ 6 by first | assumption | omega) (show 6 - (x1).toInt ≤ K by first | assumption | omega) ((rfl).trans hv0) ((rfl).trans hv1) ktp kth I) (fun r2 hr3 => ?_)
  obtain ⟨i4, ⟨u6, u7, u8⟩, p5⟩ := hr3
  have u9 := kp_t kp_r u6
  have v10 : q_V r2 = q_V δ := (u7).trans rfl
  have v11 : q_R r2 (Ad ad 7) = q_R δ (Ad ad 7) := (u8).trans rfl
  have f12 := cb_8_2 I kth
  have f13 := cb_8_2 i4 kth
  refine ok_mono (kl_X9_readProduct_7 L hN   hT k_a0 _ (0 : Int32) r2 i4 (show 0 ≤ (x1).toInt by first | assumption | omega) (show (x1).toInt ≤ 6 by first | assumption | omega) (show 6 - (x1).toInt ≤ K by first | assumption | omega) (show 0 ≤ (0 : Int) by first | assumption | omega) (show (0 : Int) ≤ 500 by first | assumption | omega) ((congrFun (congrFun (congrFun v10 9) 0) a0).trans hv0) ((congrFun (congrFun (congrFun v10 9) 1) a0).trans hv1) ktp kth (show 500 - (0 : Int) < _ by omega)) (fun r14 hr15 => ?_)
  obtain ⟨i16, ⟨u18, u19, u20⟩, p17⟩ := hr15
  have u21 := kp_t u9 u18
  have v22 : q_V r14 = q_V δ := (u19).trans v10
  have v23 : q_R r14 (Ad ad 7) = q_R δ (Ad ad 7) := (u20).trans v11
  have f24 := cb_8_2 i16 kth
  exact ⟨by assumption, ⟨kp_w (by decide) u21, v22, v23⟩, by first | assumption | omega⟩
set_option maxHeartbeats 4000000 in
theorem kl_X9_readSum_7 {ad : List Nat} {h : hp} (L : Lay TLx ad h) {δ0 : dp} {N : Nat} (hN : 10000000 ≤ N) {tp th : Nat} {T : Nat → Int32 → dp → Option (dp)} {K : Int} (hT : ∀ (a0 : Nat) (x1 : Int32) (δ : dp), q_K h.1 a0 = 9 → 0 ≤ (x1).toInt → (x1).toInt ≤ 6 → 6 - (x1).toInt < K → q_V δ 9 0 a0 = some tp → q_V δ 9 1 a0 = some th → q_K h.1 tp = 7 → q_K h.1 th = 8 → CI ad h.1 δ0 δ → ok (T a0 x1 δ) (fun r => CI ad h.1 δ0 r ∧ (kp [(7, 3), (7, 4), (7, 5), (7, 6), (8, 2), (8, 3)] δ r ∧ q_V r = q_V δ ∧ q_R r (Ad ad 7) = q_R δ (Ad ad 7)) ∧ (q_I δ 8 2 th).toInt ≤ (q_I r 8 2 th).toInt)) {a0 : Nat} {x1 : Int32} (k_a0 : q_K h.1 a0 = 9) : ∀ (n : Nat) (x2v : Int32) (δ : dp), CI ad h.1 δ0 δ → 0 ≤ (x1).toInt → (x1).toInt ≤ 6 → 6 - (x1).toInt ≤ K → 0 ≤ (x2v).toInt → (x2v).toInt ≤ 500 → q_V δ 9 0 a0 = some tp → q_V δ 9 1 a0 = some th → q_K h.1 tp = 7 → q_K h.1 th = 8 → 500 - (x2v).toInt < (n : Int) → ok (L_X9_readSum_7 N h.1 T a0 x1 n x2v δ) (fun r => CI ad h.1 δ0 r ∧ (kp [(7, 3), (7, 4), (7, 5), (7, 6), (8, 2), (8, 3)] δ r ∧ q_V r = q_V δ ∧ q_R r (Ad ad 7) = q_R δ (Ad ad 7)) ∧ (q_I δ 8 2 th).toInt ≤ (q_I r 8 2 th).toInt) := by
  intro n
  induction n with
  | zero =>
    intro x2v δ I j0 j1 j2 j3 j4 hv0 hv1 ktp kth hm
    have f1 := ti_b x1
    have f2 := ti_b x2v
    exfalso; omega
  | succ n ih =>
    intro x2v δ I j0 j1 j2 j3 j4 hv0 hv1 ktp kth hm
    unfold L_X9_readSum_7
    have f1 := ti_b x1
    have f2 := ti_b x2v
    refine ok_ite (fun h3 => ?_) (fun h3 => ?_)
    · have c4 : (500 : Int) ≤ x2v.toInt := o_le h3
      unfold J_X9_readSum_84
      have f5 := cb_8_2 I kth
      exact ok_some (show CI ad h.1 δ0 δ ∧ (kp [(7, 3), (7, 4), (7, 5), (7, 6), (8, 2), (8, 3)] δ δ ∧ q_V δ = q_V δ ∧ q_R δ (Ad ad 7) = q_R δ (Ad ad 7)) ∧ (q_I δ 8 2 th).toInt ≤ (q_I δ 8 2 th).toInt from ⟨I, ⟨kp_w (by decide) kp_r, rfl, rfl⟩, by first | assumption | omega⟩)
    · have c6 : x2v.toInt < (500 : Int) := o_nle h3
      refine ok_at ((rfl).trans hv0) ?_
      refine ok_gp ktp ?_
      refine ok_bind (k_X7_isSound L hN (a0 := tp) ktp I) (fun r7 hr8 => ?_)
      obtain ⟨i9, p10, p11, p12⟩ := hr8
      try rw [i9]
      have f13 := bo_t p10
      have f14 := ti_b r7.1
      have f15 := ti_b (q_I δ 7 5 tp)
      have f16 := ti_b r7.1
      refine ok_ite (fun h17 => ?_) (fun h17 => ?_)
      · have c18 : r7.1.toInt = (0 : Int) := o_eq h17
        unfold J_X9_readSum_84
        have f19 := cb_8_2 I kth
        exact ok_some (show CI ad h.1 δ0 δ ∧ (kp [(7, 3), (7, 4), (7, 5), (7, 6), (8, 2), (8, 3)] δ δ ∧ q_V δ = q_V δ ∧ q_R δ (Ad ad 7) = q_R δ (Ad ad 7)) ∧ (q_I δ 8 2 th).toInt ≤ (q_I δ 8 2 th).toInt from ⟨I, ⟨kp_w (by decide) kp_r, rfl, rfl⟩, by first | assumption | omega⟩)
      · have c20 : r7.1.toInt ≠ (0 : Int) := o_ne h17
        refine ok_at ((rfl).trans hv0) ?_
        refine ok_gp ktp ?_
        refine ok_bind (k_X7_ahead L hN (a0 := tp) ktp I) (fun r21 hr22 => ?_)
        obtain ⟨i23, ⟨u25, u26, u27⟩, p24⟩ := hr22
        have u28 := kp_t kp_r u25
        have v29 : q_V r21.2 = q_V δ := (u26).trans rfl
        have v30 : q_R r21.2 (Ad ad 7) = q_R δ (Ad ad 7) := (congrFun u27 (Ad ad 7)).trans rfl
        have f31 := ti_b r21.1
        have f32 := cb_7_3 i23 ktp
        have f33 := cb_7_2 i23 ktp
        have f34 : (q_I r21.2 7 2 tp).toInt = (q_I δ 7 2 tp).toInt := congrArg Int32.toInt (u25 7 2 tp (by decide))
        have f35 := cb_7_2 I ktp
        have f36 := ti_b r21.1
        refine ok_ite (fun h37 => ?_) (fun h37 => ?_)
        · have c38 : r21.1.toInt = (43 : Int) := o_eq h37
          unfold J_X9_readSum_45
          refine ok_at ((congrFun (congrFun (congrFun v29 9) 0) a0).trans hv0) ?_
          refine ok_gp ktp ?_
          refine ok_bind (k_X7_needSign L hN (a0 := tp) (x1 := r21.1) ktp (show (r21.1).toInt ≠ -1 by first | assumption | omega) i23) (fun r39 hr40 => ?_)
          obtain ⟨i41, ⟨u43, u44, u45⟩, p42⟩ := hr40
          have u46 := kp_t u28 u43
          have v47 : q_V r39 = q_V δ := (u44).trans v29
          have v48 : q_R r39 (Ad ad 7) = q_R δ (Ad ad 7) := (congrFun u45 (Ad ad 7)).trans v30
          have f49 := ti_b (q_I r21.2 7 5 tp)
          have f50 : (q_I r21.2 7 5 tp).toInt = (q_I δ 7 5 tp).toInt := congrArg Int32.toInt (u25 7 5 tp (by decide))
          have f51 := ti_b (q_I r39 7 5 tp)
          refine ok_bind (k_bX9_readProduct L hN (a0 := a0) (x1 := x1) hT k_a0 (show 0 ≤ (x1).toInt by first | assumption | omega) (show (x1).toInt ≤ 6 by first | assumption | omega) (show 6 - (x1).toInt ≤ K by first | assumption | omega) ((congrFun (congrFun (congrFun v47 9) 0) a0).trans hv0) ((congrFun (congrFun (congrFun v47 9) 1) a0).trans hv1) ktp kth i41) (fun r52 hr53 => ?_)
          obtain ⟨i54, ⟨u56, u57, u58⟩, p55⟩ := hr53
          have u59 := kp_t u46 u56
          have v60 : q_V r52 = q_V δ := (u57).trans v47
          have v61 : q_R r52 (Ad ad 7) = q_R δ (Ad ad 7) := (u58).trans v48
          have f62 := cb_8_2 i41 kth
          have f63 : (q_I r39 8 2 th).toInt = (q_I r21.2 8 2 th).toInt := congrArg Int32.toInt (u43 8 2 th (by decide))
          have f64 := cb_8_2 i23 kth
          have f65 : (q_I r21.2 8 2 th).toInt = (q_I δ 8 2 th).toInt := congrArg Int32.toInt (u25 8 2 th (by decide))
          have f66 := cb_8_2 I kth
          have f67 := cb_8_2 i54 kth
          refine ok_at ((congrFun (congrFun (congrFun v60 9) 1) a0).trans hv1) ?_
          refine ok_gp kth ?_
          refine ok_ite (fun h68 => ?_) (fun h68 => ?_)
          · have c69 : r21.1.toInt = (43 : Int) := o_eq h68
            unfold J_X9_readSum_74
            refine ok_bind (k_X8_add L hN (a0 := th) (x1 := (5 : Int32)) (x2 := (0 : Int32)) kth (show 0 ≤ (0 : Int) by first | assumption | omega) (show (5 : Int) = 1 → (0 : Int) < 4 by first | assumption | omega) (show (5 : Int) = 11 → (q_I r52 8 2 th).toInt < 500 → (0 : Int) < 500 by first | assumption | omega) i54) (fun r70 hr71 => ?_)
            obtain ⟨i72, ⟨u74, u75, u76⟩, p73⟩ := hr71
            have u77 := kp_t u59 u74
            have v78 : q_V r70 = q_V δ := (u75).trans v60
            have v79 : q_R r70 (Ad ad 7) = q_R δ (Ad ad 7) := (u76).trans v61
            have f80 := cb_8_2 i72 kth
            refine ok_biv (fun vx81 e82 => ?_)
            first | (have q83 := te_addc (c := 1) (n := 1) rfl x2v (by omega) (by omega); rw [← e82] at q83; obtain ⟨f84, f85, f86⟩ := q83) | (obtain ⟨q83, f84, f85, f86⟩ : ∃ q : Int, vx81.toInt = x2v.toInt + (1 : Int) + 4294967296 * q ∧ -2147483648 ≤ vx81.toInt ∧ vx81.toInt ≤ 2147483647 := by rw [e82]; exact ti_addc (c := 1) (n := 1) rfl x2v)
            refine ok_mono (ih vx81 r70 i72 (show 0 ≤ (x1).toInt by first | assumption | omega) (show (x1).toInt ≤ 6 by first | assumption | omega) (show 6 - (x1).toInt ≤ K by first | assumption | omega) (show 0 ≤ (vx81).toInt by first | assumption | omega) (show (vx81).toInt ≤ 500 by first | assumption | omega) ((congrFun (congrFun (congrFun v78 9) 0) a0).trans hv0) ((congrFun (congrFun (congrFun v78 9) 1) a0).trans hv1) ktp kth (show 500 - (vx81).toInt < _ by omega)) (fun r87 hr88 => ?_)
            obtain ⟨i89, ⟨u91, u92, u93⟩, p90⟩ := hr88
            have u94 := kp_t u77 u91
            have v95 : q_V r87 = q_V δ := (u92).trans v78
            have v96 : q_R r87 (Ad ad 7) = q_R δ (Ad ad 7) := (u93).trans v79
            have f97 := cb_8_2 i89 kth
            exact ⟨by assumption, ⟨kp_w (by decide) u94, v95, v96⟩, by first | assumption | omega⟩
          · have c98 : r21.1.toInt ≠ (43 : Int) := o_ne h68
            unfold J_X9_readSum_74
            refine ok_bind (k_X8_add L hN (a0 := th) (x1 := (6 : Int32)) (x2 := (0 : Int32)) kth (show 0 ≤ (0 : Int) by first | assumption | omega) (show (6 : Int) = 1 → (0 : Int) < 4 by first | assumption | omega) (show (6 : Int) = 11 → (q_I r52 8 2 th).toInt < 500 → (0 : Int) < 500 by first | assumption | omega) i54) (fun r99 hr100 => ?_)
            obtain ⟨i101, ⟨u103, u104, u105⟩, p102⟩ := hr100
            have u106 := kp_t u59 u103
            have v107 : q_V r99 = q_V δ := (u104).trans v60
            have v108 : q_R r99 (Ad ad 7) = q_R δ (Ad ad 7) := (u105).trans v61
            have f109 := cb_8_2 i101 kth
            refine ok_biv (fun vx110 e111 => ?_)
            first | (have q112 := te_addc (c := 1) (n := 1) rfl x2v (by omega) (by omega); rw [← e111] at q112; obtain ⟨f113, f114, f115⟩ := q112) | (obtain ⟨q112, f113, f114, f115⟩ : ∃ q : Int, vx110.toInt = x2v.toInt + (1 : Int) + 4294967296 * q ∧ -2147483648 ≤ vx110.toInt ∧ vx110.toInt ≤ 2147483647 := by rw [e111]; exact ti_addc (c := 1) (n := 1) rfl x2v)
            refine ok_mono (ih vx110 r99 i101 (show 0 ≤ (x1).toInt by first | assumption | omega) (show (x1).toInt ≤ 6 by first | assumption | omega) (show 6 - (x1).toInt ≤ K by first | assumption | omega) (show 0 ≤ (vx110).toInt by first | assumption | omega) (show (vx110).toInt ≤ 500 by first | assumption | omega) ((congrFun (congrFun (congrFun v107 9) 0) a0).trans hv0) ((congrFun (congrFun (congrFun v107 9) 1) a0).trans hv1) ktp kth (show 500 - (vx110).toInt < _ by omega)) (fun r116 hr117 => ?_)
            obtain ⟨i118, ⟨u120, u121, u122⟩, p119⟩ := hr117
            have u123 := kp_t u106 u120
            have v124 : q_V r116 = q_V δ := (u121).trans v107
            have v125 : q_R r116 (Ad ad 7) = q_R δ (Ad ad 7) := (u122).trans v108
            have f126 := cb_8_2 i118 kth
            exact ⟨by assumption, ⟨kp_w (by decide) u123, v124, v125⟩, by first | assumption | omega⟩
        · have c127 : r21.1.toInt ≠ (43 : Int) := o_ne h37
          refine ok_ite (fun h128 => ?_) (fun h128 => ?_)
          · have c129 : r21.1.toInt = (45 : Int) := o_eq h128
            unfold J_X9_readSum_45
            refine ok_at ((congrFun (congrFun (congrFun v29 9) 0) a0).trans hv0) ?_
            refine ok_gp ktp ?_
            refine ok_bind (k_X7_needSign L hN (a0 := tp) (x1 := r21.1) ktp (show (r21.1).toInt ≠ -1 by first | assumption | omega) i23) (fun r130 hr131 => ?_)
            obtain ⟨i132, ⟨u134, u135, u136⟩, p133⟩ := hr131
            have u137 := kp_t u28 u134
            have v138 : q_V r130 = q_V δ := (u135).trans v29
            have v139 : q_R r130 (Ad ad 7) = q_R δ (Ad ad 7) := (congrFun u136 (Ad ad 7)).trans v30
            have f140 := ti_b (q_I r21.2 7 5 tp)
            have f141 : (q_I r21.2 7 5 tp).toInt = (q_I δ 7 5 tp).toInt := congrArg Int32.toInt (u25 7 5 tp (by decide))
            have f142 := ti_b (q_I r130 7 5 tp)
            refine ok_bind (k_bX9_readProduct L hN (a0 := a0) (x1 := x1) hT k_a0 (show 0 ≤ (x1).toInt by first | assumption | omega) (show (x1).toInt ≤ 6 by first | assumption | omega) (show 6 - (x1).toInt ≤ K by first | assumption | omega) ((congrFun (congrFun (congrFun v138 9) 0) a0).trans hv0) ((congrFun (congrFun (congrFun v138 9) 1) a0).trans hv1) ktp kth i132) (fun r143 hr144 => ?_)
            obtain ⟨i145, ⟨u147, u148, u149⟩, p146⟩ := hr144
            have u150 := kp_t u137 u147
            have v151 : q_V r143 = q_V δ := (u148).trans v138
            have v152 : q_R r143 (Ad ad 7) = q_R δ (Ad ad 7) := (u149).trans v139
            have f153 := cb_8_2 i132 kth
            have f154 : (q_I r130 8 2 th).toInt = (q_I r21.2 8 2 th).toInt := congrArg Int32.toInt (u134 8 2 th (by decide))
            have f155 := cb_8_2 i23 kth
            have f156 : (q_I r21.2 8 2 th).toInt = (q_I δ 8 2 th).toInt := congrArg Int32.toInt (u25 8 2 th (by decide))
            have f157 := cb_8_2 I kth
            have f158 := cb_8_2 i145 kth
            refine ok_at ((congrFun (congrFun (congrFun v151 9) 1) a0).trans hv1) ?_
            refine ok_gp kth ?_
            refine ok_ite (fun h159 => ?_) (fun h159 => ?_)
            · have c160 : r21.1.toInt = (43 : Int) := o_eq h159
              unfold J_X9_readSum_74
              refine ok_bind (k_X8_add L hN (a0 := th) (x1 := (5 : Int32)) (x2 := (0 : Int32)) kth (show 0 ≤ (0 : Int) by first | assumption | omega) (show (5 : Int) = 1 → (0 : Int) < 4 by first | assumption | omega) (show (5 : Int) = 11 → (q_I r143 8 2 th).toInt < 500 → (0 : Int) < 500 by first | assumption | omega) i145) (fun r161 hr162 => ?_)
              obtain ⟨i163, ⟨u165, u166, u167⟩, p164⟩ := hr162
              have u168 := kp_t u150 u165
              have v169 : q_V r161 = q_V δ := (u166).trans v151
              have v170 : q_R r161 (Ad ad 7) = q_R δ (Ad ad 7) := (u167).trans v152
              have f171 := cb_8_2 i163 kth
              refine ok_biv (fun vx172 e173 => ?_)
              first | (have q174 := te_addc (c := 1) (n := 1) rfl x2v (by omega) (by omega); rw [← e173] at q174; obtain ⟨f175, f176, f177⟩ := q174) | (obtain ⟨q174, f175, f176, f177⟩ : ∃ q : Int, vx172.toInt = x2v.toInt + (1 : Int) + 4294967296 * q ∧ -2147483648 ≤ vx172.toInt ∧ vx172.toInt ≤ 2147483647 := by rw [e173]; exact ti_addc (c := 1) (n := 1) rfl x2v)
              refine ok_mono (ih vx172 r161 i163 (show 0 ≤ (x1).toInt by first | assumption | omega) (show (x1).toInt ≤ 6 by first | assumption | omega) (show 6 - (x1).toInt ≤ K by first | assumption | omega) (show 0 ≤ (vx172).toInt by first | assumption | omega) (show (vx172).toInt ≤ 500 by first | assumption | omega) ((congrFun (congrFun (congrFun v169 9) 0) a0).trans hv0) ((congrFun (congrFun (congrFun v169 9) 1) a0).trans hv1) ktp kth (show 500 - (vx172).toInt < _ by omega)) (fun r178 hr179 => ?_)
              obtain ⟨i180, ⟨u182, u183, u184⟩, p181⟩ := hr179
              have u185 := kp_t u168 u182
              have v186 : q_V r178 = q_V δ := (u183).trans v169
              have v187 : q_R r178 (Ad ad 7) = q_R δ (Ad ad 7) := (u184).trans v170
              have f188 := cb_8_2 i180 kth
              exact ⟨by assumption, ⟨kp_w (by decide) u185, v186, v187⟩, by first | assumption | omega⟩
            · have c189 : r21.1.toInt ≠ (43 : Int) := o_ne h159
              unfold J_X9_readSum_74
              refine ok_bind (k_X8_add L hN (a0 := th) (x1 := (6 : Int32)) (x2 := (0 : Int32)) kth (show 0 ≤ (0 : Int) by first | assumption | omega) (show (6 : Int) = 1 → (0 : Int) < 4 by first | assumption | omega) (show (6 : Int) = 11 → (q_I r143 8 2 th).toInt < 500 → (0 : Int) < 500 by first | assumption | omega) i145) (fun r190 hr191 => ?_)
              obtain ⟨i192, ⟨u194, u195, u196⟩, p193⟩ := hr191
              have u197 := kp_t u150 u194
              have v198 : q_V r190 = q_V δ := (u195).trans v151
              have v199 : q_R r190 (Ad ad 7) = q_R δ (Ad ad 7) := (u196).trans v152
              have f200 := cb_8_2 i192 kth
              refine ok_biv (fun vx201 e202 => ?_)
              first | (have q203 := te_addc (c := 1) (n := 1) rfl x2v (by omega) (by omega); rw [← e202] at q203; obtain ⟨f204, f205, f206⟩ := q203) | (obtain ⟨q203, f204, f205, f206⟩ : ∃ q : Int, vx201.toInt = x2v.toInt + (1 : Int) + 4294967296 * q ∧ -2147483648 ≤ vx201.toInt ∧ vx201.toInt ≤ 2147483647 := by rw [e202]; exact ti_addc (c := 1) (n := 1) rfl x2v)
              refine ok_mono (ih vx201 r190 i192 (show 0 ≤ (x1).toInt by first | assumption | omega) (show (x1).toInt ≤ 6 by first | assumption | omega) (show 6 - (x1).toInt ≤ K by first | assumption | omega) (show 0 ≤ (vx201).toInt by first | assumption | omega) (show (vx201).toInt ≤ 500 by first | assumption | omega) ((congrFun (congrFun (congrFun v198 9) 0) a0).trans hv0) ((congrFun (congrFun (congrFun v198 9) 1) a0).trans hv1) ktp kth (show 500 - (vx201).toInt < _ by omega)) (fun r207 hr208 => ?_)
              obtain ⟨i209, ⟨u211, u212, u213⟩, p210⟩ := hr208
              have u214 := kp_t u197 u211
              have v215 : q_V r207 = q_V δ := (u212).trans v198
              have v216 : q_R r207 (Ad ad 7) = q_R δ (Ad ad 7) := (u213).trans v199
              have f217 := cb_8_2 i209 kth
              exact ⟨by assumption, ⟨kp_w (by decide) u214, v215, v216⟩, by first | assumption | omega⟩
          · have c218 : r21.1.toInt ≠ (45 : Int) := o_ne h128
            have f219 := cb_8_2 I kth
            have f220 := cb_8_2 i23 kth
            have f221 : (q_I r21.2 8 2 th).toInt = (q_I δ 8 2 th).toInt := congrArg Int32.toInt (u25 8 2 th (by decide))
            exact ok_some (show CI ad h.1 δ0 r21.2 ∧ (kp [(7, 3), (7, 4), (7, 5), (7, 6), (8, 2), (8, 3)] δ r21.2 ∧ q_V r21.2 = q_V δ ∧ q_R r21.2 (Ad ad 7) = q_R δ (Ad ad 7)) ∧ (q_I δ 8 2 th).toInt ≤ (q_I r21.2 8 2 th).toInt from ⟨i23, ⟨kp_w (by decide) u28, v29, v30⟩, by first | assumption | omega⟩)
set_option maxHeartbeats 4000000 in
theorem ke_X9_readSum {ad : List Nat} {h : hp} (L : Lay TLx ad h) {δ0 : dp} {N : Nat} (hN : 10000000 ≤ N) {tp th : Nat} : ∀ (k : Nat), ∀ (a0 : Nat) (x1 : Int32) (δ : dp), q_K h.1 a0 = 9 → 0 ≤ (x1).toInt → (x1).toInt ≤ 6 → 6 - (x1).toInt < (k : Int) → q_V δ 9 0 a0 = some tp → q_V δ 9 1 a0 = some th → q_K h.1 tp = 7 → q_K h.1 th = 8 → CI ad h.1 δ0 δ → ok (E_X9_readSum N h.1 k a0 x1 δ) (fun r => CI ad h.1 δ0 r ∧ (kp [(7, 3), (7, 4), (7, 5), (7, 6), (8, 2), (8, 3)] δ r ∧ q_V r = q_V δ ∧ q_R r (Ad ad 7) = q_R δ (Ad ad 7)) ∧ (q_I δ 8 2 th).toInt ≤ (q_I r 8 2 th).toInt) := by
  intro k
  induction k with
  | zero =>
    intro a0 x1 δ k_a0 z0 z1 hd hv0 hv1 ktp kth I
    exfalso; omega
  | succ k ih =>
    intro a0 x1 δ k_a0 z0 z1 hd hv0 hv1 ktp kth I
    unfold E_X9_readSum B_X9_readSum
    have f1 := ti_b x1
    refine ok_bind (k_bX9_readProduct L hN (a0 := a0) (x1 := x1) ih k_a0 (show 0 ≤ (x1).toInt by first | assumption | omega) (show (x1).toInt ≤ 6 by first | assumption | omega) (show 6 - (x1).toInt ≤ (k : Int) by first | assumption | omega) ((rfl).trans hv0) ((rfl).trans hv1) ktp kth I) (fun r2 hr3 => ?_)
    obtain ⟨i4, ⟨u6, u7, u8⟩, p5⟩ := hr3
    have u9 := kp_t kp_r u6
    have v10 : q_V r2 = q_V δ := (u7).trans rfl
    have v11 : q_R r2 (Ad ad 7) = q_R δ (Ad ad 7) := (u8).trans rfl
    have f12 := cb_8_2 I kth
    have f13 := cb_8_2 i4 kth
    refine ok_mono (kl_X9_readSum_7 L hN   ih k_a0 _ (0 : Int32) r2 i4 (show 0 ≤ (x1).toInt by first | assumption | omega) (show (x1).toInt ≤ 6 by first | assumption | omega) (show 6 - (x1).toInt ≤ (k : Int) by first | assumption | omega) (show 0 ≤ (0 : Int) by first | assumption | omega) (show (0 : Int) ≤ 500 by first | assumption | omega) ((congrFun (congrFun (congrFun v10 9) 0) a0).trans hv0) ((congrFun (congrFun (congrFun v10 9) 1) a0).trans hv1) ktp kth (show 500 - (0 : Int) < _ by omega)) (fun r14 hr15 => ?_)
    obtain ⟨i16, ⟨u18, u19, u20⟩, p17⟩ := hr15
    have u21 := kp_t u9 u18
    have v22 : q_V r14 = q_V δ := (u19).trans v10
    have v23 : q_R r14 (Ad ad 7) = q_R δ (Ad ad 7) := (u20).trans v11
    have f24 := cb_8_2 i16 kth
    exact ⟨by assumption, ⟨kp_w (by decide) u21, v22, v23⟩, by first | assumption | omega⟩
set_option maxHeartbeats 4000000 in
theorem k_X9_readSum {ad : List Nat} {h : hp} (L : Lay TLx ad h) {δ0 : dp} {N : Nat} (hN : 10000000 ≤ N) {tp th : Nat} {a0 : Nat} {x1 : Int32} (k_a0 : q_K h.1 a0 = 9) {δ : dp} (z0 : 0 ≤ (x1).toInt) (z1 : (x1).toInt ≤ 6) (hd : 6 - (x1).toInt < 20) (hv0 : q_V δ 9 0 a0 = some tp) (hv1 : q_V δ 9 1 a0 = some th) (ktp : q_K h.1 tp = 7) (kth : q_K h.1 th = 8) (I : CI ad h.1 δ0 δ) : ok (D_X9_readSum N h.1 a0 x1 δ) (fun r => CI ad h.1 δ0 r ∧ (kp [(7, 3), (7, 4), (7, 5), (7, 6), (8, 2), (8, 3)] δ r ∧ q_V r = q_V δ ∧ q_R r (Ad ad 7) = q_R δ (Ad ad 7)) ∧ (q_I δ 8 2 th).toInt ≤ (q_I r 8 2 th).toInt) := ke_X9_readSum L hN 20 a0 x1 δ k_a0 z0 z1 hd hv0 hv1 ktp kth I
set_option maxHeartbeats 4000000 in
theorem k_X9_openLoop {ad : List Nat} {h : hp} (L : Lay TLx ad h) {δ0 : dp} {N : Nat} (hN : 10000000 ≤ N) {tp th : Nat} {a0 : Nat} (k_a0 : q_K h.1 a0 = 9) {δ : dp} (z0 : (q_I δ 9 4 a0).toInt < 3) (hv0 : q_V δ 9 0 a0 = some tp) (hv1 : q_V δ 9 1 a0 = some th) (ktp : q_K h.1 tp = 7) (kth : q_K h.1 th = 8) (hls : LSn ad δ th (q_I δ 9 4 a0).toInt) (I : CI ad h.1 δ0 δ) : ok (D_X9_openLoop N h.1 a0 δ) (fun r => CI ad h.1 δ0 r ∧ (kp [(7, 3), (7, 4), (7, 5), (7, 6), (8, 2), (8, 3), (9, 4)] δ r ∧ q_V r = q_V δ) ∧ LSn ad r th (q_I r 9 4 a0).toInt) := by
  unfold D_X9_openLoop
  have f1 := cb_9_4 I k_a0
  refine ok_at ((rfl).trans hv0) ?_
  refine ok_gp ktp ?_
  refine ok_bind (k_X7_readNumber L hN (a0 := tp) (x1 := (1 : Int32)) (x2 := (99 : Int32)) ktp I) (fun r2 hr3 => ?_)
  obtain ⟨i4, ⟨u9, u10, u11⟩, p5, p6, p7, p8⟩ := hr3
  have u12 := kp_t kp_r u9
  have v13 : q_V r2.2 = q_V δ := (u10).trans rfl
  have y14 : q_R r2.2 (Ad ad 7) = q_R δ (Ad ad 7) := (congrFun u11 (Ad ad 7)).trans rfl
  have f15 := ti_b r2.1
  have f16 := ti_b (q_I δ 7 5 tp)
  have f17 := ti_b (q_I r2.2 7 5 tp)
  replace p8 : ((q_I r2.2 7 5 tp).toInt = 0 → (1 : Int) ≤ (r2.1).toInt ∧ (r2.1).toInt ≤ (99 : Int)) := p8
  have f18 := ti_b r2.1
  refine ok_at ((congrFun (congrFun (congrFun v13 9) 0) a0).trans hv0) ?_
  refine ok_gp ktp ?_
  refine ok_bind (k_X7_needSign L hN (a0 := tp) (x1 := (91 : Int32)) ktp (show (91 : Int) ≠ -1 by first | assumption | omega) i4) (fun r19 hr20 => ?_)
  obtain ⟨i21, ⟨u23, u24, u25⟩, p22⟩ := hr20
  have u26 := kp_t u12 u23
  have v27 : q_V r19 = q_V δ := (u24).trans v13
  have y28 : q_R r19 (Ad ad 7) = q_R δ (Ad ad 7) := (congrFun u25 (Ad ad 7)).trans y14
  have f29 := ti_b (q_I r19 7 5 tp)
  obtain ⟨b30, o31, k32, n33⟩ := gO_9_5 L k_a0
  obtain rfl := gS_9_5 L k_a0 o31
  refine ok_at o31 ?_
  refine ok_at ((congrFun (congrFun (congrFun v27 9) 1) a0).trans hv1) ?_
  refine ok_gp kth ?_
  have f34 := cb_9_4 i21 k_a0
  have f35 : (q_I r19 9 4 a0).toInt = (q_I r2.2 9 4 a0).toInt := congrArg Int32.toInt (u23 9 4 a0 (by decide))
  have f36 := cb_9_4 i4 k_a0
  have f37 : (q_I r2.2 9 4 a0).toInt = (q_I δ 9 4 a0).toInt := congrArg Int32.toInt (u9 9 4 a0 (by decide))
  have t38 := ti_tn (q_I r19 9 4 a0)
  refine ok_gd (fun hc39 => ?_) ?_
  · rcases hc39 with hc39 | hc39
    · have c40 : (q_I r19 9 4 a0).toInt < (0 : Int) := o_lt hc39
      omega
    · omega
  have f44 := cb_8_2 i21 kth
  have f45 : (q_I r19 8 2 th).toInt = (q_I r2.2 8 2 th).toInt := congrArg Int32.toInt (u23 8 2 th (by decide))
  have f46 := cb_8_2 i4 kth
  have f47 : (q_I r2.2 8 2 th).toInt = (q_I δ 8 2 th).toInt := congrArg Int32.toInt (u9 8 2 th (by decide))
  have f48 := cb_8_2 I kth
  refine ok_bdv (fun d41 e42 => ?_)
  have i43 : CI ad h.1 δ0 d41 := by rw [e42]; exact cr_7 L i21 (show 0 ≤ (q_I r19 8 2 th).toInt by omega) (show (q_I r19 8 2 th).toInt ≤ 500 by omega)
  have ls49 : LSn ad d41 th ((q_I δ 9 4 a0).toInt + 1) := by rw [e42]; exact (hls.t (by omega) y28).w (by omega) (by omega)
  have u50 := kp_N u26 (show q_I d41 = q_I r19 by rw [e42]; rfl)
  have v51 : q_V d41 = q_V δ := ((show q_V d41 = q_V r19 by rw [e42]; rfl)).trans v27
  obtain ⟨b52, o53, k54, n55, w56⟩ := gO_9_6 L k_a0
  refine ok_at o53 ?_
  have f57 := cb_9_4 i43 k_a0
  have f58 : (q_I d41 9 4 a0).toInt = (q_I r19 9 4 a0).toInt := congrArg Int32.toInt (by rw [e42]; rfl)
  have t59 := ti_tn (q_I d41 9 4 a0)
  refine ok_gd (fun hc60 => ?_) ?_
  · rcases hc60 with hc60 | hc60
    · have c61 : (q_I d41 9 4 a0).toInt < (0 : Int) := o_lt hc60
      omega
    · omega
  refine ok_bdv (fun d62 e63 => ?_)
  have i64 : CI ad h.1 δ0 d62 := by rw [e63]; exact CI.sR L i43 w56
  have u65 := kp_N u50 (show q_I d62 = q_I d41 by rw [e63]; rfl)
  have v66 : q_V d62 = q_V δ := ((show q_V d62 = q_V d41 by rw [e63]; rfl)).trans v51
  have y67 : q_R d62 (Ad ad 7) = q_R d41 (Ad ad 7) := ((show q_R d62 (Ad ad 7) = q_R d41 (Ad ad 7) by rw [e63]; exact rR_o (wb.ne L w56 (by decide) (by decide)))).trans rfl
  refine ok_at ((congrFun (congrFun (congrFun v66 9) 1) a0).trans hv1) ?_
  refine ok_gp kth ?_
  first | (have q71 := te_mulr (c := 4) (n := 4) rfl r2.1 (by omega) (by omega); obtain ⟨f72, f73, f74⟩ := q71) | (obtain ⟨q71, f72, f73, f74⟩ := ti_mulr (c := 4) (n := 4) rfl r2.1)
  have f75 := cb_9_4 i64 k_a0
  have f76 : (q_I d62 9 4 a0).toInt = (q_I d41 9 4 a0).toInt := congrArg Int32.toInt (by rw [e63]; rfl)
  first | (have q78 := te_add (r2.1 * (4 : Int32)) (q_I d62 9 4 a0) (by omega) (by omega); obtain ⟨f79, f80, f81⟩ := q78) | (obtain ⟨q78, f79, f80, f81⟩ := ti_add (r2.1 * (4 : Int32)) (q_I d62 9 4 a0))
  have f82 := cb_8_2 i64 kth
  have f83 : (q_I d62 8 2 th).toInt = (q_I d41 8 2 th).toInt := congrArg Int32.toInt (by rw [e63]; rfl)
  have f84 := cb_8_2 i43 kth
  have f85 : (q_I d41 8 2 th).toInt = (q_I r19 8 2 th).toInt := congrArg Int32.toInt (by rw [e42]; rfl)
  refine ok_bind (k_X8_add L hN (a0 := th) (x1 := (10 : Int32)) (x2 := ((r2.1 * (4 : Int32)) + (q_I d62 9 4 a0))) kth (show 0 ≤ (((r2.1 * (4 : Int32)) + (q_I d62 9 4 a0))).toInt by first | assumption | omega) (show (10 : Int) = 1 → (((r2.1 * (4 : Int32)) + (q_I d62 9 4 a0))).toInt < 4 by first | assumption | omega) (show (10 : Int) = 11 → (q_I d62 8 2 th).toInt < 500 → (((r2.1 * (4 : Int32)) + (q_I d62 9 4 a0))).toInt < 500 by first | assumption | omega) i64) (fun r68 hr69 => ?_)
  obtain ⟨i86, ⟨u88, u89, u90⟩, p87⟩ := hr69
  have u91 := kp_t u65 u88
  have v92 : q_V r68 = q_V δ := (u89).trans v66
  have y93 : q_R r68 (Ad ad 7) = q_R d41 (Ad ad 7) := (u90).trans y67
  have f94 := cb_8_2 i86 kth
  have f98 := cb_9_4 i86 k_a0
  have f99 : (q_I r68 9 4 a0).toInt = (q_I d62 9 4 a0).toInt := congrArg Int32.toInt (u88 9 4 a0 (by decide))
  first | (have q101 := te_addc (c := 1) (n := 1) rfl (q_I r68 9 4 a0) (by omega) (by omega); obtain ⟨f102, f103, f104⟩ := q101) | (obtain ⟨q101, f102, f103, f104⟩ := ti_addc (c := 1) (n := 1) rfl (q_I r68 9 4 a0))
  refine ok_bdv (fun d95 e96 => ?_)
  have i97 : CI ad h.1 δ0 d95 := by rw [e96]; exact cs_9_4 L i86 k_a0 (show 0 ≤ ((q_I r68 9 4 a0) + (1 : Int32)).toInt by omega) (show ((q_I r68 9 4 a0) + (1 : Int32)).toInt ≤ 3 by omega)
  have u105 := kp_I u91 e96
  have v106 : q_V d95 = q_V δ := ((show q_V d95 = q_V r68 by rw [e96]; rfl)).trans v92
  have y107 : q_R d95 (Ad ad 7) = q_R d41 (Ad ad 7) := ((show q_R d95 (Ad ad 7) = q_R r68 (Ad ad 7) by rw [e96]; rfl)).trans y93
  have f108 := cb_9_4 i97 k_a0
  have f109 : (q_I d95 9 4 a0).toInt = ((q_I r68 9 4 a0) + (1 : Int32)).toInt := congrArg Int32.toInt (show q_I d95 9 4 a0 = ((q_I r68 9 4 a0) + (1 : Int32)) by rw [e96]; exact rI_s)
  have f110 := cb_8_2 i97 kth
  have f111 : (q_I d95 8 2 th).toInt = (q_I r68 8 2 th).toInt := congrArg Int32.toInt (by rw [e96]; exact rI_o (by decide))
  exact ok_some (show CI ad h.1 δ0 d95 ∧ (kp [(7, 3), (7, 4), (7, 5), (7, 6), (8, 2), (8, 3), (9, 4)] δ d95 ∧ q_V d95 = q_V δ) ∧ LSn ad d95 th (q_I d95 9 4 a0).toInt from ⟨i97, ⟨kp_w (by decide) u105, v106⟩, (ls49.t (by omega) y107).n (by omega)⟩)
set_option maxHeartbeats 4000000 in
theorem k_X9_closeLoop {ad : List Nat} {h : hp} (L : Lay TLx ad h) {δ0 : dp} {N : Nat} (hN : 10000000 ≤ N) {tp th : Nat} {a0 : Nat} (k_a0 : q_K h.1 a0 = 9) {δ : dp} (z0 : 1 ≤ (q_I δ 9 4 a0).toInt) (hv0 : q_V δ 9 0 a0 = some tp) (hv1 : q_V δ 9 1 a0 = some th) (ktp : q_K h.1 tp = 7) (kth : q_K h.1 th = 8) (hls : LSn ad δ th (q_I δ 9 4 a0).toInt) (I : CI ad h.1 δ0 δ) : ok (D_X9_closeLoop N h.1 a0 δ) (fun r => CI ad h.1 δ0 r ∧ (kp [(8, 2), (8, 3), (9, 4)] δ r ∧ q_V r = q_V δ) ∧ LSn ad r th (q_I r 9 4 a0).toInt) := by
  unfold D_X9_closeLoop
  have f1 := cb_9_4 I k_a0
  first | (have q6 := te_subc (c := 1) (n := 1) rfl (q_I δ 9 4 a0) (by omega) (by omega); obtain ⟨f7, f8, f9⟩ := q6) | (obtain ⟨q6, f7, f8, f9⟩ := ti_subc (c := 1) (n := 1) rfl (q_I δ 9 4 a0))
  refine ok_bdv (fun d2 e3 => ?_)
  have i4 : CI ad h.1 δ0 d2 := by rw [e3]; exact cs_9_4 L I k_a0 (show 0 ≤ ((q_I δ 9 4 a0) - (1 : Int32)).toInt by omega) (show ((q_I δ 9 4 a0) - (1 : Int32)).toInt ≤ 3 by omega)
  have u10 := kp_I kp_r e3
  have v11 : q_V d2 = q_V δ := ((show q_V d2 = q_V δ by rw [e3]; rfl)).trans rfl
  have y12 : q_R d2 (Ad ad 7) = q_R δ (Ad ad 7) := ((show q_R d2 (Ad ad 7) = q_R δ (Ad ad 7) by rw [e3]; rfl)).trans rfl
  obtain ⟨b13, o14, k15, n16, w17⟩ := gO_9_6 L k_a0
  refine ok_at o14 ?_
  have f18 := cb_9_4 i4 k_a0
  have f19 : (q_I d2 9 4 a0).toInt = ((q_I δ 9 4 a0) - (1 : Int32)).toInt := congrArg Int32.toInt (show q_I d2 9 4 a0 = ((q_I δ 9 4 a0) - (1 : Int32)) by rw [e3]; exact rI_s)
  have t20 := ti_tn (q_I d2 9 4 a0)
  refine ok_gd (fun hc21 => ?_) ?_
  · rcases hc21 with hc21 | hc21
    · have c22 : (q_I d2 9 4 a0).toInt < (0 : Int) := o_lt hc21
      omega
    · omega
  have f23 := ti_b (q_R d2 b13 (q_I d2 9 4 a0).toNatClampNeg)
  have f24 := ti_b (q_I d2 9 3 a0)
  have f25 : (q_I d2 9 3 a0).toInt = (q_I δ 9 3 a0).toInt := congrArg Int32.toInt (by rw [e3]; exact rI_o (by decide))
  have f26 := ti_b (q_I δ 9 3 a0)
  refine ok_ite (fun h27 => ?_) (fun h27 => ?_)
  · have c28 : (q_R d2 b13 (q_I d2 9 4 a0).toNatClampNeg).toInt = (q_I d2 9 3 a0).toInt := o_eq h27
    refine ok_at ((congrFun (congrFun (congrFun v11 9) 1) a0).trans hv1) ?_
    refine ok_gp kth ?_
    obtain ⟨b29, o30, k31, n32⟩ := gO_9_5 L k_a0
    obtain rfl := gS_9_5 L k_a0 o30
    refine ok_at o30 ?_
    refine ok_gd (fun hc33 => ?_) ?_
    · rcases hc33 with hc33 | hc33
      · have c34 : (q_I d2 9 4 a0).toInt < (0 : Int) := o_lt hc33
        omega
      · omega
    have f38 := rb_7 L i4 (q_I d2 9 4 a0).toNatClampNeg
    have f39 := cb_8_2 i4 kth
    have f40 : (q_I d2 8 2 th).toInt = (q_I δ 8 2 th).toInt := congrArg Int32.toInt (by rw [e3]; exact rI_o (by decide))
    have f41 := cb_8_2 I kth
    have f42 := (hls.t (by omega) y12).1 (q_I d2 9 4 a0).toNatClampNeg (by omega)
    refine ok_bdv (fun d35 e36 => ?_)
    have i37 : CI ad h.1 δ0 d35 := by rw [e36]; exact cs_8_2 L i4 kth (show 0 ≤ (q_R d2 (Ad ad 7) (q_I d2 9 4 a0).toNatClampNeg).toInt by omega) (show (q_R d2 (Ad ad 7) (q_I d2 9 4 a0).toNatClampNeg).toInt ≤ (q_I d2 8 2 th).toInt by omega)
    have ls43 : LSn ad d35 th ((q_I δ 9 4 a0).toInt - 1) := by rw [e36]; exact (hls.t (by omega) y12).c (by omega)
    have u44 := kp_I u10 e36
    have v45 : q_V d35 = q_V δ := ((show q_V d35 = q_V d2 by rw [e36]; rfl)).trans v11
    have y46 : q_R d35 (Ad ad 7) = q_R δ (Ad ad 7) := ((show q_R d35 (Ad ad 7) = q_R d2 (Ad ad 7) by rw [e36]; rfl)).trans y12
    unfold J_X9_closeLoop_63
    have f47 := cb_9_4 i37 k_a0
    have f48 : (q_I d35 9 4 a0).toInt = (q_I d2 9 4 a0).toInt := congrArg Int32.toInt (by rw [e36]; exact rI_o (by decide))
    have f49 := cb_8_2 i37 kth
    have f50 : (q_I d35 8 2 th).toInt = (q_R d2 (Ad ad 7) (q_I d2 9 4 a0).toNatClampNeg).toInt := congrArg Int32.toInt (show q_I d35 8 2 th = (q_R d2 (Ad ad 7) (q_I d2 9 4 a0).toNatClampNeg) by rw [e36]; exact rI_s)
    exact ok_some (show CI ad h.1 δ0 d35 ∧ (kp [(8, 2), (8, 3), (9, 4)] δ d35 ∧ q_V d35 = q_V δ) ∧ LSn ad d35 th (q_I d35 9 4 a0).toInt from ⟨i37, ⟨kp_w (by decide) u44, v45⟩, ls43.n (by omega)⟩)
  · have c51 : (q_R d2 b13 (q_I d2 9 4 a0).toNatClampNeg).toInt ≠ (q_I d2 9 3 a0).toInt := o_ne h27
    refine ok_at ((congrFun (congrFun (congrFun v11 9) 1) a0).trans hv1) ?_
    refine ok_gp kth ?_
    obtain ⟨b52, o53, k54, n55⟩ := gO_9_5 L k_a0
    obtain rfl := gS_9_5 L k_a0 o53
    refine ok_at o53 ?_
    refine ok_gd (fun hc56 => ?_) ?_
    · rcases hc56 with hc56 | hc56
      · have c57 : (q_I d2 9 4 a0).toInt < (0 : Int) := o_lt hc56
        omega
      · omega
    have f60 := rb_7 L i4 (q_I d2 9 4 a0).toNatClampNeg
    have f61 := cb_8_2 i4 kth
    have f62 : (q_I d2 8 2 th).toInt = (q_I δ 8 2 th).toInt := congrArg Int32.toInt (by rw [e3]; exact rI_o (by decide))
    have f63 := cb_8_2 I kth
    have f64 := (hls.t (by omega) y12).1 (q_I d2 9 4 a0).toNatClampNeg (by omega)
    refine ok_bind (k_X8_add L hN (a0 := th) (x1 := (11 : Int32)) (x2 := (q_R d2 (Ad ad 7) (q_I d2 9 4 a0).toNatClampNeg)) kth (show 0 ≤ ((q_R d2 (Ad ad 7) (q_I d2 9 4 a0).toNatClampNeg)).toInt by first | assumption | omega) (show (11 : Int) = 1 → ((q_R d2 (Ad ad 7) (q_I d2 9 4 a0).toNatClampNeg)).toInt < 4 by first | assumption | omega) (show (11 : Int) = 11 → (q_I d2 8 2 th).toInt < 500 → ((q_R d2 (Ad ad 7) (q_I d2 9 4 a0).toNatClampNeg)).toInt < 500 by first | assumption | omega) i4) (fun r58 hr59 => ?_)
    obtain ⟨i65, ⟨u67, u68, u69⟩, p66⟩ := hr59
    have u70 := kp_t u10 u67
    have v71 : q_V r58 = q_V δ := (u68).trans v11
    have y72 : q_R r58 (Ad ad 7) = q_R δ (Ad ad 7) := (u69).trans y12
    have f73 := cb_8_2 i65 kth
    unfold J_X9_closeLoop_63
    have f74 := cb_9_4 i65 k_a0
    have f75 : (q_I r58 9 4 a0).toInt = (q_I d2 9 4 a0).toInt := congrArg Int32.toInt (u67 9 4 a0 (by decide))
    exact ok_some (show CI ad h.1 δ0 r58 ∧ (kp [(8, 2), (8, 3), (9, 4)] δ r58 ∧ q_V r58 = q_V δ) ∧ LSn ad r58 th (q_I r58 9 4 a0).toInt from ⟨i65, ⟨kp_w (by decide) u70, v71⟩, (hls.t (by omega) y72).n (by omega)⟩)
set_option maxHeartbeats 4000000 in
theorem k_X9_readStep {ad : List Nat} {h : hp} (L : Lay TLx ad h) {δ0 : dp} {N : Nat} (hN : 10000000 ≤ N) {tp th : Nat} {a0 : Nat} (k_a0 : q_K h.1 a0 = 9) {δ : dp} (hv0 : q_V δ 9 0 a0 = some tp) (hv1 : q_V δ 9 1 a0 = some th) (ktp : q_K h.1 tp = 7) (kth : q_K h.1 th = 8) (hls : LSn ad δ th (q_I δ 9 4 a0).toInt) (I : CI ad h.1 δ0 δ) : ok (D_X9_readStep N h.1 a0 δ) (fun r => CI ad h.1 δ0 r ∧ (kp [(7, 3), (7, 4), (7, 5), (7, 6), (8, 2), (8, 3), (9, 2), (9, 3), (9, 4)] δ r ∧ q_V r = q_V δ) ∧ LSn ad r th (q_I r 9 4 a0).toInt) := by
  unfold D_X9_readStep
  have f1 := cb_9_4 I k_a0
  refine ok_ite (fun h2 => ?_) (fun h2 => ?_)
  · have c3 : (q_I δ 9 4 a0).toInt ≤ (0 : Int) := o_le h2
    unfold J_X9_readStep_24
    refine ok_at ((rfl).trans hv0) ?_
    refine ok_gp ktp ?_
    refine ok_bind (k_X7_readWord L hN (a0 := tp) ktp I) (fun r4 hr5 => ?_)
    obtain ⟨i6, ⟨u7, u8, u9⟩⟩ := hr5
    have u10 := kp_t kp_r u7
    have v11 : q_V r4 = q_V δ := (u8).trans rfl
    have y12 : q_R r4 (Ad ad 7) = q_R δ (Ad ad 7) := (congrFun u9 (Ad ad 7)).trans rfl
    refine ok_bind (k_X9_callOfWord L hN (a0 := a0) k_a0 ((congrFun (congrFun (congrFun v11 9) 0) a0).trans hv0) ((congrFun (congrFun (congrFun v11 9) 1) a0).trans hv1) ktp kth i6) (fun r13 hr14 => ?_)
    obtain ⟨i15, p16, p17⟩ := hr14
    try rw [i15]
    have f18 := ti_b r13.1
    have f19 := ti_b r13.1
    refine ok_at ((congrFun (congrFun (congrFun v11 9) 0) a0).trans hv0) ?_
    refine ok_gp ktp ?_
    refine ok_bind (k_X7_wordIs L hN (a0 := tp) (a1 := 10) ktp (show 10 < 16 by first | assumption | omega) i6) (fun r20 hr21 => ?_)
    obtain ⟨i22, p23⟩ := hr21
    try rw [i22]
    have f24 := bo_t p23
    have f25 := ti_b r20.1
    refine ok_ite (fun h26 => ?_) (fun h26 => ?_)
    · have c27 : r13.1.toInt = (-1 : Int) := o_eq h26
      refine ok_ite (fun h28 => ?_) (fun h28 => ?_)
      · have c29 : r20.1.toInt = (0 : Int) := o_eq h28
        refine ok_at ((congrFun (congrFun (congrFun v11 9) 0) a0).trans hv0) ?_
        refine ok_gp ktp ?_
        refine ok_bind (k_X7_refuse L hN (a0 := tp) (x1 := (1 : Int32)) ktp (show (1 : Int) ≠ 0 by first | assumption | omega) i6) (fun r30 hr31 => ?_)
        obtain ⟨i32, ⟨u34, u35, u36⟩, p33⟩ := hr31
        have u37 := kp_t u10 u34
        have v38 : q_V r30 = q_V δ := (u35).trans v11
        have y39 : q_R r30 (Ad ad 7) = q_R δ (Ad ad 7) := (congrFun u36 (Ad ad 7)).trans y12
        have f40 := ti_b (q_I r30 7 5 tp)
        unfold J_X9_readStep_163
        have f41 := cb_9_4 i32 k_a0
        have f42 : (q_I r30 9 4 a0).toInt = (q_I r4 9 4 a0).toInt := congrArg Int32.toInt (u34 9 4 a0 (by decide))
        have f43 := cb_9_4 i6 k_a0
        have f44 : (q_I r4 9 4 a0).toInt = (q_I δ 9 4 a0).toInt := congrArg Int32.toInt (u7 9 4 a0 (by decide))
        have f45 := cb_8_2 i32 kth
        have f46 : (q_I r30 8 2 th).toInt = (q_I r4 8 2 th).toInt := congrArg Int32.toInt (u34 8 2 th (by decide))
        have f47 := cb_8_2 i6 kth
        have f48 : (q_I r4 8 2 th).toInt = (q_I δ 8 2 th).toInt := congrArg Int32.toInt (u7 8 2 th (by decide))
        have f49 := cb_8_2 I kth
        exact ok_some (show CI ad h.1 δ0 r30 ∧ (kp [(7, 3), (7, 4), (7, 5), (7, 6), (8, 2), (8, 3), (9, 2), (9, 3), (9, 4)] δ r30 ∧ q_V r30 = q_V δ) ∧ LSn ad r30 th (q_I r30 9 4 a0).toInt from ⟨i32, ⟨kp_w (by decide) u37, v38⟩, (hls.t (by omega) y39).n (by omega)⟩)
      · have c50 : r20.1.toInt ≠ (0 : Int) := o_ne h28
        unfold J_X9_readStep_66
        have f51 := ti_b (q_I r4 9 2 a0)
        have f52 : (q_I r4 9 2 a0).toInt = (q_I δ 9 2 a0).toInt := congrArg Int32.toInt (u7 9 2 a0 (by decide))
        have f53 := ti_b (q_I δ 9 2 a0)
        refine ok_ite (fun h54 => ?_) (fun h54 => ?_)
        · have c55 : (60 : Int) ≤ (q_I r4 9 2 a0).toInt := o_le h54
          unfold J_X9_readStep_87
          refine ok_at ((congrFun (congrFun (congrFun v11 9) 0) a0).trans hv0) ?_
          refine ok_gp ktp ?_
          refine ok_bind (k_X7_refuse L hN (a0 := tp) (x1 := (3 : Int32)) ktp (show (3 : Int) ≠ 0 by first | assumption | omega) i6) (fun r56 hr57 => ?_)
          obtain ⟨i58, ⟨u60, u61, u62⟩, p59⟩ := hr57
          have u63 := kp_t u10 u60
          have v64 : q_V r56 = q_V δ := (u61).trans v11
          have y65 : q_R r56 (Ad ad 7) = q_R δ (Ad ad 7) := (congrFun u62 (Ad ad 7)).trans y12
          have f66 := ti_b (q_I r56 7 5 tp)
          unfold J_X9_readStep_163
          have f67 := cb_9_4 i58 k_a0
          have f68 : (q_I r56 9 4 a0).toInt = (q_I r4 9 4 a0).toInt := congrArg Int32.toInt (u60 9 4 a0 (by decide))
          have f69 := cb_9_4 i6 k_a0
          have f70 : (q_I r4 9 4 a0).toInt = (q_I δ 9 4 a0).toInt := congrArg Int32.toInt (u7 9 4 a0 (by decide))
          have f71 := cb_8_2 i58 kth
          have f72 : (q_I r56 8 2 th).toInt = (q_I r4 8 2 th).toInt := congrArg Int32.toInt (u60 8 2 th (by decide))
          have f73 := cb_8_2 i6 kth
          have f74 : (q_I r4 8 2 th).toInt = (q_I δ 8 2 th).toInt := congrArg Int32.toInt (u7 8 2 th (by decide))
          have f75 := cb_8_2 I kth
          exact ok_some (show CI ad h.1 δ0 r56 ∧ (kp [(7, 3), (7, 4), (7, 5), (7, 6), (8, 2), (8, 3), (9, 2), (9, 3), (9, 4)] δ r56 ∧ q_V r56 = q_V δ) ∧ LSn ad r56 th (q_I r56 9 4 a0).toInt from ⟨i58, ⟨kp_w (by decide) u63, v64⟩, (hls.t (by omega) y65).n (by omega)⟩)
        · have c76 : (q_I r4 9 2 a0).toInt < (60 : Int) := o_nle h54
          refine ok_ite (fun h77 => ?_) (fun h77 => ?_)
          · have c78 : r20.1.toInt = (0 : Int) := o_eq h77
            unfold J_X9_readStep_98
            refine ok_ite (fun h79 => ?_) (fun h79 => ?_)
            · have c80 : r20.1.toInt = (0 : Int) := o_eq h79
              first | (have q85 := te_addc (c := 1) (n := 1) rfl (q_I r4 9 2 a0) (by omega) (by omega); obtain ⟨f86, f87, f88⟩ := q85) | (obtain ⟨q85, f86, f87, f88⟩ := ti_addc (c := 1) (n := 1) rfl (q_I r4 9 2 a0))
              refine ok_bdv (fun d81 e82 => ?_)
              have i83 : CI ad h.1 δ0 d81 := by rw [e82]; exact cs_9_2 L i6
              have u89 := kp_I u10 e82
              have v90 : q_V d81 = q_V δ := ((show q_V d81 = q_V r4 by rw [e82]; rfl)).trans v11
              have y91 : q_R d81 (Ad ad 7) = q_R δ (Ad ad 7) := ((show q_R d81 (Ad ad 7) = q_R r4 (Ad ad 7) by rw [e82]; rfl)).trans y12
              have f95 := ti_b (q_I d81 9 3 a0)
              have f96 : (q_I d81 9 3 a0).toInt = (q_I r4 9 3 a0).toInt := congrArg Int32.toInt (by rw [e82]; exact rI_o (by decide))
              have f97 := ti_b (q_I r4 9 3 a0)
              have f98 : (q_I r4 9 3 a0).toInt = (q_I δ 9 3 a0).toInt := congrArg Int32.toInt (u7 9 3 a0 (by decide))
              have f99 := ti_b (q_I δ 9 3 a0)
              first | (have q101 := te_addc (c := 1) (n := 1) rfl (q_I d81 9 3 a0) (by omega) (by omega); obtain ⟨f102, f103, f104⟩ := q101) | (obtain ⟨q101, f102, f103, f104⟩ := ti_addc (c := 1) (n := 1) rfl (q_I d81 9 3 a0))
              refine ok_bdv (fun d92 e93 => ?_)
              have i94 : CI ad h.1 δ0 d92 := by rw [e93]; exact cs_9_3 L i83
              have u105 := kp_I u89 e93
              have v106 : q_V d92 = q_V δ := ((show q_V d92 = q_V d81 by rw [e93]; rfl)).trans v90
              have y107 : q_R d92 (Ad ad 7) = q_R δ (Ad ad 7) := ((show q_R d92 (Ad ad 7) = q_R d81 (Ad ad 7) by rw [e93]; rfl)).trans y91
              refine ok_bind (k_X9_readSum L hN (a0 := a0) (x1 := (0 : Int32)) k_a0 (show 0 ≤ (0 : Int) by first | assumption | omega) (show (0 : Int) ≤ 6 by first | assumption | omega) (show 6 - (0 : Int) < 20 by first | assumption | omega) ((congrFun (congrFun (congrFun v106 9) 0) a0).trans hv0) ((congrFun (congrFun (congrFun v106 9) 1) a0).trans hv1) ktp kth i94) (fun r108 hr109 => ?_)
              obtain ⟨i110, ⟨u112, u113, u114⟩, p111⟩ := hr109
              have u115 := kp_t u105 u112
              have v116 : q_V r108 = q_V δ := (u113).trans v106
              have y117 : q_R r108 (Ad ad 7) = q_R δ (Ad ad 7) := (u114).trans y107
              have f118 := cb_8_2 i94 kth
              have f119 : (q_I d92 8 2 th).toInt = (q_I d81 8 2 th).toInt := congrArg Int32.toInt (by rw [e93]; exact rI_o (by decide))
              have f120 := cb_8_2 i83 kth
              have f121 : (q_I d81 8 2 th).toInt = (q_I r4 8 2 th).toInt := congrArg Int32.toInt (by rw [e82]; exact rI_o (by decide))
              have f122 := cb_8_2 i6 kth
              have f123 : (q_I r4 8 2 th).toInt = (q_I δ 8 2 th).toInt := congrArg Int32.toInt (u7 8 2 th (by decide))
              have f124 := cb_8_2 I kth
              have f125 := cb_8_2 i110 kth
              refine ok_at ((congrFun (congrFun (congrFun v116 9) 0) a0).trans hv0) ?_
              refine ok_gp ktp ?_
              refine ok_bind (k_X7_needSign L hN (a0 := tp) (x1 := (59 : Int32)) ktp (show (59 : Int) ≠ -1 by first | assumption | omega) i110) (fun r126 hr127 => ?_)
              obtain ⟨i128, ⟨u130, u131, u132⟩, p129⟩ := hr127
              have u133 := kp_t u115 u130
              have v134 : q_V r126 = q_V δ := (u131).trans v116
              have y135 : q_R r126 (Ad ad 7) = q_R δ (Ad ad 7) := (congrFun u132 (Ad ad 7)).trans y117
              have f136 := ti_b (q_I r108 7 5 tp)
              have f137 := ti_b (q_I r126 7 5 tp)
              refine ok_at ((congrFun (congrFun (congrFun v134 9) 1) a0).trans hv1) ?_
              refine ok_gp kth ?_
              have f140 := cb_8_2 i128 kth
              have f141 : (q_I r126 8 2 th).toInt = (q_I r108 8 2 th).toInt := congrArg Int32.toInt (u130 8 2 th (by decide))
              refine ok_bind (k_X8_add L hN (a0 := th) (x1 := (9 : Int32)) (x2 := r13.1) kth (show 0 ≤ (r13.1).toInt by first | assumption | omega) (show (9 : Int) = 1 → (r13.1).toInt < 4 by first | assumption | omega) (show (9 : Int) = 11 → (q_I r126 8 2 th).toInt < 500 → (r13.1).toInt < 500 by first | assumption | omega) i128) (fun r138 hr139 => ?_)
              obtain ⟨i142, ⟨u144, u145, u146⟩, p143⟩ := hr139
              have u147 := kp_t u133 u144
              have v148 : q_V r138 = q_V δ := (u145).trans v134
              have y149 : q_R r138 (Ad ad 7) = q_R δ (Ad ad 7) := (u146).trans y135
              have f150 := cb_8_2 i142 kth
              unfold J_X9_readStep_163
              have f151 := cb_9_4 i142 k_a0
              have f152 : (q_I r138 9 4 a0).toInt = (q_I r126 9 4 a0).toInt := congrArg Int32.toInt (u144 9 4 a0 (by decide))
              have f153 := cb_9_4 i128 k_a0
              have f154 : (q_I r126 9 4 a0).toInt = (q_I r108 9 4 a0).toInt := congrArg Int32.toInt (u130 9 4 a0 (by decide))
              have f155 := cb_9_4 i110 k_a0
              have f156 : (q_I r108 9 4 a0).toInt = (q_I d92 9 4 a0).toInt := congrArg Int32.toInt (u112 9 4 a0 (by decide))
              have f157 := cb_9_4 i94 k_a0
              have f158 : (q_I d92 9 4 a0).toInt = (q_I d81 9 4 a0).toInt := congrArg Int32.toInt (by rw [e93]; exact rI_o (by decide))
              have f159 := cb_9_4 i83 k_a0
              have f160 : (q_I d81 9 4 a0).toInt = (q_I r4 9 4 a0).toInt := congrArg Int32.toInt (by rw [e82]; exact rI_o (by decide))
              have f161 := cb_9_4 i6 k_a0
              have f162 : (q_I r4 9 4 a0).toInt = (q_I δ 9 4 a0).toInt := congrArg Int32.toInt (u7 9 4 a0 (by decide))
              exact ok_some (show CI ad h.1 δ0 r138 ∧ (kp [(7, 3), (7, 4), (7, 5), (7, 6), (8, 2), (8, 3), (9, 2), (9, 3), (9, 4)] δ r138 ∧ q_V r138 = q_V δ) ∧ LSn ad r138 th (q_I r138 9 4 a0).toInt from ⟨i142, ⟨kp_w (by decide) u147, v148⟩, (hls.t (by omega) y149).n (by omega)⟩)
            · have c163 : r20.1.toInt ≠ (0 : Int) := o_ne h79
              first | (have q168 := te_addc (c := 1) (n := 1) rfl (q_I r4 9 2 a0) (by omega) (by omega); obtain ⟨f169, f170, f171⟩ := q168) | (obtain ⟨q168, f169, f170, f171⟩ := ti_addc (c := 1) (n := 1) rfl (q_I r4 9 2 a0))
              refine ok_bdv (fun d164 e165 => ?_)
              have i166 : CI ad h.1 δ0 d164 := by rw [e165]; exact cs_9_2 L i6
              have u172 := kp_I u10 e165
              have v173 : q_V d164 = q_V δ := ((show q_V d164 = q_V r4 by rw [e165]; rfl)).trans v11
              have y174 : q_R d164 (Ad ad 7) = q_R δ (Ad ad 7) := ((show q_R d164 (Ad ad 7) = q_R r4 (Ad ad 7) by rw [e165]; rfl)).trans y12
              have f177 := cb_9_4 i166 k_a0
              have f178 : (q_I d164 9 4 a0).toInt = (q_I r4 9 4 a0).toInt := congrArg Int32.toInt (by rw [e165]; exact rI_o (by decide))
              have f179 := cb_9_4 i6 k_a0
              have f180 : (q_I r4 9 4 a0).toInt = (q_I δ 9 4 a0).toInt := congrArg Int32.toInt (u7 9 4 a0 (by decide))
              have f181 := cb_8_2 i166 kth
              have f182 : (q_I d164 8 2 th).toInt = (q_I r4 8 2 th).toInt := congrArg Int32.toInt (by rw [e165]; exact rI_o (by decide))
              have f183 := cb_8_2 i6 kth
              have f184 : (q_I r4 8 2 th).toInt = (q_I δ 8 2 th).toInt := congrArg Int32.toInt (u7 8 2 th (by decide))
              have f185 := cb_8_2 I kth
              refine ok_bind (k_X9_openLoop L hN (a0 := a0) k_a0 (show (q_I d164 9 4 a0).toInt < 3 by first | assumption | omega) ((congrFun (congrFun (congrFun v173 9) 0) a0).trans hv0) ((congrFun (congrFun (congrFun v173 9) 1) a0).trans hv1) ktp kth (show LSn ad d164 th (q_I d164 9 4 a0).toInt from (hls.t (by omega) y174).n (by omega)) i166) (fun r175 hr176 => ?_)
              obtain ⟨i186, ⟨u188, u189⟩, p187⟩ := hr176
              have u190 := kp_t u172 u188
              have v191 : q_V r175 = q_V δ := (u189).trans v173
              have f192 := cb_9_4 i186 k_a0
              unfold J_X9_readStep_163
              have f193 := cb_8_2 i186 kth
              exact ok_some (show CI ad h.1 δ0 r175 ∧ (kp [(7, 3), (7, 4), (7, 5), (7, 6), (8, 2), (8, 3), (9, 2), (9, 3), (9, 4)] δ r175 ∧ q_V r175 = q_V δ) ∧ LSn ad r175 th (q_I r175 9 4 a0).toInt from ⟨i186, ⟨kp_w (by decide) u190, v191⟩, p187.n (by omega)⟩)
          · have c194 : r20.1.toInt ≠ (0 : Int) := o_ne h77
            have f195 := cb_9_4 i6 k_a0
            have f196 : (q_I r4 9 4 a0).toInt = (q_I δ 9 4 a0).toInt := congrArg Int32.toInt (u7 9 4 a0 (by decide))
            refine ok_ite (fun h197 => ?_) (fun h197 => ?_)
            · have c198 : (q_I r4 9 4 a0).toInt < (3 : Int) := o_lt h197
              unfold J_X9_readStep_98
              refine ok_ite (fun h199 => ?_) (fun h199 => ?_)
              · have c200 : r20.1.toInt = (0 : Int) := o_eq h199
                first | (have q205 := te_addc (c := 1) (n := 1) rfl (q_I r4 9 2 a0) (by omega) (by omega); obtain ⟨f206, f207, f208⟩ := q205) | (obtain ⟨q205, f206, f207, f208⟩ := ti_addc (c := 1) (n := 1) rfl (q_I r4 9 2 a0))
                refine ok_bdv (fun d201 e202 => ?_)
                have i203 : CI ad h.1 δ0 d201 := by rw [e202]; exact cs_9_2 L i6
                have u209 := kp_I u10 e202
                have v210 : q_V d201 = q_V δ := ((show q_V d201 = q_V r4 by rw [e202]; rfl)).trans v11
                have y211 : q_R d201 (Ad ad 7) = q_R δ (Ad ad 7) := ((show q_R d201 (Ad ad 7) = q_R r4 (Ad ad 7) by rw [e202]; rfl)).trans y12
                have f215 := ti_b (q_I d201 9 3 a0)
                have f216 : (q_I d201 9 3 a0).toInt = (q_I r4 9 3 a0).toInt := congrArg Int32.toInt (by rw [e202]; exact rI_o (by decide))
                have f217 := ti_b (q_I r4 9 3 a0)
                have f218 : (q_I r4 9 3 a0).toInt = (q_I δ 9 3 a0).toInt := congrArg Int32.toInt (u7 9 3 a0 (by decide))
                have f219 := ti_b (q_I δ 9 3 a0)
                first | (have q221 := te_addc (c := 1) (n := 1) rfl (q_I d201 9 3 a0) (by omega) (by omega); obtain ⟨f222, f223, f224⟩ := q221) | (obtain ⟨q221, f222, f223, f224⟩ := ti_addc (c := 1) (n := 1) rfl (q_I d201 9 3 a0))
                refine ok_bdv (fun d212 e213 => ?_)
                have i214 : CI ad h.1 δ0 d212 := by rw [e213]; exact cs_9_3 L i203
                have u225 := kp_I u209 e213
                have v226 : q_V d212 = q_V δ := ((show q_V d212 = q_V d201 by rw [e213]; rfl)).trans v210
                have y227 : q_R d212 (Ad ad 7) = q_R δ (Ad ad 7) := ((show q_R d212 (Ad ad 7) = q_R d201 (Ad ad 7) by rw [e213]; rfl)).trans y211
                refine ok_bind (k_X9_readSum L hN (a0 := a0) (x1 := (0 : Int32)) k_a0 (show 0 ≤ (0 : Int) by first | assumption | omega) (show (0 : Int) ≤ 6 by first | assumption | omega) (show 6 - (0 : Int) < 20 by first | assumption | omega) ((congrFun (congrFun (congrFun v226 9) 0) a0).trans hv0) ((congrFun (congrFun (congrFun v226 9) 1) a0).trans hv1) ktp kth i214) (fun r228 hr229 => ?_)
                obtain ⟨i230, ⟨u232, u233, u234⟩, p231⟩ := hr229
                have u235 := kp_t u225 u232
                have v236 : q_V r228 = q_V δ := (u233).trans v226
                have y237 : q_R r228 (Ad ad 7) = q_R δ (Ad ad 7) := (u234).trans y227
                have f238 := cb_8_2 i214 kth
                have f239 : (q_I d212 8 2 th).toInt = (q_I d201 8 2 th).toInt := congrArg Int32.toInt (by rw [e213]; exact rI_o (by decide))
                have f240 := cb_8_2 i203 kth
                have f241 : (q_I d201 8 2 th).toInt = (q_I r4 8 2 th).toInt := congrArg Int32.toInt (by rw [e202]; exact rI_o (by decide))
                have f242 := cb_8_2 i6 kth
                have f243 : (q_I r4 8 2 th).toInt = (q_I δ 8 2 th).toInt := congrArg Int32.toInt (u7 8 2 th (by decide))
                have f244 := cb_8_2 I kth
                have f245 := cb_8_2 i230 kth
                refine ok_at ((congrFun (congrFun (congrFun v236 9) 0) a0).trans hv0) ?_
                refine ok_gp ktp ?_
                refine ok_bind (k_X7_needSign L hN (a0 := tp) (x1 := (59 : Int32)) ktp (show (59 : Int) ≠ -1 by first | assumption | omega) i230) (fun r246 hr247 => ?_)
                obtain ⟨i248, ⟨u250, u251, u252⟩, p249⟩ := hr247
                have u253 := kp_t u235 u250
                have v254 : q_V r246 = q_V δ := (u251).trans v236
                have y255 : q_R r246 (Ad ad 7) = q_R δ (Ad ad 7) := (congrFun u252 (Ad ad 7)).trans y237
                have f256 := ti_b (q_I r228 7 5 tp)
                have f257 := ti_b (q_I r246 7 5 tp)
                refine ok_at ((congrFun (congrFun (congrFun v254 9) 1) a0).trans hv1) ?_
                refine ok_gp kth ?_
                have f260 := cb_8_2 i248 kth
                have f261 : (q_I r246 8 2 th).toInt = (q_I r228 8 2 th).toInt := congrArg Int32.toInt (u250 8 2 th (by decide))
                refine ok_bind (k_X8_add L hN (a0 := th) (x1 := (9 : Int32)) (x2 := r13.1) kth (show 0 ≤ (r13.1).toInt by first | assumption | omega) (show (9 : Int) = 1 → (r13.1).toInt < 4 by first | assumption | omega) (show (9 : Int) = 11 → (q_I r246 8 2 th).toInt < 500 → (r13.1).toInt < 500 by first | assumption | omega) i248) (fun r258 hr259 => ?_)
                obtain ⟨i262, ⟨u264, u265, u266⟩, p263⟩ := hr259
                have u267 := kp_t u253 u264
                have v268 : q_V r258 = q_V δ := (u265).trans v254
                have y269 : q_R r258 (Ad ad 7) = q_R δ (Ad ad 7) := (u266).trans y255
                have f270 := cb_8_2 i262 kth
                unfold J_X9_readStep_163
                have f271 := cb_9_4 i262 k_a0
                have f272 : (q_I r258 9 4 a0).toInt = (q_I r246 9 4 a0).toInt := congrArg Int32.toInt (u264 9 4 a0 (by decide))
                have f273 := cb_9_4 i248 k_a0
                have f274 : (q_I r246 9 4 a0).toInt = (q_I r228 9 4 a0).toInt := congrArg Int32.toInt (u250 9 4 a0 (by decide))
                have f275 := cb_9_4 i230 k_a0
                have f276 : (q_I r228 9 4 a0).toInt = (q_I d212 9 4 a0).toInt := congrArg Int32.toInt (u232 9 4 a0 (by decide))
                have f277 := cb_9_4 i214 k_a0
                have f278 : (q_I d212 9 4 a0).toInt = (q_I d201 9 4 a0).toInt := congrArg Int32.toInt (by rw [e213]; exact rI_o (by decide))
                have f279 := cb_9_4 i203 k_a0
                have f280 : (q_I d201 9 4 a0).toInt = (q_I r4 9 4 a0).toInt := congrArg Int32.toInt (by rw [e202]; exact rI_o (by decide))
                exact ok_some (show CI ad h.1 δ0 r258 ∧ (kp [(7, 3), (7, 4), (7, 5), (7, 6), (8, 2), (8, 3), (9, 2), (9, 3), (9, 4)] δ r258 ∧ q_V r258 = q_V δ) ∧ LSn ad r258 th (q_I r258 9 4 a0).toInt from ⟨i262, ⟨kp_w (by decide) u267, v268⟩, (hls.t (by omega) y269).n (by omega)⟩)
              · have c281 : r20.1.toInt ≠ (0 : Int) := o_ne h199
                first | (have q286 := te_addc (c := 1) (n := 1) rfl (q_I r4 9 2 a0) (by omega) (by omega); obtain ⟨f287, f288, f289⟩ := q286) | (obtain ⟨q286, f287, f288, f289⟩ := ti_addc (c := 1) (n := 1) rfl (q_I r4 9 2 a0))
                refine ok_bdv (fun d282 e283 => ?_)
                have i284 : CI ad h.1 δ0 d282 := by rw [e283]; exact cs_9_2 L i6
                have u290 := kp_I u10 e283
                have v291 : q_V d282 = q_V δ := ((show q_V d282 = q_V r4 by rw [e283]; rfl)).trans v11
                have y292 : q_R d282 (Ad ad 7) = q_R δ (Ad ad 7) := ((show q_R d282 (Ad ad 7) = q_R r4 (Ad ad 7) by rw [e283]; rfl)).trans y12
                have f295 := cb_9_4 i284 k_a0
                have f296 : (q_I d282 9 4 a0).toInt = (q_I r4 9 4 a0).toInt := congrArg Int32.toInt (by rw [e283]; exact rI_o (by decide))
                have f297 := cb_8_2 i284 kth
                have f298 : (q_I d282 8 2 th).toInt = (q_I r4 8 2 th).toInt := congrArg Int32.toInt (by rw [e283]; exact rI_o (by decide))
                have f299 := cb_8_2 i6 kth
                have f300 : (q_I r4 8 2 th).toInt = (q_I δ 8 2 th).toInt := congrArg Int32.toInt (u7 8 2 th (by decide))
                have f301 := cb_8_2 I kth
                refine ok_bind (k_X9_openLoop L hN (a0 := a0) k_a0 (show (q_I d282 9 4 a0).toInt < 3 by first | assumption | omega) ((congrFun (congrFun (congrFun v291 9) 0) a0).trans hv0) ((congrFun (congrFun (congrFun v291 9) 1) a0).trans hv1) ktp kth (show LSn ad d282 th (q_I d282 9 4 a0).toInt from (hls.t (by omega) y292).n (by omega)) i284) (fun r293 hr294 => ?_)
                obtain ⟨i302, ⟨u304, u305⟩, p303⟩ := hr294
                have u306 := kp_t u290 u304
                have v307 : q_V r293 = q_V δ := (u305).trans v291
                have f308 := cb_9_4 i302 k_a0
                unfold J_X9_readStep_163
                have f309 := cb_8_2 i302 kth
                exact ok_some (show CI ad h.1 δ0 r293 ∧ (kp [(7, 3), (7, 4), (7, 5), (7, 6), (8, 2), (8, 3), (9, 2), (9, 3), (9, 4)] δ r293 ∧ q_V r293 = q_V δ) ∧ LSn ad r293 th (q_I r293 9 4 a0).toInt from ⟨i302, ⟨kp_w (by decide) u306, v307⟩, p303.n (by omega)⟩)
            · have c310 : (3 : Int) ≤ (q_I r4 9 4 a0).toInt := o_nlt h197
              unfold J_X9_readStep_87
              refine ok_at ((congrFun (congrFun (congrFun v11 9) 0) a0).trans hv0) ?_
              refine ok_gp ktp ?_
              refine ok_bind (k_X7_refuse L hN (a0 := tp) (x1 := (3 : Int32)) ktp (show (3 : Int) ≠ 0 by first | assumption | omega) i6) (fun r311 hr312 => ?_)
              obtain ⟨i313, ⟨u315, u316, u317⟩, p314⟩ := hr312
              have u318 := kp_t u10 u315
              have v319 : q_V r311 = q_V δ := (u316).trans v11
              have y320 : q_R r311 (Ad ad 7) = q_R δ (Ad ad 7) := (congrFun u317 (Ad ad 7)).trans y12
              have f321 := ti_b (q_I r311 7 5 tp)
              unfold J_X9_readStep_163
              have f322 := cb_9_4 i313 k_a0
              have f323 : (q_I r311 9 4 a0).toInt = (q_I r4 9 4 a0).toInt := congrArg Int32.toInt (u315 9 4 a0 (by decide))
              have f324 := cb_8_2 i313 kth
              have f325 : (q_I r311 8 2 th).toInt = (q_I r4 8 2 th).toInt := congrArg Int32.toInt (u315 8 2 th (by decide))
              have f326 := cb_8_2 i6 kth
              have f327 : (q_I r4 8 2 th).toInt = (q_I δ 8 2 th).toInt := congrArg Int32.toInt (u7 8 2 th (by decide))
              have f328 := cb_8_2 I kth
              exact ok_some (show CI ad h.1 δ0 r311 ∧ (kp [(7, 3), (7, 4), (7, 5), (7, 6), (8, 2), (8, 3), (9, 2), (9, 3), (9, 4)] δ r311 ∧ q_V r311 = q_V δ) ∧ LSn ad r311 th (q_I r311 9 4 a0).toInt from ⟨i313, ⟨kp_w (by decide) u318, v319⟩, (hls.t (by omega) y320).n (by omega)⟩)
    · have c329 : r13.1.toInt ≠ (-1 : Int) := o_ne h26
      unfold J_X9_readStep_66
      have f330 := ti_b (q_I r4 9 2 a0)
      have f331 : (q_I r4 9 2 a0).toInt = (q_I δ 9 2 a0).toInt := congrArg Int32.toInt (u7 9 2 a0 (by decide))
      have f332 := ti_b (q_I δ 9 2 a0)
      refine ok_ite (fun h333 => ?_) (fun h333 => ?_)
      · have c334 : (60 : Int) ≤ (q_I r4 9 2 a0).toInt := o_le h333
        unfold J_X9_readStep_87
        refine ok_at ((congrFun (congrFun (congrFun v11 9) 0) a0).trans hv0) ?_
        refine ok_gp ktp ?_
        refine ok_bind (k_X7_refuse L hN (a0 := tp) (x1 := (3 : Int32)) ktp (show (3 : Int) ≠ 0 by first | assumption | omega) i6) (fun r335 hr336 => ?_)
        obtain ⟨i337, ⟨u339, u340, u341⟩, p338⟩ := hr336
        have u342 := kp_t u10 u339
        have v343 : q_V r335 = q_V δ := (u340).trans v11
        have y344 : q_R r335 (Ad ad 7) = q_R δ (Ad ad 7) := (congrFun u341 (Ad ad 7)).trans y12
        have f345 := ti_b (q_I r335 7 5 tp)
        unfold J_X9_readStep_163
        have f346 := cb_9_4 i337 k_a0
        have f347 : (q_I r335 9 4 a0).toInt = (q_I r4 9 4 a0).toInt := congrArg Int32.toInt (u339 9 4 a0 (by decide))
        have f348 := cb_9_4 i6 k_a0
        have f349 : (q_I r4 9 4 a0).toInt = (q_I δ 9 4 a0).toInt := congrArg Int32.toInt (u7 9 4 a0 (by decide))
        have f350 := cb_8_2 i337 kth
        have f351 : (q_I r335 8 2 th).toInt = (q_I r4 8 2 th).toInt := congrArg Int32.toInt (u339 8 2 th (by decide))
        have f352 := cb_8_2 i6 kth
        have f353 : (q_I r4 8 2 th).toInt = (q_I δ 8 2 th).toInt := congrArg Int32.toInt (u7 8 2 th (by decide))
        have f354 := cb_8_2 I kth
        exact ok_some (show CI ad h.1 δ0 r335 ∧ (kp [(7, 3), (7, 4), (7, 5), (7, 6), (8, 2), (8, 3), (9, 2), (9, 3), (9, 4)] δ r335 ∧ q_V r335 = q_V δ) ∧ LSn ad r335 th (q_I r335 9 4 a0).toInt from ⟨i337, ⟨kp_w (by decide) u342, v343⟩, (hls.t (by omega) y344).n (by omega)⟩)
      · have c355 : (q_I r4 9 2 a0).toInt < (60 : Int) := o_nle h333
        refine ok_ite (fun h356 => ?_) (fun h356 => ?_)
        · have c357 : r20.1.toInt = (0 : Int) := o_eq h356
          unfold J_X9_readStep_98
          refine ok_ite (fun h358 => ?_) (fun h358 => ?_)
          · have c359 : r20.1.toInt = (0 : Int) := o_eq h358
            first | (have q364 := te_addc (c := 1) (n := 1) rfl (q_I r4 9 2 a0) (by omega) (by omega); obtain ⟨f365, f366, f367⟩ := q364) | (obtain ⟨q364, f365, f366, f367⟩ := ti_addc (c := 1) (n := 1) rfl (q_I r4 9 2 a0))
            refine ok_bdv (fun d360 e361 => ?_)
            have i362 : CI ad h.1 δ0 d360 := by rw [e361]; exact cs_9_2 L i6
            have u368 := kp_I u10 e361
            have v369 : q_V d360 = q_V δ := ((show q_V d360 = q_V r4 by rw [e361]; rfl)).trans v11
            have y370 : q_R d360 (Ad ad 7) = q_R δ (Ad ad 7) := ((show q_R d360 (Ad ad 7) = q_R r4 (Ad ad 7) by rw [e361]; rfl)).trans y12
            have f374 := ti_b (q_I d360 9 3 a0)
            have f375 : (q_I d360 9 3 a0).toInt = (q_I r4 9 3 a0).toInt := congrArg Int32.toInt (by rw [e361]; exact rI_o (by decide))
            have f376 := ti_b (q_I r4 9 3 a0)
            have f377 : (q_I r4 9 3 a0).toInt = (q_I δ 9 3 a0).toInt := congrArg Int32.toInt (u7 9 3 a0 (by decide))
            have f378 := ti_b (q_I δ 9 3 a0)
            first | (have q380 := te_addc (c := 1) (n := 1) rfl (q_I d360 9 3 a0) (by omega) (by omega); obtain ⟨f381, f382, f383⟩ := q380) | (obtain ⟨q380, f381, f382, f383⟩ := ti_addc (c := 1) (n := 1) rfl (q_I d360 9 3 a0))
            refine ok_bdv (fun d371 e372 => ?_)
            have i373 : CI ad h.1 δ0 d371 := by rw [e372]; exact cs_9_3 L i362
            have u384 := kp_I u368 e372
            have v385 : q_V d371 = q_V δ := ((show q_V d371 = q_V d360 by rw [e372]; rfl)).trans v369
            have y386 : q_R d371 (Ad ad 7) = q_R δ (Ad ad 7) := ((show q_R d371 (Ad ad 7) = q_R d360 (Ad ad 7) by rw [e372]; rfl)).trans y370
            refine ok_bind (k_X9_readSum L hN (a0 := a0) (x1 := (0 : Int32)) k_a0 (show 0 ≤ (0 : Int) by first | assumption | omega) (show (0 : Int) ≤ 6 by first | assumption | omega) (show 6 - (0 : Int) < 20 by first | assumption | omega) ((congrFun (congrFun (congrFun v385 9) 0) a0).trans hv0) ((congrFun (congrFun (congrFun v385 9) 1) a0).trans hv1) ktp kth i373) (fun r387 hr388 => ?_)
            obtain ⟨i389, ⟨u391, u392, u393⟩, p390⟩ := hr388
            have u394 := kp_t u384 u391
            have v395 : q_V r387 = q_V δ := (u392).trans v385
            have y396 : q_R r387 (Ad ad 7) = q_R δ (Ad ad 7) := (u393).trans y386
            have f397 := cb_8_2 i373 kth
            have f398 : (q_I d371 8 2 th).toInt = (q_I d360 8 2 th).toInt := congrArg Int32.toInt (by rw [e372]; exact rI_o (by decide))
            have f399 := cb_8_2 i362 kth
            have f400 : (q_I d360 8 2 th).toInt = (q_I r4 8 2 th).toInt := congrArg Int32.toInt (by rw [e361]; exact rI_o (by decide))
            have f401 := cb_8_2 i6 kth
            have f402 : (q_I r4 8 2 th).toInt = (q_I δ 8 2 th).toInt := congrArg Int32.toInt (u7 8 2 th (by decide))
            have f403 := cb_8_2 I kth
            have f404 := cb_8_2 i389 kth
            refine ok_at ((congrFun (congrFun (congrFun v395 9) 0) a0).trans hv0) ?_
            refine ok_gp ktp ?_
            refine ok_bind (k_X7_needSign L hN (a0 := tp) (x1 := (59 : Int32)) ktp (show (59 : Int) ≠ -1 by first | assumption | omega) i389) (fun r405 hr406 => ?_)
            obtain ⟨i407, ⟨u409, u410, u411⟩, p408⟩ := hr406
            have u412 := kp_t u394 u409
            have v413 : q_V r405 = q_V δ := (u410).trans v395
            have y414 : q_R r405 (Ad ad 7) = q_R δ (Ad ad 7) := (congrFun u411 (Ad ad 7)).trans y396
            have f415 := ti_b (q_I r387 7 5 tp)
            have f416 := ti_b (q_I r405 7 5 tp)
            refine ok_at ((congrFun (congrFun (congrFun v413 9) 1) a0).trans hv1) ?_
            refine ok_gp kth ?_
            have f419 := cb_8_2 i407 kth
            have f420 : (q_I r405 8 2 th).toInt = (q_I r387 8 2 th).toInt := congrArg Int32.toInt (u409 8 2 th (by decide))
            refine ok_bind (k_X8_add L hN (a0 := th) (x1 := (9 : Int32)) (x2 := r13.1) kth (show 0 ≤ (r13.1).toInt by first | assumption | omega) (show (9 : Int) = 1 → (r13.1).toInt < 4 by first | assumption | omega) (show (9 : Int) = 11 → (q_I r405 8 2 th).toInt < 500 → (r13.1).toInt < 500 by first | assumption | omega) i407) (fun r417 hr418 => ?_)
            obtain ⟨i421, ⟨u423, u424, u425⟩, p422⟩ := hr418
            have u426 := kp_t u412 u423
            have v427 : q_V r417 = q_V δ := (u424).trans v413
            have y428 : q_R r417 (Ad ad 7) = q_R δ (Ad ad 7) := (u425).trans y414
            have f429 := cb_8_2 i421 kth
            unfold J_X9_readStep_163
            have f430 := cb_9_4 i421 k_a0
            have f431 : (q_I r417 9 4 a0).toInt = (q_I r405 9 4 a0).toInt := congrArg Int32.toInt (u423 9 4 a0 (by decide))
            have f432 := cb_9_4 i407 k_a0
            have f433 : (q_I r405 9 4 a0).toInt = (q_I r387 9 4 a0).toInt := congrArg Int32.toInt (u409 9 4 a0 (by decide))
            have f434 := cb_9_4 i389 k_a0
            have f435 : (q_I r387 9 4 a0).toInt = (q_I d371 9 4 a0).toInt := congrArg Int32.toInt (u391 9 4 a0 (by decide))
            have f436 := cb_9_4 i373 k_a0
            have f437 : (q_I d371 9 4 a0).toInt = (q_I d360 9 4 a0).toInt := congrArg Int32.toInt (by rw [e372]; exact rI_o (by decide))
            have f438 := cb_9_4 i362 k_a0
            have f439 : (q_I d360 9 4 a0).toInt = (q_I r4 9 4 a0).toInt := congrArg Int32.toInt (by rw [e361]; exact rI_o (by decide))
            have f440 := cb_9_4 i6 k_a0
            have f441 : (q_I r4 9 4 a0).toInt = (q_I δ 9 4 a0).toInt := congrArg Int32.toInt (u7 9 4 a0 (by decide))
            exact ok_some (show CI ad h.1 δ0 r417 ∧ (kp [(7, 3), (7, 4), (7, 5), (7, 6), (8, 2), (8, 3), (9, 2), (9, 3), (9, 4)] δ r417 ∧ q_V r417 = q_V δ) ∧ LSn ad r417 th (q_I r417 9 4 a0).toInt from ⟨i421, ⟨kp_w (by decide) u426, v427⟩, (hls.t (by omega) y428).n (by omega)⟩)
          · have c442 : r20.1.toInt ≠ (0 : Int) := o_ne h358
            first | (have q447 := te_addc (c := 1) (n := 1) rfl (q_I r4 9 2 a0) (by omega) (by omega); obtain ⟨f448, f449, f450⟩ := q447) | (obtain ⟨q447, f448, f449, f450⟩ := ti_addc (c := 1) (n := 1) rfl (q_I r4 9 2 a0))
            refine ok_bdv (fun d443 e444 => ?_)
            have i445 : CI ad h.1 δ0 d443 := by rw [e444]; exact cs_9_2 L i6
            have u451 := kp_I u10 e444
            have v452 : q_V d443 = q_V δ := ((show q_V d443 = q_V r4 by rw [e444]; rfl)).trans v11
            have y453 : q_R d443 (Ad ad 7) = q_R δ (Ad ad 7) := ((show q_R d443 (Ad ad 7) = q_R r4 (Ad ad 7) by rw [e444]; rfl)).trans y12
            have f456 := cb_9_4 i445 k_a0
            have f457 : (q_I d443 9 4 a0).toInt = (q_I r4 9 4 a0).toInt := congrArg Int32.toInt (by rw [e444]; exact rI_o (by decide))
            have f458 := cb_9_4 i6 k_a0
            have f459 : (q_I r4 9 4 a0).toInt = (q_I δ 9 4 a0).toInt := congrArg Int32.toInt (u7 9 4 a0 (by decide))
            have f460 := cb_8_2 i445 kth
            have f461 : (q_I d443 8 2 th).toInt = (q_I r4 8 2 th).toInt := congrArg Int32.toInt (by rw [e444]; exact rI_o (by decide))
            have f462 := cb_8_2 i6 kth
            have f463 : (q_I r4 8 2 th).toInt = (q_I δ 8 2 th).toInt := congrArg Int32.toInt (u7 8 2 th (by decide))
            have f464 := cb_8_2 I kth
            refine ok_bind (k_X9_openLoop L hN (a0 := a0) k_a0 (show (q_I d443 9 4 a0).toInt < 3 by first | assumption | omega) ((congrFun (congrFun (congrFun v452 9) 0) a0).trans hv0) ((congrFun (congrFun (congrFun v452 9) 1) a0).trans hv1) ktp kth (show LSn ad d443 th (q_I d443 9 4 a0).toInt from (hls.t (by omega) y453).n (by omega)) i445) (fun r454 hr455 => ?_)
            obtain ⟨i465, ⟨u467, u468⟩, p466⟩ := hr455
            have u469 := kp_t u451 u467
            have v470 : q_V r454 = q_V δ := (u468).trans v452
            have f471 := cb_9_4 i465 k_a0
            unfold J_X9_readStep_163
            have f472 := cb_8_2 i465 kth
            exact ok_some (show CI ad h.1 δ0 r454 ∧ (kp [(7, 3), (7, 4), (7, 5), (7, 6), (8, 2), (8, 3), (9, 2), (9, 3), (9, 4)] δ r454 ∧ q_V r454 = q_V δ) ∧ LSn ad r454 th (q_I r454 9 4 a0).toInt from ⟨i465, ⟨kp_w (by decide) u469, v470⟩, p466.n (by omega)⟩)
        · have c473 : r20.1.toInt ≠ (0 : Int) := o_ne h356
          have f474 := cb_9_4 i6 k_a0
          have f475 : (q_I r4 9 4 a0).toInt = (q_I δ 9 4 a0).toInt := congrArg Int32.toInt (u7 9 4 a0 (by decide))
          refine ok_ite (fun h476 => ?_) (fun h476 => ?_)
          · have c477 : (q_I r4 9 4 a0).toInt < (3 : Int) := o_lt h476
            unfold J_X9_readStep_98
            refine ok_ite (fun h478 => ?_) (fun h478 => ?_)
            · have c479 : r20.1.toInt = (0 : Int) := o_eq h478
              first | (have q484 := te_addc (c := 1) (n := 1) rfl (q_I r4 9 2 a0) (by omega) (by omega); obtain ⟨f485, f486, f487⟩ := q484) | (obtain ⟨q484, f485, f486, f487⟩ := ti_addc (c := 1) (n := 1) rfl (q_I r4 9 2 a0))
              refine ok_bdv (fun d480 e481 => ?_)
              have i482 : CI ad h.1 δ0 d480 := by rw [e481]; exact cs_9_2 L i6
              have u488 := kp_I u10 e481
              have v489 : q_V d480 = q_V δ := ((show q_V d480 = q_V r4 by rw [e481]; rfl)).trans v11
              have y490 : q_R d480 (Ad ad 7) = q_R δ (Ad ad 7) := ((show q_R d480 (Ad ad 7) = q_R r4 (Ad ad 7) by rw [e481]; rfl)).trans y12
              have f494 := ti_b (q_I d480 9 3 a0)
              have f495 : (q_I d480 9 3 a0).toInt = (q_I r4 9 3 a0).toInt := congrArg Int32.toInt (by rw [e481]; exact rI_o (by decide))
              have f496 := ti_b (q_I r4 9 3 a0)
              have f497 : (q_I r4 9 3 a0).toInt = (q_I δ 9 3 a0).toInt := congrArg Int32.toInt (u7 9 3 a0 (by decide))
              have f498 := ti_b (q_I δ 9 3 a0)
              first | (have q500 := te_addc (c := 1) (n := 1) rfl (q_I d480 9 3 a0) (by omega) (by omega); obtain ⟨f501, f502, f503⟩ := q500) | (obtain ⟨q500, f501, f502, f503⟩ := ti_addc (c := 1) (n := 1) rfl (q_I d480 9 3 a0))
              refine ok_bdv (fun d491 e492 => ?_)
              have i493 : CI ad h.1 δ0 d491 := by rw [e492]; exact cs_9_3 L i482
              have u504 := kp_I u488 e492
              have v505 : q_V d491 = q_V δ := ((show q_V d491 = q_V d480 by rw [e492]; rfl)).trans v489
              have y506 : q_R d491 (Ad ad 7) = q_R δ (Ad ad 7) := ((show q_R d491 (Ad ad 7) = q_R d480 (Ad ad 7) by rw [e492]; rfl)).trans y490
              refine ok_bind (k_X9_readSum L hN (a0 := a0) (x1 := (0 : Int32)) k_a0 (show 0 ≤ (0 : Int) by first | assumption | omega) (show (0 : Int) ≤ 6 by first | assumption | omega) (show 6 - (0 : Int) < 20 by first | assumption | omega) ((congrFun (congrFun (congrFun v505 9) 0) a0).trans hv0) ((congrFun (congrFun (congrFun v505 9) 1) a0).trans hv1) ktp kth i493) (fun r507 hr508 => ?_)
              obtain ⟨i509, ⟨u511, u512, u513⟩, p510⟩ := hr508
              have u514 := kp_t u504 u511
              have v515 : q_V r507 = q_V δ := (u512).trans v505
              have y516 : q_R r507 (Ad ad 7) = q_R δ (Ad ad 7) := (u513).trans y506
              have f517 := cb_8_2 i493 kth
              have f518 : (q_I d491 8 2 th).toInt = (q_I d480 8 2 th).toInt := congrArg Int32.toInt (by rw [e492]; exact rI_o (by decide))
              have f519 := cb_8_2 i482 kth
              have f520 : (q_I d480 8 2 th).toInt = (q_I r4 8 2 th).toInt := congrArg Int32.toInt (by rw [e481]; exact rI_o (by decide))
              have f521 := cb_8_2 i6 kth
              have f522 : (q_I r4 8 2 th).toInt = (q_I δ 8 2 th).toInt := congrArg Int32.toInt (u7 8 2 th (by decide))
              have f523 := cb_8_2 I kth
              have f524 := cb_8_2 i509 kth
              refine ok_at ((congrFun (congrFun (congrFun v515 9) 0) a0).trans hv0) ?_
              refine ok_gp ktp ?_
              refine ok_bind (k_X7_needSign L hN (a0 := tp) (x1 := (59 : Int32)) ktp (show (59 : Int) ≠ -1 by first | assumption | omega) i509) (fun r525 hr526 => ?_)
              obtain ⟨i527, ⟨u529, u530, u531⟩, p528⟩ := hr526
              have u532 := kp_t u514 u529
              have v533 : q_V r525 = q_V δ := (u530).trans v515
              have y534 : q_R r525 (Ad ad 7) = q_R δ (Ad ad 7) := (congrFun u531 (Ad ad 7)).trans y516
              have f535 := ti_b (q_I r507 7 5 tp)
              have f536 := ti_b (q_I r525 7 5 tp)
              refine ok_at ((congrFun (congrFun (congrFun v533 9) 1) a0).trans hv1) ?_
              refine ok_gp kth ?_
              have f539 := cb_8_2 i527 kth
              have f540 : (q_I r525 8 2 th).toInt = (q_I r507 8 2 th).toInt := congrArg Int32.toInt (u529 8 2 th (by decide))
              refine ok_bind (k_X8_add L hN (a0 := th) (x1 := (9 : Int32)) (x2 := r13.1) kth (show 0 ≤ (r13.1).toInt by first | assumption | omega) (show (9 : Int) = 1 → (r13.1).toInt < 4 by first | assumption | omega) (show (9 : Int) = 11 → (q_I r525 8 2 th).toInt < 500 → (r13.1).toInt < 500 by first | assumption | omega) i527) (fun r537 hr538 => ?_)
              obtain ⟨i541, ⟨u543, u544, u545⟩, p542⟩ := hr538
              have u546 := kp_t u532 u543
              have v547 : q_V r537 = q_V δ := (u544).trans v533
              have y548 : q_R r537 (Ad ad 7) = q_R δ (Ad ad 7) := (u545).trans y534
              have f549 := cb_8_2 i541 kth
              unfold J_X9_readStep_163
              have f550 := cb_9_4 i541 k_a0
              have f551 : (q_I r537 9 4 a0).toInt = (q_I r525 9 4 a0).toInt := congrArg Int32.toInt (u543 9 4 a0 (by decide))
              have f552 := cb_9_4 i527 k_a0
              have f553 : (q_I r525 9 4 a0).toInt = (q_I r507 9 4 a0).toInt := congrArg Int32.toInt (u529 9 4 a0 (by decide))
              have f554 := cb_9_4 i509 k_a0
              have f555 : (q_I r507 9 4 a0).toInt = (q_I d491 9 4 a0).toInt := congrArg Int32.toInt (u511 9 4 a0 (by decide))
              have f556 := cb_9_4 i493 k_a0
              have f557 : (q_I d491 9 4 a0).toInt = (q_I d480 9 4 a0).toInt := congrArg Int32.toInt (by rw [e492]; exact rI_o (by decide))
              have f558 := cb_9_4 i482 k_a0
              have f559 : (q_I d480 9 4 a0).toInt = (q_I r4 9 4 a0).toInt := congrArg Int32.toInt (by rw [e481]; exact rI_o (by decide))
              exact ok_some (show CI ad h.1 δ0 r537 ∧ (kp [(7, 3), (7, 4), (7, 5), (7, 6), (8, 2), (8, 3), (9, 2), (9, 3), (9, 4)] δ r537 ∧ q_V r537 = q_V δ) ∧ LSn ad r537 th (q_I r537 9 4 a0).toInt from ⟨i541, ⟨kp_w (by decide) u546, v547⟩, (hls.t (by omega) y548).n (by omega)⟩)
            · have c560 : r20.1.toInt ≠ (0 : Int) := o_ne h478
              first | (have q565 := te_addc (c := 1) (n := 1) rfl (q_I r4 9 2 a0) (by omega) (by omega); obtain ⟨f566, f567, f568⟩ := q565) | (obtain ⟨q565, f566, f567, f568⟩ := ti_addc (c := 1) (n := 1) rfl (q_I r4 9 2 a0))
              refine ok_bdv (fun d561 e562 => ?_)
              have i563 : CI ad h.1 δ0 d561 := by rw [e562]; exact cs_9_2 L i6
              have u569 := kp_I u10 e562
              have v570 : q_V d561 = q_V δ := ((show q_V d561 = q_V r4 by rw [e562]; rfl)).trans v11
              have y571 : q_R d561 (Ad ad 7) = q_R δ (Ad ad 7) := ((show q_R d561 (Ad ad 7) = q_R r4 (Ad ad 7) by rw [e562]; rfl)).trans y12
              have f574 := cb_9_4 i563 k_a0
              have f575 : (q_I d561 9 4 a0).toInt = (q_I r4 9 4 a0).toInt := congrArg Int32.toInt (by rw [e562]; exact rI_o (by decide))
              have f576 := cb_8_2 i563 kth
              have f577 : (q_I d561 8 2 th).toInt = (q_I r4 8 2 th).toInt := congrArg Int32.toInt (by rw [e562]; exact rI_o (by decide))
              have f578 := cb_8_2 i6 kth
              have f579 : (q_I r4 8 2 th).toInt = (q_I δ 8 2 th).toInt := congrArg Int32.toInt (u7 8 2 th (by decide))
              have f580 := cb_8_2 I kth
              refine ok_bind (k_X9_openLoop L hN (a0 := a0) k_a0 (show (q_I d561 9 4 a0).toInt < 3 by first | assumption | omega) ((congrFun (congrFun (congrFun v570 9) 0) a0).trans hv0) ((congrFun (congrFun (congrFun v570 9) 1) a0).trans hv1) ktp kth (show LSn ad d561 th (q_I d561 9 4 a0).toInt from (hls.t (by omega) y571).n (by omega)) i563) (fun r572 hr573 => ?_)
              obtain ⟨i581, ⟨u583, u584⟩, p582⟩ := hr573
              have u585 := kp_t u569 u583
              have v586 : q_V r572 = q_V δ := (u584).trans v570
              have f587 := cb_9_4 i581 k_a0
              unfold J_X9_readStep_163
              have f588 := cb_8_2 i581 kth
              exact ok_some (show CI ad h.1 δ0 r572 ∧ (kp [(7, 3), (7, 4), (7, 5), (7, 6), (8, 2), (8, 3), (9, 2), (9, 3), (9, 4)] δ r572 ∧ q_V r572 = q_V δ) ∧ LSn ad r572 th (q_I r572 9 4 a0).toInt from ⟨i581, ⟨kp_w (by decide) u585, v586⟩, p582.n (by omega)⟩)
          · have c589 : (3 : Int) ≤ (q_I r4 9 4 a0).toInt := o_nlt h476
            unfold J_X9_readStep_87
            refine ok_at ((congrFun (congrFun (congrFun v11 9) 0) a0).trans hv0) ?_
            refine ok_gp ktp ?_
            refine ok_bind (k_X7_refuse L hN (a0 := tp) (x1 := (3 : Int32)) ktp (show (3 : Int) ≠ 0 by first | assumption | omega) i6) (fun r590 hr591 => ?_)
            obtain ⟨i592, ⟨u594, u595, u596⟩, p593⟩ := hr591
            have u597 := kp_t u10 u594
            have v598 : q_V r590 = q_V δ := (u595).trans v11
            have y599 : q_R r590 (Ad ad 7) = q_R δ (Ad ad 7) := (congrFun u596 (Ad ad 7)).trans y12
            have f600 := ti_b (q_I r590 7 5 tp)
            unfold J_X9_readStep_163
            have f601 := cb_9_4 i592 k_a0
            have f602 : (q_I r590 9 4 a0).toInt = (q_I r4 9 4 a0).toInt := congrArg Int32.toInt (u594 9 4 a0 (by decide))
            have f603 := cb_8_2 i592 kth
            have f604 : (q_I r590 8 2 th).toInt = (q_I r4 8 2 th).toInt := congrArg Int32.toInt (u594 8 2 th (by decide))
            have f605 := cb_8_2 i6 kth
            have f606 : (q_I r4 8 2 th).toInt = (q_I δ 8 2 th).toInt := congrArg Int32.toInt (u7 8 2 th (by decide))
            have f607 := cb_8_2 I kth
            exact ok_some (show CI ad h.1 δ0 r590 ∧ (kp [(7, 3), (7, 4), (7, 5), (7, 6), (8, 2), (8, 3), (9, 2), (9, 3), (9, 4)] δ r590 ∧ q_V r590 = q_V δ) ∧ LSn ad r590 th (q_I r590 9 4 a0).toInt from ⟨i592, ⟨kp_w (by decide) u597, v598⟩, (hls.t (by omega) y599).n (by omega)⟩)
  · have c608 : (0 : Int) < (q_I δ 9 4 a0).toInt := o_nle h2
    refine ok_at ((rfl).trans hv0) ?_
    refine ok_gp ktp ?_
    refine ok_bind (k_X7_takeSign L hN (a0 := tp) (x1 := (93 : Int32)) ktp (show (93 : Int) ≠ -1 by first | assumption | omega) I) (fun r609 hr610 => ?_)
    obtain ⟨i611, ⟨u613, u614, u615⟩, p612⟩ := hr610
    have u616 := kp_t kp_r u613
    have v617 : q_V r609.2 = q_V δ := (u614).trans rfl
    have y618 : q_R r609.2 (Ad ad 7) = q_R δ (Ad ad 7) := (congrFun u615 (Ad ad 7)).trans rfl
    have f619 := bo_t p612
    have f620 := ti_b r609.1
    refine ok_ite (fun h621 => ?_) (fun h621 => ?_)
    · have c622 : r609.1.toInt = (0 : Int) := o_eq h621
      unfold J_X9_readStep_24
      refine ok_at ((congrFun (congrFun (congrFun v617 9) 0) a0).trans hv0) ?_
      refine ok_gp ktp ?_
      refine ok_bind (k_X7_readWord L hN (a0 := tp) ktp i611) (fun r623 hr624 => ?_)
      obtain ⟨i625, ⟨u626, u627, u628⟩⟩ := hr624
      have u629 := kp_t u616 u626
      have v630 : q_V r623 = q_V δ := (u627).trans v617
      have y631 : q_R r623 (Ad ad 7) = q_R δ (Ad ad 7) := (congrFun u628 (Ad ad 7)).trans y618
      refine ok_bind (k_X9_callOfWord L hN (a0 := a0) k_a0 ((congrFun (congrFun (congrFun v630 9) 0) a0).trans hv0) ((congrFun (congrFun (congrFun v630 9) 1) a0).trans hv1) ktp kth i625) (fun r632 hr633 => ?_)
      obtain ⟨i634, p635, p636⟩ := hr633
      try rw [i634]
      have f637 := ti_b r632.1
      have f638 := ti_b r632.1
      refine ok_at ((congrFun (congrFun (congrFun v630 9) 0) a0).trans hv0) ?_
      refine ok_gp ktp ?_
      refine ok_bind (k_X7_wordIs L hN (a0 := tp) (a1 := 10) ktp (show 10 < 16 by first | assumption | omega) i625) (fun r639 hr640 => ?_)
      obtain ⟨i641, p642⟩ := hr640
      try rw [i641]
      have f643 := bo_t p642
      have f644 := ti_b r639.1
      refine ok_ite (fun h645 => ?_) (fun h645 => ?_)
      · have c646 : r632.1.toInt = (-1 : Int) := o_eq h645
        refine ok_ite (fun h647 => ?_) (fun h647 => ?_)
        · have c648 : r639.1.toInt = (0 : Int) := o_eq h647
          refine ok_at ((congrFun (congrFun (congrFun v630 9) 0) a0).trans hv0) ?_
          refine ok_gp ktp ?_
          refine ok_bind (k_X7_refuse L hN (a0 := tp) (x1 := (1 : Int32)) ktp (show (1 : Int) ≠ 0 by first | assumption | omega) i625) (fun r649 hr650 => ?_)
          obtain ⟨i651, ⟨u653, u654, u655⟩, p652⟩ := hr650
          have u656 := kp_t u629 u653
          have v657 : q_V r649 = q_V δ := (u654).trans v630
          have y658 : q_R r649 (Ad ad 7) = q_R δ (Ad ad 7) := (congrFun u655 (Ad ad 7)).trans y631
          have f659 := ti_b (q_I r649 7 5 tp)
          unfold J_X9_readStep_163
          have f660 := cb_9_4 i651 k_a0
          have f661 : (q_I r649 9 4 a0).toInt = (q_I r623 9 4 a0).toInt := congrArg Int32.toInt (u653 9 4 a0 (by decide))
          have f662 := cb_9_4 i625 k_a0
          have f663 : (q_I r623 9 4 a0).toInt = (q_I r609.2 9 4 a0).toInt := congrArg Int32.toInt (u626 9 4 a0 (by decide))
          have f664 := cb_9_4 i611 k_a0
          have f665 : (q_I r609.2 9 4 a0).toInt = (q_I δ 9 4 a0).toInt := congrArg Int32.toInt (u613 9 4 a0 (by decide))
          have f666 := cb_8_2 i651 kth
          have f667 : (q_I r649 8 2 th).toInt = (q_I r623 8 2 th).toInt := congrArg Int32.toInt (u653 8 2 th (by decide))
          have f668 := cb_8_2 i625 kth
          have f669 : (q_I r623 8 2 th).toInt = (q_I r609.2 8 2 th).toInt := congrArg Int32.toInt (u626 8 2 th (by decide))
          have f670 := cb_8_2 i611 kth
          have f671 : (q_I r609.2 8 2 th).toInt = (q_I δ 8 2 th).toInt := congrArg Int32.toInt (u613 8 2 th (by decide))
          have f672 := cb_8_2 I kth
          exact ok_some (show CI ad h.1 δ0 r649 ∧ (kp [(7, 3), (7, 4), (7, 5), (7, 6), (8, 2), (8, 3), (9, 2), (9, 3), (9, 4)] δ r649 ∧ q_V r649 = q_V δ) ∧ LSn ad r649 th (q_I r649 9 4 a0).toInt from ⟨i651, ⟨kp_w (by decide) u656, v657⟩, (hls.t (by omega) y658).n (by omega)⟩)
        · have c673 : r639.1.toInt ≠ (0 : Int) := o_ne h647
          unfold J_X9_readStep_66
          have f674 := ti_b (q_I r623 9 2 a0)
          have f675 : (q_I r623 9 2 a0).toInt = (q_I r609.2 9 2 a0).toInt := congrArg Int32.toInt (u626 9 2 a0 (by decide))
          have f676 := ti_b (q_I r609.2 9 2 a0)
          have f677 : (q_I r609.2 9 2 a0).toInt = (q_I δ 9 2 a0).toInt := congrArg Int32.toInt (u613 9 2 a0 (by decide))
          have f678 := ti_b (q_I δ 9 2 a0)
          refine ok_ite (fun h679 => ?_) (fun h679 => ?_)
          · have c680 : (60 : Int) ≤ (q_I r623 9 2 a0).toInt := o_le h679
            unfold J_X9_readStep_87
            refine ok_at ((congrFun (congrFun (congrFun v630 9) 0) a0).trans hv0) ?_
            refine ok_gp ktp ?_
            refine ok_bind (k_X7_refuse L hN (a0 := tp) (x1 := (3 : Int32)) ktp (show (3 : Int) ≠ 0 by first | assumption | omega) i625) (fun r681 hr682 => ?_)
            obtain ⟨i683, ⟨u685, u686, u687⟩, p684⟩ := hr682
            have u688 := kp_t u629 u685
            have v689 : q_V r681 = q_V δ := (u686).trans v630
            have y690 : q_R r681 (Ad ad 7) = q_R δ (Ad ad 7) := (congrFun u687 (Ad ad 7)).trans y631
            have f691 := ti_b (q_I r681 7 5 tp)
            unfold J_X9_readStep_163
            have f692 := cb_9_4 i683 k_a0
            have f693 : (q_I r681 9 4 a0).toInt = (q_I r623 9 4 a0).toInt := congrArg Int32.toInt (u685 9 4 a0 (by decide))
            have f694 := cb_9_4 i625 k_a0
            have f695 : (q_I r623 9 4 a0).toInt = (q_I r609.2 9 4 a0).toInt := congrArg Int32.toInt (u626 9 4 a0 (by decide))
            have f696 := cb_9_4 i611 k_a0
            have f697 : (q_I r609.2 9 4 a0).toInt = (q_I δ 9 4 a0).toInt := congrArg Int32.toInt (u613 9 4 a0 (by decide))
            have f698 := cb_8_2 i683 kth
            have f699 : (q_I r681 8 2 th).toInt = (q_I r623 8 2 th).toInt := congrArg Int32.toInt (u685 8 2 th (by decide))
            have f700 := cb_8_2 i625 kth
            have f701 : (q_I r623 8 2 th).toInt = (q_I r609.2 8 2 th).toInt := congrArg Int32.toInt (u626 8 2 th (by decide))
            have f702 := cb_8_2 i611 kth
            have f703 : (q_I r609.2 8 2 th).toInt = (q_I δ 8 2 th).toInt := congrArg Int32.toInt (u613 8 2 th (by decide))
            have f704 := cb_8_2 I kth
            exact ok_some (show CI ad h.1 δ0 r681 ∧ (kp [(7, 3), (7, 4), (7, 5), (7, 6), (8, 2), (8, 3), (9, 2), (9, 3), (9, 4)] δ r681 ∧ q_V r681 = q_V δ) ∧ LSn ad r681 th (q_I r681 9 4 a0).toInt from ⟨i683, ⟨kp_w (by decide) u688, v689⟩, (hls.t (by omega) y690).n (by omega)⟩)
          · have c705 : (q_I r623 9 2 a0).toInt < (60 : Int) := o_nle h679
            refine ok_ite (fun h706 => ?_) (fun h706 => ?_)
            · have c707 : r639.1.toInt = (0 : Int) := o_eq h706
              unfold J_X9_readStep_98
              refine ok_ite (fun h708 => ?_) (fun h708 => ?_)
              · have c709 : r639.1.toInt = (0 : Int) := o_eq h708
                first | (have q714 := te_addc (c := 1) (n := 1) rfl (q_I r623 9 2 a0) (by omega) (by omega); obtain ⟨f715, f716, f717⟩ := q714) | (obtain ⟨q714, f715, f716, f717⟩ := ti_addc (c := 1) (n := 1) rfl (q_I r623 9 2 a0))
                refine ok_bdv (fun d710 e711 => ?_)
                have i712 : CI ad h.1 δ0 d710 := by rw [e711]; exact cs_9_2 L i625
                have u718 := kp_I u629 e711
                have v719 : q_V d710 = q_V δ := ((show q_V d710 = q_V r623 by rw [e711]; rfl)).trans v630
                have y720 : q_R d710 (Ad ad 7) = q_R δ (Ad ad 7) := ((show q_R d710 (Ad ad 7) = q_R r623 (Ad ad 7) by rw [e711]; rfl)).trans y631
                have f724 := ti_b (q_I d710 9 3 a0)
                have f725 : (q_I d710 9 3 a0).toInt = (q_I r623 9 3 a0).toInt := congrArg Int32.toInt (by rw [e711]; exact rI_o (by decide))
                have f726 := ti_b (q_I r623 9 3 a0)
                have f727 : (q_I r623 9 3 a0).toInt = (q_I r609.2 9 3 a0).toInt := congrArg Int32.toInt (u626 9 3 a0 (by decide))
                have f728 := ti_b (q_I r609.2 9 3 a0)
                have f729 : (q_I r609.2 9 3 a0).toInt = (q_I δ 9 3 a0).toInt := congrArg Int32.toInt (u613 9 3 a0 (by decide))
                have f730 := ti_b (q_I δ 9 3 a0)
                first | (have q732 := te_addc (c := 1) (n := 1) rfl (q_I d710 9 3 a0) (by omega) (by omega); obtain ⟨f733, f734, f735⟩ := q732) | (obtain ⟨q732, f733, f734, f735⟩ := ti_addc (c := 1) (n := 1) rfl (q_I d710 9 3 a0))
                refine ok_bdv (fun d721 e722 => ?_)
                have i723 : CI ad h.1 δ0 d721 := by rw [e722]; exact cs_9_3 L i712
                have u736 := kp_I u718 e722
                have v737 : q_V d721 = q_V δ := ((show q_V d721 = q_V d710 by rw [e722]; rfl)).trans v719
                have y738 : q_R d721 (Ad ad 7) = q_R δ (Ad ad 7) := ((show q_R d721 (Ad ad 7) = q_R d710 (Ad ad 7) by rw [e722]; rfl)).trans y720
                refine ok_bind (k_X9_readSum L hN (a0 := a0) (x1 := (0 : Int32)) k_a0 (show 0 ≤ (0 : Int) by first | assumption | omega) (show (0 : Int) ≤ 6 by first | assumption | omega) (show 6 - (0 : Int) < 20 by first | assumption | omega) ((congrFun (congrFun (congrFun v737 9) 0) a0).trans hv0) ((congrFun (congrFun (congrFun v737 9) 1) a0).trans hv1) ktp kth i723) (fun r739 hr740 => ?_)
                obtain ⟨i741, ⟨u743, u744, u745⟩, p742⟩ := hr740
                have u746 := kp_t u736 u743
                have v747 : q_V r739 = q_V δ := (u744).trans v737
                have y748 : q_R r739 (Ad ad 7) = q_R δ (Ad ad 7) := (u745).trans y738
                have f749 := cb_8_2 i723 kth
                have f750 : (q_I d721 8 2 th).toInt = (q_I d710 8 2 th).toInt := congrArg Int32.toInt (by rw [e722]; exact rI_o (by decide))
                have f751 := cb_8_2 i712 kth
                have f752 : (q_I d710 8 2 th).toInt = (q_I r623 8 2 th).toInt := congrArg Int32.toInt (by rw [e711]; exact rI_o (by decide))
                have f753 := cb_8_2 i625 kth
                have f754 : (q_I r623 8 2 th).toInt = (q_I r609.2 8 2 th).toInt := congrArg Int32.toInt (u626 8 2 th (by decide))
                have f755 := cb_8_2 i611 kth
                have f756 : (q_I r609.2 8 2 th).toInt = (q_I δ 8 2 th).toInt := congrArg Int32.toInt (u613 8 2 th (by decide))
                have f757 := cb_8_2 I kth
                have f758 := cb_8_2 i741 kth
                refine ok_at ((congrFun (congrFun (congrFun v747 9) 0) a0).trans hv0) ?_
                refine ok_gp ktp ?_
                refine ok_bind (k_X7_needSign L hN (a0 := tp) (x1 := (59 : Int32)) ktp (show (59 : Int) ≠ -1 by first | assumption | omega) i741) (fun r759 hr760 => ?_)
                obtain ⟨i761, ⟨u763, u764, u765⟩, p762⟩ := hr760
                have u766 := kp_t u746 u763
                have v767 : q_V r759 = q_V δ := (u764).trans v747
                have y768 : q_R r759 (Ad ad 7) = q_R δ (Ad ad 7) := (congrFun u765 (Ad ad 7)).trans y748
                have f769 := ti_b (q_I r739 7 5 tp)
                have f770 := ti_b (q_I r759 7 5 tp)
                refine ok_at ((congrFun (congrFun (congrFun v767 9) 1) a0).trans hv1) ?_
                refine ok_gp kth ?_
                have f773 := cb_8_2 i761 kth
                have f774 : (q_I r759 8 2 th).toInt = (q_I r739 8 2 th).toInt := congrArg Int32.toInt (u763 8 2 th (by decide))
                refine ok_bind (k_X8_add L hN (a0 := th) (x1 := (9 : Int32)) (x2 := r632.1) kth (show 0 ≤ (r632.1).toInt by first | assumption | omega) (show (9 : Int) = 1 → (r632.1).toInt < 4 by first | assumption | omega) (show (9 : Int) = 11 → (q_I r759 8 2 th).toInt < 500 → (r632.1).toInt < 500 by first | assumption | omega) i761) (fun r771 hr772 => ?_)
                obtain ⟨i775, ⟨u777, u778, u779⟩, p776⟩ := hr772
                have u780 := kp_t u766 u777
                have v781 : q_V r771 = q_V δ := (u778).trans v767
                have y782 : q_R r771 (Ad ad 7) = q_R δ (Ad ad 7) := (u779).trans y768
                have f783 := cb_8_2 i775 kth
                unfold J_X9_readStep_163
                have f784 := cb_9_4 i775 k_a0
                have f785 : (q_I r771 9 4 a0).toInt = (q_I r759 9 4 a0).toInt := congrArg Int32.toInt (u777 9 4 a0 (by decide))
                have f786 := cb_9_4 i761 k_a0
                have f787 : (q_I r759 9 4 a0).toInt = (q_I r739 9 4 a0).toInt := congrArg Int32.toInt (u763 9 4 a0 (by decide))
                have f788 := cb_9_4 i741 k_a0
                have f789 : (q_I r739 9 4 a0).toInt = (q_I d721 9 4 a0).toInt := congrArg Int32.toInt (u743 9 4 a0 (by decide))
                have f790 := cb_9_4 i723 k_a0
                have f791 : (q_I d721 9 4 a0).toInt = (q_I d710 9 4 a0).toInt := congrArg Int32.toInt (by rw [e722]; exact rI_o (by decide))
                have f792 := cb_9_4 i712 k_a0
                have f793 : (q_I d710 9 4 a0).toInt = (q_I r623 9 4 a0).toInt := congrArg Int32.toInt (by rw [e711]; exact rI_o (by decide))
                have f794 := cb_9_4 i625 k_a0
                have f795 : (q_I r623 9 4 a0).toInt = (q_I r609.2 9 4 a0).toInt := congrArg Int32.toInt (u626 9 4 a0 (by decide))
                have f796 := cb_9_4 i611 k_a0
                have f797 : (q_I r609.2 9 4 a0).toInt = (q_I δ 9 4 a0).toInt := congrArg Int32.toInt (u613 9 4 a0 (by decide))
                exact ok_some (show CI ad h.1 δ0 r771 ∧ (kp [(7, 3), (7, 4), (7, 5), (7, 6), (8, 2), (8, 3), (9, 2), (9, 3), (9, 4)] δ r771 ∧ q_V r771 = q_V δ) ∧ LSn ad r771 th (q_I r771 9 4 a0).toInt from ⟨i775, ⟨kp_w (by decide) u780, v781⟩, (hls.t (by omega) y782).n (by omega)⟩)
              · have c798 : r639.1.toInt ≠ (0 : Int) := o_ne h708
                first | (have q803 := te_addc (c := 1) (n := 1) rfl (q_I r623 9 2 a0) (by omega) (by omega); obtain ⟨f804, f805, f806⟩ := q803) | (obtain ⟨q803, f804, f805, f806⟩ := ti_addc (c := 1) (n := 1) rfl (q_I r623 9 2 a0))
                refine ok_bdv (fun d799 e800 => ?_)
                have i801 : CI ad h.1 δ0 d799 := by rw [e800]; exact cs_9_2 L i625
                have u807 := kp_I u629 e800
                have v808 : q_V d799 = q_V δ := ((show q_V d799 = q_V r623 by rw [e800]; rfl)).trans v630
                have y809 : q_R d799 (Ad ad 7) = q_R δ (Ad ad 7) := ((show q_R d799 (Ad ad 7) = q_R r623 (Ad ad 7) by rw [e800]; rfl)).trans y631
                have f812 := cb_9_4 i801 k_a0
                have f813 : (q_I d799 9 4 a0).toInt = (q_I r623 9 4 a0).toInt := congrArg Int32.toInt (by rw [e800]; exact rI_o (by decide))
                have f814 := cb_9_4 i625 k_a0
                have f815 : (q_I r623 9 4 a0).toInt = (q_I r609.2 9 4 a0).toInt := congrArg Int32.toInt (u626 9 4 a0 (by decide))
                have f816 := cb_9_4 i611 k_a0
                have f817 : (q_I r609.2 9 4 a0).toInt = (q_I δ 9 4 a0).toInt := congrArg Int32.toInt (u613 9 4 a0 (by decide))
                have f818 := cb_8_2 i801 kth
                have f819 : (q_I d799 8 2 th).toInt = (q_I r623 8 2 th).toInt := congrArg Int32.toInt (by rw [e800]; exact rI_o (by decide))
                have f820 := cb_8_2 i625 kth
                have f821 : (q_I r623 8 2 th).toInt = (q_I r609.2 8 2 th).toInt := congrArg Int32.toInt (u626 8 2 th (by decide))
                have f822 := cb_8_2 i611 kth
                have f823 : (q_I r609.2 8 2 th).toInt = (q_I δ 8 2 th).toInt := congrArg Int32.toInt (u613 8 2 th (by decide))
                have f824 := cb_8_2 I kth
                refine ok_bind (k_X9_openLoop L hN (a0 := a0) k_a0 (show (q_I d799 9 4 a0).toInt < 3 by first | assumption | omega) ((congrFun (congrFun (congrFun v808 9) 0) a0).trans hv0) ((congrFun (congrFun (congrFun v808 9) 1) a0).trans hv1) ktp kth (show LSn ad d799 th (q_I d799 9 4 a0).toInt from (hls.t (by omega) y809).n (by omega)) i801) (fun r810 hr811 => ?_)
                obtain ⟨i825, ⟨u827, u828⟩, p826⟩ := hr811
                have u829 := kp_t u807 u827
                have v830 : q_V r810 = q_V δ := (u828).trans v808
                have f831 := cb_9_4 i825 k_a0
                unfold J_X9_readStep_163
                have f832 := cb_8_2 i825 kth
                exact ok_some (show CI ad h.1 δ0 r810 ∧ (kp [(7, 3), (7, 4), (7, 5), (7, 6), (8, 2), (8, 3), (9, 2), (9, 3), (9, 4)] δ r810 ∧ q_V r810 = q_V δ) ∧ LSn ad r810 th (q_I r810 9 4 a0).toInt from ⟨i825, ⟨kp_w (by decide) u829, v830⟩, p826.n (by omega)⟩)
            · have c833 : r639.1.toInt ≠ (0 : Int) := o_ne h706
              have f834 := cb_9_4 i625 k_a0
              have f835 : (q_I r623 9 4 a0).toInt = (q_I r609.2 9 4 a0).toInt := congrArg Int32.toInt (u626 9 4 a0 (by decide))
              have f836 := cb_9_4 i611 k_a0
              have f837 : (q_I r609.2 9 4 a0).toInt = (q_I δ 9 4 a0).toInt := congrArg Int32.toInt (u613 9 4 a0 (by decide))
              refine ok_ite (fun h838 => ?_) (fun h838 => ?_)
              · have c839 : (q_I r623 9 4 a0).toInt < (3 : Int) := o_lt h838
                unfold J_X9_readStep_98
                refine ok_ite (fun h840 => ?_) (fun h840 => ?_)
                · have c841 : r639.1.toInt = (0 : Int) := o_eq h840
                  first | (have q846 := te_addc (c := 1) (n := 1) rfl (q_I r623 9 2 a0) (by omega) (by omega); obtain ⟨f847, f848, f849⟩ := q846) | (obtain ⟨q846, f847, f848, f849⟩ := ti_addc (c := 1) (n := 1) rfl (q_I r623 9 2 a0))
                  refine ok_bdv (fun d842 e843 => ?_)
                  have i844 : CI ad h.1 δ0 d842 := by rw [e843]; exact cs_9_2 L i625
                  have u850 := kp_I u629 e843
                  have v851 : q_V d842 = q_V δ := ((show q_V d842 = q_V r623 by rw [e843]; rfl)).trans v630
                  have y852 : q_R d842 (Ad ad 7) = q_R δ (Ad ad 7) := ((show q_R d842 (Ad ad 7) = q_R r623 (Ad ad 7) by rw [e843]; rfl)).trans y631
                  have f856 := ti_b (q_I d842 9 3 a0)
                  have f857 : (q_I d842 9 3 a0).toInt = (q_I r623 9 3 a0).toInt := congrArg Int32.toInt (by rw [e843]; exact rI_o (by decide))
                  have f858 := ti_b (q_I r623 9 3 a0)
                  have f859 : (q_I r623 9 3 a0).toInt = (q_I r609.2 9 3 a0).toInt := congrArg Int32.toInt (u626 9 3 a0 (by decide))
                  have f860 := ti_b (q_I r609.2 9 3 a0)
                  have f861 : (q_I r609.2 9 3 a0).toInt = (q_I δ 9 3 a0).toInt := congrArg Int32.toInt (u613 9 3 a0 (by decide))
                  have f862 := ti_b (q_I δ 9 3 a0)
                  first | (have q864 := te_addc (c := 1) (n := 1) rfl (q_I d842 9 3 a0) (by omega) (by omega); obtain ⟨f865, f866, f867⟩ := q864) | (obtain ⟨q864, f865, f866, f867⟩ := ti_addc (c := 1) (n := 1) rfl (q_I d842 9 3 a0))
                  refine ok_bdv (fun d853 e854 => ?_)
                  have i855 : CI ad h.1 δ0 d853 := by rw [e854]; exact cs_9_3 L i844
                  have u868 := kp_I u850 e854
                  have v869 : q_V d853 = q_V δ := ((show q_V d853 = q_V d842 by rw [e854]; rfl)).trans v851
                  have y870 : q_R d853 (Ad ad 7) = q_R δ (Ad ad 7) := ((show q_R d853 (Ad ad 7) = q_R d842 (Ad ad 7) by rw [e854]; rfl)).trans y852
                  refine ok_bind (k_X9_readSum L hN (a0 := a0) (x1 := (0 : Int32)) k_a0 (show 0 ≤ (0 : Int) by first | assumption | omega) (show (0 : Int) ≤ 6 by first | assumption | omega) (show 6 - (0 : Int) < 20 by first | assumption | omega) ((congrFun (congrFun (congrFun v869 9) 0) a0).trans hv0) ((congrFun (congrFun (congrFun v869 9) 1) a0).trans hv1) ktp kth i855) (fun r871 hr872 => ?_)
                  obtain ⟨i873, ⟨u875, u876, u877⟩, p874⟩ := hr872
                  have u878 := kp_t u868 u875
                  have v879 : q_V r871 = q_V δ := (u876).trans v869
                  have y880 : q_R r871 (Ad ad 7) = q_R δ (Ad ad 7) := (u877).trans y870
                  have f881 := cb_8_2 i855 kth
                  have f882 : (q_I d853 8 2 th).toInt = (q_I d842 8 2 th).toInt := congrArg Int32.toInt (by rw [e854]; exact rI_o (by decide))
                  have f883 := cb_8_2 i844 kth
                  have f884 : (q_I d842 8 2 th).toInt = (q_I r623 8 2 th).toInt := congrArg Int32.toInt (by rw [e843]; exact rI_o (by decide))
                  have f885 := cb_8_2 i625 kth
                  have f886 : (q_I r623 8 2 th).toInt = (q_I r609.2 8 2 th).toInt := congrArg Int32.toInt (u626 8 2 th (by decide))
                  have f887 := cb_8_2 i611 kth
                  have f888 : (q_I r609.2 8 2 th).toInt = (q_I δ 8 2 th).toInt := congrArg Int32.toInt (u613 8 2 th (by decide))
                  have f889 := cb_8_2 I kth
                  have f890 := cb_8_2 i873 kth
                  refine ok_at ((congrFun (congrFun (congrFun v879 9) 0) a0).trans hv0) ?_
                  refine ok_gp ktp ?_
                  refine ok_bind (k_X7_needSign L hN (a0 := tp) (x1 := (59 : Int32)) ktp (show (59 : Int) ≠ -1 by first | assumption | omega) i873) (fun r891 hr892 => ?_)
                  obtain ⟨i893, ⟨u895, u896, u897⟩, p894⟩ := hr892
                  have u898 := kp_t u878 u895
                  have v899 : q_V r891 = q_V δ := (u896).trans v879
                  have y900 : q_R r891 (Ad ad 7) = q_R δ (Ad ad 7) := (congrFun u897 (Ad ad 7)).trans y880
                  have f901 := ti_b (q_I r871 7 5 tp)
                  have f902 := ti_b (q_I r891 7 5 tp)
                  refine ok_at ((congrFun (congrFun (congrFun v899 9) 1) a0).trans hv1) ?_
                  refine ok_gp kth ?_
                  have f905 := cb_8_2 i893 kth
                  have f906 : (q_I r891 8 2 th).toInt = (q_I r871 8 2 th).toInt := congrArg Int32.toInt (u895 8 2 th (by decide))
                  refine ok_bind (k_X8_add L hN (a0 := th) (x1 := (9 : Int32)) (x2 := r632.1) kth (show 0 ≤ (r632.1).toInt by first | assumption | omega) (show (9 : Int) = 1 → (r632.1).toInt < 4 by first | assumption | omega) (show (9 : Int) = 11 → (q_I r891 8 2 th).toInt < 500 → (r632.1).toInt < 500 by first | assumption | omega) i893) (fun r903 hr904 => ?_)
                  obtain ⟨i907, ⟨u909, u910, u911⟩, p908⟩ := hr904
                  have u912 := kp_t u898 u909
                  have v913 : q_V r903 = q_V δ := (u910).trans v899
                  have y914 : q_R r903 (Ad ad 7) = q_R δ (Ad ad 7) := (u911).trans y900
                  have f915 := cb_8_2 i907 kth
                  unfold J_X9_readStep_163
                  have f916 := cb_9_4 i907 k_a0
                  have f917 : (q_I r903 9 4 a0).toInt = (q_I r891 9 4 a0).toInt := congrArg Int32.toInt (u909 9 4 a0 (by decide))
                  have f918 := cb_9_4 i893 k_a0
                  have f919 : (q_I r891 9 4 a0).toInt = (q_I r871 9 4 a0).toInt := congrArg Int32.toInt (u895 9 4 a0 (by decide))
                  have f920 := cb_9_4 i873 k_a0
                  have f921 : (q_I r871 9 4 a0).toInt = (q_I d853 9 4 a0).toInt := congrArg Int32.toInt (u875 9 4 a0 (by decide))
                  have f922 := cb_9_4 i855 k_a0
                  have f923 : (q_I d853 9 4 a0).toInt = (q_I d842 9 4 a0).toInt := congrArg Int32.toInt (by rw [e854]; exact rI_o (by decide))
                  have f924 := cb_9_4 i844 k_a0
                  have f925 : (q_I d842 9 4 a0).toInt = (q_I r623 9 4 a0).toInt := congrArg Int32.toInt (by rw [e843]; exact rI_o (by decide))
                  exact ok_some (show CI ad h.1 δ0 r903 ∧ (kp [(7, 3), (7, 4), (7, 5), (7, 6), (8, 2), (8, 3), (9, 2), (9, 3), (9, 4)] δ r903 ∧ q_V r903 = q_V δ) ∧ LSn ad r903 th (q_I r903 9 4 a0).toInt from ⟨i907, ⟨kp_w (by decide) u912, v913⟩, (hls.t (by omega) y914).n (by omega)⟩)
                · have c926 : r639.1.toInt ≠ (0 : Int) := o_ne h840
                  first | (have q931 := te_addc (c := 1) (n := 1) rfl (q_I r623 9 2 a0) (by omega) (by omega); obtain ⟨f932, f933, f934⟩ := q931) | (obtain ⟨q931, f932, f933, f934⟩ := ti_addc (c := 1) (n := 1) rfl (q_I r623 9 2 a0))
                  refine ok_bdv (fun d927 e928 => ?_)
                  have i929 : CI ad h.1 δ0 d927 := by rw [e928]; exact cs_9_2 L i625
                  have u935 := kp_I u629 e928
                  have v936 : q_V d927 = q_V δ := ((show q_V d927 = q_V r623 by rw [e928]; rfl)).trans v630
                  have y937 : q_R d927 (Ad ad 7) = q_R δ (Ad ad 7) := ((show q_R d927 (Ad ad 7) = q_R r623 (Ad ad 7) by rw [e928]; rfl)).trans y631
                  have f940 := cb_9_4 i929 k_a0
                  have f941 : (q_I d927 9 4 a0).toInt = (q_I r623 9 4 a0).toInt := congrArg Int32.toInt (by rw [e928]; exact rI_o (by decide))
                  have f942 := cb_8_2 i929 kth
                  have f943 : (q_I d927 8 2 th).toInt = (q_I r623 8 2 th).toInt := congrArg Int32.toInt (by rw [e928]; exact rI_o (by decide))
                  have f944 := cb_8_2 i625 kth
                  have f945 : (q_I r623 8 2 th).toInt = (q_I r609.2 8 2 th).toInt := congrArg Int32.toInt (u626 8 2 th (by decide))
                  have f946 := cb_8_2 i611 kth
                  have f947 : (q_I r609.2 8 2 th).toInt = (q_I δ 8 2 th).toInt := congrArg Int32.toInt (u613 8 2 th (by decide))
                  have f948 := cb_8_2 I kth
                  refine ok_bind (k_X9_openLoop L hN (a0 := a0) k_a0 (show (q_I d927 9 4 a0).toInt < 3 by first | assumption | omega) ((congrFun (congrFun (congrFun v936 9) 0) a0).trans hv0) ((congrFun (congrFun (congrFun v936 9) 1) a0).trans hv1) ktp kth (show LSn ad d927 th (q_I d927 9 4 a0).toInt from (hls.t (by omega) y937).n (by omega)) i929) (fun r938 hr939 => ?_)
                  obtain ⟨i949, ⟨u951, u952⟩, p950⟩ := hr939
                  have u953 := kp_t u935 u951
                  have v954 : q_V r938 = q_V δ := (u952).trans v936
                  have f955 := cb_9_4 i949 k_a0
                  unfold J_X9_readStep_163
                  have f956 := cb_8_2 i949 kth
                  exact ok_some (show CI ad h.1 δ0 r938 ∧ (kp [(7, 3), (7, 4), (7, 5), (7, 6), (8, 2), (8, 3), (9, 2), (9, 3), (9, 4)] δ r938 ∧ q_V r938 = q_V δ) ∧ LSn ad r938 th (q_I r938 9 4 a0).toInt from ⟨i949, ⟨kp_w (by decide) u953, v954⟩, p950.n (by omega)⟩)
              · have c957 : (3 : Int) ≤ (q_I r623 9 4 a0).toInt := o_nlt h838
                unfold J_X9_readStep_87
                refine ok_at ((congrFun (congrFun (congrFun v630 9) 0) a0).trans hv0) ?_
                refine ok_gp ktp ?_
                refine ok_bind (k_X7_refuse L hN (a0 := tp) (x1 := (3 : Int32)) ktp (show (3 : Int) ≠ 0 by first | assumption | omega) i625) (fun r958 hr959 => ?_)
                obtain ⟨i960, ⟨u962, u963, u964⟩, p961⟩ := hr959
                have u965 := kp_t u629 u962
                have v966 : q_V r958 = q_V δ := (u963).trans v630
                have y967 : q_R r958 (Ad ad 7) = q_R δ (Ad ad 7) := (congrFun u964 (Ad ad 7)).trans y631
                have f968 := ti_b (q_I r958 7 5 tp)
                unfold J_X9_readStep_163
                have f969 := cb_9_4 i960 k_a0
                have f970 : (q_I r958 9 4 a0).toInt = (q_I r623 9 4 a0).toInt := congrArg Int32.toInt (u962 9 4 a0 (by decide))
                have f971 := cb_8_2 i960 kth
                have f972 : (q_I r958 8 2 th).toInt = (q_I r623 8 2 th).toInt := congrArg Int32.toInt (u962 8 2 th (by decide))
                have f973 := cb_8_2 i625 kth
                have f974 : (q_I r623 8 2 th).toInt = (q_I r609.2 8 2 th).toInt := congrArg Int32.toInt (u626 8 2 th (by decide))
                have f975 := cb_8_2 i611 kth
                have f976 : (q_I r609.2 8 2 th).toInt = (q_I δ 8 2 th).toInt := congrArg Int32.toInt (u613 8 2 th (by decide))
                have f977 := cb_8_2 I kth
                exact ok_some (show CI ad h.1 δ0 r958 ∧ (kp [(7, 3), (7, 4), (7, 5), (7, 6), (8, 2), (8, 3), (9, 2), (9, 3), (9, 4)] δ r958 ∧ q_V r958 = q_V δ) ∧ LSn ad r958 th (q_I r958 9 4 a0).toInt from ⟨i960, ⟨kp_w (by decide) u965, v966⟩, (hls.t (by omega) y967).n (by omega)⟩)
      · have c978 : r632.1.toInt ≠ (-1 : Int) := o_ne h645
        unfold J_X9_readStep_66
        have f979 := ti_b (q_I r623 9 2 a0)
        have f980 : (q_I r623 9 2 a0).toInt = (q_I r609.2 9 2 a0).toInt := congrArg Int32.toInt (u626 9 2 a0 (by decide))
        have f981 := ti_b (q_I r609.2 9 2 a0)
        have f982 : (q_I r609.2 9 2 a0).toInt = (q_I δ 9 2 a0).toInt := congrArg Int32.toInt (u613 9 2 a0 (by decide))
        have f983 := ti_b (q_I δ 9 2 a0)
        refine ok_ite (fun h984 => ?_) (fun h984 => ?_)
        · have c985 : (60 : Int) ≤ (q_I r623 9 2 a0).toInt := o_le h984
          unfold J_X9_readStep_87
          refine ok_at ((congrFun (congrFun (congrFun v630 9) 0) a0).trans hv0) ?_
          refine ok_gp ktp ?_
          refine ok_bind (k_X7_refuse L hN (a0 := tp) (x1 := (3 : Int32)) ktp (show (3 : Int) ≠ 0 by first | assumption | omega) i625) (fun r986 hr987 => ?_)
          obtain ⟨i988, ⟨u990, u991, u992⟩, p989⟩ := hr987
          have u993 := kp_t u629 u990
          have v994 : q_V r986 = q_V δ := (u991).trans v630
          have y995 : q_R r986 (Ad ad 7) = q_R δ (Ad ad 7) := (congrFun u992 (Ad ad 7)).trans y631
          have f996 := ti_b (q_I r986 7 5 tp)
          unfold J_X9_readStep_163
          have f997 := cb_9_4 i988 k_a0
          have f998 : (q_I r986 9 4 a0).toInt = (q_I r623 9 4 a0).toInt := congrArg Int32.toInt (u990 9 4 a0 (by decide))
          have f999 := cb_9_4 i625 k_a0
          have f1000 : (q_I r623 9 4 a0).toInt = (q_I r609.2 9 4 a0).toInt := congrArg Int32.toInt (u626 9 4 a0 (by decide))
          have f1001 := cb_9_4 i611 k_a0
          have f1002 : (q_I r609.2 9 4 a0).toInt = (q_I δ 9 4 a0).toInt := congrArg Int32.toInt (u613 9 4 a0 (by decide))
          have f1003 := cb_8_2 i988 kth
          have f1004 : (q_I r986 8 2 th).toInt = (q_I r623 8 2 th).toInt := congrArg Int32.toInt (u990 8 2 th (by decide))
          have f1005 := cb_8_2 i625 kth
          have f1006 : (q_I r623 8 2 th).toInt = (q_I r609.2 8 2 th).toInt := congrArg Int32.toInt (u626 8 2 th (by decide))
          have f1007 := cb_8_2 i611 kth
          have f1008 : (q_I r609.2 8 2 th).toInt = (q_I δ 8 2 th).toInt := congrArg Int32.toInt (u613 8 2 th (by decide))
          have f1009 := cb_8_2 I kth
          exact ok_some (show CI ad h.1 δ0 r986 ∧ (kp [(7, 3), (7, 4), (7, 5), (7, 6), (8, 2), (8, 3), (9, 2), (9, 3), (9, 4)] δ r986 ∧ q_V r986 = q_V δ) ∧ LSn ad r986 th (q_I r986 9 4 a0).toInt from ⟨i988, ⟨kp_w (by decide) u993, v994⟩, (hls.t (by omega) y995).n (by omega)⟩)
        · have c1010 : (q_I r623 9 2 a0).toInt < (60 : Int) := o_nle h984
          refine ok_ite (fun h1011 => ?_) (fun h1011 => ?_)
          · have c1012 : r639.1.toInt = (0 : Int) := o_eq h1011
            unfold J_X9_readStep_98
            refine ok_ite (fun h1013 => ?_) (fun h1013 => ?_)
            · have c1014 : r639.1.toInt = (0 : Int) := o_eq h1013
              first | (have q1019 := te_addc (c := 1) (n := 1) rfl (q_I r623 9 2 a0) (by omega) (by omega); obtain ⟨f1020, f1021, f1022⟩ := q1019) | (obtain ⟨q1019, f1020, f1021, f1022⟩ := ti_addc (c := 1) (n := 1) rfl (q_I r623 9 2 a0))
              refine ok_bdv (fun d1015 e1016 => ?_)
              have i1017 : CI ad h.1 δ0 d1015 := by rw [e1016]; exact cs_9_2 L i625
              have u1023 := kp_I u629 e1016
              have v1024 : q_V d1015 = q_V δ := ((show q_V d1015 = q_V r623 by rw [e1016]; rfl)).trans v630
              have y1025 : q_R d1015 (Ad ad 7) = q_R δ (Ad ad 7) := ((show q_R d1015 (Ad ad 7) = q_R r623 (Ad ad 7) by rw [e1016]; rfl)).trans y631
              have f1029 := ti_b (q_I d1015 9 3 a0)
              have f1030 : (q_I d1015 9 3 a0).toInt = (q_I r623 9 3 a0).toInt := congrArg Int32.toInt (by rw [e1016]; exact rI_o (by decide))
              have f1031 := ti_b (q_I r623 9 3 a0)
              have f1032 : (q_I r623 9 3 a0).toInt = (q_I r609.2 9 3 a0).toInt := congrArg Int32.toInt (u626 9 3 a0 (by decide))
              have f1033 := ti_b (q_I r609.2 9 3 a0)
              have f1034 : (q_I r609.2 9 3 a0).toInt = (q_I δ 9 3 a0).toInt := congrArg Int32.toInt (u613 9 3 a0 (by decide))
              have f1035 := ti_b (q_I δ 9 3 a0)
              first | (have q1037 := te_addc (c := 1) (n := 1) rfl (q_I d1015 9 3 a0) (by omega) (by omega); obtain ⟨f1038, f1039, f1040⟩ := q1037) | (obtain ⟨q1037, f1038, f1039, f1040⟩ := ti_addc (c := 1) (n := 1) rfl (q_I d1015 9 3 a0))
              refine ok_bdv (fun d1026 e1027 => ?_)
              have i1028 : CI ad h.1 δ0 d1026 := by rw [e1027]; exact cs_9_3 L i1017
              have u1041 := kp_I u1023 e1027
              have v1042 : q_V d1026 = q_V δ := ((show q_V d1026 = q_V d1015 by rw [e1027]; rfl)).trans v1024
              have y1043 : q_R d1026 (Ad ad 7) = q_R δ (Ad ad 7) := ((show q_R d1026 (Ad ad 7) = q_R d1015 (Ad ad 7) by rw [e1027]; rfl)).trans y1025
              refine ok_bind (k_X9_readSum L hN (a0 := a0) (x1 := (0 : Int32)) k_a0 (show 0 ≤ (0 : Int) by first | assumption | omega) (show (0 : Int) ≤ 6 by first | assumption | omega) (show 6 - (0 : Int) < 20 by first | assumption | omega) ((congrFun (congrFun (congrFun v1042 9) 0) a0).trans hv0) ((congrFun (congrFun (congrFun v1042 9) 1) a0).trans hv1) ktp kth i1028) (fun r1044 hr1045 => ?_)
              obtain ⟨i1046, ⟨u1048, u1049, u1050⟩, p1047⟩ := hr1045
              have u1051 := kp_t u1041 u1048
              have v1052 : q_V r1044 = q_V δ := (u1049).trans v1042
              have y1053 : q_R r1044 (Ad ad 7) = q_R δ (Ad ad 7) := (u1050).trans y1043
              have f1054 := cb_8_2 i1028 kth
              have f1055 : (q_I d1026 8 2 th).toInt = (q_I d1015 8 2 th).toInt := congrArg Int32.toInt (by rw [e1027]; exact rI_o (by decide))
              have f1056 := cb_8_2 i1017 kth
              have f1057 : (q_I d1015 8 2 th).toInt = (q_I r623 8 2 th).toInt := congrArg Int32.toInt (by rw [e1016]; exact rI_o (by decide))
              have f1058 := cb_8_2 i625 kth
              have f1059 : (q_I r623 8 2 th).toInt = (q_I r609.2 8 2 th).toInt := congrArg Int32.toInt (u626 8 2 th (by decide))
              have f1060 := cb_8_2 i611 kth
              have f1061 : (q_I r609.2 8 2 th).toInt = (q_I δ 8 2 th).toInt := congrArg Int32.toInt (u613 8 2 th (by decide))
              have f1062 := cb_8_2 I kth
              have f1063 := cb_8_2 i1046 kth
              refine ok_at ((congrFun (congrFun (congrFun v1052 9) 0) a0).trans hv0) ?_
              refine ok_gp ktp ?_
              refine ok_bind (k_X7_needSign L hN (a0 := tp) (x1 := (59 : Int32)) ktp (show (59 : Int) ≠ -1 by first | assumption | omega) i1046) (fun r1064 hr1065 => ?_)
              obtain ⟨i1066, ⟨u1068, u1069, u1070⟩, p1067⟩ := hr1065
              have u1071 := kp_t u1051 u1068
              have v1072 : q_V r1064 = q_V δ := (u1069).trans v1052
              have y1073 : q_R r1064 (Ad ad 7) = q_R δ (Ad ad 7) := (congrFun u1070 (Ad ad 7)).trans y1053
              have f1074 := ti_b (q_I r1044 7 5 tp)
              have f1075 := ti_b (q_I r1064 7 5 tp)
              refine ok_at ((congrFun (congrFun (congrFun v1072 9) 1) a0).trans hv1) ?_
              refine ok_gp kth ?_
              have f1078 := cb_8_2 i1066 kth
              have f1079 : (q_I r1064 8 2 th).toInt = (q_I r1044 8 2 th).toInt := congrArg Int32.toInt (u1068 8 2 th (by decide))
              refine ok_bind (k_X8_add L hN (a0 := th) (x1 := (9 : Int32)) (x2 := r632.1) kth (show 0 ≤ (r632.1).toInt by first | assumption | omega) (show (9 : Int) = 1 → (r632.1).toInt < 4 by first | assumption | omega) (show (9 : Int) = 11 → (q_I r1064 8 2 th).toInt < 500 → (r632.1).toInt < 500 by first | assumption | omega) i1066) (fun r1076 hr1077 => ?_)
              obtain ⟨i1080, ⟨u1082, u1083, u1084⟩, p1081⟩ := hr1077
              have u1085 := kp_t u1071 u1082
              have v1086 : q_V r1076 = q_V δ := (u1083).trans v1072
              have y1087 : q_R r1076 (Ad ad 7) = q_R δ (Ad ad 7) := (u1084).trans y1073
              have f1088 := cb_8_2 i1080 kth
              unfold J_X9_readStep_163
              have f1089 := cb_9_4 i1080 k_a0
              have f1090 : (q_I r1076 9 4 a0).toInt = (q_I r1064 9 4 a0).toInt := congrArg Int32.toInt (u1082 9 4 a0 (by decide))
              have f1091 := cb_9_4 i1066 k_a0
              have f1092 : (q_I r1064 9 4 a0).toInt = (q_I r1044 9 4 a0).toInt := congrArg Int32.toInt (u1068 9 4 a0 (by decide))
              have f1093 := cb_9_4 i1046 k_a0
              have f1094 : (q_I r1044 9 4 a0).toInt = (q_I d1026 9 4 a0).toInt := congrArg Int32.toInt (u1048 9 4 a0 (by decide))
              have f1095 := cb_9_4 i1028 k_a0
              have f1096 : (q_I d1026 9 4 a0).toInt = (q_I d1015 9 4 a0).toInt := congrArg Int32.toInt (by rw [e1027]; exact rI_o (by decide))
              have f1097 := cb_9_4 i1017 k_a0
              have f1098 : (q_I d1015 9 4 a0).toInt = (q_I r623 9 4 a0).toInt := congrArg Int32.toInt (by rw [e1016]; exact rI_o (by decide))
              have f1099 := cb_9_4 i625 k_a0
              have f1100 : (q_I r623 9 4 a0).toInt = (q_I r609.2 9 4 a0).toInt := congrArg Int32.toInt (u626 9 4 a0 (by decide))
              have f1101 := cb_9_4 i611 k_a0
              have f1102 : (q_I r609.2 9 4 a0).toInt = (q_I δ 9 4 a0).toInt := congrArg Int32.toInt (u613 9 4 a0 (by decide))
              exact ok_some (show CI ad h.1 δ0 r1076 ∧ (kp [(7, 3), (7, 4), (7, 5), (7, 6), (8, 2), (8, 3), (9, 2), (9, 3), (9, 4)] δ r1076 ∧ q_V r1076 = q_V δ) ∧ LSn ad r1076 th (q_I r1076 9 4 a0).toInt from ⟨i1080, ⟨kp_w (by decide) u1085, v1086⟩, (hls.t (by omega) y1087).n (by omega)⟩)
            · have c1103 : r639.1.toInt ≠ (0 : Int) := o_ne h1013
              first | (have q1108 := te_addc (c := 1) (n := 1) rfl (q_I r623 9 2 a0) (by omega) (by omega); obtain ⟨f1109, f1110, f1111⟩ := q1108) | (obtain ⟨q1108, f1109, f1110, f1111⟩ := ti_addc (c := 1) (n := 1) rfl (q_I r623 9 2 a0))
              refine ok_bdv (fun d1104 e1105 => ?_)
              have i1106 : CI ad h.1 δ0 d1104 := by rw [e1105]; exact cs_9_2 L i625
              have u1112 := kp_I u629 e1105
              have v1113 : q_V d1104 = q_V δ := ((show q_V d1104 = q_V r623 by rw [e1105]; rfl)).trans v630
              have y1114 : q_R d1104 (Ad ad 7) = q_R δ (Ad ad 7) := ((show q_R d1104 (Ad ad 7) = q_R r623 (Ad ad 7) by rw [e1105]; rfl)).trans y631
              have f1117 := cb_9_4 i1106 k_a0
              have f1118 : (q_I d1104 9 4 a0).toInt = (q_I r623 9 4 a0).toInt := congrArg Int32.toInt (by rw [e1105]; exact rI_o (by decide))
              have f1119 := cb_9_4 i625 k_a0
              have f1120 : (q_I r623 9 4 a0).toInt = (q_I r609.2 9 4 a0).toInt := congrArg Int32.toInt (u626 9 4 a0 (by decide))
              have f1121 := cb_9_4 i611 k_a0
              have f1122 : (q_I r609.2 9 4 a0).toInt = (q_I δ 9 4 a0).toInt := congrArg Int32.toInt (u613 9 4 a0 (by decide))
              have f1123 := cb_8_2 i1106 kth
              have f1124 : (q_I d1104 8 2 th).toInt = (q_I r623 8 2 th).toInt := congrArg Int32.toInt (by rw [e1105]; exact rI_o (by decide))
              have f1125 := cb_8_2 i625 kth
              have f1126 : (q_I r623 8 2 th).toInt = (q_I r609.2 8 2 th).toInt := congrArg Int32.toInt (u626 8 2 th (by decide))
              have f1127 := cb_8_2 i611 kth
              have f1128 : (q_I r609.2 8 2 th).toInt = (q_I δ 8 2 th).toInt := congrArg Int32.toInt (u613 8 2 th (by decide))
              have f1129 := cb_8_2 I kth
              refine ok_bind (k_X9_openLoop L hN (a0 := a0) k_a0 (show (q_I d1104 9 4 a0).toInt < 3 by first | assumption | omega) ((congrFun (congrFun (congrFun v1113 9) 0) a0).trans hv0) ((congrFun (congrFun (congrFun v1113 9) 1) a0).trans hv1) ktp kth (show LSn ad d1104 th (q_I d1104 9 4 a0).toInt from (hls.t (by omega) y1114).n (by omega)) i1106) (fun r1115 hr1116 => ?_)
              obtain ⟨i1130, ⟨u1132, u1133⟩, p1131⟩ := hr1116
              have u1134 := kp_t u1112 u1132
              have v1135 : q_V r1115 = q_V δ := (u1133).trans v1113
              have f1136 := cb_9_4 i1130 k_a0
              unfold J_X9_readStep_163
              have f1137 := cb_8_2 i1130 kth
              exact ok_some (show CI ad h.1 δ0 r1115 ∧ (kp [(7, 3), (7, 4), (7, 5), (7, 6), (8, 2), (8, 3), (9, 2), (9, 3), (9, 4)] δ r1115 ∧ q_V r1115 = q_V δ) ∧ LSn ad r1115 th (q_I r1115 9 4 a0).toInt from ⟨i1130, ⟨kp_w (by decide) u1134, v1135⟩, p1131.n (by omega)⟩)
          · have c1138 : r639.1.toInt ≠ (0 : Int) := o_ne h1011
            have f1139 := cb_9_4 i625 k_a0
            have f1140 : (q_I r623 9 4 a0).toInt = (q_I r609.2 9 4 a0).toInt := congrArg Int32.toInt (u626 9 4 a0 (by decide))
            have f1141 := cb_9_4 i611 k_a0
            have f1142 : (q_I r609.2 9 4 a0).toInt = (q_I δ 9 4 a0).toInt := congrArg Int32.toInt (u613 9 4 a0 (by decide))
            refine ok_ite (fun h1143 => ?_) (fun h1143 => ?_)
            · have c1144 : (q_I r623 9 4 a0).toInt < (3 : Int) := o_lt h1143
              unfold J_X9_readStep_98
              refine ok_ite (fun h1145 => ?_) (fun h1145 => ?_)
              · have c1146 : r639.1.toInt = (0 : Int) := o_eq h1145
                first | (have q1151 := te_addc (c := 1) (n := 1) rfl (q_I r623 9 2 a0) (by omega) (by omega); obtain ⟨f1152, f1153, f1154⟩ := q1151) | (obtain ⟨q1151, f1152, f1153, f1154⟩ := ti_addc (c := 1) (n := 1) rfl (q_I r623 9 2 a0))
                refine ok_bdv (fun d1147 e1148 => ?_)
                have i1149 : CI ad h.1 δ0 d1147 := by rw [e1148]; exact cs_9_2 L i625
                have u1155 := kp_I u629 e1148
                have v1156 : q_V d1147 = q_V δ := ((show q_V d1147 = q_V r623 by rw [e1148]; rfl)).trans v630
                have y1157 : q_R d1147 (Ad ad 7) = q_R δ (Ad ad 7) := ((show q_R d1147 (Ad ad 7) = q_R r623 (Ad ad 7) by rw [e1148]; rfl)).trans y631
                have f1161 := ti_b (q_I d1147 9 3 a0)
                have f1162 : (q_I d1147 9 3 a0).toInt = (q_I r623 9 3 a0).toInt := congrArg Int32.toInt (by rw [e1148]; exact rI_o (by decide))
                have f1163 := ti_b (q_I r623 9 3 a0)
                have f1164 : (q_I r623 9 3 a0).toInt = (q_I r609.2 9 3 a0).toInt := congrArg Int32.toInt (u626 9 3 a0 (by decide))
                have f1165 := ti_b (q_I r609.2 9 3 a0)
                have f1166 : (q_I r609.2 9 3 a0).toInt = (q_I δ 9 3 a0).toInt := congrArg Int32.toInt (u613 9 3 a0 (by decide))
                have f1167 := ti_b (q_I δ 9 3 a0)
                first | (have q1169 := te_addc (c := 1) (n := 1) rfl (q_I d1147 9 3 a0) (by omega) (by omega); obtain ⟨f1170, f1171, f1172⟩ := q1169) | (obtain ⟨q1169, f1170, f1171, f1172⟩ := ti_addc (c := 1) (n := 1) rfl (q_I d1147 9 3 a0))
                refine ok_bdv (fun d1158 e1159 => ?_)
                have i1160 : CI ad h.1 δ0 d1158 := by rw [e1159]; exact cs_9_3 L i1149
                have u1173 := kp_I u1155 e1159
                have v1174 : q_V d1158 = q_V δ := ((show q_V d1158 = q_V d1147 by rw [e1159]; rfl)).trans v1156
                have y1175 : q_R d1158 (Ad ad 7) = q_R δ (Ad ad 7) := ((show q_R d1158 (Ad ad 7) = q_R d1147 (Ad ad 7) by rw [e1159]; rfl)).trans y1157
                refine ok_bind (k_X9_readSum L hN (a0 := a0) (x1 := (0 : Int32)) k_a0 (show 0 ≤ (0 : Int) by first | assumption | omega) (show (0 : Int) ≤ 6 by first | assumption | omega) (show 6 - (0 : Int) < 20 by first | assumption | omega) ((congrFun (congrFun (congrFun v1174 9) 0) a0).trans hv0) ((congrFun (congrFun (congrFun v1174 9) 1) a0).trans hv1) ktp kth i1160) (fun r1176 hr1177 => ?_)
                obtain ⟨i1178, ⟨u1180, u1181, u1182⟩, p1179⟩ := hr1177
                have u1183 := kp_t u1173 u1180
                have v1184 : q_V r1176 = q_V δ := (u1181).trans v1174
                have y1185 : q_R r1176 (Ad ad 7) = q_R δ (Ad ad 7) := (u1182).trans y1175
                have f1186 := cb_8_2 i1160 kth
                have f1187 : (q_I d1158 8 2 th).toInt = (q_I d1147 8 2 th).toInt := congrArg Int32.toInt (by rw [e1159]; exact rI_o (by decide))
                have f1188 := cb_8_2 i1149 kth
                have f1189 : (q_I d1147 8 2 th).toInt = (q_I r623 8 2 th).toInt := congrArg Int32.toInt (by rw [e1148]; exact rI_o (by decide))
                have f1190 := cb_8_2 i625 kth
                have f1191 : (q_I r623 8 2 th).toInt = (q_I r609.2 8 2 th).toInt := congrArg Int32.toInt (u626 8 2 th (by decide))
                have f1192 := cb_8_2 i611 kth
                have f1193 : (q_I r609.2 8 2 th).toInt = (q_I δ 8 2 th).toInt := congrArg Int32.toInt (u613 8 2 th (by decide))
                have f1194 := cb_8_2 I kth
                have f1195 := cb_8_2 i1178 kth
                refine ok_at ((congrFun (congrFun (congrFun v1184 9) 0) a0).trans hv0) ?_
                refine ok_gp ktp ?_
                refine ok_bind (k_X7_needSign L hN (a0 := tp) (x1 := (59 : Int32)) ktp (show (59 : Int) ≠ -1 by first | assumption | omega) i1178) (fun r1196 hr1197 => ?_)
                obtain ⟨i1198, ⟨u1200, u1201, u1202⟩, p1199⟩ := hr1197
                have u1203 := kp_t u1183 u1200
                have v1204 : q_V r1196 = q_V δ := (u1201).trans v1184
                have y1205 : q_R r1196 (Ad ad 7) = q_R δ (Ad ad 7) := (congrFun u1202 (Ad ad 7)).trans y1185
                have f1206 := ti_b (q_I r1176 7 5 tp)
                have f1207 := ti_b (q_I r1196 7 5 tp)
                refine ok_at ((congrFun (congrFun (congrFun v1204 9) 1) a0).trans hv1) ?_
                refine ok_gp kth ?_
                have f1210 := cb_8_2 i1198 kth
                have f1211 : (q_I r1196 8 2 th).toInt = (q_I r1176 8 2 th).toInt := congrArg Int32.toInt (u1200 8 2 th (by decide))
                refine ok_bind (k_X8_add L hN (a0 := th) (x1 := (9 : Int32)) (x2 := r632.1) kth (show 0 ≤ (r632.1).toInt by first | assumption | omega) (show (9 : Int) = 1 → (r632.1).toInt < 4 by first | assumption | omega) (show (9 : Int) = 11 → (q_I r1196 8 2 th).toInt < 500 → (r632.1).toInt < 500 by first | assumption | omega) i1198) (fun r1208 hr1209 => ?_)
                obtain ⟨i1212, ⟨u1214, u1215, u1216⟩, p1213⟩ := hr1209
                have u1217 := kp_t u1203 u1214
                have v1218 : q_V r1208 = q_V δ := (u1215).trans v1204
                have y1219 : q_R r1208 (Ad ad 7) = q_R δ (Ad ad 7) := (u1216).trans y1205
                have f1220 := cb_8_2 i1212 kth
                unfold J_X9_readStep_163
                have f1221 := cb_9_4 i1212 k_a0
                have f1222 : (q_I r1208 9 4 a0).toInt = (q_I r1196 9 4 a0).toInt := congrArg Int32.toInt (u1214 9 4 a0 (by decide))
                have f1223 := cb_9_4 i1198 k_a0
                have f1224 : (q_I r1196 9 4 a0).toInt = (q_I r1176 9 4 a0).toInt := congrArg Int32.toInt (u1200 9 4 a0 (by decide))
                have f1225 := cb_9_4 i1178 k_a0
                have f1226 : (q_I r1176 9 4 a0).toInt = (q_I d1158 9 4 a0).toInt := congrArg Int32.toInt (u1180 9 4 a0 (by decide))
                have f1227 := cb_9_4 i1160 k_a0
                have f1228 : (q_I d1158 9 4 a0).toInt = (q_I d1147 9 4 a0).toInt := congrArg Int32.toInt (by rw [e1159]; exact rI_o (by decide))
                have f1229 := cb_9_4 i1149 k_a0
                have f1230 : (q_I d1147 9 4 a0).toInt = (q_I r623 9 4 a0).toInt := congrArg Int32.toInt (by rw [e1148]; exact rI_o (by decide))
                exact ok_some (show CI ad h.1 δ0 r1208 ∧ (kp [(7, 3), (7, 4), (7, 5), (7, 6), (8, 2), (8, 3), (9, 2), (9, 3), (9, 4)] δ r1208 ∧ q_V r1208 = q_V δ) ∧ LSn ad r1208 th (q_I r1208 9 4 a0).toInt from ⟨i1212, ⟨kp_w (by decide) u1217, v1218⟩, (hls.t (by omega) y1219).n (by omega)⟩)
              · have c1231 : r639.1.toInt ≠ (0 : Int) := o_ne h1145
                first | (have q1236 := te_addc (c := 1) (n := 1) rfl (q_I r623 9 2 a0) (by omega) (by omega); obtain ⟨f1237, f1238, f1239⟩ := q1236) | (obtain ⟨q1236, f1237, f1238, f1239⟩ := ti_addc (c := 1) (n := 1) rfl (q_I r623 9 2 a0))
                refine ok_bdv (fun d1232 e1233 => ?_)
                have i1234 : CI ad h.1 δ0 d1232 := by rw [e1233]; exact cs_9_2 L i625
                have u1240 := kp_I u629 e1233
                have v1241 : q_V d1232 = q_V δ := ((show q_V d1232 = q_V r623 by rw [e1233]; rfl)).trans v630
                have y1242 : q_R d1232 (Ad ad 7) = q_R δ (Ad ad 7) := ((show q_R d1232 (Ad ad 7) = q_R r623 (Ad ad 7) by rw [e1233]; rfl)).trans y631
                have f1245 := cb_9_4 i1234 k_a0
                have f1246 : (q_I d1232 9 4 a0).toInt = (q_I r623 9 4 a0).toInt := congrArg Int32.toInt (by rw [e1233]; exact rI_o (by decide))
                have f1247 := cb_8_2 i1234 kth
                have f1248 : (q_I d1232 8 2 th).toInt = (q_I r623 8 2 th).toInt := congrArg Int32.toInt (by rw [e1233]; exact rI_o (by decide))
                have f1249 := cb_8_2 i625 kth
                have f1250 : (q_I r623 8 2 th).toInt = (q_I r609.2 8 2 th).toInt := congrArg Int32.toInt (u626 8 2 th (by decide))
                have f1251 := cb_8_2 i611 kth
                have f1252 : (q_I r609.2 8 2 th).toInt = (q_I δ 8 2 th).toInt := congrArg Int32.toInt (u613 8 2 th (by decide))
                have f1253 := cb_8_2 I kth
                refine ok_bind (k_X9_openLoop L hN (a0 := a0) k_a0 (show (q_I d1232 9 4 a0).toInt < 3 by first | assumption | omega) ((congrFun (congrFun (congrFun v1241 9) 0) a0).trans hv0) ((congrFun (congrFun (congrFun v1241 9) 1) a0).trans hv1) ktp kth (show LSn ad d1232 th (q_I d1232 9 4 a0).toInt from (hls.t (by omega) y1242).n (by omega)) i1234) (fun r1243 hr1244 => ?_)
                obtain ⟨i1254, ⟨u1256, u1257⟩, p1255⟩ := hr1244
                have u1258 := kp_t u1240 u1256
                have v1259 : q_V r1243 = q_V δ := (u1257).trans v1241
                have f1260 := cb_9_4 i1254 k_a0
                unfold J_X9_readStep_163
                have f1261 := cb_8_2 i1254 kth
                exact ok_some (show CI ad h.1 δ0 r1243 ∧ (kp [(7, 3), (7, 4), (7, 5), (7, 6), (8, 2), (8, 3), (9, 2), (9, 3), (9, 4)] δ r1243 ∧ q_V r1243 = q_V δ) ∧ LSn ad r1243 th (q_I r1243 9 4 a0).toInt from ⟨i1254, ⟨kp_w (by decide) u1258, v1259⟩, p1255.n (by omega)⟩)
            · have c1262 : (3 : Int) ≤ (q_I r623 9 4 a0).toInt := o_nlt h1143
              unfold J_X9_readStep_87
              refine ok_at ((congrFun (congrFun (congrFun v630 9) 0) a0).trans hv0) ?_
              refine ok_gp ktp ?_
              refine ok_bind (k_X7_refuse L hN (a0 := tp) (x1 := (3 : Int32)) ktp (show (3 : Int) ≠ 0 by first | assumption | omega) i625) (fun r1263 hr1264 => ?_)
              obtain ⟨i1265, ⟨u1267, u1268, u1269⟩, p1266⟩ := hr1264
              have u1270 := kp_t u629 u1267
              have v1271 : q_V r1263 = q_V δ := (u1268).trans v630
              have y1272 : q_R r1263 (Ad ad 7) = q_R δ (Ad ad 7) := (congrFun u1269 (Ad ad 7)).trans y631
              have f1273 := ti_b (q_I r1263 7 5 tp)
              unfold J_X9_readStep_163
              have f1274 := cb_9_4 i1265 k_a0
              have f1275 : (q_I r1263 9 4 a0).toInt = (q_I r623 9 4 a0).toInt := congrArg Int32.toInt (u1267 9 4 a0 (by decide))
              have f1276 := cb_8_2 i1265 kth
              have f1277 : (q_I r1263 8 2 th).toInt = (q_I r623 8 2 th).toInt := congrArg Int32.toInt (u1267 8 2 th (by decide))
              have f1278 := cb_8_2 i625 kth
              have f1279 : (q_I r623 8 2 th).toInt = (q_I r609.2 8 2 th).toInt := congrArg Int32.toInt (u626 8 2 th (by decide))
              have f1280 := cb_8_2 i611 kth
              have f1281 : (q_I r609.2 8 2 th).toInt = (q_I δ 8 2 th).toInt := congrArg Int32.toInt (u613 8 2 th (by decide))
              have f1282 := cb_8_2 I kth
              exact ok_some (show CI ad h.1 δ0 r1263 ∧ (kp [(7, 3), (7, 4), (7, 5), (7, 6), (8, 2), (8, 3), (9, 2), (9, 3), (9, 4)] δ r1263 ∧ q_V r1263 = q_V δ) ∧ LSn ad r1263 th (q_I r1263 9 4 a0).toInt from ⟨i1265, ⟨kp_w (by decide) u1270, v1271⟩, (hls.t (by omega) y1272).n (by omega)⟩)
    · have c1283 : r609.1.toInt ≠ (0 : Int) := o_ne h621
      have f1286 := cb_9_4 i611 k_a0
      have f1287 : (q_I r609.2 9 4 a0).toInt = (q_I δ 9 4 a0).toInt := congrArg Int32.toInt (u613 9 4 a0 (by decide))
      have f1288 := cb_8_2 i611 kth
      have f1289 : (q_I r609.2 8 2 th).toInt = (q_I δ 8 2 th).toInt := congrArg Int32.toInt (u613 8 2 th (by decide))
      have f1290 := cb_8_2 I kth
      refine ok_bind (k_X9_closeLoop L hN (a0 := a0) k_a0 (show 1 ≤ (q_I r609.2 9 4 a0).toInt by first | assumption | omega) ((congrFun (congrFun (congrFun v617 9) 0) a0).trans hv0) ((congrFun (congrFun (congrFun v617 9) 1) a0).trans hv1) ktp kth (show LSn ad r609.2 th (q_I r609.2 9 4 a0).toInt from (hls.t (by omega) y618).n (by omega)) i611) (fun r1284 hr1285 => ?_)
      obtain ⟨i1291, ⟨u1293, u1294⟩, p1292⟩ := hr1285
      have u1295 := kp_t u616 u1293
      have v1296 : q_V r1284 = q_V δ := (u1294).trans v617
      have f1297 := cb_9_4 i1291 k_a0
      have f1298 := cb_8_2 i1291 kth
      exact ok_some (show CI ad h.1 δ0 r1284 ∧ (kp [(7, 3), (7, 4), (7, 5), (7, 6), (8, 2), (8, 3), (9, 2), (9, 3), (9, 4)] δ r1284 ∧ q_V r1284 = q_V δ) ∧ LSn ad r1284 th (q_I r1284 9 4 a0).toInt from ⟨i1291, ⟨kp_w (by decide) u1295, v1296⟩, p1292.n (by omega)⟩)
set_option maxHeartbeats 4000000 in
theorem kl_X9_read_34 {ad : List Nat} {h : hp} (L : Lay TLx ad h) {δ0 : dp} {N : Nat} (hN : 10000000 ≤ N) {tp th : Nat} {a0 : Nat} {a1 : Nat} {a2 : Nat} (k_a0 : q_K h.1 a0 = 9) : ∀ (n : Nat) (x3v : Int32) (δ : dp), CI ad h.1 δ0 δ → 0 ≤ (x3v).toInt → (x3v).toInt ≤ 500 → q_V δ 9 0 a0 = some tp → q_V δ 9 1 a0 = some th → q_K h.1 tp = 7 → q_K h.1 th = 8 → LSn ad δ th (q_I δ 9 4 a0).toInt → 500 - (x3v).toInt < (n : Int) → ok (L_X9_read_34 N h.1 a0 a1 a2 n x3v δ) (fun r => CI ad h.1 δ0 r ∧ (kp [(7, 3), (7, 4), (7, 5), (7, 6), (8, 2), (8, 3), (9, 2), (9, 3), (9, 4)] δ r ∧ q_V r = q_V δ)) := by
  intro n
  induction n with
  | zero =>
    intro x3v δ I j0 j1 hv0 hv1 ktp kth hls hm
    have f1 := ti_b x3v
    exfalso; omega
  | succ n ih =>
    intro x3v δ I j0 j1 hv0 hv1 ktp kth hls hm
    unfold L_X9_read_34
    have f1 := ti_b x3v
    refine ok_ite (fun h2 => ?_) (fun h2 => ?_)
    · have c3 : (500 : Int) ≤ x3v.toInt := o_le h2
      unfold J_X9_read_68
      have f4 := ti_b (q_I δ 9 2 a0)
      refine ok_ite (fun h5 => ?_) (fun h5 => ?_)
      · have c6 : (q_I δ 9 2 a0).toInt = (0 : Int) := o_eq h5
        refine ok_at ((rfl).trans hv0) ?_
        refine ok_gp ktp ?_
        refine ok_bind (k_X7_refuse L hN (a0 := tp) (x1 := (1 : Int32)) ktp (show (1 : Int) ≠ 0 by first | assumption | omega) I) (fun r7 hr8 => ?_)
        obtain ⟨i9, ⟨u11, u12, u13⟩, p10⟩ := hr8
        have u14 := kp_t kp_r u11
        have v15 : q_V r7 = q_V δ := (u12).trans rfl
        have y16 : q_R r7 (Ad ad 7) = q_R δ (Ad ad 7) := (congrFun u13 (Ad ad 7)).trans rfl
        have f17 := ti_b (q_I r7 7 5 tp)
        unfold J_X9_read_83
        exact ok_some (show CI ad h.1 δ0 r7 ∧ (kp [(7, 3), (7, 4), (7, 5), (7, 6), (8, 2), (8, 3), (9, 2), (9, 3), (9, 4)] δ r7 ∧ q_V r7 = q_V δ) from ⟨i9, ⟨kp_w (by decide) u14, v15⟩⟩)
      · have c18 : (q_I δ 9 2 a0).toInt ≠ (0 : Int) := o_ne h5
        unfold J_X9_read_83
        exact ok_some (show CI ad h.1 δ0 δ ∧ (kp [(7, 3), (7, 4), (7, 5), (7, 6), (8, 2), (8, 3), (9, 2), (9, 3), (9, 4)] δ δ ∧ q_V δ = q_V δ) from ⟨I, ⟨kp_w (by decide) kp_r, rfl⟩⟩)
    · have c19 : x3v.toInt < (500 : Int) := o_nle h2
      refine ok_at ((rfl).trans hv0) ?_
      refine ok_gp ktp ?_
      refine ok_bind (k_X7_isSound L hN (a0 := tp) ktp I) (fun r20 hr21 => ?_)
      obtain ⟨i22, p23, p24, p25⟩ := hr21
      try rw [i22]
      have f26 := bo_t p23
      have f27 := ti_b r20.1
      have f28 := ti_b (q_I δ 7 5 tp)
      have f29 := ti_b r20.1
      refine ok_ite (fun h30 => ?_) (fun h30 => ?_)
      · have c31 : r20.1.toInt = (0 : Int) := o_eq h30
        unfold J_X9_read_68
        have f32 := ti_b (q_I δ 9 2 a0)
        refine ok_ite (fun h33 => ?_) (fun h33 => ?_)
        · have c34 : (q_I δ 9 2 a0).toInt = (0 : Int) := o_eq h33
          refine ok_at ((rfl).trans hv0) ?_
          refine ok_gp ktp ?_
          refine ok_bind (k_X7_refuse L hN (a0 := tp) (x1 := (1 : Int32)) ktp (show (1 : Int) ≠ 0 by first | assumption | omega) I) (fun r35 hr36 => ?_)
          obtain ⟨i37, ⟨u39, u40, u41⟩, p38⟩ := hr36
          have u42 := kp_t kp_r u39
          have v43 : q_V r35 = q_V δ := (u40).trans rfl
          have y44 : q_R r35 (Ad ad 7) = q_R δ (Ad ad 7) := (congrFun u41 (Ad ad 7)).trans rfl
          have f45 := ti_b (q_I r35 7 5 tp)
          unfold J_X9_read_83
          exact ok_some (show CI ad h.1 δ0 r35 ∧ (kp [(7, 3), (7, 4), (7, 5), (7, 6), (8, 2), (8, 3), (9, 2), (9, 3), (9, 4)] δ r35 ∧ q_V r35 = q_V δ) from ⟨i37, ⟨kp_w (by decide) u42, v43⟩⟩)
        · have c46 : (q_I δ 9 2 a0).toInt ≠ (0 : Int) := o_ne h33
          unfold J_X9_read_83
          exact ok_some (show CI ad h.1 δ0 δ ∧ (kp [(7, 3), (7, 4), (7, 5), (7, 6), (8, 2), (8, 3), (9, 2), (9, 3), (9, 4)] δ δ ∧ q_V δ = q_V δ) from ⟨I, ⟨kp_w (by decide) kp_r, rfl⟩⟩)
      · have c47 : r20.1.toInt ≠ (0 : Int) := o_ne h30
        refine ok_bind (k_X9_isOver L hN (a0 := a0) k_a0 ((rfl).trans hv0) ((rfl).trans hv1) ktp kth I) (fun r48 hr49 => ?_)
        obtain ⟨i50, ⟨u52, u53, u54⟩, p51⟩ := hr49
        have u55 := kp_t kp_r u52
        have v56 : q_V r48.2 = q_V δ := (u53).trans rfl
        have y57 : q_R r48.2 (Ad ad 7) = q_R δ (Ad ad 7) := (congrFun u54 (Ad ad 7)).trans rfl
        have f58 := bo_t p51
        have f59 := ti_b r48.1
        refine ok_ite (fun h60 => ?_) (fun h60 => ?_)
        · have c61 : r48.1.toInt = (0 : Int) := o_eq h60
          have f64 := cb_9_4 i50 k_a0
          have f65 : (q_I r48.2 9 4 a0).toInt = (q_I δ 9 4 a0).toInt := congrArg Int32.toInt (u52 9 4 a0 (by decide))
          have f66 := cb_9_4 I k_a0
          have f67 := cb_8_2 i50 kth
          have f68 : (q_I r48.2 8 2 th).toInt = (q_I δ 8 2 th).toInt := congrArg Int32.toInt (u52 8 2 th (by decide))
          have f69 := cb_8_2 I kth
          refine ok_bind (k_X9_readStep L hN (a0 := a0) k_a0 ((congrFun (congrFun (congrFun v56 9) 0) a0).trans hv0) ((congrFun (congrFun (congrFun v56 9) 1) a0).trans hv1) ktp kth (show LSn ad r48.2 th (q_I r48.2 9 4 a0).toInt from (hls.t (by omega) y57).n (by omega)) i50) (fun r62 hr63 => ?_)
          obtain ⟨i70, ⟨u72, u73⟩, p71⟩ := hr63
          have u74 := kp_t u55 u72
          have v75 : q_V r62 = q_V δ := (u73).trans v56
          have f76 := cb_9_4 i70 k_a0
          refine ok_biv (fun vx77 e78 => ?_)
          first | (have q79 := te_addc (c := 1) (n := 1) rfl x3v (by omega) (by omega); rw [← e78] at q79; obtain ⟨f80, f81, f82⟩ := q79) | (obtain ⟨q79, f80, f81, f82⟩ : ∃ q : Int, vx77.toInt = x3v.toInt + (1 : Int) + 4294967296 * q ∧ -2147483648 ≤ vx77.toInt ∧ vx77.toInt ≤ 2147483647 := by rw [e78]; exact ti_addc (c := 1) (n := 1) rfl x3v)
          have f85 := cb_8_2 i70 kth
          refine ok_mono (ih vx77 r62 i70 (show 0 ≤ (vx77).toInt by first | assumption | omega) (show (vx77).toInt ≤ 500 by first | assumption | omega) ((congrFun (congrFun (congrFun v75 9) 0) a0).trans hv0) ((congrFun (congrFun (congrFun v75 9) 1) a0).trans hv1) ktp kth (show LSn ad r62 th (q_I r62 9 4 a0).toInt from p71.n (by omega)) (show 500 - (vx77).toInt < _ by omega)) (fun r83 hr84 => ?_)
          obtain ⟨i86, ⟨u87, u88⟩⟩ := hr84
          have u89 := kp_t u74 u87
          have v90 : q_V r83 = q_V δ := (u88).trans v75
          exact ⟨by assumption, ⟨kp_w (by decide) u89, v90⟩⟩
        · have c91 : r48.1.toInt ≠ (0 : Int) := o_ne h60
          unfold J_X9_read_68
          have f92 := ti_b (q_I r48.2 9 2 a0)
          have f93 : (q_I r48.2 9 2 a0).toInt = (q_I δ 9 2 a0).toInt := congrArg Int32.toInt (u52 9 2 a0 (by decide))
          have f94 := ti_b (q_I δ 9 2 a0)
          refine ok_ite (fun h95 => ?_) (fun h95 => ?_)
          · have c96 : (q_I r48.2 9 2 a0).toInt = (0 : Int) := o_eq h95
            refine ok_at ((congrFun (congrFun (congrFun v56 9) 0) a0).trans hv0) ?_
            refine ok_gp ktp ?_
            refine ok_bind (k_X7_refuse L hN (a0 := tp) (x1 := (1 : Int32)) ktp (show (1 : Int) ≠ 0 by first | assumption | omega) i50) (fun r97 hr98 => ?_)
            obtain ⟨i99, ⟨u101, u102, u103⟩, p100⟩ := hr98
            have u104 := kp_t u55 u101
            have v105 : q_V r97 = q_V δ := (u102).trans v56
            have y106 : q_R r97 (Ad ad 7) = q_R δ (Ad ad 7) := (congrFun u103 (Ad ad 7)).trans y57
            have f107 := ti_b (q_I r97 7 5 tp)
            unfold J_X9_read_83
            exact ok_some (show CI ad h.1 δ0 r97 ∧ (kp [(7, 3), (7, 4), (7, 5), (7, 6), (8, 2), (8, 3), (9, 2), (9, 3), (9, 4)] δ r97 ∧ q_V r97 = q_V δ) from ⟨i99, ⟨kp_w (by decide) u104, v105⟩⟩)
          · have c108 : (q_I r48.2 9 2 a0).toInt ≠ (0 : Int) := o_ne h95
            unfold J_X9_read_83
            exact ok_some (show CI ad h.1 δ0 r48.2 ∧ (kp [(7, 3), (7, 4), (7, 5), (7, 6), (8, 2), (8, 3), (9, 2), (9, 3), (9, 4)] δ r48.2 ∧ q_V r48.2 = q_V δ) from ⟨i50, ⟨kp_w (by decide) u55, v56⟩⟩)
