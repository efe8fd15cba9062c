/-! 63.kX9 (by gen_safe.py) -/
set_option maxHeartbeats 4000000 in
theorem k_X9_isOver {ad : List Nat} {h : hp} (L : Lay TLx ad h) {δ0 : dp} {N : Nat} (hN : 10000000 ≤ N) {tp th : Nat} {a0 : Nat} (k_a0 : q_K h.1 a0 = 9) {δ : dp} (hv0 : q_V δ 9 0 a0 = some tp) (hv1 : q_V δ 9 1 a0 = some th) (ktp : q_K h.1 tp = 7) (kth : q_K h.1 th = 8) (I : CI ad h.1 δ0 δ) : ok (D_X9_isOver N h.1 a0 δ) (fun r => CI ad h.1 δ0 r.2 ∧ (kp [(7, 3), (7, 4)] δ r.2 ∧ q_V r.2 = q_V δ ∧ q_R r.2 = q_R δ) ∧ bo (r.1)) := by
  unfold D_X9_isOver
  have f1 := cb_9_4 I k_a0
  refine ok_ite (fun h2 => ?_) (fun h2 => ?_)
  · have c3 : (q_I δ 9 4 a0).toInt = (0 : Int) := o_eq h2
    refine ok_at ((rfl).trans hv0) ?_
    refine ok_gp ktp ?_
    refine ok_bind (k_X7_ahead L hN (a0 := tp) ktp I) (fun r4 hr5 => ?_)
    obtain ⟨i6, ⟨u8, u9, u10⟩, p7⟩ := hr5
    have u11 := kp_t kp_r u8
    have v12 : q_V r4.2 = q_V δ := (u9).trans rfl
    have v13 : q_R r4.2 = q_R δ := (u10).trans rfl
    have f14 := ti_b r4.1
    have f15 := cb_7_3 i6 ktp
    have f16 : (q_I r4.2 7 2 tp).toInt = (q_I δ 7 2 tp).toInt := congrArg Int32.toInt (u8 7 2 tp (by decide))
    have f17 := cb_7_2 I ktp
    refine ok_ite (fun h18 => ?_) (fun h18 => ?_)
    · have c19 : r4.1.toInt = (-1 : Int) := o_eq h18
      unfold J_X9_isOver_23
      refine ok_gp (by decide) ?_
      exact ok_some (show CI ad h.1 δ0 r4.2 ∧ (kp [(7, 3), (7, 4)] δ r4.2 ∧ q_V r4.2 = q_V δ ∧ q_R r4.2 = q_R δ) ∧ bo ((1 : Int32)) from ⟨i6, ⟨kp_w (by decide) u11, v12, v13⟩, bo_1⟩)
    · have c20 : r4.1.toInt ≠ (-1 : Int) := o_ne h18
      unfold J_X9_isOver_22
      unfold J_X9_isOver_23
      refine ok_gp (by decide) ?_
      exact ok_some (show CI ad h.1 δ0 r4.2 ∧ (kp [(7, 3), (7, 4)] δ r4.2 ∧ q_V r4.2 = q_V δ ∧ q_R r4.2 = q_R δ) ∧ bo ((0 : Int32)) from ⟨i6, ⟨kp_w (by decide) u11, v12, v13⟩, bo_0⟩)
  · have c21 : (q_I δ 9 4 a0).toInt ≠ (0 : Int) := o_ne h2
    unfold J_X9_isOver_22
    unfold J_X9_isOver_23
    refine ok_gp (by decide) ?_
    exact ok_some (show CI ad h.1 δ0 δ ∧ (kp [(7, 3), (7, 4)] δ δ ∧ q_V δ = q_V δ ∧ q_R δ = q_R δ) ∧ bo ((0 : Int32)) from ⟨I, ⟨kp_w (by decide) kp_r, rfl, rfl⟩, bo_0⟩)
set_option maxHeartbeats 4000000 in
theorem k_X9_callOfWord {ad : List Nat} {h : hp} (L : Lay TLx ad h) {δ0 : dp} {N : Nat} (hN : 10000000 ≤ N) {tp th : Nat} {a0 : Nat} (k_a0 : q_K h.1 a0 = 9) {δ : dp} (hv0 : q_V δ 9 0 a0 = some tp) (hv1 : q_V δ 9 1 a0 = some th) (ktp : q_K h.1 tp = 7) (kth : q_K h.1 th = 8) (I : CI ad h.1 δ0 δ) : ok (D_X9_callOfWord N h.1 a0 δ) (fun r => r.2 = δ ∧ -1 ≤ (r.1).toInt ∧ (r.1).toInt ≤ 4) := by
  unfold D_X9_callOfWord
  refine ok_at ((rfl).trans hv0) ?_
  refine ok_gp ktp ?_
  refine ok_bind (k_X7_wordIs L hN (a0 := tp) (a1 := 5) ktp (show 5 < 16 by first | with_reducible assumption | omega) I) (fun r1 hr2 => ?_)
  obtain ⟨i3, p4⟩ := hr2
  try rw [i3]
  have f5 := bo_t p4
  have f6 := ti_b r1.1
  refine ok_ite (fun h7 => ?_) (fun h7 => ?_)
  · have c8 : r1.1.toInt = (0 : Int) := o_eq h7
    refine ok_at ((rfl).trans hv0) ?_
    refine ok_gp ktp ?_
    refine ok_bind (k_X7_wordIs L hN (a0 := tp) (a1 := 6) ktp (show 6 < 16 by first | with_reducible assumption | omega) I) (fun r9 hr10 => ?_)
    obtain ⟨i11, p12⟩ := hr10
    try rw [i11]
    have f13 := bo_t p12
    have f14 := ti_b r9.1
    refine ok_ite (fun h15 => ?_) (fun h15 => ?_)
    · have c16 : r9.1.toInt = (0 : Int) := o_eq h15
      refine ok_at ((rfl).trans hv0) ?_
      refine ok_gp ktp ?_
      refine ok_bind (k_X7_wordIs L hN (a0 := tp) (a1 := 7) ktp (show 7 < 16 by first | with_reducible assumption | omega) I) (fun r17 hr18 => ?_)
      obtain ⟨i19, p20⟩ := hr18
      try rw [i19]
      have f21 := bo_t p20
      have f22 := ti_b r17.1
      refine ok_ite (fun h23 => ?_) (fun h23 => ?_)
      · have c24 : r17.1.toInt = (0 : Int) := o_eq h23
        refine ok_at ((rfl).trans hv0) ?_
        refine ok_gp ktp ?_
        refine ok_bind (k_X7_wordIs L hN (a0 := tp) (a1 := 8) ktp (show 8 < 16 by first | with_reducible assumption | omega) I) (fun r25 hr26 => ?_)
        obtain ⟨i27, p28⟩ := hr26
        try rw [i27]
        have f29 := bo_t p28
        have f30 := ti_b r25.1
        refine ok_ite (fun h31 => ?_) (fun h31 => ?_)
        · have c32 : r25.1.toInt = (0 : Int) := o_eq h31
          refine ok_at ((rfl).trans hv0) ?_
          refine ok_gp ktp ?_
          refine ok_bind (k_X7_wordIs L hN (a0 := tp) (a1 := 9) ktp (show 9 < 16 by first | with_reducible assumption | omega) I) (fun r33 hr34 => ?_)
          obtain ⟨i35, p36⟩ := hr34
          try rw [i35]
          have f37 := bo_t p36
          have f38 := ti_b r33.1
          refine ok_ite (fun h39 => ?_) (fun h39 => ?_)
          · have c40 : r33.1.toInt = (0 : Int) := o_eq h39
            unfold J_X9_callOfWord_73
            exact ok_some (show δ = δ ∧ -1 ≤ (-1 : Int) ∧ (-1 : Int) ≤ 4 from ⟨rfl, by first | with_reducible assumption | omega, by first | with_reducible assumption | omega⟩)
          · have c41 : r33.1.toInt ≠ (0 : Int) := o_ne h39
            unfold J_X9_callOfWord_73
            exact ok_some (show δ = δ ∧ -1 ≤ (4 : Int) ∧ (4 : Int) ≤ 4 from ⟨rfl, by first | with_reducible assumption | omega, by first | with_reducible assumption | omega⟩)
        · have c42 : r25.1.toInt ≠ (0 : Int) := o_ne h31
          exact ok_some (show δ = δ ∧ -1 ≤ (3 : Int) ∧ (3 : Int) ≤ 4 from ⟨rfl, by first | with_reducible assumption | omega, by first | with_reducible assumption | omega⟩)
      · have c43 : r17.1.toInt ≠ (0 : Int) := o_ne h23
        exact ok_some (show δ = δ ∧ -1 ≤ (2 : Int) ∧ (2 : Int) ≤ 4 from ⟨rfl, by first | with_reducible assumption | omega, by first | with_reducible assumption | omega⟩)
    · have c44 : r9.1.toInt ≠ (0 : Int) := o_ne h15
      exact ok_some (show δ = δ ∧ -1 ≤ (1 : Int) ∧ (1 : Int) ≤ 4 from ⟨rfl, by first | with_reducible assumption | omega, by first | with_reducible assumption | omega⟩)
  · have c45 : r1.1.toInt ≠ (0 : Int) := o_ne h7
    exact ok_some (show δ = δ ∧ -1 ≤ (0 : Int) ∧ (0 : Int) ≤ 4 from ⟨rfl, by first | with_reducible assumption | omega, by first | with_reducible assumption | omega⟩)
set_option maxHeartbeats 4000000 in
theorem k_X9_addName {ad : List Nat} {h : hp} (L : Lay TLx ad h) {δ0 : dp} {N : Nat} (hN : 10000000 ≤ N) {tp th : Nat} {a0 : Nat} (k_a0 : q_K h.1 a0 = 9) {δ : dp} (hv0 : q_V δ 9 0 a0 = some tp) (hv1 : q_V δ 9 1 a0 = some th) (ktp : q_K h.1 tp = 7) (kth : q_K h.1 th = 8) (I : CI ad h.1 δ0 δ) : ok (D_X9_addName N h.1 a0 δ) (fun r => CI ad h.1 δ0 r ∧ (kp [(7, 5), (7, 6), (8, 2), (8, 3)] δ r ∧ q_V r = q_V δ ∧ q_R r (Ad ad 7) = q_R δ (Ad ad 7)) ∧ (q_I δ 8 2 th).toInt ≤ (q_I r 8 2 th).toInt) := by
  unfold D_X9_addName
  refine ok_at ((rfl).trans hv0) ?_
  refine ok_gp ktp ?_
  refine ok_bind (k_X7_wordIs L hN (a0 := tp) (a1 := 11) ktp (show 11 < 16 by first | with_reducible assumption | omega) I) (fun r1 hr2 => ?_)
  obtain ⟨i3, p4⟩ := hr2
  try rw [i3]
  have f5 := bo_t p4
  have f6 := ti_b r1.1
  refine ok_ite (fun h7 => ?_) (fun h7 => ?_)
  · have c8 : r1.1.toInt = (0 : Int) := o_eq h7
    refine ok_at ((rfl).trans hv0) ?_
    refine ok_gp ktp ?_
    refine ok_bind (k_X7_wordIs L hN (a0 := tp) (a1 := 12) ktp (show 12 < 16 by first | with_reducible assumption | omega) I) (fun r9 hr10 => ?_)
    obtain ⟨i11, p12⟩ := hr10
    try rw [i11]
    have f13 := bo_t p12
    have f14 := ti_b r9.1
    refine ok_ite (fun h15 => ?_) (fun h15 => ?_)
    · have c16 : r9.1.toInt = (0 : Int) := o_eq h15
      refine ok_at ((rfl).trans hv0) ?_
      refine ok_gp ktp ?_
      refine ok_bind (k_X7_wordIs L hN (a0 := tp) (a1 := 13) ktp (show 13 < 16 by first | with_reducible assumption | omega) I) (fun r17 hr18 => ?_)
      obtain ⟨i19, p20⟩ := hr18
      try rw [i19]
      have f21 := bo_t p20
      have f22 := ti_b r17.1
      refine ok_ite (fun h23 => ?_) (fun h23 => ?_)
      · have c24 : r17.1.toInt = (0 : Int) := o_eq h23
        refine ok_at ((rfl).trans hv0) ?_
        refine ok_gp ktp ?_
        refine ok_bind (k_X7_wordIs L hN (a0 := tp) (a1 := 14) ktp (show 14 < 16 by first | with_reducible assumption | omega) I) (fun r25 hr26 => ?_)
        obtain ⟨i27, p28⟩ := hr26
        try rw [i27]
        have f29 := bo_t p28
        have f30 := ti_b r25.1
        refine ok_ite (fun h31 => ?_) (fun h31 => ?_)
        · have c32 : r25.1.toInt = (0 : Int) := o_eq h31
          refine ok_at ((rfl).trans hv0) ?_
          refine ok_gp ktp ?_
          refine ok_bind (k_X7_wordIs L hN (a0 := tp) (a1 := 15) ktp (show 15 < 16 by first | with_reducible assumption | omega) I) (fun r33 hr34 => ?_)
          obtain ⟨i35, p36⟩ := hr34
          try rw [i35]
          have f37 := bo_t p36
          have f38 := ti_b r33.1
          refine ok_ite (fun h39 => ?_) (fun h39 => ?_)
          · have c40 : r33.1.toInt = (0 : Int) := o_eq h39
            refine ok_at ((rfl).trans hv0) ?_
            refine ok_gp ktp ?_
            refine ok_bind (k_X7_refuse L hN (a0 := tp) (x1 := (1 : Int32)) ktp (show (1 : Int) ≠ 0 by first | with_reducible assumption | omega) I) (fun r41 hr42 => ?_)
            obtain ⟨i43, ⟨u45, u46, u47⟩, p44⟩ := hr42
            have u48 := kp_t kp_r u45
            have v49 : q_V r41 = q_V δ := (u46).trans rfl
            have v50 : q_R r41 (Ad ad 7) = q_R δ (Ad ad 7) := (congrFun u47 (Ad ad 7)).trans rfl
            have f51 := ti_b (q_I r41 7 5 tp)
            unfold J_X9_addName_151
            have f52 := cb_8_2 I kth
            have f53 : (q_I r41 8 2 th).toInt = (q_I δ 8 2 th).toInt := congrArg Int32.toInt (u45 8 2 th (by decide))
            exact ok_some (show CI ad h.1 δ0 r41 ∧ (kp [(7, 5), (7, 6), (8, 2), (8, 3)] δ r41 ∧ q_V r41 = q_V δ ∧ q_R r41 (Ad ad 7) = q_R δ (Ad ad 7)) ∧ (q_I δ 8 2 th).toInt ≤ (q_I r41 8 2 th).toInt from ⟨i43, ⟨kp_w (by decide) u48, v49, v50⟩, by first | with_reducible assumption | omega⟩)
          · have c54 : r33.1.toInt ≠ (0 : Int) := o_ne h39
            refine ok_at ((rfl).trans hv1) ?_
            refine ok_gp kth ?_
            have f57 := cb_8_2 I kth
            refine ok_bind (k_X8_add L hN (a0 := th) (x1 := (4 : Int32)) (x2 := (0 : Int32)) kth (show 0 ≤ (0 : Int) by first | with_reducible assumption | omega) (show (4 : Int) = 1 → (0 : Int) < 4 by first | with_reducible assumption | omega) (show (4 : Int) = 11 → (q_I δ 8 2 th).toInt < 500 → (0 : Int) < 500 by first | with_reducible assumption | omega) I) (fun r55 hr56 => ?_)
            obtain ⟨i58, ⟨u60, u61, u62⟩, p59⟩ := hr56
            have u63 := kp_t kp_r u60
            have v64 : q_V r55 = q_V δ := (u61).trans rfl
            have v65 : q_R r55 (Ad ad 7) = q_R δ (Ad ad 7) := (u62).trans rfl
            have f66 := cb_8_2 i58 kth
            unfold J_X9_addName_151
            exact ok_some (show CI ad h.1 δ0 r55 ∧ (kp [(7, 5), (7, 6), (8, 2), (8, 3)] δ r55 ∧ q_V r55 = q_V δ ∧ q_R r55 (Ad ad 7) = q_R δ (Ad ad 7)) ∧ (q_I δ 8 2 th).toInt ≤ (q_I r55 8 2 th).toInt from ⟨i58, ⟨kp_w (by decide) u63, v64, v65⟩, by first | with_reducible assumption | omega⟩)
        · have c67 : r25.1.toInt ≠ (0 : Int) := o_ne h31
          refine ok_at ((rfl).trans hv1) ?_
          refine ok_gp kth ?_
          have f70 := cb_8_2 I kth
          refine ok_bind (k_X8_add L hN (a0 := th) (x1 := (3 : Int32)) (x2 := (0 : Int32)) kth (show 0 ≤ (0 : Int) by first | with_reducible assumption | omega) (show (3 : Int) = 1 → (0 : Int) < 4 by first | with_reducible assumption | omega) (show (3 : Int) = 11 → (q_I δ 8 2 th).toInt < 500 → (0 : Int) < 500 by first | with_reducible assumption | omega) I) (fun r68 hr69 => ?_)
          obtain ⟨i71, ⟨u73, u74, u75⟩, p72⟩ := hr69
          have u76 := kp_t kp_r u73
          have v77 : q_V r68 = q_V δ := (u74).trans rfl
          have v78 : q_R r68 (Ad ad 7) = q_R δ (Ad ad 7) := (u75).trans rfl
          have f79 := cb_8_2 i71 kth
          unfold J_X9_addName_151
          exact ok_some (show CI ad h.1 δ0 r68 ∧ (kp [(7, 5), (7, 6), (8, 2), (8, 3)] δ r68 ∧ q_V r68 = q_V δ ∧ q_R r68 (Ad ad 7) = q_R δ (Ad ad 7)) ∧ (q_I δ 8 2 th).toInt ≤ (q_I r68 8 2 th).toInt from ⟨i71, ⟨kp_w (by decide) u76, v77, v78⟩, by first | with_reducible assumption | omega⟩)
      · have c80 : r17.1.toInt ≠ (0 : Int) := o_ne h23
        refine ok_at ((rfl).trans hv1) ?_
        refine ok_gp kth ?_
        have f83 := cb_8_2 I kth
        refine ok_bind (k_X8_add L hN (a0 := th) (x1 := (2 : Int32)) (x2 := (0 : Int32)) kth (show 0 ≤ (0 : Int) by first | with_reducible assumption | omega) (show (2 : Int) = 1 → (0 : Int) < 4 by first | with_reducible assumption | omega) (show (2 : Int) = 11 → (q_I δ 8 2 th).toInt < 500 → (0 : Int) < 500 by first | with_reducible assumption | omega) I) (fun r81 hr82 => ?_)
        obtain ⟨i84, ⟨u86, u87, u88⟩, p85⟩ := hr82
        have u89 := kp_t kp_r u86
        have v90 : q_V r81 = q_V δ := (u87).trans rfl
        have v91 : q_R r81 (Ad ad 7) = q_R δ (Ad ad 7) := (u88).trans rfl
        have f92 := cb_8_2 i84 kth
        unfold J_X9_addName_151
        exact ok_some (show CI ad h.1 δ0 r81 ∧ (kp [(7, 5), (7, 6), (8, 2), (8, 3)] δ r81 ∧ q_V r81 = q_V δ ∧ q_R r81 (Ad ad 7) = q_R δ (Ad ad 7)) ∧ (q_I δ 8 2 th).toInt ≤ (q_I r81 8 2 th).toInt from ⟨i84, ⟨kp_w (by decide) u89, v90, v91⟩, by first | with_reducible assumption | omega⟩)
    · have c93 : r9.1.toInt ≠ (0 : Int) := o_ne h15
      unfold J_X9_addName_24
      refine ok_at ((rfl).trans hv0) ?_
      refine ok_gp ktp ?_
      refine ok_bind (k_X7_wordIs L hN (a0 := tp) (a1 := 11) ktp (show 11 < 16 by first | with_reducible assumption | omega) I) (fun r94 hr95 => ?_)
      obtain ⟨i96, p97⟩ := hr95
      try rw [i96]
      have f98 := bo_t p97
      have f99 := ti_b r94.1
      refine ok_ite (fun h100 => ?_) (fun h100 => ?_)
      · have c101 : r94.1.toInt = (0 : Int) := o_eq h100
        unfold J_X9_addName_45
        have f104 := cb_9_4 I k_a0
        refine ok_biv (fun vx102 e103 => ?_)
        first | (have q105 := te_subc (c := 2) (n := 2) rfl (q_I δ 9 4 a0) (by omega) (by omega); rw [← e103] at q105; obtain ⟨f106, f107, f108⟩ := q105) | (obtain ⟨q105, f106, f107, f108⟩ : ∃ q : Int, vx102.toInt = (q_I δ 9 4 a0).toInt - (2 : Int) + 4294967296 * q ∧ -2147483648 ≤ vx102.toInt ∧ vx102.toInt ≤ 2147483647 := by rw [e103]; exact ti_subc (c := 2) (n := 2) rfl (q_I δ 9 4 a0))
        refine ok_at ((rfl).trans hv1) ?_
        refine ok_gp kth ?_
        refine ok_ite (fun h109 => ?_) (fun h109 => ?_)
        · have c110 : (0 : Int) ≤ vx102.toInt := o_le h109
          unfold J_X9_addName_60
          refine ok_bind (k_J9_max_7cf53 L hN (x0 := vx102) (x1 := (0 : Int32))  I) (fun r111 hr112 => ?_)
          obtain ⟨i113, p114, p115, p116⟩ := hr112
          try rw [i113]
          have f117 := ti_b r111.1
          replace p115 : (0 : Int) ≤ (r111.1).toInt := p115
          replace p116 : ((r111.1).toInt = (vx102).toInt ∨ (r111.1).toInt = (0 : Int)) := p116
          have f120 := cb_8_2 I kth
          refine ok_bind (k_X8_add L hN (a0 := th) (x1 := (1 : Int32)) (x2 := r111.1) kth (show 0 ≤ (r111.1).toInt by first | with_reducible assumption | omega) (show (1 : Int) = 1 → (r111.1).toInt < 4 by first | with_reducible assumption | omega) (show (1 : Int) = 11 → (q_I δ 8 2 th).toInt < 500 → (r111.1).toInt < 500 by first | with_reducible assumption | omega) I) (fun r118 hr119 => ?_)
          obtain ⟨i121, ⟨u123, u124, u125⟩, p122⟩ := hr119
          have u126 := kp_t kp_r u123
          have v127 : q_V r118 = q_V δ := (u124).trans rfl
          have v128 : q_R r118 (Ad ad 7) = q_R δ (Ad ad 7) := (u125).trans rfl
          have f129 := cb_8_2 i121 kth
          unfold J_X9_addName_151
          exact ok_some (show CI ad h.1 δ0 r118 ∧ (kp [(7, 5), (7, 6), (8, 2), (8, 3)] δ r118 ∧ q_V r118 = q_V δ ∧ q_R r118 (Ad ad 7) = q_R δ (Ad ad 7)) ∧ (q_I δ 8 2 th).toInt ≤ (q_I r118 8 2 th).toInt from ⟨i121, ⟨kp_w (by decide) u126, v127, v128⟩, by first | with_reducible assumption | omega⟩)
        · have c130 : vx102.toInt < (0 : Int) := o_nle h109
          unfold J_X9_addName_60
          refine ok_bind (k_J9_max_7cf53 L hN (x0 := vx102) (x1 := (0 : Int32))  I) (fun r131 hr132 => ?_)
          obtain ⟨i133, p134, p135, p136⟩ := hr132
          try rw [i133]
          have f137 := ti_b r131.1
          replace p135 : (0 : Int) ≤ (r131.1).toInt := p135
          replace p136 : ((r131.1).toInt = (vx102).toInt ∨ (r131.1).toInt = (0 : Int)) := p136
          have f140 := cb_8_2 I kth
          refine ok_bind (k_X8_add L hN (a0 := th) (x1 := (0 : Int32)) (x2 := r131.1) kth (show 0 ≤ (r131.1).toInt by first | with_reducible assumption | omega) (show (0 : Int) = 1 → (r131.1).toInt < 4 by first | with_reducible assumption | omega) (show (0 : Int) = 11 → (q_I δ 8 2 th).toInt < 500 → (r131.1).toInt < 500 by first | with_reducible assumption | omega) I) (fun r138 hr139 => ?_)
          obtain ⟨i141, ⟨u143, u144, u145⟩, p142⟩ := hr139
          have u146 := kp_t kp_r u143
          have v147 : q_V r138 = q_V δ := (u144).trans rfl
          have v148 : q_R r138 (Ad ad 7) = q_R δ (Ad ad 7) := (u145).trans rfl
          have f149 := cb_8_2 i141 kth
          unfold J_X9_addName_151
          exact ok_some (show CI ad h.1 δ0 r138 ∧ (kp [(7, 5), (7, 6), (8, 2), (8, 3)] δ r138 ∧ q_V r138 = q_V δ ∧ q_R r138 (Ad ad 7) = q_R δ (Ad ad 7)) ∧ (q_I δ 8 2 th).toInt ≤ (q_I r138 8 2 th).toInt from ⟨i141, ⟨kp_w (by decide) u146, v147, v148⟩, by first | with_reducible assumption | omega⟩)
      · have c150 : r94.1.toInt ≠ (0 : Int) := o_ne h100
        unfold J_X9_addName_45
        have f153 := cb_9_4 I k_a0
        refine ok_biv (fun vx151 e152 => ?_)
        first | (have q154 := te_subc (c := 1) (n := 1) rfl (q_I δ 9 4 a0) (by omega) (by omega); rw [← e152] at q154; obtain ⟨f155, f156, f157⟩ := q154) | (obtain ⟨q154, f155, f156, f157⟩ : ∃ q : Int, vx151.toInt = (q_I δ 9 4 a0).toInt - (1 : Int) + 4294967296 * q ∧ -2147483648 ≤ vx151.toInt ∧ vx151.toInt ≤ 2147483647 := by rw [e152]; exact ti_subc (c := 1) (n := 1) rfl (q_I δ 9 4 a0))
        refine ok_at ((rfl).trans hv1) ?_
        refine ok_gp kth ?_
        refine ok_ite (fun h158 => ?_) (fun h158 => ?_)
        · have c159 : (0 : Int) ≤ vx151.toInt := o_le h158
          unfold J_X9_addName_60
          refine ok_bind (k_J9_max_7cf53 L hN (x0 := vx151) (x1 := (0 : Int32))  I) (fun r160 hr161 => ?_)
          obtain ⟨i162, p163, p164, p165⟩ := hr161
          try rw [i162]
          have f166 := ti_b r160.1
          replace p164 : (0 : Int) ≤ (r160.1).toInt := p164
          replace p165 : ((r160.1).toInt = (vx151).toInt ∨ (r160.1).toInt = (0 : Int)) := p165
          have f169 := cb_8_2 I kth
          refine ok_bind (k_X8_add L hN (a0 := th) (x1 := (1 : Int32)) (x2 := r160.1) kth (show 0 ≤ (r160.1).toInt by first | with_reducible assumption | omega) (show (1 : Int) = 1 → (r160.1).toInt < 4 by first | with_reducible assumption | omega) (show (1 : Int) = 11 → (q_I δ 8 2 th).toInt < 500 → (r160.1).toInt < 500 by first | with_reducible assumption | omega) I) (fun r167 hr168 => ?_)
          obtain ⟨i170, ⟨u172, u173, u174⟩, p171⟩ := hr168
          have u175 := kp_t kp_r u172
          have v176 : q_V r167 = q_V δ := (u173).trans rfl
          have v177 : q_R r167 (Ad ad 7) = q_R δ (Ad ad 7) := (u174).trans rfl
          have f178 := cb_8_2 i170 kth
          unfold J_X9_addName_151
          exact ok_some (show CI ad h.1 δ0 r167 ∧ (kp [(7, 5), (7, 6), (8, 2), (8, 3)] δ r167 ∧ q_V r167 = q_V δ ∧ q_R r167 (Ad ad 7) = q_R δ (Ad ad 7)) ∧ (q_I δ 8 2 th).toInt ≤ (q_I r167 8 2 th).toInt from ⟨i170, ⟨kp_w (by decide) u175, v176, v177⟩, by first | with_reducible assumption | omega⟩)
        · have c179 : vx151.toInt < (0 : Int) := o_nle h158
          unfold J_X9_addName_60
          refine ok_bind (k_J9_max_7cf53 L hN (x0 := vx151) (x1 := (0 : Int32))  I) (fun r180 hr181 => ?_)
          obtain ⟨i182, p183, p184, p185⟩ := hr181
          try rw [i182]
          have f186 := ti_b r180.1
          replace p184 : (0 : Int) ≤ (r180.1).toInt := p184
          replace p185 : ((r180.1).toInt = (vx151).toInt ∨ (r180.1).toInt = (0 : Int)) := p185
          have f189 := cb_8_2 I kth
          refine ok_bind (k_X8_add L hN (a0 := th) (x1 := (0 : Int32)) (x2 := r180.1) kth (show 0 ≤ (r180.1).toInt by first | with_reducible assumption | omega) (show (0 : Int) = 1 → (r180.1).toInt < 4 by first | with_reducible assumption | omega) (show (0 : Int) = 11 → (q_I δ 8 2 th).toInt < 500 → (r180.1).toInt < 500 by first | with_reducible assumption | omega) I) (fun r187 hr188 => ?_)
          obtain ⟨i190, ⟨u192, u193, u194⟩, p191⟩ := hr188
          have u195 := kp_t kp_r u192
          have v196 : q_V r187 = q_V δ := (u193).trans rfl
          have v197 : q_R r187 (Ad ad 7) = q_R δ (Ad ad 7) := (u194).trans rfl
          have f198 := cb_8_2 i190 kth
          unfold J_X9_addName_151
          exact ok_some (show CI ad h.1 δ0 r187 ∧ (kp [(7, 5), (7, 6), (8, 2), (8, 3)] δ r187 ∧ q_V r187 = q_V δ ∧ q_R r187 (Ad ad 7) = q_R δ (Ad ad 7)) ∧ (q_I δ 8 2 th).toInt ≤ (q_I r187 8 2 th).toInt from ⟨i190, ⟨kp_w (by decide) u195, v196, v197⟩, by first | with_reducible assumption | omega⟩)
  · have c199 : r1.1.toInt ≠ (0 : Int) := o_ne h7
    unfold J_X9_addName_24
    refine ok_at ((rfl).trans hv0) ?_
    refine ok_gp ktp ?_
    refine ok_bind (k_X7_wordIs L hN (a0 := tp) (a1 := 11) ktp (show 11 < 16 by first | with_reducible assumption | omega) I) (fun r200 hr201 => ?_)
    obtain ⟨i202, p203⟩ := hr201
    try rw [i202]
    have f204 := bo_t p203
    have f205 := ti_b r200.1
    refine ok_ite (fun h206 => ?_) (fun h206 => ?_)
    · have c207 : r200.1.toInt = (0 : Int) := o_eq h206
      unfold J_X9_addName_45
      have f210 := cb_9_4 I k_a0
      refine ok_biv (fun vx208 e209 => ?_)
      first | (have q211 := te_subc (c := 2) (n := 2) rfl (q_I δ 9 4 a0) (by omega) (by omega); rw [← e209] at q211; obtain ⟨f212, f213, f214⟩ := q211) | (obtain ⟨q211, f212, f213, f214⟩ : ∃ q : Int, vx208.toInt = (q_I δ 9 4 a0).toInt - (2 : Int) + 4294967296 * q ∧ -2147483648 ≤ vx208.toInt ∧ vx208.toInt ≤ 2147483647 := by rw [e209]; exact ti_subc (c := 2) (n := 2) rfl (q_I δ 9 4 a0))
      refine ok_at ((rfl).trans hv1) ?_
      refine ok_gp kth ?_
      refine ok_ite (fun h215 => ?_) (fun h215 => ?_)
      · have c216 : (0 : Int) ≤ vx208.toInt := o_le h215
        unfold J_X9_addName_60
        refine ok_bind (k_J9_max_7cf53 L hN (x0 := vx208) (x1 := (0 : Int32))  I) (fun r217 hr218 => ?_)
        obtain ⟨i219, p220, p221, p222⟩ := hr218
        try rw [i219]
        have f223 := ti_b r217.1
        replace p221 : (0 : Int) ≤ (r217.1).toInt := p221
        replace p222 : ((r217.1).toInt = (vx208).toInt ∨ (r217.1).toInt = (0 : Int)) := p222
        have f226 := cb_8_2 I kth
        refine ok_bind (k_X8_add L hN (a0 := th) (x1 := (1 : Int32)) (x2 := r217.1) kth (show 0 ≤ (r217.1).toInt by first | with_reducible assumption | omega) (show (1 : Int) = 1 → (r217.1).toInt < 4 by first | with_reducible assumption | omega) (show (1 : Int) = 11 → (q_I δ 8 2 th).toInt < 500 → (r217.1).toInt < 500 by first | with_reducible assumption | omega) I) (fun r224 hr225 => ?_)
        obtain ⟨i227, ⟨u229, u230, u231⟩, p228⟩ := hr225
        have u232 := kp_t kp_r u229
        have v233 : q_V r224 = q_V δ := (u230).trans rfl
        have v234 : q_R r224 (Ad ad 7) = q_R δ (Ad ad 7) := (u231).trans rfl
        have f235 := cb_8_2 i227 kth
        unfold J_X9_addName_151
        exact ok_some (show CI ad h.1 δ0 r224 ∧ (kp [(7, 5), (7, 6), (8, 2), (8, 3)] δ r224 ∧ q_V r224 = q_V δ ∧ q_R r224 (Ad ad 7) = q_R δ (Ad ad 7)) ∧ (q_I δ 8 2 th).toInt ≤ (q_I r224 8 2 th).toInt from ⟨i227, ⟨kp_w (by decide) u232, v233, v234⟩, by first | with_reducible assumption | omega⟩)
      · have c236 : vx208.toInt < (0 : Int) := o_nle h215
        unfold J_X9_addName_60
        refine ok_bind (k_J9_max_7cf53 L hN (x0 := vx208) (x1 := (0 : Int32))  I) (fun r237 hr238 => ?_)
        obtain ⟨i239, p240, p241, p242⟩ := hr238
        try rw [i239]
        have f243 := ti_b r237.1
        replace p241 : (0 : Int) ≤ (r237.1).toInt := p241
        replace p242 : ((r237.1).toInt = (vx208).toInt ∨ (r237.1).toInt = (0 : Int)) := p242
        have f246 := cb_8_2 I kth
        refine ok_bind (k_X8_add L hN (a0 := th) (x1 := (0 : Int32)) (x2 := r237.1) kth (show 0 ≤ (r237.1).toInt by first | with_reducible assumption | omega) (show (0 : Int) = 1 → (r237.1).toInt < 4 by first | with_reducible assumption | omega) (show (0 : Int) = 11 → (q_I δ 8 2 th).toInt < 500 → (r237.1).toInt < 500 by first | with_reducible assumption | omega) I) (fun r244 hr245 => ?_)
        obtain ⟨i247, ⟨u249, u250, u251⟩, p248⟩ := hr245
        have u252 := kp_t kp_r u249
        have v253 : q_V r244 = q_V δ := (u250).trans rfl
        have v254 : q_R r244 (Ad ad 7) = q_R δ (Ad ad 7) := (u251).trans rfl
        have f255 := cb_8_2 i247 kth
        unfold J_X9_addName_151
        exact ok_some (show CI ad h.1 δ0 r244 ∧ (kp [(7, 5), (7, 6), (8, 2), (8, 3)] δ r244 ∧ q_V r244 = q_V δ ∧ q_R r244 (Ad ad 7) = q_R δ (Ad ad 7)) ∧ (q_I δ 8 2 th).toInt ≤ (q_I r244 8 2 th).toInt from ⟨i247, ⟨kp_w (by decide) u252, v253, v254⟩, by first | with_reducible assumption | omega⟩)
    · have c256 : r200.1.toInt ≠ (0 : Int) := o_ne h206
      unfold J_X9_addName_45
      have f259 := cb_9_4 I k_a0
      refine ok_biv (fun vx257 e258 => ?_)
      first | (have q260 := te_subc (c := 1) (n := 1) rfl (q_I δ 9 4 a0) (by omega) (by omega); rw [← e258] at q260; obtain ⟨f261, f262, f263⟩ := q260) | (obtain ⟨q260, f261, f262, f263⟩ : ∃ q : Int, vx257.toInt = (q_I δ 9 4 a0).toInt - (1 : Int) + 4294967296 * q ∧ -2147483648 ≤ vx257.toInt ∧ vx257.toInt ≤ 2147483647 := by rw [e258]; exact ti_subc (c := 1) (n := 1) rfl (q_I δ 9 4 a0))
      refine ok_at ((rfl).trans hv1) ?_
      refine ok_gp kth ?_
      refine ok_ite (fun h264 => ?_) (fun h264 => ?_)
      · have c265 : (0 : Int) ≤ vx257.toInt := o_le h264
        unfold J_X9_addName_60
        refine ok_bind (k_J9_max_7cf53 L hN (x0 := vx257) (x1 := (0 : Int32))  I) (fun r266 hr267 => ?_)
        obtain ⟨i268, p269, p270, p271⟩ := hr267
        try rw [i268]
        have f272 := ti_b r266.1
        replace p270 : (0 : Int) ≤ (r266.1).toInt := p270
        replace p271 : ((r266.1).toInt = (vx257).toInt ∨ (r266.1).toInt = (0 : Int)) := p271
        have f275 := cb_8_2 I kth
        refine ok_bind (k_X8_add L hN (a0 := th) (x1 := (1 : Int32)) (x2 := r266.1) kth (show 0 ≤ (r266.1).toInt by first | with_reducible assumption | omega) (show (1 : Int) = 1 → (r266.1).toInt < 4 by first | with_reducible assumption | omega) (show (1 : Int) = 11 → (q_I δ 8 2 th).toInt < 500 → (r266.1).toInt < 500 by first | with_reducible assumption | omega) I) (fun r273 hr274 => ?_)
        obtain ⟨i276, ⟨u278, u279, u280⟩, p277⟩ := hr274
        have u281 := kp_t kp_r u278
        have v282 : q_V r273 = q_V δ := (u279).trans rfl
        have v283 : q_R r273 (Ad ad 7) = q_R δ (Ad ad 7) := (u280).trans rfl
        have f284 := cb_8_2 i276 kth
        unfold J_X9_addName_151
        exact ok_some (show CI ad h.1 δ0 r273 ∧ (kp [(7, 5), (7, 6), (8, 2), (8, 3)] δ r273 ∧ q_V r273 = q_V δ ∧ q_R r273 (Ad ad 7) = q_R δ (Ad ad 7)) ∧ (q_I δ 8 2 th).toInt ≤ (q_I r273 8 2 th).toInt from ⟨i276, ⟨kp_w (by decide) u281, v282, v283⟩, by first | with_reducible assumption | omega⟩)
      · have c285 : vx257.toInt < (0 : Int) := o_nle h264
        unfold J_X9_addName_60
        refine ok_bind (k_J9_max_7cf53 L hN (x0 := vx257) (x1 := (0 : Int32))  I) (fun r286 hr287 => ?_)
        obtain ⟨i288, p289, p290, p291⟩ := hr287
        try rw [i288]
        have f292 := ti_b r286.1
        replace p290 : (0 : Int) ≤ (r286.1).toInt := p290
        replace p291 : ((r286.1).toInt = (vx257).toInt ∨ (r286.1).toInt = (0 : Int)) := p291
        have f295 := cb_8_2 I kth
        refine ok_bind (k_X8_add L hN (a0 := th) (x1 := (0 : Int32)) (x2 := r286.1) kth (show 0 ≤ (r286.1).toInt by first | with_reducible assumption | omega) (show (0 : Int) = 1 → (r286.1).toInt < 4 by first | with_reducible assumption | omega) (show (0 : Int) = 11 → (q_I δ 8 2 th).toInt < 500 → (r286.1).toInt < 500 by first | with_reducible assumption | omega) I) (fun r293 hr294 => ?_)
        obtain ⟨i296, ⟨u298, u299, u300⟩, p297⟩ := hr294
        have u301 := kp_t kp_r u298
        have v302 : q_V r293 = q_V δ := (u299).trans rfl
        have v303 : q_R r293 (Ad ad 7) = q_R δ (Ad ad 7) := (u300).trans rfl
        have f304 := cb_8_2 i296 kth
        unfold J_X9_addName_151
        exact ok_some (show CI ad h.1 δ0 r293 ∧ (kp [(7, 5), (7, 6), (8, 2), (8, 3)] δ r293 ∧ q_V r293 = q_V δ ∧ q_R r293 (Ad ad 7) = q_R δ (Ad ad 7)) ∧ (q_I δ 8 2 th).toInt ≤ (q_I r293 8 2 th).toInt from ⟨i296, ⟨kp_w (by decide) u301, v302, v303⟩, by first | with_reducible assumption | omega⟩)
set_option maxHeartbeats 4000000 in
theorem k_bX9_readUnit {ad : List Nat} {h : hp} (L : Lay TLx ad h) {δ0 : dp} {N : Nat} (hN : 10000000 ≤ N) {tp th : Nat} {T : Nat → Int32 → dp → Option (dp)} {K : Int} (hT : ∀ (a0 : Nat) (x1 : Int32) (δ : dp), q_K h.1 a0 = 9 → 0 ≤ (x1).toInt → (x1).toInt ≤ 6 → 6 - (x1).toInt < K → q_V δ 9 0 a0 = some tp → q_V δ 9 1 a0 = some th → q_K h.1 tp = 7 → q_K h.1 th = 8 → CI ad h.1 δ0 δ → ok (T a0 x1 δ) (fun r => CI ad h.1 δ0 r ∧ (kp [(7, 3), (7, 4), (7, 5), (7, 6), (8, 2), (8, 3)] δ r ∧ q_V r = q_V δ ∧ q_R r (Ad ad 7) = q_R δ (Ad ad 7)) ∧ (q_I δ 8 2 th).toInt ≤ (q_I r 8 2 th).toInt)) {a0 : Nat} {x1 : Int32} (k_a0 : q_K h.1 a0 = 9) {δ : dp} (z0 : 0 ≤ (x1).toInt) (z1 : (x1).toInt ≤ 6) (z2 : 6 - (x1).toInt ≤ K) (hv0 : q_V δ 9 0 a0 = some tp) (hv1 : q_V δ 9 1 a0 = some th) (ktp : q_K h.1 tp = 7) (kth : q_K h.1 th = 8) (I : CI ad h.1 δ0 δ) : ok (B_X9_readUnit N h.1 T a0 x1 δ) (fun r => CI ad h.1 δ0 r ∧ (kp [(7, 3), (7, 4), (7, 5), (7, 6), (8, 2), (8, 3)] δ r ∧ q_V r = q_V δ ∧ q_R r (Ad ad 7) = q_R δ (Ad ad 7)) ∧ (q_I δ 8 2 th).toInt ≤ (q_I r 8 2 th).toInt) := by
  unfold B_X9_readUnit
  have f1 := ti_b x1
  refine ok_at ((rfl).trans hv0) ?_
  refine ok_gp ktp ?_
  refine ok_bind (k_X7_ahead L hN (a0 := tp) ktp I) (fun r2 hr3 => ?_)
  obtain ⟨i4, ⟨u6, u7, u8⟩, p5⟩ := hr3
  have u9 := kp_t kp_r u6
  have v10 : q_V r2.2 = q_V δ := (u7).trans rfl
  have v11 : q_R r2.2 (Ad ad 7) = q_R δ (Ad ad 7) := (congrFun u8 (Ad ad 7)).trans rfl
  have f12 := ti_b r2.1
  have f13 := cb_7_3 i4 ktp
  have f14 : (q_I r2.2 7 2 tp).toInt = (q_I δ 7 2 tp).toInt := congrArg Int32.toInt (u6 7 2 tp (by decide))
  have f15 := cb_7_2 I ktp
  refine ok_ite (fun h16 => ?_) (fun h16 => ?_)
  · have c17 : r2.1.toInt = (40 : Int) := o_eq h16
    refine ok_ite (fun h18 => ?_) (fun h18 => ?_)
    · have c19 : x1.toInt < (6 : Int) := o_lt h18
      refine ok_at ((congrFun (congrFun (congrFun v10 9) 0) a0).trans hv0) ?_
      refine ok_gp ktp ?_
      refine ok_bind (k_X7_needSign L hN (a0 := tp) (x1 := (40 : Int32)) ktp (show (40 : Int) ≠ -1 by first | with_reducible assumption | omega) i4) (fun r20 hr21 => ?_)
      obtain ⟨i22, ⟨u24, u25, u26⟩, p23⟩ := hr21
      have u27 := kp_t u9 u24
      have v28 : q_V r20 = q_V δ := (u25).trans v10
      have v29 : q_R r20 (Ad ad 7) = q_R δ (Ad ad 7) := (congrFun u26 (Ad ad 7)).trans v11
      have f30 : (q_I r2.2 7 5 tp).toInt = (q_I δ 7 5 tp).toInt := congrArg Int32.toInt (u6 7 5 tp (by decide))
      have f31 := ti_b (q_I δ 7 5 tp)
      have f32 := ti_b (q_I r20 7 5 tp)
      first | (have q36 := te_addc (c := 1) (n := 1) rfl x1 (by omega) (by omega); obtain ⟨f37, f38, f39⟩ := q36) | (obtain ⟨q36, f37, f38, f39⟩ := ti_addc (c := 1) (n := 1) rfl x1)
      refine ok_bind (hT a0 (x1 + (1 : Int32)) r20 k_a0 (show 0 ≤ ((x1 + (1 : Int32))).toInt by first | with_reducible assumption | omega) (show ((x1 + (1 : Int32))).toInt ≤ 6 by first | with_reducible assumption | omega) (show 6 - ((x1 + (1 : Int32))).toInt < _ by first | with_reducible assumption | omega) ((congrFun (congrFun (congrFun v28 9) 0) a0).trans hv0) ((congrFun (congrFun (congrFun v28 9) 1) a0).trans hv1) ktp kth i22) (fun r33 hr34 => ?_)
      obtain ⟨i40, ⟨u42, u43, u44⟩, p41⟩ := hr34
      have u45 := kp_t u27 u42
      have v46 : q_V r33 = q_V δ := (u43).trans v28
      have v47 : q_R r33 (Ad ad 7) = q_R δ (Ad ad 7) := (u44).trans v29
      have f48 : (q_I r20 8 2 th).toInt = (q_I δ 8 2 th).toInt := ((show (q_I r20 8 2 th).toInt = (q_I r2.2 8 2 th).toInt from congrArg Int32.toInt (u24 8 2 th (by decide))).trans (show (q_I r2.2 8 2 th).toInt = (q_I δ 8 2 th).toInt from congrArg Int32.toInt (u6 8 2 th (by decide))))
      have f49 := cb_8_2 I kth
      have f50 := cb_8_2 i40 kth
      refine ok_at ((congrFun (congrFun (congrFun v46 9) 0) a0).trans hv0) ?_
      refine ok_gp ktp ?_
      refine ok_bind (k_X7_needSign L hN (a0 := tp) (x1 := (41 : Int32)) ktp (show (41 : Int) ≠ -1 by first | with_reducible assumption | omega) i40) (fun r51 hr52 => ?_)
      obtain ⟨i53, ⟨u55, u56, u57⟩, p54⟩ := hr52
      have u58 := kp_t u45 u55
      have v59 : q_V r51 = q_V δ := (u56).trans v46
      have v60 : q_R r51 (Ad ad 7) = q_R δ (Ad ad 7) := (congrFun u57 (Ad ad 7)).trans v47
      have f61 := ti_b (q_I r33 7 5 tp)
      have f62 := ti_b (q_I r51 7 5 tp)
      unfold J_X9_readUnit_101
      have f63 : (q_I r51 8 2 th).toInt = (q_I r33 8 2 th).toInt := congrArg Int32.toInt (u55 8 2 th (by decide))
      exact ok_some (show CI ad h.1 δ0 r51 ∧ (kp [(7, 3), (7, 4), (7, 5), (7, 6), (8, 2), (8, 3)] δ r51 ∧ q_V r51 = q_V δ ∧ q_R r51 (Ad ad 7) = q_R δ (Ad ad 7)) ∧ (q_I δ 8 2 th).toInt ≤ (q_I r51 8 2 th).toInt from ⟨i53, ⟨kp_w (by decide) u58, v59, v60⟩, by first | with_reducible assumption | omega⟩)
    · have c64 : (6 : Int) ≤ x1.toInt := o_nlt h18
      refine ok_at ((congrFun (congrFun (congrFun v10 9) 0) a0).trans hv0) ?_
      refine ok_gp ktp ?_
      refine ok_bind (k_X7_refuse L hN (a0 := tp) (x1 := (3 : Int32)) ktp (show (3 : Int) ≠ 0 by first | with_reducible assumption | omega) i4) (fun r65 hr66 => ?_)
      obtain ⟨i67, ⟨u69, u70, u71⟩, p68⟩ := hr66
      have u72 := kp_t u9 u69
      have v73 : q_V r65 = q_V δ := (u70).trans v10
      have v74 : q_R r65 (Ad ad 7) = q_R δ (Ad ad 7) := (congrFun u71 (Ad ad 7)).trans v11
      have f75 := ti_b (q_I r65 7 5 tp)
      have f76 := cb_8_2 I kth
      have f77 : (q_I r65 8 2 th).toInt = (q_I δ 8 2 th).toInt := ((show (q_I r65 8 2 th).toInt = (q_I r2.2 8 2 th).toInt from congrArg Int32.toInt (u69 8 2 th (by decide))).trans (show (q_I r2.2 8 2 th).toInt = (q_I δ 8 2 th).toInt from congrArg Int32.toInt (u6 8 2 th (by decide))))
      exact ok_some (show CI ad h.1 δ0 r65 ∧ (kp [(7, 3), (7, 4), (7, 5), (7, 6), (8, 2), (8, 3)] δ r65 ∧ q_V r65 = q_V δ ∧ q_R r65 (Ad ad 7) = q_R δ (Ad ad 7)) ∧ (q_I δ 8 2 th).toInt ≤ (q_I r65 8 2 th).toInt from ⟨i67, ⟨kp_w (by decide) u72, v73, v74⟩, by first | with_reducible assumption | omega⟩)
  · have c78 : r2.1.toInt ≠ (40 : Int) := o_ne h16
    refine ok_ite (fun h79 => ?_) (fun h79 => ?_)
    · have c80 : r2.1.toInt < (48 : Int) := o_lt h79
      unfold J_X9_readUnit_90
      refine ok_at ((congrFun (congrFun (congrFun v10 9) 0) a0).trans hv0) ?_
      refine ok_gp ktp ?_
      refine ok_bind (k_X7_readWord L hN (a0 := tp) ktp i4) (fun r81 hr82 => ?_)
      obtain ⟨i83, ⟨u84, u85, u86⟩⟩ := hr82
      have u87 := kp_t u9 u84
      have v88 : q_V r81 = q_V δ := (u85).trans v10
      have v89 : q_R r81 (Ad ad 7) = q_R δ (Ad ad 7) := (congrFun u86 (Ad ad 7)).trans v11
      refine ok_bind (k_X9_addName L hN (a0 := a0) k_a0 ((congrFun (congrFun (congrFun v88 9) 0) a0).trans hv0) ((congrFun (congrFun (congrFun v88 9) 1) a0).trans hv1) ktp kth i83) (fun r90 hr91 => ?_)
      obtain ⟨i92, ⟨u94, u95, u96⟩, p93⟩ := hr91
      have u97 := kp_t u87 u94
      have v98 : q_V r90 = q_V δ := (u95).trans v88
      have v99 : q_R r90 (Ad ad 7) = q_R δ (Ad ad 7) := (u96).trans v89
      have f100 : (q_I r81 8 2 th).toInt = (q_I δ 8 2 th).toInt := ((show (q_I r81 8 2 th).toInt = (q_I r2.2 8 2 th).toInt from congrArg Int32.toInt (u84 8 2 th (by decide))).trans (show (q_I r2.2 8 2 th).toInt = (q_I δ 8 2 th).toInt from congrArg Int32.toInt (u6 8 2 th (by decide))))
      have f101 := cb_8_2 I kth
      have f102 := cb_8_2 i92 kth
      unfold J_X9_readUnit_101
      exact ok_some (show CI ad h.1 δ0 r90 ∧ (kp [(7, 3), (7, 4), (7, 5), (7, 6), (8, 2), (8, 3)] δ r90 ∧ q_V r90 = q_V δ ∧ q_R r90 (Ad ad 7) = q_R δ (Ad ad 7)) ∧ (q_I δ 8 2 th).toInt ≤ (q_I r90 8 2 th).toInt from ⟨i92, ⟨kp_w (by decide) u97, v98, v99⟩, by first | with_reducible assumption | omega⟩)
    · have c103 : (48 : Int) ≤ r2.1.toInt := o_nlt h79
      refine ok_ite (fun h104 => ?_) (fun h104 => ?_)
      · have c105 : (57 : Int) < r2.1.toInt := o_lt h104
        unfold J_X9_readUnit_90
        refine ok_at ((congrFun (congrFun (congrFun v10 9) 0) a0).trans hv0) ?_
        refine ok_gp ktp ?_
        refine ok_bind (k_X7_readWord L hN (a0 := tp) ktp i4) (fun r106 hr107 => ?_)
        obtain ⟨i108, ⟨u109, u110, u111⟩⟩ := hr107
        have u112 := kp_t u9 u109
        have v113 : q_V r106 = q_V δ := (u110).trans v10
        have v114 : q_R r106 (Ad ad 7) = q_R δ (Ad ad 7) := (congrFun u111 (Ad ad 7)).trans v11
        refine ok_bind (k_X9_addName L hN (a0 := a0) k_a0 ((congrFun (congrFun (congrFun v113 9) 0) a0).trans hv0) ((congrFun (congrFun (congrFun v113 9) 1) a0).trans hv1) ktp kth i108) (fun r115 hr116 => ?_)
        obtain ⟨i117, ⟨u119, u120, u121⟩, p118⟩ := hr116
        have u122 := kp_t u112 u119
        have v123 : q_V r115 = q_V δ := (u120).trans v113
        have v124 : q_R r115 (Ad ad 7) = q_R δ (Ad ad 7) := (u121).trans v114
        have f125 : (q_I r106 8 2 th).toInt = (q_I δ 8 2 th).toInt := ((show (q_I r106 8 2 th).toInt = (q_I r2.2 8 2 th).toInt from congrArg Int32.toInt (u109 8 2 th (by decide))).trans (show (q_I r2.2 8 2 th).toInt = (q_I δ 8 2 th).toInt from congrArg Int32.toInt (u6 8 2 th (by decide))))
        have f126 := cb_8_2 I kth
        have f127 := cb_8_2 i117 kth
        unfold J_X9_readUnit_101
        exact ok_some (show CI ad h.1 δ0 r115 ∧ (kp [(7, 3), (7, 4), (7, 5), (7, 6), (8, 2), (8, 3)] δ r115 ∧ q_V r115 = q_V δ ∧ q_R r115 (Ad ad 7) = q_R δ (Ad ad 7)) ∧ (q_I δ 8 2 th).toInt ≤ (q_I r115 8 2 th).toInt from ⟨i117, ⟨kp_w (by decide) u122, v123, v124⟩, by first | with_reducible assumption | omega⟩)
      · have c128 : r2.1.toInt ≤ (57 : Int) := o_nlt h104
        refine ok_at ((congrFun (congrFun (congrFun v10 9) 1) a0).trans hv1) ?_
        refine ok_gp kth ?_
        refine ok_at ((congrFun (congrFun (congrFun v10 9) 0) a0).trans hv0) ?_
        refine ok_gp ktp ?_
        refine ok_bind (k_X7_readNumber L hN (a0 := tp) (x1 := (0 : Int32)) (x2 := (99999 : Int32)) ktp i4) (fun r129 hr130 => ?_)
        obtain ⟨i131, ⟨u136, u137, u138⟩, p132, p133, p134, p135⟩ := hr130
        have u139 := kp_t u9 u136
        have v140 : q_V r129.2 = q_V δ := (u137).trans v10
        have v141 : q_R r129.2 (Ad ad 7) = q_R δ (Ad ad 7) := (congrFun u138 (Ad ad 7)).trans v11
        have f142 := ti_b r129.1
        have f143 : (q_I r2.2 7 5 tp).toInt = (q_I δ 7 5 tp).toInt := congrArg Int32.toInt (u6 7 5 tp (by decide))
        have f144 := ti_b (q_I δ 7 5 tp)
        have f145 := ti_b (q_I r129.2 7 5 tp)
        replace p135 : ((q_I r129.2 7 5 tp).toInt = 0 → (0 : Int) ≤ (r129.1).toInt ∧ (r129.1).toInt ≤ (99999 : Int)) := p135
        have f148 : (q_I r129.2 8 2 th).toInt = (q_I δ 8 2 th).toInt := ((show (q_I r129.2 8 2 th).toInt = (q_I r2.2 8 2 th).toInt from congrArg Int32.toInt (u136 8 2 th (by decide))).trans (show (q_I r2.2 8 2 th).toInt = (q_I δ 8 2 th).toInt from congrArg Int32.toInt (u6 8 2 th (by decide))))
        have f149 := cb_8_2 I kth
        refine ok_bind (k_X8_add L hN (a0 := th) (x1 := (0 : Int32)) (x2 := r129.1) kth (show 0 ≤ (r129.1).toInt by first | with_reducible assumption | omega) (show (0 : Int) = 1 → (r129.1).toInt < 4 by first | with_reducible assumption | omega) (show (0 : Int) = 11 → (q_I r129.2 8 2 th).toInt < 500 → (r129.1).toInt < 500 by first | with_reducible assumption | omega) i131) (fun r146 hr147 => ?_)
        obtain ⟨i150, ⟨u152, u153, u154⟩, p151⟩ := hr147
        have u155 := kp_t u139 u152
        have v156 : q_V r146 = q_V δ := (u153).trans v140
        have v157 : q_R r146 (Ad ad 7) = q_R δ (Ad ad 7) := (u154).trans v141
        have f158 := cb_8_2 i150 kth
        unfold J_X9_readUnit_101
        exact ok_some (show CI ad h.1 δ0 r146 ∧ (kp [(7, 3), (7, 4), (7, 5), (7, 6), (8, 2), (8, 3)] δ r146 ∧ q_V r146 = q_V δ ∧ q_R r146 (Ad ad 7) = q_R δ (Ad ad 7)) ∧ (q_I δ 8 2 th).toInt ≤ (q_I r146 8 2 th).toInt from ⟨i150, ⟨kp_w (by decide) u155, v156, v157⟩, by first | with_reducible assumption | omega⟩)
set_option maxHeartbeats 4000000 in
theorem kl_X9_readProduct_7 {ad : List Nat} {h : hp} (L : Lay TLx ad h) {δ0 : dp} {N : Nat} (hN : 10000000 ≤ N) {tp th : Nat} {T : Nat → Int32 → dp → Option (dp)} {K : Int} (hT : ∀ (a0 : Nat) (x1 : Int32) (δ : dp), q_K h.1 a0 = 9 → 0 ≤ (x1).toInt → (x1).toInt ≤ 6 → 6 - (x1).toInt < K → q_V δ 9 0 a0 = some tp → q_V δ 9 1 a0 = some th → q_K h.1 tp = 7 → q_K h.1 th = 8 → CI ad h.1 δ0 δ → ok (T a0 x1 δ) (fun r => CI ad h.1 δ0 r ∧ (kp [(7, 3), (7, 4), (7, 5), (7, 6), (8, 2), (8, 3)] δ r ∧ q_V r = q_V δ ∧ q_R r (Ad ad 7) = q_R δ (Ad ad 7)) ∧ (q_I δ 8 2 th).toInt ≤ (q_I r 8 2 th).toInt)) {a0 : Nat} {x1 : Int32} (k_a0 : q_K h.1 a0 = 9) : ∀ (n : Nat) (x2v : Int32) (δ : dp), CI ad h.1 δ0 δ → 0 ≤ (x1).toInt → (x1).toInt ≤ 6 → 6 - (x1).toInt ≤ K → 0 ≤ (x2v).toInt → (x2v).toInt ≤ 500 → q_V δ 9 0 a0 = some tp → q_V δ 9 1 a0 = some th → q_K h.1 tp = 7 → q_K h.1 th = 8 → 500 - (x2v).toInt < (n : Int) → ok (L_X9_readProduct_7 N h.1 T a0 x1 n x2v δ) (fun r => CI ad h.1 δ0 r ∧ (kp [(7, 3), (7, 4), (7, 5), (7, 6), (8, 2), (8, 3)] δ r ∧ q_V r = q_V δ ∧ q_R r (Ad ad 7) = q_R δ (Ad ad 7)) ∧ (q_I δ 8 2 th).toInt ≤ (q_I r 8 2 th).toInt) := by
  intro n
  induction n with
  | zero =>
    intro x2v δ I j0 j1 j2 j3 j4 hv0 hv1 ktp kth hm
    have f1 := ti_b x1
    have f2 := ti_b x2v
    exfalso; omega
  | succ n ih =>
    intro x2v δ I j0 j1 j2 j3 j4 hv0 hv1 ktp kth hm
    unfold L_X9_readProduct_7
    have f1 := ti_b x1
    have f2 := ti_b x2v
    refine ok_ite (fun h3 => ?_) (fun h3 => ?_)
    · have c4 : (500 : Int) ≤ x2v.toInt := o_le h3
      unfold J_X9_readProduct_85
      have f5 := cb_8_2 I kth
      exact ok_some (show CI ad h.1 δ0 δ ∧ (kp [(7, 3), (7, 4), (7, 5), (7, 6), (8, 2), (8, 3)] δ δ ∧ q_V δ = q_V δ ∧ q_R δ (Ad ad 7) = q_R δ (Ad ad 7)) ∧ (q_I δ 8 2 th).toInt ≤ (q_I δ 8 2 th).toInt from ⟨I, ⟨kp_w (by decide) kp_r, rfl, rfl⟩, by first | with_reducible assumption | omega⟩)
    · have c6 : x2v.toInt < (500 : Int) := o_nle h3
      refine ok_at ((rfl).trans hv0) ?_
      refine ok_gp ktp ?_
      refine ok_bind (k_X7_isSound L hN (a0 := tp) ktp I) (fun r7 hr8 => ?_)
      obtain ⟨i9, p10, p11, p12⟩ := hr8
      try rw [i9]
      have f13 := bo_t p10
      have f14 := ti_b r7.1
      have f15 := ti_b (q_I δ 7 5 tp)
      refine ok_ite (fun h16 => ?_) (fun h16 => ?_)
      · have c17 : r7.1.toInt = (0 : Int) := o_eq h16
        unfold J_X9_readProduct_85
        have f18 := cb_8_2 I kth
        exact ok_some (show CI ad h.1 δ0 δ ∧ (kp [(7, 3), (7, 4), (7, 5), (7, 6), (8, 2), (8, 3)] δ δ ∧ q_V δ = q_V δ ∧ q_R δ (Ad ad 7) = q_R δ (Ad ad 7)) ∧ (q_I δ 8 2 th).toInt ≤ (q_I δ 8 2 th).toInt from ⟨I, ⟨kp_w (by decide) kp_r, rfl, rfl⟩, by first | with_reducible assumption | omega⟩)
      · have c19 : r7.1.toInt ≠ (0 : Int) := o_ne h16
        refine ok_at ((rfl).trans hv0) ?_
        refine ok_gp ktp ?_
        refine ok_bind (k_X7_ahead L hN (a0 := tp) ktp I) (fun r20 hr21 => ?_)
        obtain ⟨i22, ⟨u24, u25, u26⟩, p23⟩ := hr21
        have u27 := kp_t kp_r u24
        have v28 : q_V r20.2 = q_V δ := (u25).trans rfl
        have v29 : q_R r20.2 (Ad ad 7) = q_R δ (Ad ad 7) := (congrFun u26 (Ad ad 7)).trans rfl
        have f30 := ti_b r20.1
        have f31 := cb_7_3 i22 ktp
        have f32 : (q_I r20.2 7 2 tp).toInt = (q_I δ 7 2 tp).toInt := congrArg Int32.toInt (u24 7 2 tp (by decide))
        have f33 := cb_7_2 I ktp
        refine ok_ite (fun h34 => ?_) (fun h34 => ?_)
        · have c35 : r20.1.toInt = (42 : Int) := o_eq h34
          unfold J_X9_readProduct_45
          refine ok_at ((congrFun (congrFun (congrFun v28 9) 0) a0).trans hv0) ?_
          refine ok_gp ktp ?_
          refine ok_bind (k_X7_needSign L hN (a0 := tp) (x1 := r20.1) ktp (show (r20.1).toInt ≠ -1 by first | with_reducible assumption | omega) i22) (fun r36 hr37 => ?_)
          obtain ⟨i38, ⟨u40, u41, u42⟩, p39⟩ := hr37
          have u43 := kp_t u27 u40
          have v44 : q_V r36 = q_V δ := (u41).trans v28
          have v45 : q_R r36 (Ad ad 7) = q_R δ (Ad ad 7) := (congrFun u42 (Ad ad 7)).trans v29
          have f46 : (q_I r20.2 7 5 tp).toInt = (q_I δ 7 5 tp).toInt := congrArg Int32.toInt (u24 7 5 tp (by decide))
          have f47 := ti_b (q_I r36 7 5 tp)
          refine ok_bind (k_bX9_readUnit L hN (a0 := a0) (x1 := x1) hT k_a0 (show 0 ≤ (x1).toInt by first | with_reducible assumption | omega) (show (x1).toInt ≤ 6 by first | with_reducible assumption | omega) (show 6 - (x1).toInt ≤ K by first | with_reducible assumption | omega) ((congrFun (congrFun (congrFun v44 9) 0) a0).trans hv0) ((congrFun (congrFun (congrFun v44 9) 1) a0).trans hv1) ktp kth i38) (fun r48 hr49 => ?_)
          obtain ⟨i50, ⟨u52, u53, u54⟩, p51⟩ := hr49
          have u55 := kp_t u43 u52
          have v56 : q_V r48 = q_V δ := (u53).trans v44
          have v57 : q_R r48 (Ad ad 7) = q_R δ (Ad ad 7) := (u54).trans v45
          have f58 : (q_I r36 8 2 th).toInt = (q_I δ 8 2 th).toInt := ((show (q_I r36 8 2 th).toInt = (q_I r20.2 8 2 th).toInt from congrArg Int32.toInt (u40 8 2 th (by decide))).trans (show (q_I r20.2 8 2 th).toInt = (q_I δ 8 2 th).toInt from congrArg Int32.toInt (u24 8 2 th (by decide))))
          have f59 := cb_8_2 I kth
          have f60 := cb_8_2 i50 kth
          refine ok_at ((congrFun (congrFun (congrFun v56 9) 1) a0).trans hv1) ?_
          refine ok_gp kth ?_
          refine ok_ite (fun h61 => ?_) (fun h61 => ?_)
          · have c62 : r20.1.toInt = (42 : Int) := o_eq h61
            unfold J_X9_readProduct_75
            refine ok_bind (k_X8_add L hN (a0 := th) (x1 := (7 : Int32)) (x2 := (0 : Int32)) kth (show 0 ≤ (0 : Int) by first | with_reducible assumption | omega) (show (7 : Int) = 1 → (0 : Int) < 4 by first | with_reducible assumption | omega) (show (7 : Int) = 11 → (q_I r48 8 2 th).toInt < 500 → (0 : Int) < 500 by first | with_reducible assumption | omega) i50) (fun r63 hr64 => ?_)
            obtain ⟨i65, ⟨u67, u68, u69⟩, p66⟩ := hr64
            have u70 := kp_t u55 u67
            have v71 : q_V r63 = q_V δ := (u68).trans v56
            have v72 : q_R r63 (Ad ad 7) = q_R δ (Ad ad 7) := (u69).trans v57
            have f73 := cb_8_2 i65 kth
            refine ok_biv (fun vx74 e75 => ?_)
            first | (have q76 := te_addc (c := 1) (n := 1) rfl x2v (by omega) (by omega); rw [← e75] at q76; obtain ⟨f77, f78, f79⟩ := q76) | (obtain ⟨q76, f77, f78, f79⟩ : ∃ q : Int, vx74.toInt = x2v.toInt + (1 : Int) + 4294967296 * q ∧ -2147483648 ≤ vx74.toInt ∧ vx74.toInt ≤ 2147483647 := by rw [e75]; exact ti_addc (c := 1) (n := 1) rfl x2v)
            refine ok_mono (ih vx74 r63 i65 (show 0 ≤ (x1).toInt by first | with_reducible assumption | omega) (show (x1).toInt ≤ 6 by first | with_reducible assumption | omega) (show 6 - (x1).toInt ≤ K by first | with_reducible assumption | omega) (show 0 ≤ (vx74).toInt by first | with_reducible assumption | omega) (show (vx74).toInt ≤ 500 by first | with_reducible assumption | omega) ((congrFun (congrFun (congrFun v71 9) 0) a0).trans hv0) ((congrFun (congrFun (congrFun v71 9) 1) a0).trans hv1) ktp kth (show 500 - (vx74).toInt < _ by omega)) (fun r80 hr81 => ?_)
            obtain ⟨i82, ⟨u84, u85, u86⟩, p83⟩ := hr81
            have u87 := kp_t u70 u84
            have v88 : q_V r80 = q_V δ := (u85).trans v71
            have v89 : q_R r80 (Ad ad 7) = q_R δ (Ad ad 7) := (u86).trans v72
            have f90 := cb_8_2 i82 kth
            exact ⟨by first | with_reducible assumption | assumption, ⟨kp_w (by decide) u87, v88, v89⟩, by first | with_reducible assumption | omega⟩
          · have c91 : r20.1.toInt ≠ (42 : Int) := o_ne h61
            unfold J_X9_readProduct_75
            refine ok_bind (k_X8_add L hN (a0 := th) (x1 := (8 : Int32)) (x2 := (0 : Int32)) kth (show 0 ≤ (0 : Int) by first | with_reducible assumption | omega) (show (8 : Int) = 1 → (0 : Int) < 4 by first | with_reducible assumption | omega) (show (8 : Int) = 11 → (q_I r48 8 2 th).toInt < 500 → (0 : Int) < 500 by first | with_reducible assumption | omega) i50) (fun r92 hr93 => ?_)
            obtain ⟨i94, ⟨u96, u97, u98⟩, p95⟩ := hr93
            have u99 := kp_t u55 u96
            have v100 : q_V r92 = q_V δ := (u97).trans v56
            have v101 : q_R r92 (Ad ad 7) = q_R δ (Ad ad 7) := (u98).trans v57
            have f102 := cb_8_2 i94 kth
            refine ok_biv (fun vx103 e104 => ?_)
            first | (have q105 := te_addc (c := 1) (n := 1) rfl x2v (by omega) (by omega); rw [← e104] at q105; obtain ⟨f106, f107, f108⟩ := q105) | (obtain ⟨q105, f106, f107, f108⟩ : ∃ q : Int, vx103.toInt = x2v.toInt + (1 : Int) + 4294967296 * q ∧ -2147483648 ≤ vx103.toInt ∧ vx103.toInt ≤ 2147483647 := by rw [e104]; exact ti_addc (c := 1) (n := 1) rfl x2v)
            refine ok_mono (ih vx103 r92 i94 (show 0 ≤ (x1).toInt by first | with_reducible assumption | omega) (show (x1).toInt ≤ 6 by first | with_reducible assumption | omega) (show 6 - (x1).toInt ≤ K by first | with_reducible assumption | omega) (show 0 ≤ (vx103).toInt by first | with_reducible assumption | omega) (show (vx103).toInt ≤ 500 by first | with_reducible assumption | omega) ((congrFun (congrFun (congrFun v100 9) 0) a0).trans hv0) ((congrFun (congrFun (congrFun v100 9) 1) a0).trans hv1) ktp kth (show 500 - (vx103).toInt < _ by omega)) (fun r109 hr110 => ?_)
            obtain ⟨i111, ⟨u113, u114, u115⟩, p112⟩ := hr110
            have u116 := kp_t u99 u113
            have v117 : q_V r109 = q_V δ := (u114).trans v100
            have v118 : q_R r109 (Ad ad 7) = q_R δ (Ad ad 7) := (u115).trans v101
            have f119 := cb_8_2 i111 kth
            exact ⟨by first | with_reducible assumption | assumption, ⟨kp_w (by decide) u116, v117, v118⟩, by first | with_reducible assumption | omega⟩
        · have c120 : r20.1.toInt ≠ (42 : Int) := o_ne h34
          refine ok_ite (fun h121 => ?_) (fun h121 => ?_)
          · have c122 : r20.1.toInt = (37 : Int) := o_eq h121
            unfold J_X9_readProduct_45
            refine ok_at ((congrFun (congrFun (congrFun v28 9) 0) a0).trans hv0) ?_
            refine ok_gp ktp ?_
            refine ok_bind (k_X7_needSign L hN (a0 := tp) (x1 := r20.1) ktp (show (r20.1).toInt ≠ -1 by first | with_reducible assumption | omega) i22) (fun r123 hr124 => ?_)
            obtain ⟨i125, ⟨u127, u128, u129⟩, p126⟩ := hr124
            have u130 := kp_t u27 u127
            have v131 : q_V r123 = q_V δ := (u128).trans v28
            have v132 : q_R r123 (Ad ad 7) = q_R δ (Ad ad 7) := (congrFun u129 (Ad ad 7)).trans v29
            have f133 : (q_I r20.2 7 5 tp).toInt = (q_I δ 7 5 tp).toInt := congrArg Int32.toInt (u24 7 5 tp (by decide))
            have f134 := ti_b (q_I r123 7 5 tp)
            refine ok_bind (k_bX9_readUnit L hN (a0 := a0) (x1 := x1) hT k_a0 (show 0 ≤ (x1).toInt by first | with_reducible assumption | omega) (show (x1).toInt ≤ 6 by first | with_reducible assumption | omega) (show 6 - (x1).toInt ≤ K by first | with_reducible assumption | omega) ((congrFun (congrFun (congrFun v131 9) 0) a0).trans hv0) ((congrFun (congrFun (congrFun v131 9) 1) a0).trans hv1) ktp kth i125) (fun r135 hr136 => ?_)
            obtain ⟨i137, ⟨u139, u140, u141⟩, p138⟩ := hr136
            have u142 := kp_t u130 u139
            have v143 : q_V r135 = q_V δ := (u140).trans v131
            have v144 : q_R r135 (Ad ad 7) = q_R δ (Ad ad 7) := (u141).trans v132
            have f145 : (q_I r123 8 2 th).toInt = (q_I δ 8 2 th).toInt := ((show (q_I r123 8 2 th).toInt = (q_I r20.2 8 2 th).toInt from congrArg Int32.toInt (u127 8 2 th (by decide))).trans (show (q_I r20.2 8 2 th).toInt = (q_I δ 8 2 th).toInt from congrArg Int32.toInt (u24 8 2 th (by decide))))
            have f146 := cb_8_2 I kth
            have f147 := cb_8_2 i137 kth
            refine ok_at ((congrFun (congrFun (congrFun v143 9) 1) a0).trans hv1) ?_
            refine ok_gp kth ?_
            refine ok_ite (fun h148 => ?_) (fun h148 => ?_)
            · have c149 : r20.1.toInt = (42 : Int) := o_eq h148
              unfold J_X9_readProduct_75
              refine ok_bind (k_X8_add L hN (a0 := th) (x1 := (7 : Int32)) (x2 := (0 : Int32)) kth (show 0 ≤ (0 : Int) by first | with_reducible assumption | omega) (show (7 : Int) = 1 → (0 : Int) < 4 by first | with_reducible assumption | omega) (show (7 : Int) = 11 → (q_I r135 8 2 th).toInt < 500 → (0 : Int) < 500 by first | with_reducible assumption | omega) i137) (fun r150 hr151 => ?_)
              obtain ⟨i152, ⟨u154, u155, u156⟩, p153⟩ := hr151
              have u157 := kp_t u142 u154
              have v158 : q_V r150 = q_V δ := (u155).trans v143
              have v159 : q_R r150 (Ad ad 7) = q_R δ (Ad ad 7) := (u156).trans v144
              have f160 := cb_8_2 i152 kth
              refine ok_biv (fun vx161 e162 => ?_)
              first | (have q163 := te_addc (c := 1) (n := 1) rfl x2v (by omega) (by omega); rw [← e162] at q163; obtain ⟨f164, f165, f166⟩ := q163) | (obtain ⟨q163, f164, f165, f166⟩ : ∃ q : Int, vx161.toInt = x2v.toInt + (1 : Int) + 4294967296 * q ∧ -2147483648 ≤ vx161.toInt ∧ vx161.toInt ≤ 2147483647 := by rw [e162]; exact ti_addc (c := 1) (n := 1) rfl x2v)
              refine ok_mono (ih vx161 r150 i152 (show 0 ≤ (x1).toInt by first | with_reducible assumption | omega) (show (x1).toInt ≤ 6 by first | with_reducible assumption | omega) (show 6 - (x1).toInt ≤ K by first | with_reducible assumption | omega) (show 0 ≤ (vx161).toInt by first | with_reducible assumption | omega) (show (vx161).toInt ≤ 500 by first | with_reducible assumption | omega) ((congrFun (congrFun (congrFun v158 9) 0) a0).trans hv0) ((congrFun (congrFun (congrFun v158 9) 1) a0).trans hv1) ktp kth (show 500 - (vx161).toInt < _ by omega)) (fun r167 hr168 => ?_)
              obtain ⟨i169, ⟨u171, u172, u173⟩, p170⟩ := hr168
              have u174 := kp_t u157 u171
              have v175 : q_V r167 = q_V δ := (u172).trans v158
              have v176 : q_R r167 (Ad ad 7) = q_R δ (Ad ad 7) := (u173).trans v159
              have f177 := cb_8_2 i169 kth
              exact ⟨by first | with_reducible assumption | assumption, ⟨kp_w (by decide) u174, v175, v176⟩, by first | with_reducible assumption | omega⟩
            · have c178 : r20.1.toInt ≠ (42 : Int) := o_ne h148
              unfold J_X9_readProduct_75
              refine ok_bind (k_X8_add L hN (a0 := th) (x1 := (8 : Int32)) (x2 := (0 : Int32)) kth (show 0 ≤ (0 : Int) by first | with_reducible assumption | omega) (show (8 : Int) = 1 → (0 : Int) < 4 by first | with_reducible assumption | omega) (show (8 : Int) = 11 → (q_I r135 8 2 th).toInt < 500 → (0 : Int) < 500 by first | with_reducible assumption | omega) i137) (fun r179 hr180 => ?_)
              obtain ⟨i181, ⟨u183, u184, u185⟩, p182⟩ := hr180
              have u186 := kp_t u142 u183
              have v187 : q_V r179 = q_V δ := (u184).trans v143
              have v188 : q_R r179 (Ad ad 7) = q_R δ (Ad ad 7) := (u185).trans v144
              have f189 := cb_8_2 i181 kth
              refine ok_biv (fun vx190 e191 => ?_)
              first | (have q192 := te_addc (c := 1) (n := 1) rfl x2v (by omega) (by omega); rw [← e191] at q192; obtain ⟨f193, f194, f195⟩ := q192) | (obtain ⟨q192, f193, f194, f195⟩ : ∃ q : Int, vx190.toInt = x2v.toInt + (1 : Int) + 4294967296 * q ∧ -2147483648 ≤ vx190.toInt ∧ vx190.toInt ≤ 2147483647 := by rw [e191]; exact ti_addc (c := 1) (n := 1) rfl x2v)
              refine ok_mono (ih vx190 r179 i181 (show 0 ≤ (x1).toInt by first | with_reducible assumption | omega) (show (x1).toInt ≤ 6 by first | with_reducible assumption | omega) (show 6 - (x1).toInt ≤ K by first | with_reducible assumption | omega) (show 0 ≤ (vx190).toInt by first | with_reducible assumption | omega) (show (vx190).toInt ≤ 500 by first | with_reducible assumption | omega) ((congrFun (congrFun (congrFun v187 9) 0) a0).trans hv0) ((congrFun (congrFun (congrFun v187 9) 1) a0).trans hv1) ktp kth (show 500 - (vx190).toInt < _ by omega)) (fun r196 hr197 => ?_)
              obtain ⟨i198, ⟨u200, u201, u202⟩, p199⟩ := hr197
              have u203 := kp_t u186 u200
              have v204 : q_V r196 = q_V δ := (u201).trans v187
              have v205 : q_R r196 (Ad ad 7) = q_R δ (Ad ad 7) := (u202).trans v188
              have f206 := cb_8_2 i198 kth
              exact ⟨by first | with_reducible assumption | assumption, ⟨kp_w (by decide) u203, v204, v205⟩, by first | with_reducible assumption | omega⟩
          · have c207 : r20.1.toInt ≠ (37 : Int) := o_ne h121
            have f208 := cb_8_2 I kth
            have f209 : (q_I r20.2 8 2 th).toInt = (q_I δ 8 2 th).toInt := congrArg Int32.toInt (u24 8 2 th (by decide))
            exact ok_some (show CI ad h.1 δ0 r20.2 ∧ (kp [(7, 3), (7, 4), (7, 5), (7, 6), (8, 2), (8, 3)] δ r20.2 ∧ q_V r20.2 = q_V δ ∧ q_R r20.2 (Ad ad 7) = q_R δ (Ad ad 7)) ∧ (q_I δ 8 2 th).toInt ≤ (q_I r20.2 8 2 th).toInt from ⟨i22, ⟨kp_w (by decide) u27, v28, v29⟩, by first | with_reducible assumption | omega⟩)
set_option maxHeartbeats 4000000 in
theorem k_bX9_readProduct {ad : List Nat} {h : hp} (L : Lay TLx ad h) {δ0 : dp} {N : Nat} (hN : 10000000 ≤ N) {tp th : Nat} {T : Nat → Int32 → dp → Option (dp)} {K : Int} (hT : ∀ (a0 : Nat) (x1 : Int32) (δ : dp), q_K h.1 a0 = 9 → 0 ≤ (x1).toInt → (x1).toInt ≤ 6 → 6 - (x1).toInt < K → q_V δ 9 0 a0 = some tp → q_V δ 9 1 a0 = some th → q_K h.1 tp = 7 → q_K h.1 th = 8 → CI ad h.1 δ0 δ → ok (T a0 x1 δ) (fun r => CI ad h.1 δ0 r ∧ (kp [(7, 3), (7, 4), (7, 5), (7, 6), (8, 2), (8, 3)] δ r ∧ q_V r = q_V δ ∧ q_R r (Ad ad 7) = q_R δ (Ad ad 7)) ∧ (q_I δ 8 2 th).toInt ≤ (q_I r 8 2 th).toInt)) {a0 : Nat} {x1 : Int32} (k_a0 : q_K h.1 a0 = 9) {δ : dp} (z0 : 0 ≤ (x1).toInt) (z1 : (x1).toInt ≤ 6) (z2 : 6 - (x1).toInt ≤ K) (hv0 : q_V δ 9 0 a0 = some tp) (hv1 : q_V δ 9 1 a0 = some th) (ktp : q_K h.1 tp = 7) (kth : q_K h.1 th = 8) (I : CI ad h.1 δ0 δ) : ok (B_X9_readProduct N h.1 T a0 x1 δ) (fun r => CI ad h.1 δ0 r ∧ (kp [(7, 3), (7, 4), (7, 5), (7, 6), (8, 2), (8, 3)] δ r ∧ q_V r = q_V δ ∧ q_R r (Ad ad 7) = q_R δ (Ad ad 7)) ∧ (q_I δ 8 2 th).toInt ≤ (q_I r 8 2 th).toInt) := by
  unfold B_X9_readProduct
  have f1 := ti_b x1
  refine ok_bind (k_bX9_readUnit L hN (a0 := a0) (x1 := x1) hT k_a0 (show 0 ≤ (x1).toInt by first | with_reducible assumption | omega) (show (x1).toInt ≤ 6 by first | with_reducible assumption | omega) (show 6 - (x1).toInt ≤ K by first | with_reducible assumption | omega) ((rfl).trans hv0) ((rfl).trans hv1) ktp kth I) (fun r2 hr3 => ?_)
  obtain ⟨i4, ⟨u6, u7, u8⟩, p5⟩ := hr3
  have u9 := kp_t kp_r u6
  have v10 : q_V r2 = q_V δ := (u7).trans rfl
  have v11 : q_R r2 (Ad ad 7) = q_R δ (Ad ad 7) := (u8).trans rfl
  have f12 := cb_8_2 I kth
  have f13 := cb_8_2 i4 kth
  refine ok_mono (kl_X9_readProduct_7 L hN   hT k_a0 _ (0 : Int32) r2 i4 (show 0 ≤ (x1).toInt by first | with_reducible assumption | omega) (show (x1).toInt ≤ 6 by first | with_reducible assumption | omega) (show 6 - (x1).toInt ≤ K by first | with_reducible assumption | omega) (show 0 ≤ (0 : Int) by first | with_reducible assumption | omega) (show (0 : Int) ≤ 500 by first | with_reducible assumption | omega) ((congrFun (congrFun (congrFun v10 9) 0) a0).trans hv0) ((congrFun (congrFun (congrFun v10 9) 1) a0).trans hv1) ktp kth (show 500 - (0 : Int) < _ by omega)) (fun r14 hr15 => ?_)
  obtain ⟨i16, ⟨u18, u19, u20⟩, p17⟩ := hr15
  have u21 := kp_t u9 u18
  have v22 : q_V r14 = q_V δ := (u19).trans v10
  have v23 : q_R r14 (Ad ad 7) = q_R δ (Ad ad 7) := (u20).trans v11
  have f24 := cb_8_2 i16 kth
  exact ⟨by first | with_reducible assumption | assumption, ⟨kp_w (by decide) u21, v22, v23⟩, by first | with_reducible assumption | omega⟩
set_option maxHeartbeats 4000000 in
theorem kl_X9_readSum_7 {ad : List Nat} {h : hp} (L : Lay TLx ad h) {δ0 : dp} {N : Nat} (hN : 10000000 ≤ N) {tp th : Nat} {T : Nat → Int32 → dp → Option (dp)} {K : Int} (hT : ∀ (a0 : Nat) (x1 : Int32) (δ : dp), q_K h.1 a0 = 9 → 0 ≤ (x1).toInt → (x1).toInt ≤ 6 → 6 - (x1).toInt < K → q_V δ 9 0 a0 = some tp → q_V δ 9 1 a0 = some th → q_K h.1 tp = 7 → q_K h.1 th = 8 → CI ad h.1 δ0 δ → ok (T a0 x1 δ) (fun r => CI ad h.1 δ0 r ∧ (kp [(7, 3), (7, 4), (7, 5), (7, 6), (8, 2), (8, 3)] δ r ∧ q_V r = q_V δ ∧ q_R r (Ad ad 7) = q_R δ (Ad ad 7)) ∧ (q_I δ 8 2 th).toInt ≤ (q_I r 8 2 th).toInt)) {a0 : Nat} {x1 : Int32} (k_a0 : q_K h.1 a0 = 9) : ∀ (n : Nat) (x2v : Int32) (δ : dp), CI ad h.1 δ0 δ → 0 ≤ (x1).toInt → (x1).toInt ≤ 6 → 6 - (x1).toInt ≤ K → 0 ≤ (x2v).toInt → (x2v).toInt ≤ 500 → q_V δ 9 0 a0 = some tp → q_V δ 9 1 a0 = some th → q_K h.1 tp = 7 → q_K h.1 th = 8 → 500 - (x2v).toInt < (n : Int) → ok (L_X9_readSum_7 N h.1 T a0 x1 n x2v δ) (fun r => CI ad h.1 δ0 r ∧ (kp [(7, 3), (7, 4), (7, 5), (7, 6), (8, 2), (8, 3)] δ r ∧ q_V r = q_V δ ∧ q_R r (Ad ad 7) = q_R δ (Ad ad 7)) ∧ (q_I δ 8 2 th).toInt ≤ (q_I r 8 2 th).toInt) := by
  intro n
  induction n with
  | zero =>
    intro x2v δ I j0 j1 j2 j3 j4 hv0 hv1 ktp kth hm
    have f1 := ti_b x1
    have f2 := ti_b x2v
    exfalso; omega
  | succ n ih =>
    intro x2v δ I j0 j1 j2 j3 j4 hv0 hv1 ktp kth hm
    unfold L_X9_readSum_7
    have f1 := ti_b x1
    have f2 := ti_b x2v
    refine ok_ite (fun h3 => ?_) (fun h3 => ?_)
    · have c4 : (500 : Int) ≤ x2v.toInt := o_le h3
      unfold J_X9_readSum_84
      have f5 := cb_8_2 I kth
      exact ok_some (show CI ad h.1 δ0 δ ∧ (kp [(7, 3), (7, 4), (7, 5), (7, 6), (8, 2), (8, 3)] δ δ ∧ q_V δ = q_V δ ∧ q_R δ (Ad ad 7) = q_R δ (Ad ad 7)) ∧ (q_I δ 8 2 th).toInt ≤ (q_I δ 8 2 th).toInt from ⟨I, ⟨kp_w (by decide) kp_r, rfl, rfl⟩, by first | with_reducible assumption | omega⟩)
    · have c6 : x2v.toInt < (500 : Int) := o_nle h3
      refine ok_at ((rfl).trans hv0) ?_
      refine ok_gp ktp ?_
      refine ok_bind (k_X7_isSound L hN (a0 := tp) ktp I) (fun r7 hr8 => ?_)
      obtain ⟨i9, p10, p11, p12⟩ := hr8
      try rw [i9]
      have f13 := bo_t p10
      have f14 := ti_b r7.1
      have f15 := ti_b (q_I δ 7 5 tp)
      refine ok_ite (fun h16 => ?_) (fun h16 => ?_)
      · have c17 : r7.1.toInt = (0 : Int) := o_eq h16
        unfold J_X9_readSum_84
        have f18 := cb_8_2 I kth
        exact ok_some (show CI ad h.1 δ0 δ ∧ (kp [(7, 3), (7, 4), (7, 5), (7, 6), (8, 2), (8, 3)] δ δ ∧ q_V δ = q_V δ ∧ q_R δ (Ad ad 7) = q_R δ (Ad ad 7)) ∧ (q_I δ 8 2 th).toInt ≤ (q_I δ 8 2 th).toInt from ⟨I, ⟨kp_w (by decide) kp_r, rfl, rfl⟩, by first | with_reducible assumption | omega⟩)
      · have c19 : r7.1.toInt ≠ (0 : Int) := o_ne h16
        refine ok_at ((rfl).trans hv0) ?_
        refine ok_gp ktp ?_
        refine ok_bind (k_X7_ahead L hN (a0 := tp) ktp I) (fun r20 hr21 => ?_)
        obtain ⟨i22, ⟨u24, u25, u26⟩, p23⟩ := hr21
        have u27 := kp_t kp_r u24
        have v28 : q_V r20.2 = q_V δ := (u25).trans rfl
        have v29 : q_R r20.2 (Ad ad 7) = q_R δ (Ad ad 7) := (congrFun u26 (Ad ad 7)).trans rfl
        have f30 := ti_b r20.1
        have f31 := cb_7_3 i22 ktp
        have f32 : (q_I r20.2 7 2 tp).toInt = (q_I δ 7 2 tp).toInt := congrArg Int32.toInt (u24 7 2 tp (by decide))
        have f33 := cb_7_2 I ktp
        refine ok_ite (fun h34 => ?_) (fun h34 => ?_)
        · have c35 : r20.1.toInt = (43 : Int) := o_eq h34
          unfold J_X9_readSum_45
          refine ok_at ((congrFun (congrFun (congrFun v28 9) 0) a0).trans hv0) ?_
          refine ok_gp ktp ?_
          refine ok_bind (k_X7_needSign L hN (a0 := tp) (x1 := r20.1) ktp (show (r20.1).toInt ≠ -1 by first | with_reducible assumption | omega) i22) (fun r36 hr37 => ?_)
          obtain ⟨i38, ⟨u40, u41, u42⟩, p39⟩ := hr37
          have u43 := kp_t u27 u40
          have v44 : q_V r36 = q_V δ := (u41).trans v28
          have v45 : q_R r36 (Ad ad 7) = q_R δ (Ad ad 7) := (congrFun u42 (Ad ad 7)).trans v29
          have f46 : (q_I r20.2 7 5 tp).toInt = (q_I δ 7 5 tp).toInt := congrArg Int32.toInt (u24 7 5 tp (by decide))
          have f47 := ti_b (q_I r36 7 5 tp)
          refine ok_bind (k_bX9_readProduct L hN (a0 := a0) (x1 := x1) hT k_a0 (show 0 ≤ (x1).toInt by first | with_reducible assumption | omega) (show (x1).toInt ≤ 6 by first | with_reducible assumption | omega) (show 6 - (x1).toInt ≤ K by first | with_reducible assumption | omega) ((congrFun (congrFun (congrFun v44 9) 0) a0).trans hv0) ((congrFun (congrFun (congrFun v44 9) 1) a0).trans hv1) ktp kth i38) (fun r48 hr49 => ?_)
          obtain ⟨i50, ⟨u52, u53, u54⟩, p51⟩ := hr49
          have u55 := kp_t u43 u52
          have v56 : q_V r48 = q_V δ := (u53).trans v44
          have v57 : q_R r48 (Ad ad 7) = q_R δ (Ad ad 7) := (u54).trans v45
          have f58 : (q_I r36 8 2 th).toInt = (q_I δ 8 2 th).toInt := ((show (q_I r36 8 2 th).toInt = (q_I r20.2 8 2 th).toInt from congrArg Int32.toInt (u40 8 2 th (by decide))).trans (show (q_I r20.2 8 2 th).toInt = (q_I δ 8 2 th).toInt from congrArg Int32.toInt (u24 8 2 th (by decide))))
          have f59 := cb_8_2 I kth
          have f60 := cb_8_2 i50 kth
          refine ok_at ((congrFun (congrFun (congrFun v56 9) 1) a0).trans hv1) ?_
          refine ok_gp kth ?_
          refine ok_ite (fun h61 => ?_) (fun h61 => ?_)
          · have c62 : r20.1.toInt = (43 : Int) := o_eq h61
            unfold J_X9_readSum_74
            refine ok_bind (k_X8_add L hN (a0 := th) (x1 := (5 : Int32)) (x2 := (0 : Int32)) kth (show 0 ≤ (0 : Int) by first | with_reducible assumption | omega) (show (5 : Int) = 1 → (0 : Int) < 4 by first | with_reducible assumption | omega) (show (5 : Int) = 11 → (q_I r48 8 2 th).toInt < 500 → (0 : Int) < 500 by first | with_reducible assumption | omega) i50) (fun r63 hr64 => ?_)
            obtain ⟨i65, ⟨u67, u68, u69⟩, p66⟩ := hr64
            have u70 := kp_t u55 u67
            have v71 : q_V r63 = q_V δ := (u68).trans v56
            have v72 : q_R r63 (Ad ad 7) = q_R δ (Ad ad 7) := (u69).trans v57
            have f73 := cb_8_2 i65 kth
            refine ok_biv (fun vx74 e75 => ?_)
            first | (have q76 := te_addc (c := 1) (n := 1) rfl x2v (by omega) (by omega); rw [← e75] at q76; obtain ⟨f77, f78, f79⟩ := q76) | (obtain ⟨q76, f77, f78, f79⟩ : ∃ q : Int, vx74.toInt = x2v.toInt + (1 : Int) + 4294967296 * q ∧ -2147483648 ≤ vx74.toInt ∧ vx74.toInt ≤ 2147483647 := by rw [e75]; exact ti_addc (c := 1) (n := 1) rfl x2v)
            refine ok_mono (ih vx74 r63 i65 (show 0 ≤ (x1).toInt by first | with_reducible assumption | omega) (show (x1).toInt ≤ 6 by first | with_reducible assumption | omega) (show 6 - (x1).toInt ≤ K by first | with_reducible assumption | omega) (show 0 ≤ (vx74).toInt by first | with_reducible assumption | omega) (show (vx74).toInt ≤ 500 by first | with_reducible assumption | omega) ((congrFun (congrFun (congrFun v71 9) 0) a0).trans hv0) ((congrFun (congrFun (congrFun v71 9) 1) a0).trans hv1) ktp kth (show 500 - (vx74).toInt < _ by omega)) (fun r80 hr81 => ?_)
            obtain ⟨i82, ⟨u84, u85, u86⟩, p83⟩ := hr81
            have u87 := kp_t u70 u84
            have v88 : q_V r80 = q_V δ := (u85).trans v71
            have v89 : q_R r80 (Ad ad 7) = q_R δ (Ad ad 7) := (u86).trans v72
            have f90 := cb_8_2 i82 kth
            exact ⟨by first | with_reducible assumption | assumption, ⟨kp_w (by decide) u87, v88, v89⟩, by first | with_reducible assumption | omega⟩
          · have c91 : r20.1.toInt ≠ (43 : Int) := o_ne h61
            unfold J_X9_readSum_74
            refine ok_bind (k_X8_add L hN (a0 := th) (x1 := (6 : Int32)) (x2 := (0 : Int32)) kth (show 0 ≤ (0 : Int) by first | with_reducible assumption | omega) (show (6 : Int) = 1 → (0 : Int) < 4 by first | with_reducible assumption | omega) (show (6 : Int) = 11 → (q_I r48 8 2 th).toInt < 500 → (0 : Int) < 500 by first | with_reducible assumption | omega) i50) (fun r92 hr93 => ?_)
            obtain ⟨i94, ⟨u96, u97, u98⟩, p95⟩ := hr93
            have u99 := kp_t u55 u96
            have v100 : q_V r92 = q_V δ := (u97).trans v56
            have v101 : q_R r92 (Ad ad 7) = q_R δ (Ad ad 7) := (u98).trans v57
            have f102 := cb_8_2 i94 kth
            refine ok_biv (fun vx103 e104 => ?_)
            first | (have q105 := te_addc (c := 1) (n := 1) rfl x2v (by omega) (by omega); rw [← e104] at q105; obtain ⟨f106, f107, f108⟩ := q105) | (obtain ⟨q105, f106, f107, f108⟩ : ∃ q : Int, vx103.toInt = x2v.toInt + (1 : Int) + 4294967296 * q ∧ -2147483648 ≤ vx103.toInt ∧ vx103.toInt ≤ 2147483647 := by rw [e104]; exact ti_addc (c := 1) (n := 1) rfl x2v)
            refine ok_mono (ih vx103 r92 i94 (show 0 ≤ (x1).toInt by first | with_reducible assumption | omega) (show (x1).toInt ≤ 6 by first | with_reducible assumption | omega) (show 6 - (x1).toInt ≤ K by first | with_reducible assumption | omega) (show 0 ≤ (vx103).toInt by first | with_reducible assumption | omega) (show (vx103).toInt ≤ 500 by first | with_reducible assumption | omega) ((congrFun (congrFun (congrFun v100 9) 0) a0).trans hv0) ((congrFun (congrFun (congrFun v100 9) 1) a0).trans hv1) ktp kth (show 500 - (vx103).toInt < _ by omega)) (fun r109 hr110 => ?_)
            obtain ⟨i111, ⟨u113, u114, u115⟩, p112⟩ := hr110
            have u116 := kp_t u99 u113
            have v117 : q_V r109 = q_V δ := (u114).trans v100
            have v118 : q_R r109 (Ad ad 7) = q_R δ (Ad ad 7) := (u115).trans v101
            have f119 := cb_8_2 i111 kth
            exact ⟨by first | with_reducible assumption | assumption, ⟨kp_w (by decide) u116, v117, v118⟩, by first | with_reducible assumption | omega⟩
        · have c120 : r20.1.toInt ≠ (43 : Int) := o_ne h34
          refine ok_ite (fun h121 => ?_) (fun h121 => ?_)
          · have c122 : r20.1.toInt = (45 : Int) := o_eq h121
            unfold J_X9_readSum_45
            refine ok_at ((congrFun (congrFun (congrFun v28 9) 0) a0).trans hv0) ?_
            refine ok_gp ktp ?_
            refine ok_bind (k_X7_needSign L hN (a0 := tp) (x1 := r20.1) ktp (show (r20.1).toInt ≠ -1 by first | with_reducible assumption | omega) i22) (fun r123 hr124 => ?_)
            obtain ⟨i125, ⟨u127, u128, u129⟩, p126⟩ := hr124
            have u130 := kp_t u27 u127
            have v131 : q_V r123 = q_V δ := (u128).trans v28
            have v132 : q_R r123 (Ad ad 7) = q_R δ (Ad ad 7) := (congrFun u129 (Ad ad 7)).trans v29
            have f133 : (q_I r20.2 7 5 tp).toInt = (q_I δ 7 5 tp).toInt := congrArg Int32.toInt (u24 7 5 tp (by decide))
            have f134 := ti_b (q_I r123 7 5 tp)
            refine ok_bind (k_bX9_readProduct L hN (a0 := a0) (x1 := x1) hT k_a0 (show 0 ≤ (x1).toInt by first | with_reducible assumption | omega) (show (x1).toInt ≤ 6 by first | with_reducible assumption | omega) (show 6 - (x1).toInt ≤ K by first | with_reducible assumption | omega) ((congrFun (congrFun (congrFun v131 9) 0) a0).trans hv0) ((congrFun (congrFun (congrFun v131 9) 1) a0).trans hv1) ktp kth i125) (fun r135 hr136 => ?_)
            obtain ⟨i137, ⟨u139, u140, u141⟩, p138⟩ := hr136
            have u142 := kp_t u130 u139
            have v143 : q_V r135 = q_V δ := (u140).trans v131
            have v144 : q_R r135 (Ad ad 7) = q_R δ (Ad ad 7) := (u141).trans v132
            have f145 : (q_I r123 8 2 th).toInt = (q_I δ 8 2 th).toInt := ((show (q_I r123 8 2 th).toInt = (q_I r20.2 8 2 th).toInt from congrArg Int32.toInt (u127 8 2 th (by decide))).trans (show (q_I r20.2 8 2 th).toInt = (q_I δ 8 2 th).toInt from congrArg Int32.toInt (u24 8 2 th (by decide))))
            have f146 := cb_8_2 I kth
            have f147 := cb_8_2 i137 kth
            refine ok_at ((congrFun (congrFun (congrFun v143 9) 1) a0).trans hv1) ?_
            refine ok_gp kth ?_
            refine ok_ite (fun h148 => ?_) (fun h148 => ?_)
            · have c149 : r20.1.toInt = (43 : Int) := o_eq h148
              unfold J_X9_readSum_74
              refine ok_bind (k_X8_add L hN (a0 := th) (x1 := (5 : Int32)) (x2 := (0 : Int32)) kth (show 0 ≤ (0 : Int) by first | with_reducible assumption | omega) (show (5 : Int) = 1 → (0 : Int) < 4 by first | with_reducible assumption | omega) (show (5 : Int) = 11 → (q_I r135 8 2 th).toInt < 500 → (0 : Int) < 500 by first | with_reducible assumption | omega) i137) (fun r150 hr151 => ?_)
              obtain ⟨i152, ⟨u154, u155, u156⟩, p153⟩ := hr151
              have u157 := kp_t u142 u154
              have v158 : q_V r150 = q_V δ := (u155).trans v143
              have v159 : q_R r150 (Ad ad 7) = q_R δ (Ad ad 7) := (u156).trans v144
              have f160 := cb_8_2 i152 kth
              refine ok_biv (fun vx161 e162 => ?_)
              first | (have q163 := te_addc (c := 1) (n := 1) rfl x2v (by omega) (by omega); rw [← e162] at q163; obtain ⟨f164, f165, f166⟩ := q163) | (obtain ⟨q163, f164, f165, f166⟩ : ∃ q : Int, vx161.toInt = x2v.toInt + (1 : Int) + 4294967296 * q ∧ -2147483648 ≤ vx161.toInt ∧ vx161.toInt ≤ 2147483647 := by rw [e162]; exact ti_addc (c := 1) (n := 1) rfl x2v)
              refine ok_mono (ih vx161 r150 i152 (show 0 ≤ (x1).toInt by first | with_reducible assumption | omega) (show (x1).toInt ≤ 6 by first | with_reducible assumption | omega) (show 6 - (x1).toInt ≤ K by first | with_reducible assumption | omega) (show 0 ≤ (vx161).toInt by first | with_reducible assumption | omega) (show (vx161).toInt ≤ 500 by first | with_reducible assumption | omega) ((congrFun (congrFun (congrFun v158 9) 0) a0).trans hv0) ((congrFun (congrFun (congrFun v158 9) 1) a0).trans hv1) ktp kth (show 500 - (vx161).toInt < _ by omega)) (fun r167 hr168 => ?_)
              obtain ⟨i169, ⟨u171, u172, u173⟩, p170⟩ := hr168
              have u174 := kp_t u157 u171
              have v175 : q_V r167 = q_V δ := (u172).trans v158
              have v176 : q_R r167 (Ad ad 7) = q_R δ (Ad ad 7) := (u173).trans v159
              have f177 := cb_8_2 i169 kth
              exact ⟨by first | with_reducible assumption | assumption, ⟨kp_w (by decide) u174, v175, v176⟩, by first | with_reducible assumption | omega⟩
            · have c178 : r20.1.toInt ≠ (43 : Int) := o_ne h148
              unfold J_X9_readSum_74
              refine ok_bind (k_X8_add L hN (a0 := th) (x1 := (6 : Int32)) (x2 := (0 : Int32)) kth (show 0 ≤ (0 : Int) by first | with_reducible assumption | omega) (show (6 : Int) = 1 → (0 : Int) < 4 by first | with_reducible assumption | omega) (show (6 : Int) = 11 → (q_I r135 8 2 th).toInt < 500 → (0 : Int) < 500 by first | with_reducible assumption | omega) i137) (fun r179 hr180 => ?_)
              obtain ⟨i181, ⟨u183, u184, u185⟩, p182⟩ := hr180
              have u186 := kp_t u142 u183
              have v187 : q_V r179 = q_V δ := (u184).trans v143
              have v188 : q_R r179 (Ad ad 7) = q_R δ (Ad ad 7) := (u185).trans v144
              have f189 := cb_8_2 i181 kth
              refine ok_biv (fun vx190 e191 => ?_)
              first | (have q192 := te_addc (c := 1) (n := 1) rfl x2v (by omega) (by omega); rw [← e191] at q192; obtain ⟨f193, f194, f195⟩ := q192) | (obtain ⟨q192, f193, f194, f195⟩ : ∃ q : Int, vx190.toInt = x2v.toInt + (1 : Int) + 4294967296 * q ∧ -2147483648 ≤ vx190.toInt ∧ vx190.toInt ≤ 2147483647 := by rw [e191]; exact ti_addc (c := 1) (n := 1) rfl x2v)
              refine ok_mono (ih vx190 r179 i181 (show 0 ≤ (x1).toInt by first | with_reducible assumption | omega) (show (x1).toInt ≤ 6 by first | with_reducible assumption | omega) (show 6 - (x1).toInt ≤ K by first | with_reducible assumption | omega) (show 0 ≤ (vx190).toInt by first | with_reducible assumption | omega) (show (vx190).toInt ≤ 500 by first | with_reducible assumption | omega) ((congrFun (congrFun (congrFun v187 9) 0) a0).trans hv0) ((congrFun (congrFun (congrFun v187 9) 1) a0).trans hv1) ktp kth (show 500 - (vx190).toInt < _ by omega)) (fun r196 hr197 => ?_)
              obtain ⟨i198, ⟨u200, u201, u202⟩, p199⟩ := hr197
              have u203 := kp_t u186 u200
              have v204 : q_V r196 = q_V δ := (u201).trans v187
              have v205 : q_R r196 (Ad ad 7) = q_R δ (Ad ad 7) := (u202).trans v188
              have f206 := cb_8_2 i198 kth
              exact ⟨by first | with_reducible assumption | assumption, ⟨kp_w (by decide) u203, v204, v205⟩, by first | with_reducible assumption | omega⟩
          · have c207 : r20.1.toInt ≠ (45 : Int) := o_ne h121
            have f208 := cb_8_2 I kth
            have f209 : (q_I r20.2 8 2 th).toInt = (q_I δ 8 2 th).toInt := congrArg Int32.toInt (u24 8 2 th (by decide))
            exact ok_some (show CI ad h.1 δ0 r20.2 ∧ (kp [(7, 3), (7, 4), (7, 5), (7, 6), (8, 2), (8, 3)] δ r20.2 ∧ q_V r20.2 = q_V δ ∧ q_R r20.2 (Ad ad 7) = q_R δ (Ad ad 7)) ∧ (q_I δ 8 2 th).toInt ≤ (q_I r20.2 8 2 th).toInt from ⟨i22, ⟨kp_w (by decide) u27, v28, v29⟩, by first | with_reducible assumption | omega⟩)
set_option maxHeartbeats 4000000 in
theorem ke_X9_readSum {ad : List Nat} {h : hp} (L : Lay TLx ad h) {δ0 : dp} {N : Nat} (hN : 10000000 ≤ N) {tp th : Nat} : ∀ (k : Nat), ∀ (a0 : Nat) (x1 : Int32) (δ : dp), q_K h.1 a0 = 9 → 0 ≤ (x1).toInt → (x1).toInt ≤ 6 → 6 - (x1).toInt < (k : Int) → q_V δ 9 0 a0 = some tp → q_V δ 9 1 a0 = some th → q_K h.1 tp = 7 → q_K h.1 th = 8 → CI ad h.1 δ0 δ → ok (E_X9_readSum N h.1 k a0 x1 δ) (fun r => CI ad h.1 δ0 r ∧ (kp [(7, 3), (7, 4), (7, 5), (7, 6), (8, 2), (8, 3)] δ r ∧ q_V r = q_V δ ∧ q_R r (Ad ad 7) = q_R δ (Ad ad 7)) ∧ (q_I δ 8 2 th).toInt ≤ (q_I r 8 2 th).toInt) := by
  intro k
  induction k with
  | zero =>
    intro a0 x1 δ k_a0 z0 z1 hd hv0 hv1 ktp kth I
    exfalso; omega
  | succ k ih =>
    intro a0 x1 δ k_a0 z0 z1 hd hv0 hv1 ktp kth I
    unfold E_X9_readSum B_X9_readSum
    have f1 := ti_b x1
    refine ok_bind (k_bX9_readProduct L hN (a0 := a0) (x1 := x1) ih k_a0 (show 0 ≤ (x1).toInt by first | with_reducible assumption | omega) (show (x1).toInt ≤ 6 by first | with_reducible assumption | omega) (show 6 - (x1).toInt ≤ (k : Int) by first | with_reducible assumption | omega) ((rfl).trans hv0) ((rfl).trans hv1) ktp kth I) (fun r2 hr3 => ?_)
    obtain ⟨i4, ⟨u6, u7, u8⟩, p5⟩ := hr3
    have u9 := kp_t kp_r u6
    have v10 : q_V r2 = q_V δ := (u7).trans rfl
    have v11 : q_R r2 (Ad ad 7) = q_R δ (Ad ad 7) := (u8).trans rfl
    have f12 := cb_8_2 I kth
    have f13 := cb_8_2 i4 kth
    refine ok_mono (kl_X9_readSum_7 L hN   ih k_a0 _ (0 : Int32) r2 i4 (show 0 ≤ (x1).toInt by first | with_reducible assumption | omega) (show (x1).toInt ≤ 6 by first | with_reducible assumption | omega) (show 6 - (x1).toInt ≤ (k : Int) by first | with_reducible assumption | omega) (show 0 ≤ (0 : Int) by first | with_reducible assumption | omega) (show (0 : Int) ≤ 500 by first | with_reducible assumption | omega) ((congrFun (congrFun (congrFun v10 9) 0) a0).trans hv0) ((congrFun (congrFun (congrFun v10 9) 1) a0).trans hv1) ktp kth (show 500 - (0 : Int) < _ by omega)) (fun r14 hr15 => ?_)
    obtain ⟨i16, ⟨u18, u19, u20⟩, p17⟩ := hr15
    have u21 := kp_t u9 u18
    have v22 : q_V r14 = q_V δ := (u19).trans v10
    have v23 : q_R r14 (Ad ad 7) = q_R δ (Ad ad 7) := (u20).trans v11
    have f24 := cb_8_2 i16 kth
    exact ⟨by first | with_reducible assumption | assumption, ⟨kp_w (by decide) u21, v22, v23⟩, by first | with_reducible assumption | omega⟩
set_option maxHeartbeats 4000000 in
theorem k_X9_readSum {ad : List Nat} {h : hp} (L : Lay TLx ad h) {δ0 : dp} {N : Nat} (hN : 10000000 ≤ N) {tp th : Nat} {a0 : Nat} {x1 : Int32} (k_a0 : q_K h.1 a0 = 9) {δ : dp} (z0 : 0 ≤ (x1).toInt) (z1 : (x1).toInt ≤ 6) (hd : 6 - (x1).toInt < 20) (hv0 : q_V δ 9 0 a0 = some tp) (hv1 : q_V δ 9 1 a0 = some th) (ktp : q_K h.1 tp = 7) (kth : q_K h.1 th = 8) (I : CI ad h.1 δ0 δ) : ok (D_X9_readSum N h.1 a0 x1 δ) (fun r => CI ad h.1 δ0 r ∧ (kp [(7, 3), (7, 4), (7, 5), (7, 6), (8, 2), (8, 3)] δ r ∧ q_V r = q_V δ ∧ q_R r (Ad ad 7) = q_R δ (Ad ad 7)) ∧ (q_I δ 8 2 th).toInt ≤ (q_I r 8 2 th).toInt) := ke_X9_readSum L hN 20 a0 x1 δ k_a0 z0 z1 hd hv0 hv1 ktp kth I
set_option maxHeartbeats 4000000 in
theorem k_X9_openLoop {ad : List Nat} {h : hp} (L : Lay TLx ad h) {δ0 : dp} {N : Nat} (hN : 10000000 ≤ N) {tp th : Nat} {a0 : Nat} (k_a0 : q_K h.1 a0 = 9) {δ : dp} (z0 : (q_I δ 9 4 a0).toInt < 3) (hv0 : q_V δ 9 0 a0 = some tp) (hv1 : q_V δ 9 1 a0 = some th) (ktp : q_K h.1 tp = 7) (kth : q_K h.1 th = 8) (hls : LSn ad δ th (q_I δ 9 4 a0).toInt) (I : CI ad h.1 δ0 δ) : ok (D_X9_openLoop N h.1 a0 δ) (fun r => CI ad h.1 δ0 r ∧ (kp [(7, 3), (7, 4), (7, 5), (7, 6), (8, 2), (8, 3), (9, 4)] δ r ∧ q_V r = q_V δ) ∧ LSn ad r th (q_I r 9 4 a0).toInt) := by
  unfold D_X9_openLoop
  have f1 := cb_9_4 I k_a0
  refine ok_at ((rfl).trans hv0) ?_
  refine ok_gp ktp ?_
  refine ok_bind (k_X7_readNumber L hN (a0 := tp) (x1 := (1 : Int32)) (x2 := (99 : Int32)) ktp I) (fun r2 hr3 => ?_)
  obtain ⟨i4, ⟨u9, u10, u11⟩, p5, p6, p7, p8⟩ := hr3
  have u12 := kp_t kp_r u9
  have v13 : q_V r2.2 = q_V δ := (u10).trans rfl
  have y14 : q_R r2.2 (Ad ad 7) = q_R δ (Ad ad 7) := (congrFun u11 (Ad ad 7)).trans rfl
  have f15 := ti_b r2.1
  have f16 := ti_b (q_I δ 7 5 tp)
  have f17 := ti_b (q_I r2.2 7 5 tp)
  replace p8 : ((q_I r2.2 7 5 tp).toInt = 0 → (1 : Int) ≤ (r2.1).toInt ∧ (r2.1).toInt ≤ (99 : Int)) := p8
  refine ok_at ((congrFun (congrFun (congrFun v13 9) 0) a0).trans hv0) ?_
  refine ok_gp ktp ?_
  refine ok_bind (k_X7_needSign L hN (a0 := tp) (x1 := (91 : Int32)) ktp (show (91 : Int) ≠ -1 by first | with_reducible assumption | omega) i4) (fun r18 hr19 => ?_)
  obtain ⟨i20, ⟨u22, u23, u24⟩, p21⟩ := hr19
  have u25 := kp_t u12 u22
  have v26 : q_V r18 = q_V δ := (u23).trans v13
  have y27 : q_R r18 (Ad ad 7) = q_R δ (Ad ad 7) := (congrFun u24 (Ad ad 7)).trans y14
  have f28 := ti_b (q_I r18 7 5 tp)
  obtain ⟨b29, o30, k31, n32⟩ := gO_9_5 L k_a0
  obtain rfl := gS_9_5 L k_a0 o30
  refine ok_at o30 ?_
  refine ok_at ((congrFun (congrFun (congrFun v26 9) 1) a0).trans hv1) ?_
  refine ok_gp kth ?_
  have f33 : (q_I r18 9 4 a0).toInt = (q_I δ 9 4 a0).toInt := ((show (q_I r18 9 4 a0).toInt = (q_I r2.2 9 4 a0).toInt from congrArg Int32.toInt (u22 9 4 a0 (by decide))).trans (show (q_I r2.2 9 4 a0).toInt = (q_I δ 9 4 a0).toInt from congrArg Int32.toInt (u9 9 4 a0 (by decide))))
  have t34 := ti_tn (q_I r18 9 4 a0)
  refine ok_gd (fun hc35 => ?_) ?_
  · rcases hc35 with hc35 | hc35
    · have c36 : (q_I r18 9 4 a0).toInt < (0 : Int) := o_lt hc35
      omega
    · omega
  have f40 : (q_I r18 8 2 th).toInt = (q_I δ 8 2 th).toInt := ((show (q_I r18 8 2 th).toInt = (q_I r2.2 8 2 th).toInt from congrArg Int32.toInt (u22 8 2 th (by decide))).trans (show (q_I r2.2 8 2 th).toInt = (q_I δ 8 2 th).toInt from congrArg Int32.toInt (u9 8 2 th (by decide))))
  have f41 := cb_8_2 I kth
  refine ok_bdv (fun d37 e38 => ?_)
  have i39 : CI ad h.1 δ0 d37 := by rw [e38]; exact cr_7 L i20 (show 0 ≤ (q_I r18 8 2 th).toInt by omega) (show (q_I r18 8 2 th).toInt ≤ 500 by omega)
  have ls42 : LSn ad d37 th ((q_I δ 9 4 a0).toInt + 1) := by rw [e38]; exact (hls.t (by omega) y27).w (by omega) (by omega)
  have u43 := kp_N u25 (show q_I d37 = q_I r18 by rw [e38]; rfl)
  have v44 : q_V d37 = q_V δ := ((show q_V d37 = q_V r18 by rw [e38]; rfl)).trans v26
  obtain ⟨b45, o46, k47, n48, w49⟩ := gO_9_6 L k_a0
  refine ok_at o46 ?_
  have f50 : (q_I d37 9 4 a0).toInt = (q_I r18 9 4 a0).toInt := congrArg Int32.toInt (by rw [e38]; rfl)
  have t51 := ti_tn (q_I d37 9 4 a0)
  refine ok_gd (fun hc52 => ?_) ?_
  · rcases hc52 with hc52 | hc52
    · have c53 : (q_I d37 9 4 a0).toInt < (0 : Int) := o_lt hc52
      omega
    · omega
  refine ok_bdv (fun d54 e55 => ?_)
  have i56 : CI ad h.1 δ0 d54 := by rw [e55]; exact CI.sR L i39 w49
  have u57 := kp_N u43 (show q_I d54 = q_I d37 by rw [e55]; rfl)
  have v58 : q_V d54 = q_V δ := ((show q_V d54 = q_V d37 by rw [e55]; rfl)).trans v44
  have y59 : q_R d54 (Ad ad 7) = q_R d37 (Ad ad 7) := ((show q_R d54 (Ad ad 7) = q_R d37 (Ad ad 7) by rw [e55]; exact rR_o (wb.ne L w49 (by decide) (by decide)))).trans rfl
  refine ok_at ((congrFun (congrFun (congrFun v58 9) 1) a0).trans hv1) ?_
  refine ok_gp kth ?_
  first | (have q63 := te_mulr (c := 4) (n := 4) rfl r2.1 (by omega) (by omega); obtain ⟨f64, f65, f66⟩ := q63) | (obtain ⟨q63, f64, f65, f66⟩ := ti_mulr (c := 4) (n := 4) rfl r2.1)
  have f67 : (q_I d54 9 4 a0).toInt = (q_I d37 9 4 a0).toInt := congrArg Int32.toInt (by rw [e55]; rfl)
  first | (have q69 := te_add (r2.1 * (4 : Int32)) (q_I d54 9 4 a0) (by omega) (by omega); obtain ⟨f70, f71, f72⟩ := q69) | (obtain ⟨q69, f70, f71, f72⟩ := ti_add (r2.1 * (4 : Int32)) (q_I d54 9 4 a0))
  have f73 : (q_I d54 8 2 th).toInt = (q_I r18 8 2 th).toInt := ((show (q_I d54 8 2 th).toInt = (q_I d37 8 2 th).toInt from congrArg Int32.toInt (by rw [e55]; rfl)).trans (show (q_I d37 8 2 th).toInt = (q_I r18 8 2 th).toInt from congrArg Int32.toInt (by rw [e38]; rfl)))
  refine ok_bind (k_X8_add L hN (a0 := th) (x1 := (10 : Int32)) (x2 := ((r2.1 * (4 : Int32)) + (q_I d54 9 4 a0))) kth (show 0 ≤ (((r2.1 * (4 : Int32)) + (q_I d54 9 4 a0))).toInt by first | with_reducible assumption | omega) (show (10 : Int) = 1 → (((r2.1 * (4 : Int32)) + (q_I d54 9 4 a0))).toInt < 4 by first | with_reducible assumption | omega) (show (10 : Int) = 11 → (q_I d54 8 2 th).toInt < 500 → (((r2.1 * (4 : Int32)) + (q_I d54 9 4 a0))).toInt < 500 by first | with_reducible assumption | omega) i56) (fun r60 hr61 => ?_)
  obtain ⟨i74, ⟨u76, u77, u78⟩, p75⟩ := hr61
  have u79 := kp_t u57 u76
  have v80 : q_V r60 = q_V δ := (u77).trans v58
  have y81 : q_R r60 (Ad ad 7) = q_R d37 (Ad ad 7) := (u78).trans y59
  have f82 := cb_8_2 i74 kth
  have f86 : (q_I r60 9 4 a0).toInt = (q_I d54 9 4 a0).toInt := congrArg Int32.toInt (u76 9 4 a0 (by decide))
  first | (have q88 := te_addc (c := 1) (n := 1) rfl (q_I r60 9 4 a0) (by omega) (by omega); obtain ⟨f89, f90, f91⟩ := q88) | (obtain ⟨q88, f89, f90, f91⟩ := ti_addc (c := 1) (n := 1) rfl (q_I r60 9 4 a0))
  refine ok_bdv (fun d83 e84 => ?_)
  have i85 : CI ad h.1 δ0 d83 := by rw [e84]; exact cs_9_4 L i74 k_a0 (show 0 ≤ ((q_I r60 9 4 a0) + (1 : Int32)).toInt by omega) (show ((q_I r60 9 4 a0) + (1 : Int32)).toInt ≤ 3 by omega)
  have u92 := kp_I u79 e84
  have v93 : q_V d83 = q_V δ := ((show q_V d83 = q_V r60 by rw [e84]; rfl)).trans v80
  have y94 : q_R d83 (Ad ad 7) = q_R d37 (Ad ad 7) := ((show q_R d83 (Ad ad 7) = q_R r60 (Ad ad 7) by rw [e84]; rfl)).trans y81
  have f95 := cb_9_4 i85 k_a0
  have f96 : (q_I d83 9 4 a0).toInt = ((q_I r60 9 4 a0) + (1 : Int32)).toInt := congrArg Int32.toInt (show q_I d83 9 4 a0 = ((q_I r60 9 4 a0) + (1 : Int32)) by rw [e84]; exact rI_s)
  have f97 : (q_I d83 8 2 th).toInt = (q_I r60 8 2 th).toInt := congrArg Int32.toInt (by rw [e84]; exact rI_o (by decide))
  have f98 : (q_I d37 8 2 th).toInt = (q_I r18 8 2 th).toInt := congrArg Int32.toInt (by rw [e38]; rfl)
  exact ok_some (show CI ad h.1 δ0 d83 ∧ (kp [(7, 3), (7, 4), (7, 5), (7, 6), (8, 2), (8, 3), (9, 4)] δ d83 ∧ q_V d83 = q_V δ) ∧ LSn ad d83 th (q_I d83 9 4 a0).toInt from ⟨i85, ⟨kp_w (by decide) u92, v93⟩, (ls42.t (by omega) y94).n (by omega)⟩)
set_option maxHeartbeats 4000000 in
theorem k_X9_closeLoop {ad : List Nat} {h : hp} (L : Lay TLx ad h) {δ0 : dp} {N : Nat} (hN : 10000000 ≤ N) {tp th : Nat} {a0 : Nat} (k_a0 : q_K h.1 a0 = 9) {δ : dp} (z0 : 1 ≤ (q_I δ 9 4 a0).toInt) (hv0 : q_V δ 9 0 a0 = some tp) (hv1 : q_V δ 9 1 a0 = some th) (ktp : q_K h.1 tp = 7) (kth : q_K h.1 th = 8) (hls : LSn ad δ th (q_I δ 9 4 a0).toInt) (I : CI ad h.1 δ0 δ) : ok (D_X9_closeLoop N h.1 a0 δ) (fun r => CI ad h.1 δ0 r ∧ (kp [(8, 2), (8, 3), (9, 4)] δ r ∧ q_V r = q_V δ) ∧ LSn ad r th (q_I r 9 4 a0).toInt) := by
  unfold D_X9_closeLoop
  have f1 := cb_9_4 I k_a0
  first | (have q6 := te_subc (c := 1) (n := 1) rfl (q_I δ 9 4 a0) (by omega) (by omega); obtain ⟨f7, f8, f9⟩ := q6) | (obtain ⟨q6, f7, f8, f9⟩ := ti_subc (c := 1) (n := 1) rfl (q_I δ 9 4 a0))
  refine ok_bdv (fun d2 e3 => ?_)
  have i4 : CI ad h.1 δ0 d2 := by rw [e3]; exact cs_9_4 L I k_a0 (show 0 ≤ ((q_I δ 9 4 a0) - (1 : Int32)).toInt by omega) (show ((q_I δ 9 4 a0) - (1 : Int32)).toInt ≤ 3 by omega)
  have u10 := kp_I kp_r e3
  have v11 : q_V d2 = q_V δ := ((show q_V d2 = q_V δ by rw [e3]; rfl)).trans rfl
  have y12 : q_R d2 (Ad ad 7) = q_R δ (Ad ad 7) := ((show q_R d2 (Ad ad 7) = q_R δ (Ad ad 7) by rw [e3]; rfl)).trans rfl
  obtain ⟨b13, o14, k15, n16, w17⟩ := gO_9_6 L k_a0
  refine ok_at o14 ?_
  have f18 := cb_9_4 i4 k_a0
  have f19 : (q_I d2 9 4 a0).toInt = ((q_I δ 9 4 a0) - (1 : Int32)).toInt := congrArg Int32.toInt (show q_I d2 9 4 a0 = ((q_I δ 9 4 a0) - (1 : Int32)) by rw [e3]; exact rI_s)
  have t20 := ti_tn (q_I d2 9 4 a0)
  refine ok_gd (fun hc21 => ?_) ?_
  · rcases hc21 with hc21 | hc21
    · have c22 : (q_I d2 9 4 a0).toInt < (0 : Int) := o_lt hc21
      omega
    · omega
  have f23 := ti_b (q_R d2 b13 (q_I d2 9 4 a0).toNatClampNeg)
  have f24 : (q_I d2 9 3 a0).toInt = (q_I δ 9 3 a0).toInt := congrArg Int32.toInt (by rw [e3]; exact rI_o (by decide))
  have f25 := ti_b (q_I δ 9 3 a0)
  refine ok_ite (fun h26 => ?_) (fun h26 => ?_)
  · have c27 : (q_R d2 b13 (q_I d2 9 4 a0).toNatClampNeg).toInt = (q_I d2 9 3 a0).toInt := o_eq h26
    refine ok_at ((congrFun (congrFun (congrFun v11 9) 1) a0).trans hv1) ?_
    refine ok_gp kth ?_
    obtain ⟨b28, o29, k30, n31⟩ := gO_9_5 L k_a0
    obtain rfl := gS_9_5 L k_a0 o29
    refine ok_at o29 ?_
    refine ok_gd (fun hc32 => ?_) ?_
    · rcases hc32 with hc32 | hc32
      · have c33 : (q_I d2 9 4 a0).toInt < (0 : Int) := o_lt hc32
        omega
      · omega
    have f37 := rb_7 L i4 (q_I d2 9 4 a0).toNatClampNeg
    have f38 : (q_I d2 8 2 th).toInt = (q_I δ 8 2 th).toInt := congrArg Int32.toInt (by rw [e3]; exact rI_o (by decide))
    have f39 := cb_8_2 I kth
    have f40 := (hls.t (by omega) y12).1 (q_I d2 9 4 a0).toNatClampNeg (by omega)
    refine ok_bdv (fun d34 e35 => ?_)
    have i36 : CI ad h.1 δ0 d34 := by rw [e35]; exact cs_8_2 L i4 kth (show 0 ≤ (q_R d2 (Ad ad 7) (q_I d2 9 4 a0).toNatClampNeg).toInt by omega) (show (q_R d2 (Ad ad 7) (q_I d2 9 4 a0).toNatClampNeg).toInt ≤ (q_I d2 8 2 th).toInt by omega)
    have ls41 : LSn ad d34 th ((q_I δ 9 4 a0).toInt - 1) := by rw [e35]; exact (hls.t (by omega) y12).c (by omega)
    have u42 := kp_I u10 e35
    have v43 : q_V d34 = q_V δ := ((show q_V d34 = q_V d2 by rw [e35]; rfl)).trans v11
    have y44 : q_R d34 (Ad ad 7) = q_R δ (Ad ad 7) := ((show q_R d34 (Ad ad 7) = q_R d2 (Ad ad 7) by rw [e35]; rfl)).trans y12
    unfold J_X9_closeLoop_63
    have f45 : (q_I d34 9 4 a0).toInt = (q_I d2 9 4 a0).toInt := congrArg Int32.toInt (by rw [e35]; exact rI_o (by decide))
    have f46 := cb_8_2 i36 kth
    have f47 : (q_I d34 8 2 th).toInt = (q_R d2 (Ad ad 7) (q_I d2 9 4 a0).toNatClampNeg).toInt := congrArg Int32.toInt (show q_I d34 8 2 th = (q_R d2 (Ad ad 7) (q_I d2 9 4 a0).toNatClampNeg) by rw [e35]; exact rI_s)
    exact ok_some (show CI ad h.1 δ0 d34 ∧ (kp [(8, 2), (8, 3), (9, 4)] δ d34 ∧ q_V d34 = q_V δ) ∧ LSn ad d34 th (q_I d34 9 4 a0).toInt from ⟨i36, ⟨kp_w (by decide) u42, v43⟩, ls41.n (by omega)⟩)
  · have c48 : (q_R d2 b13 (q_I d2 9 4 a0).toNatClampNeg).toInt ≠ (q_I d2 9 3 a0).toInt := o_ne h26
    refine ok_at ((congrFun (congrFun (congrFun v11 9) 1) a0).trans hv1) ?_
    refine ok_gp kth ?_
    obtain ⟨b49, o50, k51, n52⟩ := gO_9_5 L k_a0
    obtain rfl := gS_9_5 L k_a0 o50
    refine ok_at o50 ?_
    refine ok_gd (fun hc53 => ?_) ?_
    · rcases hc53 with hc53 | hc53
      · have c54 : (q_I d2 9 4 a0).toInt < (0 : Int) := o_lt hc53
        omega
      · omega
    have f57 := rb_7 L i4 (q_I d2 9 4 a0).toNatClampNeg
    have f58 : (q_I d2 8 2 th).toInt = (q_I δ 8 2 th).toInt := congrArg Int32.toInt (by rw [e3]; exact rI_o (by decide))
    have f59 := cb_8_2 I kth
    have f60 := (hls.t (by omega) y12).1 (q_I d2 9 4 a0).toNatClampNeg (by omega)
    refine ok_bind (k_X8_add L hN (a0 := th) (x1 := (11 : Int32)) (x2 := (q_R d2 (Ad ad 7) (q_I d2 9 4 a0).toNatClampNeg)) kth (show 0 ≤ ((q_R d2 (Ad ad 7) (q_I d2 9 4 a0).toNatClampNeg)).toInt by first | with_reducible assumption | omega) (show (11 : Int) = 1 → ((q_R d2 (Ad ad 7) (q_I d2 9 4 a0).toNatClampNeg)).toInt < 4 by first | with_reducible assumption | omega) (show (11 : Int) = 11 → (q_I d2 8 2 th).toInt < 500 → ((q_R d2 (Ad ad 7) (q_I d2 9 4 a0).toNatClampNeg)).toInt < 500 by first | with_reducible assumption | omega) i4) (fun r55 hr56 => ?_)
    obtain ⟨i61, ⟨u63, u64, u65⟩, p62⟩ := hr56
    have u66 := kp_t u10 u63
    have v67 : q_V r55 = q_V δ := (u64).trans v11
    have y68 : q_R r55 (Ad ad 7) = q_R δ (Ad ad 7) := (u65).trans y12
    have f69 := cb_8_2 i61 kth
    unfold J_X9_closeLoop_63
    have f70 : (q_I r55 9 4 a0).toInt = (q_I d2 9 4 a0).toInt := congrArg Int32.toInt (u63 9 4 a0 (by decide))
    exact ok_some (show CI ad h.1 δ0 r55 ∧ (kp [(8, 2), (8, 3), (9, 4)] δ r55 ∧ q_V r55 = q_V δ) ∧ LSn ad r55 th (q_I r55 9 4 a0).toInt from ⟨i61, ⟨kp_w (by decide) u66, v67⟩, (hls.t (by omega) y68).n (by omega)⟩)
set_option maxHeartbeats 4000000 in
theorem k_X9_readStep {ad : List Nat} {h : hp} (L : Lay TLx ad h) {δ0 : dp} {N : Nat} (hN : 10000000 ≤ N) {tp th : Nat} {a0 : Nat} (k_a0 : q_K h.1 a0 = 9) {δ : dp} (hv0 : q_V δ 9 0 a0 = some tp) (hv1 : q_V δ 9 1 a0 = some th) (ktp : q_K h.1 tp = 7) (kth : q_K h.1 th = 8) (hls : LSn ad δ th (q_I δ 9 4 a0).toInt) (I : CI ad h.1 δ0 δ) : ok (D_X9_readStep N h.1 a0 δ) (fun r => CI ad h.1 δ0 r ∧ (kp [(7, 3), (7, 4), (7, 5), (7, 6), (8, 2), (8, 3), (9, 2), (9, 3), (9, 4)] δ r ∧ q_V r = q_V δ) ∧ LSn ad r th (q_I r 9 4 a0).toInt) := by
  unfold D_X9_readStep
  have f1 := cb_9_4 I k_a0
  refine ok_ite (fun h2 => ?_) (fun h2 => ?_)
  · have c3 : (q_I δ 9 4 a0).toInt ≤ (0 : Int) := o_le h2
    unfold J_X9_readStep_24
    refine ok_at ((rfl).trans hv0) ?_
    refine ok_gp ktp ?_
    refine ok_bind (k_X7_readWord L hN (a0 := tp) ktp I) (fun r4 hr5 => ?_)
    obtain ⟨i6, ⟨u7, u8, u9⟩⟩ := hr5
    have u10 := kp_t kp_r u7
    have v11 : q_V r4 = q_V δ := (u8).trans rfl
    have y12 : q_R r4 (Ad ad 7) = q_R δ (Ad ad 7) := (congrFun u9 (Ad ad 7)).trans rfl
    refine ok_bind (k_X9_callOfWord L hN (a0 := a0) k_a0 ((congrFun (congrFun (congrFun v11 9) 0) a0).trans hv0) ((congrFun (congrFun (congrFun v11 9) 1) a0).trans hv1) ktp kth i6) (fun r13 hr14 => ?_)
    obtain ⟨i15, p16, p17⟩ := hr14
    try rw [i15]
    have f18 := ti_b r13.1
    refine ok_at ((congrFun (congrFun (congrFun v11 9) 0) a0).trans hv0) ?_
    refine ok_gp ktp ?_
    refine ok_bind (k_X7_wordIs L hN (a0 := tp) (a1 := 10) ktp (show 10 < 16 by first | with_reducible assumption | omega) i6) (fun r19 hr20 => ?_)
    obtain ⟨i21, p22⟩ := hr20
    try rw [i21]
    have f23 := bo_t p22
    have f24 := ti_b r19.1
    refine ok_ite (fun h25 => ?_) (fun h25 => ?_)
    · have c26 : r13.1.toInt = (-1 : Int) := o_eq h25
      refine ok_ite (fun h27 => ?_) (fun h27 => ?_)
      · have c28 : r19.1.toInt = (0 : Int) := o_eq h27
        refine ok_at ((congrFun (congrFun (congrFun v11 9) 0) a0).trans hv0) ?_
        refine ok_gp ktp ?_
        refine ok_bind (k_X7_refuse L hN (a0 := tp) (x1 := (1 : Int32)) ktp (show (1 : Int) ≠ 0 by first | with_reducible assumption | omega) i6) (fun r29 hr30 => ?_)
        obtain ⟨i31, ⟨u33, u34, u35⟩, p32⟩ := hr30
        have u36 := kp_t u10 u33
        have v37 : q_V r29 = q_V δ := (u34).trans v11
        have y38 : q_R r29 (Ad ad 7) = q_R δ (Ad ad 7) := (congrFun u35 (Ad ad 7)).trans y12
        have f39 := ti_b (q_I r29 7 5 tp)
        unfold J_X9_readStep_163
        have f40 : (q_I r29 9 4 a0).toInt = (q_I δ 9 4 a0).toInt := ((show (q_I r29 9 4 a0).toInt = (q_I r4 9 4 a0).toInt from congrArg Int32.toInt (u33 9 4 a0 (by decide))).trans (show (q_I r4 9 4 a0).toInt = (q_I δ 9 4 a0).toInt from congrArg Int32.toInt (u7 9 4 a0 (by decide))))
        have f41 : (q_I r29 8 2 th).toInt = (q_I δ 8 2 th).toInt := ((show (q_I r29 8 2 th).toInt = (q_I r4 8 2 th).toInt from congrArg Int32.toInt (u33 8 2 th (by decide))).trans (show (q_I r4 8 2 th).toInt = (q_I δ 8 2 th).toInt from congrArg Int32.toInt (u7 8 2 th (by decide))))
        have f42 := cb_8_2 I kth
        exact ok_some (show CI ad h.1 δ0 r29 ∧ (kp [(7, 3), (7, 4), (7, 5), (7, 6), (8, 2), (8, 3), (9, 2), (9, 3), (9, 4)] δ r29 ∧ q_V r29 = q_V δ) ∧ LSn ad r29 th (q_I r29 9 4 a0).toInt from ⟨i31, ⟨kp_w (by decide) u36, v37⟩, (hls.t (by omega) y38).n (by omega)⟩)
      · have c43 : r19.1.toInt ≠ (0 : Int) := o_ne h27
        unfold J_X9_readStep_66
        have f44 : (q_I r4 9 2 a0).toInt = (q_I δ 9 2 a0).toInt := congrArg Int32.toInt (u7 9 2 a0 (by decide))
        have f45 := ti_b (q_I δ 9 2 a0)
        refine ok_ite (fun h46 => ?_) (fun h46 => ?_)
        · have c47 : (60 : Int) ≤ (q_I r4 9 2 a0).toInt := o_le h46
          unfold J_X9_readStep_87
          refine ok_at ((congrFun (congrFun (congrFun v11 9) 0) a0).trans hv0) ?_
          refine ok_gp ktp ?_
          refine ok_bind (k_X7_refuse L hN (a0 := tp) (x1 := (3 : Int32)) ktp (show (3 : Int) ≠ 0 by first | with_reducible assumption | omega) i6) (fun r48 hr49 => ?_)
          obtain ⟨i50, ⟨u52, u53, u54⟩, p51⟩ := hr49
          have u55 := kp_t u10 u52
          have v56 : q_V r48 = q_V δ := (u53).trans v11
          have y57 : q_R r48 (Ad ad 7) = q_R δ (Ad ad 7) := (congrFun u54 (Ad ad 7)).trans y12
          have f58 := ti_b (q_I r48 7 5 tp)
          unfold J_X9_readStep_163
          have f59 : (q_I r48 9 4 a0).toInt = (q_I δ 9 4 a0).toInt := ((show (q_I r48 9 4 a0).toInt = (q_I r4 9 4 a0).toInt from congrArg Int32.toInt (u52 9 4 a0 (by decide))).trans (show (q_I r4 9 4 a0).toInt = (q_I δ 9 4 a0).toInt from congrArg Int32.toInt (u7 9 4 a0 (by decide))))
          have f60 : (q_I r48 8 2 th).toInt = (q_I δ 8 2 th).toInt := ((show (q_I r48 8 2 th).toInt = (q_I r4 8 2 th).toInt from congrArg Int32.toInt (u52 8 2 th (by decide))).trans (show (q_I r4 8 2 th).toInt = (q_I δ 8 2 th).toInt from congrArg Int32.toInt (u7 8 2 th (by decide))))
          have f61 := cb_8_2 I kth
          exact ok_some (show CI ad h.1 δ0 r48 ∧ (kp [(7, 3), (7, 4), (7, 5), (7, 6), (8, 2), (8, 3), (9, 2), (9, 3), (9, 4)] δ r48 ∧ q_V r48 = q_V δ) ∧ LSn ad r48 th (q_I r48 9 4 a0).toInt from ⟨i50, ⟨kp_w (by decide) u55, v56⟩, (hls.t (by omega) y57).n (by omega)⟩)
        · have c62 : (q_I r4 9 2 a0).toInt < (60 : Int) := o_nle h46
          refine ok_ite (fun h63 => ?_) (fun h63 => ?_)
          · have c64 : r19.1.toInt = (0 : Int) := o_eq h63
            unfold J_X9_readStep_98
            refine ok_ite (fun h65 => ?_) (fun h65 => ?_)
            · have c66 : r19.1.toInt = (0 : Int) := o_eq h65
              first | (have q71 := te_addc (c := 1) (n := 1) rfl (q_I r4 9 2 a0) (by omega) (by omega); obtain ⟨f72, f73, f74⟩ := q71) | (obtain ⟨q71, f72, f73, f74⟩ := ti_addc (c := 1) (n := 1) rfl (q_I r4 9 2 a0))
              refine ok_bdv (fun d67 e68 => ?_)
              have i69 : CI ad h.1 δ0 d67 := by rw [e68]; exact cs_9_2 L i6
              have u75 := kp_I u10 e68
              have v76 : q_V d67 = q_V δ := ((show q_V d67 = q_V r4 by rw [e68]; rfl)).trans v11
              have y77 : q_R d67 (Ad ad 7) = q_R δ (Ad ad 7) := ((show q_R d67 (Ad ad 7) = q_R r4 (Ad ad 7) by rw [e68]; rfl)).trans y12
              have f81 : (q_I d67 9 3 a0).toInt = (q_I δ 9 3 a0).toInt := ((show (q_I d67 9 3 a0).toInt = (q_I r4 9 3 a0).toInt from congrArg Int32.toInt (by rw [e68]; exact rI_o (by decide))).trans (show (q_I r4 9 3 a0).toInt = (q_I δ 9 3 a0).toInt from congrArg Int32.toInt (u7 9 3 a0 (by decide))))
              have f82 := ti_b (q_I δ 9 3 a0)
              first | (have q84 := te_addc (c := 1) (n := 1) rfl (q_I d67 9 3 a0) (by omega) (by omega); obtain ⟨f85, f86, f87⟩ := q84) | (obtain ⟨q84, f85, f86, f87⟩ := ti_addc (c := 1) (n := 1) rfl (q_I d67 9 3 a0))
              refine ok_bdv (fun d78 e79 => ?_)
              have i80 : CI ad h.1 δ0 d78 := by rw [e79]; exact cs_9_3 L i69
              have u88 := kp_I u75 e79
              have v89 : q_V d78 = q_V δ := ((show q_V d78 = q_V d67 by rw [e79]; rfl)).trans v76
              have y90 : q_R d78 (Ad ad 7) = q_R δ (Ad ad 7) := ((show q_R d78 (Ad ad 7) = q_R d67 (Ad ad 7) by rw [e79]; rfl)).trans y77
              refine ok_bind (k_X9_readSum L hN (a0 := a0) (x1 := (0 : Int32)) k_a0 (show 0 ≤ (0 : Int) by first | with_reducible assumption | omega) (show (0 : Int) ≤ 6 by first | with_reducible assumption | omega) (show 6 - (0 : Int) < 20 by first | with_reducible assumption | omega) ((congrFun (congrFun (congrFun v89 9) 0) a0).trans hv0) ((congrFun (congrFun (congrFun v89 9) 1) a0).trans hv1) ktp kth i80) (fun r91 hr92 => ?_)
              obtain ⟨i93, ⟨u95, u96, u97⟩, p94⟩ := hr92
              have u98 := kp_t u88 u95
              have v99 : q_V r91 = q_V δ := (u96).trans v89
              have y100 : q_R r91 (Ad ad 7) = q_R δ (Ad ad 7) := (u97).trans y90
              have f101 : (q_I d78 8 2 th).toInt = (q_I δ 8 2 th).toInt := ((show (q_I d78 8 2 th).toInt = (q_I d67 8 2 th).toInt from congrArg Int32.toInt (by rw [e79]; exact rI_o (by decide))).trans ((show (q_I d67 8 2 th).toInt = (q_I r4 8 2 th).toInt from congrArg Int32.toInt (by rw [e68]; exact rI_o (by decide))).trans (show (q_I r4 8 2 th).toInt = (q_I δ 8 2 th).toInt from congrArg Int32.toInt (u7 8 2 th (by decide)))))
              have f102 := cb_8_2 I kth
              have f103 := cb_8_2 i93 kth
              refine ok_at ((congrFun (congrFun (congrFun v99 9) 0) a0).trans hv0) ?_
              refine ok_gp ktp ?_
              refine ok_bind (k_X7_needSign L hN (a0 := tp) (x1 := (59 : Int32)) ktp (show (59 : Int) ≠ -1 by first | with_reducible assumption | omega) i93) (fun r104 hr105 => ?_)
              obtain ⟨i106, ⟨u108, u109, u110⟩, p107⟩ := hr105
              have u111 := kp_t u98 u108
              have v112 : q_V r104 = q_V δ := (u109).trans v99
              have y113 : q_R r104 (Ad ad 7) = q_R δ (Ad ad 7) := (congrFun u110 (Ad ad 7)).trans y100
              have f114 := ti_b (q_I r91 7 5 tp)
              have f115 := ti_b (q_I r104 7 5 tp)
              refine ok_at ((congrFun (congrFun (congrFun v112 9) 1) a0).trans hv1) ?_
              refine ok_gp kth ?_
              have f118 : (q_I r104 8 2 th).toInt = (q_I r91 8 2 th).toInt := congrArg Int32.toInt (u108 8 2 th (by decide))
              refine ok_bind (k_X8_add L hN (a0 := th) (x1 := (9 : Int32)) (x2 := r13.1) kth (show 0 ≤ (r13.1).toInt by first | with_reducible assumption | omega) (show (9 : Int) = 1 → (r13.1).toInt < 4 by first | with_reducible assumption | omega) (show (9 : Int) = 11 → (q_I r104 8 2 th).toInt < 500 → (r13.1).toInt < 500 by first | with_reducible assumption | omega) i106) (fun r116 hr117 => ?_)
              obtain ⟨i119, ⟨u121, u122, u123⟩, p120⟩ := hr117
              have u124 := kp_t u111 u121
              have v125 : q_V r116 = q_V δ := (u122).trans v112
              have y126 : q_R r116 (Ad ad 7) = q_R δ (Ad ad 7) := (u123).trans y113
              have f127 := cb_8_2 i119 kth
              unfold J_X9_readStep_163
              have f128 : (q_I r116 9 4 a0).toInt = (q_I δ 9 4 a0).toInt := ((show (q_I r116 9 4 a0).toInt = (q_I r104 9 4 a0).toInt from congrArg Int32.toInt (u121 9 4 a0 (by decide))).trans ((show (q_I r104 9 4 a0).toInt = (q_I r91 9 4 a0).toInt from congrArg Int32.toInt (u108 9 4 a0 (by decide))).trans ((show (q_I r91 9 4 a0).toInt = (q_I d78 9 4 a0).toInt from congrArg Int32.toInt (u95 9 4 a0 (by decide))).trans ((show (q_I d78 9 4 a0).toInt = (q_I d67 9 4 a0).toInt from congrArg Int32.toInt (by rw [e79]; exact rI_o (by decide))).trans ((show (q_I d67 9 4 a0).toInt = (q_I r4 9 4 a0).toInt from congrArg Int32.toInt (by rw [e68]; exact rI_o (by decide))).trans (show (q_I r4 9 4 a0).toInt = (q_I δ 9 4 a0).toInt from congrArg Int32.toInt (u7 9 4 a0 (by decide))))))))
              exact ok_some (show CI ad h.1 δ0 r116 ∧ (kp [(7, 3), (7, 4), (7, 5), (7, 6), (8, 2), (8, 3), (9, 2), (9, 3), (9, 4)] δ r116 ∧ q_V r116 = q_V δ) ∧ LSn ad r116 th (q_I r116 9 4 a0).toInt from ⟨i119, ⟨kp_w (by decide) u124, v125⟩, (hls.t (by omega) y126).n (by omega)⟩)
            · have c129 : r19.1.toInt ≠ (0 : Int) := o_ne h65
              first | (have q134 := te_addc (c := 1) (n := 1) rfl (q_I r4 9 2 a0) (by omega) (by omega); obtain ⟨f135, f136, f137⟩ := q134) | (obtain ⟨q134, f135, f136, f137⟩ := ti_addc (c := 1) (n := 1) rfl (q_I r4 9 2 a0))
              refine ok_bdv (fun d130 e131 => ?_)
              have i132 : CI ad h.1 δ0 d130 := by rw [e131]; exact cs_9_2 L i6
              have u138 := kp_I u10 e131
              have v139 : q_V d130 = q_V δ := ((show q_V d130 = q_V r4 by rw [e131]; rfl)).trans v11
              have y140 : q_R d130 (Ad ad 7) = q_R δ (Ad ad 7) := ((show q_R d130 (Ad ad 7) = q_R r4 (Ad ad 7) by rw [e131]; rfl)).trans y12
              have f143 : (q_I d130 9 4 a0).toInt = (q_I δ 9 4 a0).toInt := ((show (q_I d130 9 4 a0).toInt = (q_I r4 9 4 a0).toInt from congrArg Int32.toInt (by rw [e131]; exact rI_o (by decide))).trans (show (q_I r4 9 4 a0).toInt = (q_I δ 9 4 a0).toInt from congrArg Int32.toInt (u7 9 4 a0 (by decide))))
              have f144 : (q_I d130 8 2 th).toInt = (q_I δ 8 2 th).toInt := ((show (q_I d130 8 2 th).toInt = (q_I r4 8 2 th).toInt from congrArg Int32.toInt (by rw [e131]; exact rI_o (by decide))).trans (show (q_I r4 8 2 th).toInt = (q_I δ 8 2 th).toInt from congrArg Int32.toInt (u7 8 2 th (by decide))))
              have f145 := cb_8_2 I kth
              refine ok_bind (k_X9_openLoop L hN (a0 := a0) k_a0 (show (q_I d130 9 4 a0).toInt < 3 by first | with_reducible assumption | omega) ((congrFun (congrFun (congrFun v139 9) 0) a0).trans hv0) ((congrFun (congrFun (congrFun v139 9) 1) a0).trans hv1) ktp kth (show LSn ad d130 th (q_I d130 9 4 a0).toInt from (hls.t (by omega) y140).n (by omega)) i132) (fun r141 hr142 => ?_)
              obtain ⟨i146, ⟨u148, u149⟩, p147⟩ := hr142
              have u150 := kp_t u138 u148
              have v151 : q_V r141 = q_V δ := (u149).trans v139
              have f152 := cb_9_4 i146 k_a0
              unfold J_X9_readStep_163
              have f153 := cb_8_2 i146 kth
              exact ok_some (show CI ad h.1 δ0 r141 ∧ (kp [(7, 3), (7, 4), (7, 5), (7, 6), (8, 2), (8, 3), (9, 2), (9, 3), (9, 4)] δ r141 ∧ q_V r141 = q_V δ) ∧ LSn ad r141 th (q_I r141 9 4 a0).toInt from ⟨i146, ⟨kp_w (by decide) u150, v151⟩, p147.n (by omega)⟩)
          · have c154 : r19.1.toInt ≠ (0 : Int) := o_ne h63
            have f155 : (q_I r4 9 4 a0).toInt = (q_I δ 9 4 a0).toInt := congrArg Int32.toInt (u7 9 4 a0 (by decide))
            refine ok_ite (fun h156 => ?_) (fun h156 => ?_)
            · have c157 : (q_I r4 9 4 a0).toInt < (3 : Int) := o_lt h156
              unfold J_X9_readStep_98
              refine ok_ite (fun h158 => ?_) (fun h158 => ?_)
              · have c159 : r19.1.toInt = (0 : Int) := o_eq h158
                first | (have q164 := te_addc (c := 1) (n := 1) rfl (q_I r4 9 2 a0) (by omega) (by omega); obtain ⟨f165, f166, f167⟩ := q164) | (obtain ⟨q164, f165, f166, f167⟩ := ti_addc (c := 1) (n := 1) rfl (q_I r4 9 2 a0))
                refine ok_bdv (fun d160 e161 => ?_)
                have i162 : CI ad h.1 δ0 d160 := by rw [e161]; exact cs_9_2 L i6
                have u168 := kp_I u10 e161
                have v169 : q_V d160 = q_V δ := ((show q_V d160 = q_V r4 by rw [e161]; rfl)).trans v11
                have y170 : q_R d160 (Ad ad 7) = q_R δ (Ad ad 7) := ((show q_R d160 (Ad ad 7) = q_R r4 (Ad ad 7) by rw [e161]; rfl)).trans y12
                have f174 : (q_I d160 9 3 a0).toInt = (q_I δ 9 3 a0).toInt := ((show (q_I d160 9 3 a0).toInt = (q_I r4 9 3 a0).toInt from congrArg Int32.toInt (by rw [e161]; exact rI_o (by decide))).trans (show (q_I r4 9 3 a0).toInt = (q_I δ 9 3 a0).toInt from congrArg Int32.toInt (u7 9 3 a0 (by decide))))
                have f175 := ti_b (q_I δ 9 3 a0)
                first | (have q177 := te_addc (c := 1) (n := 1) rfl (q_I d160 9 3 a0) (by omega) (by omega); obtain ⟨f178, f179, f180⟩ := q177) | (obtain ⟨q177, f178, f179, f180⟩ := ti_addc (c := 1) (n := 1) rfl (q_I d160 9 3 a0))
                refine ok_bdv (fun d171 e172 => ?_)
                have i173 : CI ad h.1 δ0 d171 := by rw [e172]; exact cs_9_3 L i162
                have u181 := kp_I u168 e172
                have v182 : q_V d171 = q_V δ := ((show q_V d171 = q_V d160 by rw [e172]; rfl)).trans v169
                have y183 : q_R d171 (Ad ad 7) = q_R δ (Ad ad 7) := ((show q_R d171 (Ad ad 7) = q_R d160 (Ad ad 7) by rw [e172]; rfl)).trans y170
                refine ok_bind (k_X9_readSum L hN (a0 := a0) (x1 := (0 : Int32)) k_a0 (show 0 ≤ (0 : Int) by first | with_reducible assumption | omega) (show (0 : Int) ≤ 6 by first | with_reducible assumption | omega) (show 6 - (0 : Int) < 20 by first | with_reducible assumption | omega) ((congrFun (congrFun (congrFun v182 9) 0) a0).trans hv0) ((congrFun (congrFun (congrFun v182 9) 1) a0).trans hv1) ktp kth i173) (fun r184 hr185 => ?_)
                obtain ⟨i186, ⟨u188, u189, u190⟩, p187⟩ := hr185
                have u191 := kp_t u181 u188
                have v192 : q_V r184 = q_V δ := (u189).trans v182
                have y193 : q_R r184 (Ad ad 7) = q_R δ (Ad ad 7) := (u190).trans y183
                have f194 : (q_I d171 8 2 th).toInt = (q_I δ 8 2 th).toInt := ((show (q_I d171 8 2 th).toInt = (q_I d160 8 2 th).toInt from congrArg Int32.toInt (by rw [e172]; exact rI_o (by decide))).trans ((show (q_I d160 8 2 th).toInt = (q_I r4 8 2 th).toInt from congrArg Int32.toInt (by rw [e161]; exact rI_o (by decide))).trans (show (q_I r4 8 2 th).toInt = (q_I δ 8 2 th).toInt from congrArg Int32.toInt (u7 8 2 th (by decide)))))
                have f195 := cb_8_2 I kth
                have f196 := cb_8_2 i186 kth
                refine ok_at ((congrFun (congrFun (congrFun v192 9) 0) a0).trans hv0) ?_
                refine ok_gp ktp ?_
                refine ok_bind (k_X7_needSign L hN (a0 := tp) (x1 := (59 : Int32)) ktp (show (59 : Int) ≠ -1 by first | with_reducible assumption | omega) i186) (fun r197 hr198 => ?_)
                obtain ⟨i199, ⟨u201, u202, u203⟩, p200⟩ := hr198
                have u204 := kp_t u191 u201
                have v205 : q_V r197 = q_V δ := (u202).trans v192
                have y206 : q_R r197 (Ad ad 7) = q_R δ (Ad ad 7) := (congrFun u203 (Ad ad 7)).trans y193
                have f207 := ti_b (q_I r184 7 5 tp)
                have f208 := ti_b (q_I r197 7 5 tp)
                refine ok_at ((congrFun (congrFun (congrFun v205 9) 1) a0).trans hv1) ?_
                refine ok_gp kth ?_
                have f211 : (q_I r197 8 2 th).toInt = (q_I r184 8 2 th).toInt := congrArg Int32.toInt (u201 8 2 th (by decide))
                refine ok_bind (k_X8_add L hN (a0 := th) (x1 := (9 : Int32)) (x2 := r13.1) kth (show 0 ≤ (r13.1).toInt by first | with_reducible assumption | omega) (show (9 : Int) = 1 → (r13.1).toInt < 4 by first | with_reducible assumption | omega) (show (9 : Int) = 11 → (q_I r197 8 2 th).toInt < 500 → (r13.1).toInt < 500 by first | with_reducible assumption | omega) i199) (fun r209 hr210 => ?_)
                obtain ⟨i212, ⟨u214, u215, u216⟩, p213⟩ := hr210
                have u217 := kp_t u204 u214
                have v218 : q_V r209 = q_V δ := (u215).trans v205
                have y219 : q_R r209 (Ad ad 7) = q_R δ (Ad ad 7) := (u216).trans y206
                have f220 := cb_8_2 i212 kth
                unfold J_X9_readStep_163
                have f221 : (q_I r209 9 4 a0).toInt = (q_I r4 9 4 a0).toInt := ((show (q_I r209 9 4 a0).toInt = (q_I r197 9 4 a0).toInt from congrArg Int32.toInt (u214 9 4 a0 (by decide))).trans ((show (q_I r197 9 4 a0).toInt = (q_I r184 9 4 a0).toInt from congrArg Int32.toInt (u201 9 4 a0 (by decide))).trans ((show (q_I r184 9 4 a0).toInt = (q_I d171 9 4 a0).toInt from congrArg Int32.toInt (u188 9 4 a0 (by decide))).trans ((show (q_I d171 9 4 a0).toInt = (q_I d160 9 4 a0).toInt from congrArg Int32.toInt (by rw [e172]; exact rI_o (by decide))).trans (show (q_I d160 9 4 a0).toInt = (q_I r4 9 4 a0).toInt from congrArg Int32.toInt (by rw [e161]; exact rI_o (by decide)))))))
                exact ok_some (show CI ad h.1 δ0 r209 ∧ (kp [(7, 3), (7, 4), (7, 5), (7, 6), (8, 2), (8, 3), (9, 2), (9, 3), (9, 4)] δ r209 ∧ q_V r209 = q_V δ) ∧ LSn ad r209 th (q_I r209 9 4 a0).toInt from ⟨i212, ⟨kp_w (by decide) u217, v218⟩, (hls.t (by omega) y219).n (by omega)⟩)
              · have c222 : r19.1.toInt ≠ (0 : Int) := o_ne h158
                first | (have q227 := te_addc (c := 1) (n := 1) rfl (q_I r4 9 2 a0) (by omega) (by omega); obtain ⟨f228, f229, f230⟩ := q227) | (obtain ⟨q227, f228, f229, f230⟩ := ti_addc (c := 1) (n := 1) rfl (q_I r4 9 2 a0))
                refine ok_bdv (fun d223 e224 => ?_)
                have i225 : CI ad h.1 δ0 d223 := by rw [e224]; exact cs_9_2 L i6
                have u231 := kp_I u10 e224
                have v232 : q_V d223 = q_V δ := ((show q_V d223 = q_V r4 by rw [e224]; rfl)).trans v11
                have y233 : q_R d223 (Ad ad 7) = q_R δ (Ad ad 7) := ((show q_R d223 (Ad ad 7) = q_R r4 (Ad ad 7) by rw [e224]; rfl)).trans y12
                have f236 : (q_I d223 9 4 a0).toInt = (q_I r4 9 4 a0).toInt := congrArg Int32.toInt (by rw [e224]; exact rI_o (by decide))
                have f237 : (q_I d223 8 2 th).toInt = (q_I δ 8 2 th).toInt := ((show (q_I d223 8 2 th).toInt = (q_I r4 8 2 th).toInt from congrArg Int32.toInt (by rw [e224]; exact rI_o (by decide))).trans (show (q_I r4 8 2 th).toInt = (q_I δ 8 2 th).toInt from congrArg Int32.toInt (u7 8 2 th (by decide))))
                have f238 := cb_8_2 I kth
                refine ok_bind (k_X9_openLoop L hN (a0 := a0) k_a0 (show (q_I d223 9 4 a0).toInt < 3 by first | with_reducible assumption | omega) ((congrFun (congrFun (congrFun v232 9) 0) a0).trans hv0) ((congrFun (congrFun (congrFun v232 9) 1) a0).trans hv1) ktp kth (show LSn ad d223 th (q_I d223 9 4 a0).toInt from (hls.t (by omega) y233).n (by omega)) i225) (fun r234 hr235 => ?_)
                obtain ⟨i239, ⟨u241, u242⟩, p240⟩ := hr235
                have u243 := kp_t u231 u241
                have v244 : q_V r234 = q_V δ := (u242).trans v232
                have f245 := cb_9_4 i239 k_a0
                unfold J_X9_readStep_163
                have f246 := cb_8_2 i239 kth
                exact ok_some (show CI ad h.1 δ0 r234 ∧ (kp [(7, 3), (7, 4), (7, 5), (7, 6), (8, 2), (8, 3), (9, 2), (9, 3), (9, 4)] δ r234 ∧ q_V r234 = q_V δ) ∧ LSn ad r234 th (q_I r234 9 4 a0).toInt from ⟨i239, ⟨kp_w (by decide) u243, v244⟩, p240.n (by omega)⟩)
            · have c247 : (3 : Int) ≤ (q_I r4 9 4 a0).toInt := o_nlt h156
              unfold J_X9_readStep_87
              refine ok_at ((congrFun (congrFun (congrFun v11 9) 0) a0).trans hv0) ?_
              refine ok_gp ktp ?_
              refine ok_bind (k_X7_refuse L hN (a0 := tp) (x1 := (3 : Int32)) ktp (show (3 : Int) ≠ 0 by first | with_reducible assumption | omega) i6) (fun r248 hr249 => ?_)
              obtain ⟨i250, ⟨u252, u253, u254⟩, p251⟩ := hr249
              have u255 := kp_t u10 u252
              have v256 : q_V r248 = q_V δ := (u253).trans v11
              have y257 : q_R r248 (Ad ad 7) = q_R δ (Ad ad 7) := (congrFun u254 (Ad ad 7)).trans y12
              have f258 := ti_b (q_I r248 7 5 tp)
              unfold J_X9_readStep_163
              have f259 : (q_I r248 9 4 a0).toInt = (q_I r4 9 4 a0).toInt := congrArg Int32.toInt (u252 9 4 a0 (by decide))
              have f260 : (q_I r248 8 2 th).toInt = (q_I δ 8 2 th).toInt := ((show (q_I r248 8 2 th).toInt = (q_I r4 8 2 th).toInt from congrArg Int32.toInt (u252 8 2 th (by decide))).trans (show (q_I r4 8 2 th).toInt = (q_I δ 8 2 th).toInt from congrArg Int32.toInt (u7 8 2 th (by decide))))
              have f261 := cb_8_2 I kth
              exact ok_some (show CI ad h.1 δ0 r248 ∧ (kp [(7, 3), (7, 4), (7, 5), (7, 6), (8, 2), (8, 3), (9, 2), (9, 3), (9, 4)] δ r248 ∧ q_V r248 = q_V δ) ∧ LSn ad r248 th (q_I r248 9 4 a0).toInt from ⟨i250, ⟨kp_w (by decide) u255, v256⟩, (hls.t (by omega) y257).n (by omega)⟩)
    · have c262 : r13.1.toInt ≠ (-1 : Int) := o_ne h25
      unfold J_X9_readStep_66
      have f263 : (q_I r4 9 2 a0).toInt = (q_I δ 9 2 a0).toInt := congrArg Int32.toInt (u7 9 2 a0 (by decide))
      have f264 := ti_b (q_I δ 9 2 a0)
      refine ok_ite (fun h265 => ?_) (fun h265 => ?_)
      · have c266 : (60 : Int) ≤ (q_I r4 9 2 a0).toInt := o_le h265
        unfold J_X9_readStep_87
        refine ok_at ((congrFun (congrFun (congrFun v11 9) 0) a0).trans hv0) ?_
        refine ok_gp ktp ?_
        refine ok_bind (k_X7_refuse L hN (a0 := tp) (x1 := (3 : Int32)) ktp (show (3 : Int) ≠ 0 by first | with_reducible assumption | omega) i6) (fun r267 hr268 => ?_)
        obtain ⟨i269, ⟨u271, u272, u273⟩, p270⟩ := hr268
        have u274 := kp_t u10 u271
        have v275 : q_V r267 = q_V δ := (u272).trans v11
        have y276 : q_R r267 (Ad ad 7) = q_R δ (Ad ad 7) := (congrFun u273 (Ad ad 7)).trans y12
        have f277 := ti_b (q_I r267 7 5 tp)
        unfold J_X9_readStep_163
        have f278 : (q_I r267 9 4 a0).toInt = (q_I δ 9 4 a0).toInt := ((show (q_I r267 9 4 a0).toInt = (q_I r4 9 4 a0).toInt from congrArg Int32.toInt (u271 9 4 a0 (by decide))).trans (show (q_I r4 9 4 a0).toInt = (q_I δ 9 4 a0).toInt from congrArg Int32.toInt (u7 9 4 a0 (by decide))))
        have f279 : (q_I r267 8 2 th).toInt = (q_I δ 8 2 th).toInt := ((show (q_I r267 8 2 th).toInt = (q_I r4 8 2 th).toInt from congrArg Int32.toInt (u271 8 2 th (by decide))).trans (show (q_I r4 8 2 th).toInt = (q_I δ 8 2 th).toInt from congrArg Int32.toInt (u7 8 2 th (by decide))))
        have f280 := cb_8_2 I kth
        exact ok_some (show CI ad h.1 δ0 r267 ∧ (kp [(7, 3), (7, 4), (7, 5), (7, 6), (8, 2), (8, 3), (9, 2), (9, 3), (9, 4)] δ r267 ∧ q_V r267 = q_V δ) ∧ LSn ad r267 th (q_I r267 9 4 a0).toInt from ⟨i269, ⟨kp_w (by decide) u274, v275⟩, (hls.t (by omega) y276).n (by omega)⟩)
      · have c281 : (q_I r4 9 2 a0).toInt < (60 : Int) := o_nle h265
        refine ok_ite (fun h282 => ?_) (fun h282 => ?_)
        · have c283 : r19.1.toInt = (0 : Int) := o_eq h282
          unfold J_X9_readStep_98
          refine ok_ite (fun h284 => ?_) (fun h284 => ?_)
          · have c285 : r19.1.toInt = (0 : Int) := o_eq h284
            first | (have q290 := te_addc (c := 1) (n := 1) rfl (q_I r4 9 2 a0) (by omega) (by omega); obtain ⟨f291, f292, f293⟩ := q290) | (obtain ⟨q290, f291, f292, f293⟩ := ti_addc (c := 1) (n := 1) rfl (q_I r4 9 2 a0))
            refine ok_bdv (fun d286 e287 => ?_)
            have i288 : CI ad h.1 δ0 d286 := by rw [e287]; exact cs_9_2 L i6
            have u294 := kp_I u10 e287
            have v295 : q_V d286 = q_V δ := ((show q_V d286 = q_V r4 by rw [e287]; rfl)).trans v11
            have y296 : q_R d286 (Ad ad 7) = q_R δ (Ad ad 7) := ((show q_R d286 (Ad ad 7) = q_R r4 (Ad ad 7) by rw [e287]; rfl)).trans y12
            have f300 : (q_I d286 9 3 a0).toInt = (q_I δ 9 3 a0).toInt := ((show (q_I d286 9 3 a0).toInt = (q_I r4 9 3 a0).toInt from congrArg Int32.toInt (by rw [e287]; exact rI_o (by decide))).trans (show (q_I r4 9 3 a0).toInt = (q_I δ 9 3 a0).toInt from congrArg Int32.toInt (u7 9 3 a0 (by decide))))
            have f301 := ti_b (q_I δ 9 3 a0)
            first | (have q303 := te_addc (c := 1) (n := 1) rfl (q_I d286 9 3 a0) (by omega) (by omega); obtain ⟨f304, f305, f306⟩ := q303) | (obtain ⟨q303, f304, f305, f306⟩ := ti_addc (c := 1) (n := 1) rfl (q_I d286 9 3 a0))
            refine ok_bdv (fun d297 e298 => ?_)
            have i299 : CI ad h.1 δ0 d297 := by rw [e298]; exact cs_9_3 L i288
            have u307 := kp_I u294 e298
            have v308 : q_V d297 = q_V δ := ((show q_V d297 = q_V d286 by rw [e298]; rfl)).trans v295
            have y309 : q_R d297 (Ad ad 7) = q_R δ (Ad ad 7) := ((show q_R d297 (Ad ad 7) = q_R d286 (Ad ad 7) by rw [e298]; rfl)).trans y296
            refine ok_bind (k_X9_readSum L hN (a0 := a0) (x1 := (0 : Int32)) k_a0 (show 0 ≤ (0 : Int) by first | with_reducible assumption | omega) (show (0 : Int) ≤ 6 by first | with_reducible assumption | omega) (show 6 - (0 : Int) < 20 by first | with_reducible assumption | omega) ((congrFun (congrFun (congrFun v308 9) 0) a0).trans hv0) ((congrFun (congrFun (congrFun v308 9) 1) a0).trans hv1) ktp kth i299) (fun r310 hr311 => ?_)
            obtain ⟨i312, ⟨u314, u315, u316⟩, p313⟩ := hr311
            have u317 := kp_t u307 u314
            have v318 : q_V r310 = q_V δ := (u315).trans v308
            have y319 : q_R r310 (Ad ad 7) = q_R δ (Ad ad 7) := (u316).trans y309
            have f320 : (q_I d297 8 2 th).toInt = (q_I δ 8 2 th).toInt := ((show (q_I d297 8 2 th).toInt = (q_I d286 8 2 th).toInt from congrArg Int32.toInt (by rw [e298]; exact rI_o (by decide))).trans ((show (q_I d286 8 2 th).toInt = (q_I r4 8 2 th).toInt from congrArg Int32.toInt (by rw [e287]; exact rI_o (by decide))).trans (show (q_I r4 8 2 th).toInt = (q_I δ 8 2 th).toInt from congrArg Int32.toInt (u7 8 2 th (by decide)))))
            have f321 := cb_8_2 I kth
            have f322 := cb_8_2 i312 kth
            refine ok_at ((congrFun (congrFun (congrFun v318 9) 0) a0).trans hv0) ?_
            refine ok_gp ktp ?_
            refine ok_bind (k_X7_needSign L hN (a0 := tp) (x1 := (59 : Int32)) ktp (show (59 : Int) ≠ -1 by first | with_reducible assumption | omega) i312) (fun r323 hr324 => ?_)
            obtain ⟨i325, ⟨u327, u328, u329⟩, p326⟩ := hr324
            have u330 := kp_t u317 u327
            have v331 : q_V r323 = q_V δ := (u328).trans v318
            have y332 : q_R r323 (Ad ad 7) = q_R δ (Ad ad 7) := (congrFun u329 (Ad ad 7)).trans y319
            have f333 := ti_b (q_I r310 7 5 tp)
            have f334 := ti_b (q_I r323 7 5 tp)
            refine ok_at ((congrFun (congrFun (congrFun v331 9) 1) a0).trans hv1) ?_
            refine ok_gp kth ?_
            have f337 : (q_I r323 8 2 th).toInt = (q_I r310 8 2 th).toInt := congrArg Int32.toInt (u327 8 2 th (by decide))
            refine ok_bind (k_X8_add L hN (a0 := th) (x1 := (9 : Int32)) (x2 := r13.1) kth (show 0 ≤ (r13.1).toInt by first | with_reducible assumption | omega) (show (9 : Int) = 1 → (r13.1).toInt < 4 by first | with_reducible assumption | omega) (show (9 : Int) = 11 → (q_I r323 8 2 th).toInt < 500 → (r13.1).toInt < 500 by first | with_reducible assumption | omega) i325) (fun r335 hr336 => ?_)
            obtain ⟨i338, ⟨u340, u341, u342⟩, p339⟩ := hr336
            have u343 := kp_t u330 u340
            have v344 : q_V r335 = q_V δ := (u341).trans v331
            have y345 : q_R r335 (Ad ad 7) = q_R δ (Ad ad 7) := (u342).trans y332
            have f346 := cb_8_2 i338 kth
            unfold J_X9_readStep_163
            have f347 : (q_I r335 9 4 a0).toInt = (q_I δ 9 4 a0).toInt := ((show (q_I r335 9 4 a0).toInt = (q_I r323 9 4 a0).toInt from congrArg Int32.toInt (u340 9 4 a0 (by decide))).trans ((show (q_I r323 9 4 a0).toInt = (q_I r310 9 4 a0).toInt from congrArg Int32.toInt (u327 9 4 a0 (by decide))).trans ((show (q_I r310 9 4 a0).toInt = (q_I d297 9 4 a0).toInt from congrArg Int32.toInt (u314 9 4 a0 (by decide))).trans ((show (q_I d297 9 4 a0).toInt = (q_I d286 9 4 a0).toInt from congrArg Int32.toInt (by rw [e298]; exact rI_o (by decide))).trans ((show (q_I d286 9 4 a0).toInt = (q_I r4 9 4 a0).toInt from congrArg Int32.toInt (by rw [e287]; exact rI_o (by decide))).trans (show (q_I r4 9 4 a0).toInt = (q_I δ 9 4 a0).toInt from congrArg Int32.toInt (u7 9 4 a0 (by decide))))))))
            exact ok_some (show CI ad h.1 δ0 r335 ∧ (kp [(7, 3), (7, 4), (7, 5), (7, 6), (8, 2), (8, 3), (9, 2), (9, 3), (9, 4)] δ r335 ∧ q_V r335 = q_V δ) ∧ LSn ad r335 th (q_I r335 9 4 a0).toInt from ⟨i338, ⟨kp_w (by decide) u343, v344⟩, (hls.t (by omega) y345).n (by omega)⟩)
          · have c348 : r19.1.toInt ≠ (0 : Int) := o_ne h284
            first | (have q353 := te_addc (c := 1) (n := 1) rfl (q_I r4 9 2 a0) (by omega) (by omega); obtain ⟨f354, f355, f356⟩ := q353) | (obtain ⟨q353, f354, f355, f356⟩ := ti_addc (c := 1) (n := 1) rfl (q_I r4 9 2 a0))
            refine ok_bdv (fun d349 e350 => ?_)
            have i351 : CI ad h.1 δ0 d349 := by rw [e350]; exact cs_9_2 L i6
            have u357 := kp_I u10 e350
            have v358 : q_V d349 = q_V δ := ((show q_V d349 = q_V r4 by rw [e350]; rfl)).trans v11
            have y359 : q_R d349 (Ad ad 7) = q_R δ (Ad ad 7) := ((show q_R d349 (Ad ad 7) = q_R r4 (Ad ad 7) by rw [e350]; rfl)).trans y12
            have f362 : (q_I d349 9 4 a0).toInt = (q_I δ 9 4 a0).toInt := ((show (q_I d349 9 4 a0).toInt = (q_I r4 9 4 a0).toInt from congrArg Int32.toInt (by rw [e350]; exact rI_o (by decide))).trans (show (q_I r4 9 4 a0).toInt = (q_I δ 9 4 a0).toInt from congrArg Int32.toInt (u7 9 4 a0 (by decide))))
            have f363 : (q_I d349 8 2 th).toInt = (q_I δ 8 2 th).toInt := ((show (q_I d349 8 2 th).toInt = (q_I r4 8 2 th).toInt from congrArg Int32.toInt (by rw [e350]; exact rI_o (by decide))).trans (show (q_I r4 8 2 th).toInt = (q_I δ 8 2 th).toInt from congrArg Int32.toInt (u7 8 2 th (by decide))))
            have f364 := cb_8_2 I kth
            refine ok_bind (k_X9_openLoop L hN (a0 := a0) k_a0 (show (q_I d349 9 4 a0).toInt < 3 by first | with_reducible assumption | omega) ((congrFun (congrFun (congrFun v358 9) 0) a0).trans hv0) ((congrFun (congrFun (congrFun v358 9) 1) a0).trans hv1) ktp kth (show LSn ad d349 th (q_I d349 9 4 a0).toInt from (hls.t (by omega) y359).n (by omega)) i351) (fun r360 hr361 => ?_)
            obtain ⟨i365, ⟨u367, u368⟩, p366⟩ := hr361
            have u369 := kp_t u357 u367
            have v370 : q_V r360 = q_V δ := (u368).trans v358
            have f371 := cb_9_4 i365 k_a0
            unfold J_X9_readStep_163
            have f372 := cb_8_2 i365 kth
            exact ok_some (show CI ad h.1 δ0 r360 ∧ (kp [(7, 3), (7, 4), (7, 5), (7, 6), (8, 2), (8, 3), (9, 2), (9, 3), (9, 4)] δ r360 ∧ q_V r360 = q_V δ) ∧ LSn ad r360 th (q_I r360 9 4 a0).toInt from ⟨i365, ⟨kp_w (by decide) u369, v370⟩, p366.n (by omega)⟩)
        · have c373 : r19.1.toInt ≠ (0 : Int) := o_ne h282
          have f374 : (q_I r4 9 4 a0).toInt = (q_I δ 9 4 a0).toInt := congrArg Int32.toInt (u7 9 4 a0 (by decide))
          refine ok_ite (fun h375 => ?_) (fun h375 => ?_)
          · have c376 : (q_I r4 9 4 a0).toInt < (3 : Int) := o_lt h375
            unfold J_X9_readStep_98
            refine ok_ite (fun h377 => ?_) (fun h377 => ?_)
            · have c378 : r19.1.toInt = (0 : Int) := o_eq h377
              first | (have q383 := te_addc (c := 1) (n := 1) rfl (q_I r4 9 2 a0) (by omega) (by omega); obtain ⟨f384, f385, f386⟩ := q383) | (obtain ⟨q383, f384, f385, f386⟩ := ti_addc (c := 1) (n := 1) rfl (q_I r4 9 2 a0))
              refine ok_bdv (fun d379 e380 => ?_)
              have i381 : CI ad h.1 δ0 d379 := by rw [e380]; exact cs_9_2 L i6
              have u387 := kp_I u10 e380
              have v388 : q_V d379 = q_V δ := ((show q_V d379 = q_V r4 by rw [e380]; rfl)).trans v11
              have y389 : q_R d379 (Ad ad 7) = q_R δ (Ad ad 7) := ((show q_R d379 (Ad ad 7) = q_R r4 (Ad ad 7) by rw [e380]; rfl)).trans y12
              have f393 : (q_I d379 9 3 a0).toInt = (q_I δ 9 3 a0).toInt := ((show (q_I d379 9 3 a0).toInt = (q_I r4 9 3 a0).toInt from congrArg Int32.toInt (by rw [e380]; exact rI_o (by decide))).trans (show (q_I r4 9 3 a0).toInt = (q_I δ 9 3 a0).toInt from congrArg Int32.toInt (u7 9 3 a0 (by decide))))
              have f394 := ti_b (q_I δ 9 3 a0)
              first | (have q396 := te_addc (c := 1) (n := 1) rfl (q_I d379 9 3 a0) (by omega) (by omega); obtain ⟨f397, f398, f399⟩ := q396) | (obtain ⟨q396, f397, f398, f399⟩ := ti_addc (c := 1) (n := 1) rfl (q_I d379 9 3 a0))
              refine ok_bdv (fun d390 e391 => ?_)
              have i392 : CI ad h.1 δ0 d390 := by rw [e391]; exact cs_9_3 L i381
              have u400 := kp_I u387 e391
              have v401 : q_V d390 = q_V δ := ((show q_V d390 = q_V d379 by rw [e391]; rfl)).trans v388
              have y402 : q_R d390 (Ad ad 7) = q_R δ (Ad ad 7) := ((show q_R d390 (Ad ad 7) = q_R d379 (Ad ad 7) by rw [e391]; rfl)).trans y389
              refine ok_bind (k_X9_readSum L hN (a0 := a0) (x1 := (0 : Int32)) k_a0 (show 0 ≤ (0 : Int) by first | with_reducible assumption | omega) (show (0 : Int) ≤ 6 by first | with_reducible assumption | omega) (show 6 - (0 : Int) < 20 by first | with_reducible assumption | omega) ((congrFun (congrFun (congrFun v401 9) 0) a0).trans hv0) ((congrFun (congrFun (congrFun v401 9) 1) a0).trans hv1) ktp kth i392) (fun r403 hr404 => ?_)
              obtain ⟨i405, ⟨u407, u408, u409⟩, p406⟩ := hr404
              have u410 := kp_t u400 u407
              have v411 : q_V r403 = q_V δ := (u408).trans v401
              have y412 : q_R r403 (Ad ad 7) = q_R δ (Ad ad 7) := (u409).trans y402
              have f413 : (q_I d390 8 2 th).toInt = (q_I δ 8 2 th).toInt := ((show (q_I d390 8 2 th).toInt = (q_I d379 8 2 th).toInt from congrArg Int32.toInt (by rw [e391]; exact rI_o (by decide))).trans ((show (q_I d379 8 2 th).toInt = (q_I r4 8 2 th).toInt from congrArg Int32.toInt (by rw [e380]; exact rI_o (by decide))).trans (show (q_I r4 8 2 th).toInt = (q_I δ 8 2 th).toInt from congrArg Int32.toInt (u7 8 2 th (by decide)))))
              have f414 := cb_8_2 I kth
              have f415 := cb_8_2 i405 kth
              refine ok_at ((congrFun (congrFun (congrFun v411 9) 0) a0).trans hv0) ?_
              refine ok_gp ktp ?_
              refine ok_bind (k_X7_needSign L hN (a0 := tp) (x1 := (59 : Int32)) ktp (show (59 : Int) ≠ -1 by first | with_reducible assumption | omega) i405) (fun r416 hr417 => ?_)
              obtain ⟨i418, ⟨u420, u421, u422⟩, p419⟩ := hr417
              have u423 := kp_t u410 u420
              have v424 : q_V r416 = q_V δ := (u421).trans v411
              have y425 : q_R r416 (Ad ad 7) = q_R δ (Ad ad 7) := (congrFun u422 (Ad ad 7)).trans y412
              have f426 := ti_b (q_I r403 7 5 tp)
              have f427 := ti_b (q_I r416 7 5 tp)
              refine ok_at ((congrFun (congrFun (congrFun v424 9) 1) a0).trans hv1) ?_
              refine ok_gp kth ?_
              have f430 : (q_I r416 8 2 th).toInt = (q_I r403 8 2 th).toInt := congrArg Int32.toInt (u420 8 2 th (by decide))
              refine ok_bind (k_X8_add L hN (a0 := th) (x1 := (9 : Int32)) (x2 := r13.1) kth (show 0 ≤ (r13.1).toInt by first | with_reducible assumption | omega) (show (9 : Int) = 1 → (r13.1).toInt < 4 by first | with_reducible assumption | omega) (show (9 : Int) = 11 → (q_I r416 8 2 th).toInt < 500 → (r13.1).toInt < 500 by first | with_reducible assumption | omega) i418) (fun r428 hr429 => ?_)
              obtain ⟨i431, ⟨u433, u434, u435⟩, p432⟩ := hr429
              have u436 := kp_t u423 u433
              have v437 : q_V r428 = q_V δ := (u434).trans v424
              have y438 : q_R r428 (Ad ad 7) = q_R δ (Ad ad 7) := (u435).trans y425
              have f439 := cb_8_2 i431 kth
              unfold J_X9_readStep_163
              have f440 : (q_I r428 9 4 a0).toInt = (q_I r4 9 4 a0).toInt := ((show (q_I r428 9 4 a0).toInt = (q_I r416 9 4 a0).toInt from congrArg Int32.toInt (u433 9 4 a0 (by decide))).trans ((show (q_I r416 9 4 a0).toInt = (q_I r403 9 4 a0).toInt from congrArg Int32.toInt (u420 9 4 a0 (by decide))).trans ((show (q_I r403 9 4 a0).toInt = (q_I d390 9 4 a0).toInt from congrArg Int32.toInt (u407 9 4 a0 (by decide))).trans ((show (q_I d390 9 4 a0).toInt = (q_I d379 9 4 a0).toInt from congrArg Int32.toInt (by rw [e391]; exact rI_o (by decide))).trans (show (q_I d379 9 4 a0).toInt = (q_I r4 9 4 a0).toInt from congrArg Int32.toInt (by rw [e380]; exact rI_o (by decide)))))))
              exact ok_some (show CI ad h.1 δ0 r428 ∧ (kp [(7, 3), (7, 4), (7, 5), (7, 6), (8, 2), (8, 3), (9, 2), (9, 3), (9, 4)] δ r428 ∧ q_V r428 = q_V δ) ∧ LSn ad r428 th (q_I r428 9 4 a0).toInt from ⟨i431, ⟨kp_w (by decide) u436, v437⟩, (hls.t (by omega) y438).n (by omega)⟩)
            · have c441 : r19.1.toInt ≠ (0 : Int) := o_ne h377
              first | (have q446 := te_addc (c := 1) (n := 1) rfl (q_I r4 9 2 a0) (by omega) (by omega); obtain ⟨f447, f448, f449⟩ := q446) | (obtain ⟨q446, f447, f448, f449⟩ := ti_addc (c := 1) (n := 1) rfl (q_I r4 9 2 a0))
              refine ok_bdv (fun d442 e443 => ?_)
              have i444 : CI ad h.1 δ0 d442 := by rw [e443]; exact cs_9_2 L i6
              have u450 := kp_I u10 e443
              have v451 : q_V d442 = q_V δ := ((show q_V d442 = q_V r4 by rw [e443]; rfl)).trans v11
              have y452 : q_R d442 (Ad ad 7) = q_R δ (Ad ad 7) := ((show q_R d442 (Ad ad 7) = q_R r4 (Ad ad 7) by rw [e443]; rfl)).trans y12
              have f455 : (q_I d442 9 4 a0).toInt = (q_I r4 9 4 a0).toInt := congrArg Int32.toInt (by rw [e443]; exact rI_o (by decide))
              have f456 : (q_I d442 8 2 th).toInt = (q_I δ 8 2 th).toInt := ((show (q_I d442 8 2 th).toInt = (q_I r4 8 2 th).toInt from congrArg Int32.toInt (by rw [e443]; exact rI_o (by decide))).trans (show (q_I r4 8 2 th).toInt = (q_I δ 8 2 th).toInt from congrArg Int32.toInt (u7 8 2 th (by decide))))
              have f457 := cb_8_2 I kth
              refine ok_bind (k_X9_openLoop L hN (a0 := a0) k_a0 (show (q_I d442 9 4 a0).toInt < 3 by first | with_reducible assumption | omega) ((congrFun (congrFun (congrFun v451 9) 0) a0).trans hv0) ((congrFun (congrFun (congrFun v451 9) 1) a0).trans hv1) ktp kth (show LSn ad d442 th (q_I d442 9 4 a0).toInt from (hls.t (by omega) y452).n (by omega)) i444) (fun r453 hr454 => ?_)
              obtain ⟨i458, ⟨u460, u461⟩, p459⟩ := hr454
              have u462 := kp_t u450 u460
              have v463 : q_V r453 = q_V δ := (u461).trans v451
              have f464 := cb_9_4 i458 k_a0
              unfold J_X9_readStep_163
              have f465 := cb_8_2 i458 kth
              exact ok_some (show CI ad h.1 δ0 r453 ∧ (kp [(7, 3), (7, 4), (7, 5), (7, 6), (8, 2), (8, 3), (9, 2), (9, 3), (9, 4)] δ r453 ∧ q_V r453 = q_V δ) ∧ LSn ad r453 th (q_I r453 9 4 a0).toInt from ⟨i458, ⟨kp_w (by decide) u462, v463⟩, p459.n (by omega)⟩)
          · have c466 : (3 : Int) ≤ (q_I r4 9 4 a0).toInt := o_nlt h375
            unfold J_X9_readStep_87
            refine ok_at ((congrFun (congrFun (congrFun v11 9) 0) a0).trans hv0) ?_
            refine ok_gp ktp ?_
            refine ok_bind (k_X7_refuse L hN (a0 := tp) (x1 := (3 : Int32)) ktp (show (3 : Int) ≠ 0 by first | with_reducible assumption | omega) i6) (fun r467 hr468 => ?_)
            obtain ⟨i469, ⟨u471, u472, u473⟩, p470⟩ := hr468
            have u474 := kp_t u10 u471
            have v475 : q_V r467 = q_V δ := (u472).trans v11
            have y476 : q_R r467 (Ad ad 7) = q_R δ (Ad ad 7) := (congrFun u473 (Ad ad 7)).trans y12
            have f477 := ti_b (q_I r467 7 5 tp)
            unfold J_X9_readStep_163
            have f478 : (q_I r467 9 4 a0).toInt = (q_I r4 9 4 a0).toInt := congrArg Int32.toInt (u471 9 4 a0 (by decide))
            have f479 : (q_I r467 8 2 th).toInt = (q_I δ 8 2 th).toInt := ((show (q_I r467 8 2 th).toInt = (q_I r4 8 2 th).toInt from congrArg Int32.toInt (u471 8 2 th (by decide))).trans (show (q_I r4 8 2 th).toInt = (q_I δ 8 2 th).toInt from congrArg Int32.toInt (u7 8 2 th (by decide))))
            have f480 := cb_8_2 I kth
            exact ok_some (show CI ad h.1 δ0 r467 ∧ (kp [(7, 3), (7, 4), (7, 5), (7, 6), (8, 2), (8, 3), (9, 2), (9, 3), (9, 4)] δ r467 ∧ q_V r467 = q_V δ) ∧ LSn ad r467 th (q_I r467 9 4 a0).toInt from ⟨i469, ⟨kp_w (by decide) u474, v475⟩, (hls.t (by omega) y476).n (by omega)⟩)
  · have c481 : (0 : Int) < (q_I δ 9 4 a0).toInt := o_nle h2
    refine ok_at ((rfl).trans hv0) ?_
    refine ok_gp ktp ?_
    refine ok_bind (k_X7_takeSign L hN (a0 := tp) (x1 := (93 : Int32)) ktp (show (93 : Int) ≠ -1 by first | with_reducible assumption | omega) I) (fun r482 hr483 => ?_)
    obtain ⟨i484, ⟨u486, u487, u488⟩, p485⟩ := hr483
    have u489 := kp_t kp_r u486
    have v490 : q_V r482.2 = q_V δ := (u487).trans rfl
    have y491 : q_R r482.2 (Ad ad 7) = q_R δ (Ad ad 7) := (congrFun u488 (Ad ad 7)).trans rfl
    have f492 := bo_t p485
    have f493 := ti_b r482.1
    refine ok_ite (fun h494 => ?_) (fun h494 => ?_)
    · have c495 : r482.1.toInt = (0 : Int) := o_eq h494
      unfold J_X9_readStep_24
      refine ok_at ((congrFun (congrFun (congrFun v490 9) 0) a0).trans hv0) ?_
      refine ok_gp ktp ?_
      refine ok_bind (k_X7_readWord L hN (a0 := tp) ktp i484) (fun r496 hr497 => ?_)
      obtain ⟨i498, ⟨u499, u500, u501⟩⟩ := hr497
      have u502 := kp_t u489 u499
      have v503 : q_V r496 = q_V δ := (u500).trans v490
      have y504 : q_R r496 (Ad ad 7) = q_R δ (Ad ad 7) := (congrFun u501 (Ad ad 7)).trans y491
      refine ok_bind (k_X9_callOfWord L hN (a0 := a0) k_a0 ((congrFun (congrFun (congrFun v503 9) 0) a0).trans hv0) ((congrFun (congrFun (congrFun v503 9) 1) a0).trans hv1) ktp kth i498) (fun r505 hr506 => ?_)
      obtain ⟨i507, p508, p509⟩ := hr506
      try rw [i507]
      have f510 := ti_b r505.1
      refine ok_at ((congrFun (congrFun (congrFun v503 9) 0) a0).trans hv0) ?_
      refine ok_gp ktp ?_
      refine ok_bind (k_X7_wordIs L hN (a0 := tp) (a1 := 10) ktp (show 10 < 16 by first | with_reducible assumption | omega) i498) (fun r511 hr512 => ?_)
      obtain ⟨i513, p514⟩ := hr512
      try rw [i513]
      have f515 := bo_t p514
      have f516 := ti_b r511.1
      refine ok_ite (fun h517 => ?_) (fun h517 => ?_)
      · have c518 : r505.1.toInt = (-1 : Int) := o_eq h517
        refine ok_ite (fun h519 => ?_) (fun h519 => ?_)
        · have c520 : r511.1.toInt = (0 : Int) := o_eq h519
          refine ok_at ((congrFun (congrFun (congrFun v503 9) 0) a0).trans hv0) ?_
          refine ok_gp ktp ?_
          refine ok_bind (k_X7_refuse L hN (a0 := tp) (x1 := (1 : Int32)) ktp (show (1 : Int) ≠ 0 by first | with_reducible assumption | omega) i498) (fun r521 hr522 => ?_)
          obtain ⟨i523, ⟨u525, u526, u527⟩, p524⟩ := hr522
          have u528 := kp_t u502 u525
          have v529 : q_V r521 = q_V δ := (u526).trans v503
          have y530 : q_R r521 (Ad ad 7) = q_R δ (Ad ad 7) := (congrFun u527 (Ad ad 7)).trans y504
          have f531 := ti_b (q_I r521 7 5 tp)
          unfold J_X9_readStep_163
          have f532 : (q_I r521 9 4 a0).toInt = (q_I δ 9 4 a0).toInt := ((show (q_I r521 9 4 a0).toInt = (q_I r496 9 4 a0).toInt from congrArg Int32.toInt (u525 9 4 a0 (by decide))).trans ((show (q_I r496 9 4 a0).toInt = (q_I r482.2 9 4 a0).toInt from congrArg Int32.toInt (u499 9 4 a0 (by decide))).trans (show (q_I r482.2 9 4 a0).toInt = (q_I δ 9 4 a0).toInt from congrArg Int32.toInt (u486 9 4 a0 (by decide)))))
          have f533 : (q_I r521 8 2 th).toInt = (q_I δ 8 2 th).toInt := ((show (q_I r521 8 2 th).toInt = (q_I r496 8 2 th).toInt from congrArg Int32.toInt (u525 8 2 th (by decide))).trans ((show (q_I r496 8 2 th).toInt = (q_I r482.2 8 2 th).toInt from congrArg Int32.toInt (u499 8 2 th (by decide))).trans (show (q_I r482.2 8 2 th).toInt = (q_I δ 8 2 th).toInt from congrArg Int32.toInt (u486 8 2 th (by decide)))))
          have f534 := cb_8_2 I kth
          exact ok_some (show CI ad h.1 δ0 r521 ∧ (kp [(7, 3), (7, 4), (7, 5), (7, 6), (8, 2), (8, 3), (9, 2), (9, 3), (9, 4)] δ r521 ∧ q_V r521 = q_V δ) ∧ LSn ad r521 th (q_I r521 9 4 a0).toInt from ⟨i523, ⟨kp_w (by decide) u528, v529⟩, (hls.t (by omega) y530).n (by omega)⟩)
        · have c535 : r511.1.toInt ≠ (0 : Int) := o_ne h519
          unfold J_X9_readStep_66
          have f536 : (q_I r496 9 2 a0).toInt = (q_I δ 9 2 a0).toInt := ((show (q_I r496 9 2 a0).toInt = (q_I r482.2 9 2 a0).toInt from congrArg Int32.toInt (u499 9 2 a0 (by decide))).trans (show (q_I r482.2 9 2 a0).toInt = (q_I δ 9 2 a0).toInt from congrArg Int32.toInt (u486 9 2 a0 (by decide))))
          have f537 := ti_b (q_I δ 9 2 a0)
          refine ok_ite (fun h538 => ?_) (fun h538 => ?_)
          · have c539 : (60 : Int) ≤ (q_I r496 9 2 a0).toInt := o_le h538
            unfold J_X9_readStep_87
            refine ok_at ((congrFun (congrFun (congrFun v503 9) 0) a0).trans hv0) ?_
            refine ok_gp ktp ?_
            refine ok_bind (k_X7_refuse L hN (a0 := tp) (x1 := (3 : Int32)) ktp (show (3 : Int) ≠ 0 by first | with_reducible assumption | omega) i498) (fun r540 hr541 => ?_)
            obtain ⟨i542, ⟨u544, u545, u546⟩, p543⟩ := hr541
            have u547 := kp_t u502 u544
            have v548 : q_V r540 = q_V δ := (u545).trans v503
            have y549 : q_R r540 (Ad ad 7) = q_R δ (Ad ad 7) := (congrFun u546 (Ad ad 7)).trans y504
            have f550 := ti_b (q_I r540 7 5 tp)
            unfold J_X9_readStep_163
            have f551 : (q_I r540 9 4 a0).toInt = (q_I δ 9 4 a0).toInt := ((show (q_I r540 9 4 a0).toInt = (q_I r496 9 4 a0).toInt from congrArg Int32.toInt (u544 9 4 a0 (by decide))).trans ((show (q_I r496 9 4 a0).toInt = (q_I r482.2 9 4 a0).toInt from congrArg Int32.toInt (u499 9 4 a0 (by decide))).trans (show (q_I r482.2 9 4 a0).toInt = (q_I δ 9 4 a0).toInt from congrArg Int32.toInt (u486 9 4 a0 (by decide)))))
            have f552 : (q_I r540 8 2 th).toInt = (q_I δ 8 2 th).toInt := ((show (q_I r540 8 2 th).toInt = (q_I r496 8 2 th).toInt from congrArg Int32.toInt (u544 8 2 th (by decide))).trans ((show (q_I r496 8 2 th).toInt = (q_I r482.2 8 2 th).toInt from congrArg Int32.toInt (u499 8 2 th (by decide))).trans (show (q_I r482.2 8 2 th).toInt = (q_I δ 8 2 th).toInt from congrArg Int32.toInt (u486 8 2 th (by decide)))))
            have f553 := cb_8_2 I kth
            exact ok_some (show CI ad h.1 δ0 r540 ∧ (kp [(7, 3), (7, 4), (7, 5), (7, 6), (8, 2), (8, 3), (9, 2), (9, 3), (9, 4)] δ r540 ∧ q_V r540 = q_V δ) ∧ LSn ad r540 th (q_I r540 9 4 a0).toInt from ⟨i542, ⟨kp_w (by decide) u547, v548⟩, (hls.t (by omega) y549).n (by omega)⟩)
          · have c554 : (q_I r496 9 2 a0).toInt < (60 : Int) := o_nle h538
            refine ok_ite (fun h555 => ?_) (fun h555 => ?_)
            · have c556 : r511.1.toInt = (0 : Int) := o_eq h555
              unfold J_X9_readStep_98
              refine ok_ite (fun h557 => ?_) (fun h557 => ?_)
              · have c558 : r511.1.toInt = (0 : Int) := o_eq h557
                first | (have q563 := te_addc (c := 1) (n := 1) rfl (q_I r496 9 2 a0) (by omega) (by omega); obtain ⟨f564, f565, f566⟩ := q563) | (obtain ⟨q563, f564, f565, f566⟩ := ti_addc (c := 1) (n := 1) rfl (q_I r496 9 2 a0))
                refine ok_bdv (fun d559 e560 => ?_)
                have i561 : CI ad h.1 δ0 d559 := by rw [e560]; exact cs_9_2 L i498
                have u567 := kp_I u502 e560
                have v568 : q_V d559 = q_V δ := ((show q_V d559 = q_V r496 by rw [e560]; rfl)).trans v503
                have y569 : q_R d559 (Ad ad 7) = q_R δ (Ad ad 7) := ((show q_R d559 (Ad ad 7) = q_R r496 (Ad ad 7) by rw [e560]; rfl)).trans y504
                have f573 : (q_I d559 9 3 a0).toInt = (q_I δ 9 3 a0).toInt := ((show (q_I d559 9 3 a0).toInt = (q_I r496 9 3 a0).toInt from congrArg Int32.toInt (by rw [e560]; exact rI_o (by decide))).trans ((show (q_I r496 9 3 a0).toInt = (q_I r482.2 9 3 a0).toInt from congrArg Int32.toInt (u499 9 3 a0 (by decide))).trans (show (q_I r482.2 9 3 a0).toInt = (q_I δ 9 3 a0).toInt from congrArg Int32.toInt (u486 9 3 a0 (by decide)))))
                have f574 := ti_b (q_I δ 9 3 a0)
                first | (have q576 := te_addc (c := 1) (n := 1) rfl (q_I d559 9 3 a0) (by omega) (by omega); obtain ⟨f577, f578, f579⟩ := q576) | (obtain ⟨q576, f577, f578, f579⟩ := ti_addc (c := 1) (n := 1) rfl (q_I d559 9 3 a0))
                refine ok_bdv (fun d570 e571 => ?_)
                have i572 : CI ad h.1 δ0 d570 := by rw [e571]; exact cs_9_3 L i561
                have u580 := kp_I u567 e571
                have v581 : q_V d570 = q_V δ := ((show q_V d570 = q_V d559 by rw [e571]; rfl)).trans v568
                have y582 : q_R d570 (Ad ad 7) = q_R δ (Ad ad 7) := ((show q_R d570 (Ad ad 7) = q_R d559 (Ad ad 7) by rw [e571]; rfl)).trans y569
                refine ok_bind (k_X9_readSum L hN (a0 := a0) (x1 := (0 : Int32)) k_a0 (show 0 ≤ (0 : Int) by first | with_reducible assumption | omega) (show (0 : Int) ≤ 6 by first | with_reducible assumption | omega) (show 6 - (0 : Int) < 20 by first | with_reducible assumption | omega) ((congrFun (congrFun (congrFun v581 9) 0) a0).trans hv0) ((congrFun (congrFun (congrFun v581 9) 1) a0).trans hv1) ktp kth i572) (fun r583 hr584 => ?_)
                obtain ⟨i585, ⟨u587, u588, u589⟩, p586⟩ := hr584
                have u590 := kp_t u580 u587
                have v591 : q_V r583 = q_V δ := (u588).trans v581
                have y592 : q_R r583 (Ad ad 7) = q_R δ (Ad ad 7) := (u589).trans y582
                have f593 : (q_I d570 8 2 th).toInt = (q_I δ 8 2 th).toInt := ((show (q_I d570 8 2 th).toInt = (q_I d559 8 2 th).toInt from congrArg Int32.toInt (by rw [e571]; exact rI_o (by decide))).trans ((show (q_I d559 8 2 th).toInt = (q_I r496 8 2 th).toInt from congrArg Int32.toInt (by rw [e560]; exact rI_o (by decide))).trans ((show (q_I r496 8 2 th).toInt = (q_I r482.2 8 2 th).toInt from congrArg Int32.toInt (u499 8 2 th (by decide))).trans (show (q_I r482.2 8 2 th).toInt = (q_I δ 8 2 th).toInt from congrArg Int32.toInt (u486 8 2 th (by decide))))))
                have f594 := cb_8_2 I kth
                have f595 := cb_8_2 i585 kth
                refine ok_at ((congrFun (congrFun (congrFun v591 9) 0) a0).trans hv0) ?_
                refine ok_gp ktp ?_
                refine ok_bind (k_X7_needSign L hN (a0 := tp) (x1 := (59 : Int32)) ktp (show (59 : Int) ≠ -1 by first | with_reducible assumption | omega) i585) (fun r596 hr597 => ?_)
                obtain ⟨i598, ⟨u600, u601, u602⟩, p599⟩ := hr597
                have u603 := kp_t u590 u600
                have v604 : q_V r596 = q_V δ := (u601).trans v591
                have y605 : q_R r596 (Ad ad 7) = q_R δ (Ad ad 7) := (congrFun u602 (Ad ad 7)).trans y592
                have f606 := ti_b (q_I r583 7 5 tp)
                have f607 := ti_b (q_I r596 7 5 tp)
                refine ok_at ((congrFun (congrFun (congrFun v604 9) 1) a0).trans hv1) ?_
                refine ok_gp kth ?_
                have f610 : (q_I r596 8 2 th).toInt = (q_I r583 8 2 th).toInt := congrArg Int32.toInt (u600 8 2 th (by decide))
                refine ok_bind (k_X8_add L hN (a0 := th) (x1 := (9 : Int32)) (x2 := r505.1) kth (show 0 ≤ (r505.1).toInt by first | with_reducible assumption | omega) (show (9 : Int) = 1 → (r505.1).toInt < 4 by first | with_reducible assumption | omega) (show (9 : Int) = 11 → (q_I r596 8 2 th).toInt < 500 → (r505.1).toInt < 500 by first | with_reducible assumption | omega) i598) (fun r608 hr609 => ?_)
                obtain ⟨i611, ⟨u613, u614, u615⟩, p612⟩ := hr609
                have u616 := kp_t u603 u613
                have v617 : q_V r608 = q_V δ := (u614).trans v604
                have y618 : q_R r608 (Ad ad 7) = q_R δ (Ad ad 7) := (u615).trans y605
                have f619 := cb_8_2 i611 kth
                unfold J_X9_readStep_163
                have f620 : (q_I r608 9 4 a0).toInt = (q_I δ 9 4 a0).toInt := ((show (q_I r608 9 4 a0).toInt = (q_I r596 9 4 a0).toInt from congrArg Int32.toInt (u613 9 4 a0 (by decide))).trans ((show (q_I r596 9 4 a0).toInt = (q_I r583 9 4 a0).toInt from congrArg Int32.toInt (u600 9 4 a0 (by decide))).trans ((show (q_I r583 9 4 a0).toInt = (q_I d570 9 4 a0).toInt from congrArg Int32.toInt (u587 9 4 a0 (by decide))).trans ((show (q_I d570 9 4 a0).toInt = (q_I d559 9 4 a0).toInt from congrArg Int32.toInt (by rw [e571]; exact rI_o (by decide))).trans ((show (q_I d559 9 4 a0).toInt = (q_I r496 9 4 a0).toInt from congrArg Int32.toInt (by rw [e560]; exact rI_o (by decide))).trans ((show (q_I r496 9 4 a0).toInt = (q_I r482.2 9 4 a0).toInt from congrArg Int32.toInt (u499 9 4 a0 (by decide))).trans (show (q_I r482.2 9 4 a0).toInt = (q_I δ 9 4 a0).toInt from congrArg Int32.toInt (u486 9 4 a0 (by decide)))))))))
                exact ok_some (show CI ad h.1 δ0 r608 ∧ (kp [(7, 3), (7, 4), (7, 5), (7, 6), (8, 2), (8, 3), (9, 2), (9, 3), (9, 4)] δ r608 ∧ q_V r608 = q_V δ) ∧ LSn ad r608 th (q_I r608 9 4 a0).toInt from ⟨i611, ⟨kp_w (by decide) u616, v617⟩, (hls.t (by omega) y618).n (by omega)⟩)
              · have c621 : r511.1.toInt ≠ (0 : Int) := o_ne h557
                first | (have q626 := te_addc (c := 1) (n := 1) rfl (q_I r496 9 2 a0) (by omega) (by omega); obtain ⟨f627, f628, f629⟩ := q626) | (obtain ⟨q626, f627, f628, f629⟩ := ti_addc (c := 1) (n := 1) rfl (q_I r496 9 2 a0))
                refine ok_bdv (fun d622 e623 => ?_)
                have i624 : CI ad h.1 δ0 d622 := by rw [e623]; exact cs_9_2 L i498
                have u630 := kp_I u502 e623
                have v631 : q_V d622 = q_V δ := ((show q_V d622 = q_V r496 by rw [e623]; rfl)).trans v503
                have y632 : q_R d622 (Ad ad 7) = q_R δ (Ad ad 7) := ((show q_R d622 (Ad ad 7) = q_R r496 (Ad ad 7) by rw [e623]; rfl)).trans y504
                have f635 : (q_I d622 9 4 a0).toInt = (q_I δ 9 4 a0).toInt := ((show (q_I d622 9 4 a0).toInt = (q_I r496 9 4 a0).toInt from congrArg Int32.toInt (by rw [e623]; exact rI_o (by decide))).trans ((show (q_I r496 9 4 a0).toInt = (q_I r482.2 9 4 a0).toInt from congrArg Int32.toInt (u499 9 4 a0 (by decide))).trans (show (q_I r482.2 9 4 a0).toInt = (q_I δ 9 4 a0).toInt from congrArg Int32.toInt (u486 9 4 a0 (by decide)))))
                have f636 : (q_I d622 8 2 th).toInt = (q_I δ 8 2 th).toInt := ((show (q_I d622 8 2 th).toInt = (q_I r496 8 2 th).toInt from congrArg Int32.toInt (by rw [e623]; exact rI_o (by decide))).trans ((show (q_I r496 8 2 th).toInt = (q_I r482.2 8 2 th).toInt from congrArg Int32.toInt (u499 8 2 th (by decide))).trans (show (q_I r482.2 8 2 th).toInt = (q_I δ 8 2 th).toInt from congrArg Int32.toInt (u486 8 2 th (by decide)))))
                have f637 := cb_8_2 I kth
                refine ok_bind (k_X9_openLoop L hN (a0 := a0) k_a0 (show (q_I d622 9 4 a0).toInt < 3 by first | with_reducible assumption | omega) ((congrFun (congrFun (congrFun v631 9) 0) a0).trans hv0) ((congrFun (congrFun (congrFun v631 9) 1) a0).trans hv1) ktp kth (show LSn ad d622 th (q_I d622 9 4 a0).toInt from (hls.t (by omega) y632).n (by omega)) i624) (fun r633 hr634 => ?_)
                obtain ⟨i638, ⟨u640, u641⟩, p639⟩ := hr634
                have u642 := kp_t u630 u640
                have v643 : q_V r633 = q_V δ := (u641).trans v631
                have f644 := cb_9_4 i638 k_a0
                unfold J_X9_readStep_163
                have f645 := cb_8_2 i638 kth
                exact ok_some (show CI ad h.1 δ0 r633 ∧ (kp [(7, 3), (7, 4), (7, 5), (7, 6), (8, 2), (8, 3), (9, 2), (9, 3), (9, 4)] δ r633 ∧ q_V r633 = q_V δ) ∧ LSn ad r633 th (q_I r633 9 4 a0).toInt from ⟨i638, ⟨kp_w (by decide) u642, v643⟩, p639.n (by omega)⟩)
            · have c646 : r511.1.toInt ≠ (0 : Int) := o_ne h555
              have f647 : (q_I r496 9 4 a0).toInt = (q_I δ 9 4 a0).toInt := ((show (q_I r496 9 4 a0).toInt = (q_I r482.2 9 4 a0).toInt from congrArg Int32.toInt (u499 9 4 a0 (by decide))).trans (show (q_I r482.2 9 4 a0).toInt = (q_I δ 9 4 a0).toInt from congrArg Int32.toInt (u486 9 4 a0 (by decide))))
              refine ok_ite (fun h648 => ?_) (fun h648 => ?_)
              · have c649 : (q_I r496 9 4 a0).toInt < (3 : Int) := o_lt h648
                unfold J_X9_readStep_98
                refine ok_ite (fun h650 => ?_) (fun h650 => ?_)
                · have c651 : r511.1.toInt = (0 : Int) := o_eq h650
                  first | (have q656 := te_addc (c := 1) (n := 1) rfl (q_I r496 9 2 a0) (by omega) (by omega); obtain ⟨f657, f658, f659⟩ := q656) | (obtain ⟨q656, f657, f658, f659⟩ := ti_addc (c := 1) (n := 1) rfl (q_I r496 9 2 a0))
                  refine ok_bdv (fun d652 e653 => ?_)
                  have i654 : CI ad h.1 δ0 d652 := by rw [e653]; exact cs_9_2 L i498
                  have u660 := kp_I u502 e653
                  have v661 : q_V d652 = q_V δ := ((show q_V d652 = q_V r496 by rw [e653]; rfl)).trans v503
                  have y662 : q_R d652 (Ad ad 7) = q_R δ (Ad ad 7) := ((show q_R d652 (Ad ad 7) = q_R r496 (Ad ad 7) by rw [e653]; rfl)).trans y504
                  have f666 : (q_I d652 9 3 a0).toInt = (q_I δ 9 3 a0).toInt := ((show (q_I d652 9 3 a0).toInt = (q_I r496 9 3 a0).toInt from congrArg Int32.toInt (by rw [e653]; exact rI_o (by decide))).trans ((show (q_I r496 9 3 a0).toInt = (q_I r482.2 9 3 a0).toInt from congrArg Int32.toInt (u499 9 3 a0 (by decide))).trans (show (q_I r482.2 9 3 a0).toInt = (q_I δ 9 3 a0).toInt from congrArg Int32.toInt (u486 9 3 a0 (by decide)))))
                  have f667 := ti_b (q_I δ 9 3 a0)
                  first | (have q669 := te_addc (c := 1) (n := 1) rfl (q_I d652 9 3 a0) (by omega) (by omega); obtain ⟨f670, f671, f672⟩ := q669) | (obtain ⟨q669, f670, f671, f672⟩ := ti_addc (c := 1) (n := 1) rfl (q_I d652 9 3 a0))
                  refine ok_bdv (fun d663 e664 => ?_)
                  have i665 : CI ad h.1 δ0 d663 := by rw [e664]; exact cs_9_3 L i654
                  have u673 := kp_I u660 e664
                  have v674 : q_V d663 = q_V δ := ((show q_V d663 = q_V d652 by rw [e664]; rfl)).trans v661
                  have y675 : q_R d663 (Ad ad 7) = q_R δ (Ad ad 7) := ((show q_R d663 (Ad ad 7) = q_R d652 (Ad ad 7) by rw [e664]; rfl)).trans y662
                  refine ok_bind (k_X9_readSum L hN (a0 := a0) (x1 := (0 : Int32)) k_a0 (show 0 ≤ (0 : Int) by first | with_reducible assumption | omega) (show (0 : Int) ≤ 6 by first | with_reducible assumption | omega) (show 6 - (0 : Int) < 20 by first | with_reducible assumption | omega) ((congrFun (congrFun (congrFun v674 9) 0) a0).trans hv0) ((congrFun (congrFun (congrFun v674 9) 1) a0).trans hv1) ktp kth i665) (fun r676 hr677 => ?_)
                  obtain ⟨i678, ⟨u680, u681, u682⟩, p679⟩ := hr677
                  have u683 := kp_t u673 u680
                  have v684 : q_V r676 = q_V δ := (u681).trans v674
                  have y685 : q_R r676 (Ad ad 7) = q_R δ (Ad ad 7) := (u682).trans y675
                  have f686 : (q_I d663 8 2 th).toInt = (q_I δ 8 2 th).toInt := ((show (q_I d663 8 2 th).toInt = (q_I d652 8 2 th).toInt from congrArg Int32.toInt (by rw [e664]; exact rI_o (by decide))).trans ((show (q_I d652 8 2 th).toInt = (q_I r496 8 2 th).toInt from congrArg Int32.toInt (by rw [e653]; exact rI_o (by decide))).trans ((show (q_I r496 8 2 th).toInt = (q_I r482.2 8 2 th).toInt from congrArg Int32.toInt (u499 8 2 th (by decide))).trans (show (q_I r482.2 8 2 th).toInt = (q_I δ 8 2 th).toInt from congrArg Int32.toInt (u486 8 2 th (by decide))))))
                  have f687 := cb_8_2 I kth
                  have f688 := cb_8_2 i678 kth
                  refine ok_at ((congrFun (congrFun (congrFun v684 9) 0) a0).trans hv0) ?_
                  refine ok_gp ktp ?_
                  refine ok_bind (k_X7_needSign L hN (a0 := tp) (x1 := (59 : Int32)) ktp (show (59 : Int) ≠ -1 by first | with_reducible assumption | omega) i678) (fun r689 hr690 => ?_)
                  obtain ⟨i691, ⟨u693, u694, u695⟩, p692⟩ := hr690
                  have u696 := kp_t u683 u693
                  have v697 : q_V r689 = q_V δ := (u694).trans v684
                  have y698 : q_R r689 (Ad ad 7) = q_R δ (Ad ad 7) := (congrFun u695 (Ad ad 7)).trans y685
                  have f699 := ti_b (q_I r676 7 5 tp)
                  have f700 := ti_b (q_I r689 7 5 tp)
                  refine ok_at ((congrFun (congrFun (congrFun v697 9) 1) a0).trans hv1) ?_
                  refine ok_gp kth ?_
                  have f703 : (q_I r689 8 2 th).toInt = (q_I r676 8 2 th).toInt := congrArg Int32.toInt (u693 8 2 th (by decide))
                  refine ok_bind (k_X8_add L hN (a0 := th) (x1 := (9 : Int32)) (x2 := r505.1) kth (show 0 ≤ (r505.1).toInt by first | with_reducible assumption | omega) (show (9 : Int) = 1 → (r505.1).toInt < 4 by first | with_reducible assumption | omega) (show (9 : Int) = 11 → (q_I r689 8 2 th).toInt < 500 → (r505.1).toInt < 500 by first | with_reducible assumption | omega) i691) (fun r701 hr702 => ?_)
                  obtain ⟨i704, ⟨u706, u707, u708⟩, p705⟩ := hr702
                  have u709 := kp_t u696 u706
                  have v710 : q_V r701 = q_V δ := (u707).trans v697
                  have y711 : q_R r701 (Ad ad 7) = q_R δ (Ad ad 7) := (u708).trans y698
                  have f712 := cb_8_2 i704 kth
                  unfold J_X9_readStep_163
                  have f713 : (q_I r701 9 4 a0).toInt = (q_I r496 9 4 a0).toInt := ((show (q_I r701 9 4 a0).toInt = (q_I r689 9 4 a0).toInt from congrArg Int32.toInt (u706 9 4 a0 (by decide))).trans ((show (q_I r689 9 4 a0).toInt = (q_I r676 9 4 a0).toInt from congrArg Int32.toInt (u693 9 4 a0 (by decide))).trans ((show (q_I r676 9 4 a0).toInt = (q_I d663 9 4 a0).toInt from congrArg Int32.toInt (u680 9 4 a0 (by decide))).trans ((show (q_I d663 9 4 a0).toInt = (q_I d652 9 4 a0).toInt from congrArg Int32.toInt (by rw [e664]; exact rI_o (by decide))).trans (show (q_I d652 9 4 a0).toInt = (q_I r496 9 4 a0).toInt from congrArg Int32.toInt (by rw [e653]; exact rI_o (by decide)))))))
                  exact ok_some (show CI ad h.1 δ0 r701 ∧ (kp [(7, 3), (7, 4), (7, 5), (7, 6), (8, 2), (8, 3), (9, 2), (9, 3), (9, 4)] δ r701 ∧ q_V r701 = q_V δ) ∧ LSn ad r701 th (q_I r701 9 4 a0).toInt from ⟨i704, ⟨kp_w (by decide) u709, v710⟩, (hls.t (by omega) y711).n (by omega)⟩)
                · have c714 : r511.1.toInt ≠ (0 : Int) := o_ne h650
                  first | (have q719 := te_addc (c := 1) (n := 1) rfl (q_I r496 9 2 a0) (by omega) (by omega); obtain ⟨f720, f721, f722⟩ := q719) | (obtain ⟨q719, f720, f721, f722⟩ := ti_addc (c := 1) (n := 1) rfl (q_I r496 9 2 a0))
                  refine ok_bdv (fun d715 e716 => ?_)
                  have i717 : CI ad h.1 δ0 d715 := by rw [e716]; exact cs_9_2 L i498
                  have u723 := kp_I u502 e716
                  have v724 : q_V d715 = q_V δ := ((show q_V d715 = q_V r496 by rw [e716]; rfl)).trans v503
                  have y725 : q_R d715 (Ad ad 7) = q_R δ (Ad ad 7) := ((show q_R d715 (Ad ad 7) = q_R r496 (Ad ad 7) by rw [e716]; rfl)).trans y504
                  have f728 : (q_I d715 9 4 a0).toInt = (q_I r496 9 4 a0).toInt := congrArg Int32.toInt (by rw [e716]; exact rI_o (by decide))
                  have f729 : (q_I d715 8 2 th).toInt = (q_I δ 8 2 th).toInt := ((show (q_I d715 8 2 th).toInt = (q_I r496 8 2 th).toInt from congrArg Int32.toInt (by rw [e716]; exact rI_o (by decide))).trans ((show (q_I r496 8 2 th).toInt = (q_I r482.2 8 2 th).toInt from congrArg Int32.toInt (u499 8 2 th (by decide))).trans (show (q_I r482.2 8 2 th).toInt = (q_I δ 8 2 th).toInt from congrArg Int32.toInt (u486 8 2 th (by decide)))))
                  have f730 := cb_8_2 I kth
                  refine ok_bind (k_X9_openLoop L hN (a0 := a0) k_a0 (show (q_I d715 9 4 a0).toInt < 3 by first | with_reducible assumption | omega) ((congrFun (congrFun (congrFun v724 9) 0) a0).trans hv0) ((congrFun (congrFun (congrFun v724 9) 1) a0).trans hv1) ktp kth (show LSn ad d715 th (q_I d715 9 4 a0).toInt from (hls.t (by omega) y725).n (by omega)) i717) (fun r726 hr727 => ?_)
                  obtain ⟨i731, ⟨u733, u734⟩, p732⟩ := hr727
                  have u735 := kp_t u723 u733
                  have v736 : q_V r726 = q_V δ := (u734).trans v724
                  have f737 := cb_9_4 i731 k_a0
                  unfold J_X9_readStep_163
                  have f738 := cb_8_2 i731 kth
                  exact ok_some (show CI ad h.1 δ0 r726 ∧ (kp [(7, 3), (7, 4), (7, 5), (7, 6), (8, 2), (8, 3), (9, 2), (9, 3), (9, 4)] δ r726 ∧ q_V r726 = q_V δ) ∧ LSn ad r726 th (q_I r726 9 4 a0).toInt from ⟨i731, ⟨kp_w (by decide) u735, v736⟩, p732.n (by omega)⟩)
              · have c739 : (3 : Int) ≤ (q_I r496 9 4 a0).toInt := o_nlt h648
                unfold J_X9_readStep_87
                refine ok_at ((congrFun (congrFun (congrFun v503 9) 0) a0).trans hv0) ?_
                refine ok_gp ktp ?_
                refine ok_bind (k_X7_refuse L hN (a0 := tp) (x1 := (3 : Int32)) ktp (show (3 : Int) ≠ 0 by first | with_reducible assumption | omega) i498) (fun r740 hr741 => ?_)
                obtain ⟨i742, ⟨u744, u745, u746⟩, p743⟩ := hr741
                have u747 := kp_t u502 u744
                have v748 : q_V r740 = q_V δ := (u745).trans v503
                have y749 : q_R r740 (Ad ad 7) = q_R δ (Ad ad 7) := (congrFun u746 (Ad ad 7)).trans y504
                have f750 := ti_b (q_I r740 7 5 tp)
                unfold J_X9_readStep_163
                have f751 : (q_I r740 9 4 a0).toInt = (q_I r496 9 4 a0).toInt := congrArg Int32.toInt (u744 9 4 a0 (by decide))
                have f752 : (q_I r740 8 2 th).toInt = (q_I δ 8 2 th).toInt := ((show (q_I r740 8 2 th).toInt = (q_I r496 8 2 th).toInt from congrArg Int32.toInt (u744 8 2 th (by decide))).trans ((show (q_I r496 8 2 th).toInt = (q_I r482.2 8 2 th).toInt from congrArg Int32.toInt (u499 8 2 th (by decide))).trans (show (q_I r482.2 8 2 th).toInt = (q_I δ 8 2 th).toInt from congrArg Int32.toInt (u486 8 2 th (by decide)))))
                have f753 := cb_8_2 I kth
                exact ok_some (show CI ad h.1 δ0 r740 ∧ (kp [(7, 3), (7, 4), (7, 5), (7, 6), (8, 2), (8, 3), (9, 2), (9, 3), (9, 4)] δ r740 ∧ q_V r740 = q_V δ) ∧ LSn ad r740 th (q_I r740 9 4 a0).toInt from ⟨i742, ⟨kp_w (by decide) u747, v748⟩, (hls.t (by omega) y749).n (by omega)⟩)
      · have c754 : r505.1.toInt ≠ (-1 : Int) := o_ne h517
        unfold J_X9_readStep_66
        have f755 : (q_I r496 9 2 a0).toInt = (q_I δ 9 2 a0).toInt := ((show (q_I r496 9 2 a0).toInt = (q_I r482.2 9 2 a0).toInt from congrArg Int32.toInt (u499 9 2 a0 (by decide))).trans (show (q_I r482.2 9 2 a0).toInt = (q_I δ 9 2 a0).toInt from congrArg Int32.toInt (u486 9 2 a0 (by decide))))
        have f756 := ti_b (q_I δ 9 2 a0)
        refine ok_ite (fun h757 => ?_) (fun h757 => ?_)
        · have c758 : (60 : Int) ≤ (q_I r496 9 2 a0).toInt := o_le h757
          unfold J_X9_readStep_87
          refine ok_at ((congrFun (congrFun (congrFun v503 9) 0) a0).trans hv0) ?_
          refine ok_gp ktp ?_
          refine ok_bind (k_X7_refuse L hN (a0 := tp) (x1 := (3 : Int32)) ktp (show (3 : Int) ≠ 0 by first | with_reducible assumption | omega) i498) (fun r759 hr760 => ?_)
          obtain ⟨i761, ⟨u763, u764, u765⟩, p762⟩ := hr760
          have u766 := kp_t u502 u763
          have v767 : q_V r759 = q_V δ := (u764).trans v503
          have y768 : q_R r759 (Ad ad 7) = q_R δ (Ad ad 7) := (congrFun u765 (Ad ad 7)).trans y504
          have f769 := ti_b (q_I r759 7 5 tp)
          unfold J_X9_readStep_163
          have f770 : (q_I r759 9 4 a0).toInt = (q_I δ 9 4 a0).toInt := ((show (q_I r759 9 4 a0).toInt = (q_I r496 9 4 a0).toInt from congrArg Int32.toInt (u763 9 4 a0 (by decide))).trans ((show (q_I r496 9 4 a0).toInt = (q_I r482.2 9 4 a0).toInt from congrArg Int32.toInt (u499 9 4 a0 (by decide))).trans (show (q_I r482.2 9 4 a0).toInt = (q_I δ 9 4 a0).toInt from congrArg Int32.toInt (u486 9 4 a0 (by decide)))))
          have f771 : (q_I r759 8 2 th).toInt = (q_I δ 8 2 th).toInt := ((show (q_I r759 8 2 th).toInt = (q_I r496 8 2 th).toInt from congrArg Int32.toInt (u763 8 2 th (by decide))).trans ((show (q_I r496 8 2 th).toInt = (q_I r482.2 8 2 th).toInt from congrArg Int32.toInt (u499 8 2 th (by decide))).trans (show (q_I r482.2 8 2 th).toInt = (q_I δ 8 2 th).toInt from congrArg Int32.toInt (u486 8 2 th (by decide)))))
          have f772 := cb_8_2 I kth
          exact ok_some (show CI ad h.1 δ0 r759 ∧ (kp [(7, 3), (7, 4), (7, 5), (7, 6), (8, 2), (8, 3), (9, 2), (9, 3), (9, 4)] δ r759 ∧ q_V r759 = q_V δ) ∧ LSn ad r759 th (q_I r759 9 4 a0).toInt from ⟨i761, ⟨kp_w (by decide) u766, v767⟩, (hls.t (by omega) y768).n (by omega)⟩)
        · have c773 : (q_I r496 9 2 a0).toInt < (60 : Int) := o_nle h757
          refine ok_ite (fun h774 => ?_) (fun h774 => ?_)
          · have c775 : r511.1.toInt = (0 : Int) := o_eq h774
            unfold J_X9_readStep_98
            refine ok_ite (fun h776 => ?_) (fun h776 => ?_)
            · have c777 : r511.1.toInt = (0 : Int) := o_eq h776
              first | (have q782 := te_addc (c := 1) (n := 1) rfl (q_I r496 9 2 a0) (by omega) (by omega); obtain ⟨f783, f784, f785⟩ := q782) | (obtain ⟨q782, f783, f784, f785⟩ := ti_addc (c := 1) (n := 1) rfl (q_I r496 9 2 a0))
              refine ok_bdv (fun d778 e779 => ?_)
              have i780 : CI ad h.1 δ0 d778 := by rw [e779]; exact cs_9_2 L i498
              have u786 := kp_I u502 e779
              have v787 : q_V d778 = q_V δ := ((show q_V d778 = q_V r496 by rw [e779]; rfl)).trans v503
              have y788 : q_R d778 (Ad ad 7) = q_R δ (Ad ad 7) := ((show q_R d778 (Ad ad 7) = q_R r496 (Ad ad 7) by rw [e779]; rfl)).trans y504
              have f792 : (q_I d778 9 3 a0).toInt = (q_I δ 9 3 a0).toInt := ((show (q_I d778 9 3 a0).toInt = (q_I r496 9 3 a0).toInt from congrArg Int32.toInt (by rw [e779]; exact rI_o (by decide))).trans ((show (q_I r496 9 3 a0).toInt = (q_I r482.2 9 3 a0).toInt from congrArg Int32.toInt (u499 9 3 a0 (by decide))).trans (show (q_I r482.2 9 3 a0).toInt = (q_I δ 9 3 a0).toInt from congrArg Int32.toInt (u486 9 3 a0 (by decide)))))
              have f793 := ti_b (q_I δ 9 3 a0)
              first | (have q795 := te_addc (c := 1) (n := 1) rfl (q_I d778 9 3 a0) (by omega) (by omega); obtain ⟨f796, f797, f798⟩ := q795) | (obtain ⟨q795, f796, f797, f798⟩ := ti_addc (c := 1) (n := 1) rfl (q_I d778 9 3 a0))
              refine ok_bdv (fun d789 e790 => ?_)
              have i791 : CI ad h.1 δ0 d789 := by rw [e790]; exact cs_9_3 L i780
              have u799 := kp_I u786 e790
              have v800 : q_V d789 = q_V δ := ((show q_V d789 = q_V d778 by rw [e790]; rfl)).trans v787
              have y801 : q_R d789 (Ad ad 7) = q_R δ (Ad ad 7) := ((show q_R d789 (Ad ad 7) = q_R d778 (Ad ad 7) by rw [e790]; rfl)).trans y788
              refine ok_bind (k_X9_readSum L hN (a0 := a0) (x1 := (0 : Int32)) k_a0 (show 0 ≤ (0 : Int) by first | with_reducible assumption | omega) (show (0 : Int) ≤ 6 by first | with_reducible assumption | omega) (show 6 - (0 : Int) < 20 by first | with_reducible assumption | omega) ((congrFun (congrFun (congrFun v800 9) 0) a0).trans hv0) ((congrFun (congrFun (congrFun v800 9) 1) a0).trans hv1) ktp kth i791) (fun r802 hr803 => ?_)
              obtain ⟨i804, ⟨u806, u807, u808⟩, p805⟩ := hr803
              have u809 := kp_t u799 u806
              have v810 : q_V r802 = q_V δ := (u807).trans v800
              have y811 : q_R r802 (Ad ad 7) = q_R δ (Ad ad 7) := (u808).trans y801
              have f812 : (q_I d789 8 2 th).toInt = (q_I δ 8 2 th).toInt := ((show (q_I d789 8 2 th).toInt = (q_I d778 8 2 th).toInt from congrArg Int32.toInt (by rw [e790]; exact rI_o (by decide))).trans ((show (q_I d778 8 2 th).toInt = (q_I r496 8 2 th).toInt from congrArg Int32.toInt (by rw [e779]; exact rI_o (by decide))).trans ((show (q_I r496 8 2 th).toInt = (q_I r482.2 8 2 th).toInt from congrArg Int32.toInt (u499 8 2 th (by decide))).trans (show (q_I r482.2 8 2 th).toInt = (q_I δ 8 2 th).toInt from congrArg Int32.toInt (u486 8 2 th (by decide))))))
              have f813 := cb_8_2 I kth
              have f814 := cb_8_2 i804 kth
              refine ok_at ((congrFun (congrFun (congrFun v810 9) 0) a0).trans hv0) ?_
              refine ok_gp ktp ?_
              refine ok_bind (k_X7_needSign L hN (a0 := tp) (x1 := (59 : Int32)) ktp (show (59 : Int) ≠ -1 by first | with_reducible assumption | omega) i804) (fun r815 hr816 => ?_)
              obtain ⟨i817, ⟨u819, u820, u821⟩, p818⟩ := hr816
              have u822 := kp_t u809 u819
              have v823 : q_V r815 = q_V δ := (u820).trans v810
              have y824 : q_R r815 (Ad ad 7) = q_R δ (Ad ad 7) := (congrFun u821 (Ad ad 7)).trans y811
              have f825 := ti_b (q_I r802 7 5 tp)
              have f826 := ti_b (q_I r815 7 5 tp)
              refine ok_at ((congrFun (congrFun (congrFun v823 9) 1) a0).trans hv1) ?_
              refine ok_gp kth ?_
              have f829 : (q_I r815 8 2 th).toInt = (q_I r802 8 2 th).toInt := congrArg Int32.toInt (u819 8 2 th (by decide))
              refine ok_bind (k_X8_add L hN (a0 := th) (x1 := (9 : Int32)) (x2 := r505.1) kth (show 0 ≤ (r505.1).toInt by first | with_reducible assumption | omega) (show (9 : Int) = 1 → (r505.1).toInt < 4 by first | with_reducible assumption | omega) (show (9 : Int) = 11 → (q_I r815 8 2 th).toInt < 500 → (r505.1).toInt < 500 by first | with_reducible assumption | omega) i817) (fun r827 hr828 => ?_)
              obtain ⟨i830, ⟨u832, u833, u834⟩, p831⟩ := hr828
              have u835 := kp_t u822 u832
              have v836 : q_V r827 = q_V δ := (u833).trans v823
              have y837 : q_R r827 (Ad ad 7) = q_R δ (Ad ad 7) := (u834).trans y824
              have f838 := cb_8_2 i830 kth
              unfold J_X9_readStep_163
              have f839 : (q_I r827 9 4 a0).toInt = (q_I δ 9 4 a0).toInt := ((show (q_I r827 9 4 a0).toInt = (q_I r815 9 4 a0).toInt from congrArg Int32.toInt (u832 9 4 a0 (by decide))).trans ((show (q_I r815 9 4 a0).toInt = (q_I r802 9 4 a0).toInt from congrArg Int32.toInt (u819 9 4 a0 (by decide))).trans ((show (q_I r802 9 4 a0).toInt = (q_I d789 9 4 a0).toInt from congrArg Int32.toInt (u806 9 4 a0 (by decide))).trans ((show (q_I d789 9 4 a0).toInt = (q_I d778 9 4 a0).toInt from congrArg Int32.toInt (by rw [e790]; exact rI_o (by decide))).trans ((show (q_I d778 9 4 a0).toInt = (q_I r496 9 4 a0).toInt from congrArg Int32.toInt (by rw [e779]; exact rI_o (by decide))).trans ((show (q_I r496 9 4 a0).toInt = (q_I r482.2 9 4 a0).toInt from congrArg Int32.toInt (u499 9 4 a0 (by decide))).trans (show (q_I r482.2 9 4 a0).toInt = (q_I δ 9 4 a0).toInt from congrArg Int32.toInt (u486 9 4 a0 (by decide)))))))))
              exact ok_some (show CI ad h.1 δ0 r827 ∧ (kp [(7, 3), (7, 4), (7, 5), (7, 6), (8, 2), (8, 3), (9, 2), (9, 3), (9, 4)] δ r827 ∧ q_V r827 = q_V δ) ∧ LSn ad r827 th (q_I r827 9 4 a0).toInt from ⟨i830, ⟨kp_w (by decide) u835, v836⟩, (hls.t (by omega) y837).n (by omega)⟩)
            · have c840 : r511.1.toInt ≠ (0 : Int) := o_ne h776
              first | (have q845 := te_addc (c := 1) (n := 1) rfl (q_I r496 9 2 a0) (by omega) (by omega); obtain ⟨f846, f847, f848⟩ := q845) | (obtain ⟨q845, f846, f847, f848⟩ := ti_addc (c := 1) (n := 1) rfl (q_I r496 9 2 a0))
              refine ok_bdv (fun d841 e842 => ?_)
              have i843 : CI ad h.1 δ0 d841 := by rw [e842]; exact cs_9_2 L i498
              have u849 := kp_I u502 e842
              have v850 : q_V d841 = q_V δ := ((show q_V d841 = q_V r496 by rw [e842]; rfl)).trans v503
              have y851 : q_R d841 (Ad ad 7) = q_R δ (Ad ad 7) := ((show q_R d841 (Ad ad 7) = q_R r496 (Ad ad 7) by rw [e842]; rfl)).trans y504
              have f854 : (q_I d841 9 4 a0).toInt = (q_I δ 9 4 a0).toInt := ((show (q_I d841 9 4 a0).toInt = (q_I r496 9 4 a0).toInt from congrArg Int32.toInt (by rw [e842]; exact rI_o (by decide))).trans ((show (q_I r496 9 4 a0).toInt = (q_I r482.2 9 4 a0).toInt from congrArg Int32.toInt (u499 9 4 a0 (by decide))).trans (show (q_I r482.2 9 4 a0).toInt = (q_I δ 9 4 a0).toInt from congrArg Int32.toInt (u486 9 4 a0 (by decide)))))
              have f855 : (q_I d841 8 2 th).toInt = (q_I δ 8 2 th).toInt := ((show (q_I d841 8 2 th).toInt = (q_I r496 8 2 th).toInt from congrArg Int32.toInt (by rw [e842]; exact rI_o (by decide))).trans ((show (q_I r496 8 2 th).toInt = (q_I r482.2 8 2 th).toInt from congrArg Int32.toInt (u499 8 2 th (by decide))).trans (show (q_I r482.2 8 2 th).toInt = (q_I δ 8 2 th).toInt from congrArg Int32.toInt (u486 8 2 th (by decide)))))
              have f856 := cb_8_2 I kth
              refine ok_bind (k_X9_openLoop L hN (a0 := a0) k_a0 (show (q_I d841 9 4 a0).toInt < 3 by first | with_reducible assumption | omega) ((congrFun (congrFun (congrFun v850 9) 0) a0).trans hv0) ((congrFun (congrFun (congrFun v850 9) 1) a0).trans hv1) ktp kth (show LSn ad d841 th (q_I d841 9 4 a0).toInt from (hls.t (by omega) y851).n (by omega)) i843) (fun r852 hr853 => ?_)
              obtain ⟨i857, ⟨u859, u860⟩, p858⟩ := hr853
              have u861 := kp_t u849 u859
              have v862 : q_V r852 = q_V δ := (u860).trans v850
              have f863 := cb_9_4 i857 k_a0
              unfold J_X9_readStep_163
              have f864 := cb_8_2 i857 kth
              exact ok_some (show CI ad h.1 δ0 r852 ∧ (kp [(7, 3), (7, 4), (7, 5), (7, 6), (8, 2), (8, 3), (9, 2), (9, 3), (9, 4)] δ r852 ∧ q_V r852 = q_V δ) ∧ LSn ad r852 th (q_I r852 9 4 a0).toInt from ⟨i857, ⟨kp_w (by decide) u861, v862⟩, p858.n (by omega)⟩)
          · have c865 : r511.1.toInt ≠ (0 : Int) := o_ne h774
            have f866 : (q_I r496 9 4 a0).toInt = (q_I δ 9 4 a0).toInt := ((show (q_I r496 9 4 a0).toInt = (q_I r482.2 9 4 a0).toInt from congrArg Int32.toInt (u499 9 4 a0 (by decide))).trans (show (q_I r482.2 9 4 a0).toInt = (q_I δ 9 4 a0).toInt from congrArg Int32.toInt (u486 9 4 a0 (by decide))))
            refine ok_ite (fun h867 => ?_) (fun h867 => ?_)
            · have c868 : (q_I r496 9 4 a0).toInt < (3 : Int) := o_lt h867
              unfold J_X9_readStep_98
              refine ok_ite (fun h869 => ?_) (fun h869 => ?_)
              · have c870 : r511.1.toInt = (0 : Int) := o_eq h869
                first | (have q875 := te_addc (c := 1) (n := 1) rfl (q_I r496 9 2 a0) (by omega) (by omega); obtain ⟨f876, f877, f878⟩ := q875) | (obtain ⟨q875, f876, f877, f878⟩ := ti_addc (c := 1) (n := 1) rfl (q_I r496 9 2 a0))
                refine ok_bdv (fun d871 e872 => ?_)
                have i873 : CI ad h.1 δ0 d871 := by rw [e872]; exact cs_9_2 L i498
                have u879 := kp_I u502 e872
                have v880 : q_V d871 = q_V δ := ((show q_V d871 = q_V r496 by rw [e872]; rfl)).trans v503
                have y881 : q_R d871 (Ad ad 7) = q_R δ (Ad ad 7) := ((show q_R d871 (Ad ad 7) = q_R r496 (Ad ad 7) by rw [e872]; rfl)).trans y504
                have f885 : (q_I d871 9 3 a0).toInt = (q_I δ 9 3 a0).toInt := ((show (q_I d871 9 3 a0).toInt = (q_I r496 9 3 a0).toInt from congrArg Int32.toInt (by rw [e872]; exact rI_o (by decide))).trans ((show (q_I r496 9 3 a0).toInt = (q_I r482.2 9 3 a0).toInt from congrArg Int32.toInt (u499 9 3 a0 (by decide))).trans (show (q_I r482.2 9 3 a0).toInt = (q_I δ 9 3 a0).toInt from congrArg Int32.toInt (u486 9 3 a0 (by decide)))))
                have f886 := ti_b (q_I δ 9 3 a0)
                first | (have q888 := te_addc (c := 1) (n := 1) rfl (q_I d871 9 3 a0) (by omega) (by omega); obtain ⟨f889, f890, f891⟩ := q888) | (obtain ⟨q888, f889, f890, f891⟩ := ti_addc (c := 1) (n := 1) rfl (q_I d871 9 3 a0))
                refine ok_bdv (fun d882 e883 => ?_)
                have i884 : CI ad h.1 δ0 d882 := by rw [e883]; exact cs_9_3 L i873
                have u892 := kp_I u879 e883
                have v893 : q_V d882 = q_V δ := ((show q_V d882 = q_V d871 by rw [e883]; rfl)).trans v880
                have y894 : q_R d882 (Ad ad 7) = q_R δ (Ad ad 7) := ((show q_R d882 (Ad ad 7) = q_R d871 (Ad ad 7) by rw [e883]; rfl)).trans y881
                refine ok_bind (k_X9_readSum L hN (a0 := a0) (x1 := (0 : Int32)) k_a0 (show 0 ≤ (0 : Int) by first | with_reducible assumption | omega) (show (0 : Int) ≤ 6 by first | with_reducible assumption | omega) (show 6 - (0 : Int) < 20 by first | with_reducible assumption | omega) ((congrFun (congrFun (congrFun v893 9) 0) a0).trans hv0) ((congrFun (congrFun (congrFun v893 9) 1) a0).trans hv1) ktp kth i884) (fun r895 hr896 => ?_)
                obtain ⟨i897, ⟨u899, u900, u901⟩, p898⟩ := hr896
                have u902 := kp_t u892 u899
                have v903 : q_V r895 = q_V δ := (u900).trans v893
                have y904 : q_R r895 (Ad ad 7) = q_R δ (Ad ad 7) := (u901).trans y894
                have f905 : (q_I d882 8 2 th).toInt = (q_I δ 8 2 th).toInt := ((show (q_I d882 8 2 th).toInt = (q_I d871 8 2 th).toInt from congrArg Int32.toInt (by rw [e883]; exact rI_o (by decide))).trans ((show (q_I d871 8 2 th).toInt = (q_I r496 8 2 th).toInt from congrArg Int32.toInt (by rw [e872]; exact rI_o (by decide))).trans ((show (q_I r496 8 2 th).toInt = (q_I r482.2 8 2 th).toInt from congrArg Int32.toInt (u499 8 2 th (by decide))).trans (show (q_I r482.2 8 2 th).toInt = (q_I δ 8 2 th).toInt from congrArg Int32.toInt (u486 8 2 th (by decide))))))
                have f906 := cb_8_2 I kth
                have f907 := cb_8_2 i897 kth
                refine ok_at ((congrFun (congrFun (congrFun v903 9) 0) a0).trans hv0) ?_
                refine ok_gp ktp ?_
                refine ok_bind (k_X7_needSign L hN (a0 := tp) (x1 := (59 : Int32)) ktp (show (59 : Int) ≠ -1 by first | with_reducible assumption | omega) i897) (fun r908 hr909 => ?_)
                obtain ⟨i910, ⟨u912, u913, u914⟩, p911⟩ := hr909
                have u915 := kp_t u902 u912
                have v916 : q_V r908 = q_V δ := (u913).trans v903
                have y917 : q_R r908 (Ad ad 7) = q_R δ (Ad ad 7) := (congrFun u914 (Ad ad 7)).trans y904
                have f918 := ti_b (q_I r895 7 5 tp)
                have f919 := ti_b (q_I r908 7 5 tp)
                refine ok_at ((congrFun (congrFun (congrFun v916 9) 1) a0).trans hv1) ?_
                refine ok_gp kth ?_
                have f922 : (q_I r908 8 2 th).toInt = (q_I r895 8 2 th).toInt := congrArg Int32.toInt (u912 8 2 th (by decide))
                refine ok_bind (k_X8_add L hN (a0 := th) (x1 := (9 : Int32)) (x2 := r505.1) kth (show 0 ≤ (r505.1).toInt by first | with_reducible assumption | omega) (show (9 : Int) = 1 → (r505.1).toInt < 4 by first | with_reducible assumption | omega) (show (9 : Int) = 11 → (q_I r908 8 2 th).toInt < 500 → (r505.1).toInt < 500 by first | with_reducible assumption | omega) i910) (fun r920 hr921 => ?_)
                obtain ⟨i923, ⟨u925, u926, u927⟩, p924⟩ := hr921
                have u928 := kp_t u915 u925
                have v929 : q_V r920 = q_V δ := (u926).trans v916
                have y930 : q_R r920 (Ad ad 7) = q_R δ (Ad ad 7) := (u927).trans y917
                have f931 := cb_8_2 i923 kth
                unfold J_X9_readStep_163
                have f932 : (q_I r920 9 4 a0).toInt = (q_I r496 9 4 a0).toInt := ((show (q_I r920 9 4 a0).toInt = (q_I r908 9 4 a0).toInt from congrArg Int32.toInt (u925 9 4 a0 (by decide))).trans ((show (q_I r908 9 4 a0).toInt = (q_I r895 9 4 a0).toInt from congrArg Int32.toInt (u912 9 4 a0 (by decide))).trans ((show (q_I r895 9 4 a0).toInt = (q_I d882 9 4 a0).toInt from congrArg Int32.toInt (u899 9 4 a0 (by decide))).trans ((show (q_I d882 9 4 a0).toInt = (q_I d871 9 4 a0).toInt from congrArg Int32.toInt (by rw [e883]; exact rI_o (by decide))).trans (show (q_I d871 9 4 a0).toInt = (q_I r496 9 4 a0).toInt from congrArg Int32.toInt (by rw [e872]; exact rI_o (by decide)))))))
                exact ok_some (show CI ad h.1 δ0 r920 ∧ (kp [(7, 3), (7, 4), (7, 5), (7, 6), (8, 2), (8, 3), (9, 2), (9, 3), (9, 4)] δ r920 ∧ q_V r920 = q_V δ) ∧ LSn ad r920 th (q_I r920 9 4 a0).toInt from ⟨i923, ⟨kp_w (by decide) u928, v929⟩, (hls.t (by omega) y930).n (by omega)⟩)
              · have c933 : r511.1.toInt ≠ (0 : Int) := o_ne h869
                first | (have q938 := te_addc (c := 1) (n := 1) rfl (q_I r496 9 2 a0) (by omega) (by omega); obtain ⟨f939, f940, f941⟩ := q938) | (obtain ⟨q938, f939, f940, f941⟩ := ti_addc (c := 1) (n := 1) rfl (q_I r496 9 2 a0))
                refine ok_bdv (fun d934 e935 => ?_)
                have i936 : CI ad h.1 δ0 d934 := by rw [e935]; exact cs_9_2 L i498
                have u942 := kp_I u502 e935
                have v943 : q_V d934 = q_V δ := ((show q_V d934 = q_V r496 by rw [e935]; rfl)).trans v503
                have y944 : q_R d934 (Ad ad 7) = q_R δ (Ad ad 7) := ((show q_R d934 (Ad ad 7) = q_R r496 (Ad ad 7) by rw [e935]; rfl)).trans y504
                have f947 : (q_I d934 9 4 a0).toInt = (q_I r496 9 4 a0).toInt := congrArg Int32.toInt (by rw [e935]; exact rI_o (by decide))
                have f948 : (q_I d934 8 2 th).toInt = (q_I δ 8 2 th).toInt := ((show (q_I d934 8 2 th).toInt = (q_I r496 8 2 th).toInt from congrArg Int32.toInt (by rw [e935]; exact rI_o (by decide))).trans ((show (q_I r496 8 2 th).toInt = (q_I r482.2 8 2 th).toInt from congrArg Int32.toInt (u499 8 2 th (by decide))).trans (show (q_I r482.2 8 2 th).toInt = (q_I δ 8 2 th).toInt from congrArg Int32.toInt (u486 8 2 th (by decide)))))
                have f949 := cb_8_2 I kth
                refine ok_bind (k_X9_openLoop L hN (a0 := a0) k_a0 (show (q_I d934 9 4 a0).toInt < 3 by first | with_reducible assumption | omega) ((congrFun (congrFun (congrFun v943 9) 0) a0).trans hv0) ((congrFun (congrFun (congrFun v943 9) 1) a0).trans hv1) ktp kth (show LSn ad d934 th (q_I d934 9 4 a0).toInt from (hls.t (by omega) y944).n (by omega)) i936) (fun r945 hr946 => ?_)
                obtain ⟨i950, ⟨u952, u953⟩, p951⟩ := hr946
                have u954 := kp_t u942 u952
                have v955 : q_V r945 = q_V δ := (u953).trans v943
                have f956 := cb_9_4 i950 k_a0
                unfold J_X9_readStep_163
                have f957 := cb_8_2 i950 kth
                exact ok_some (show CI ad h.1 δ0 r945 ∧ (kp [(7, 3), (7, 4), (7, 5), (7, 6), (8, 2), (8, 3), (9, 2), (9, 3), (9, 4)] δ r945 ∧ q_V r945 = q_V δ) ∧ LSn ad r945 th (q_I r945 9 4 a0).toInt from ⟨i950, ⟨kp_w (by decide) u954, v955⟩, p951.n (by omega)⟩)
            · have c958 : (3 : Int) ≤ (q_I r496 9 4 a0).toInt := o_nlt h867
              unfold J_X9_readStep_87
              refine ok_at ((congrFun (congrFun (congrFun v503 9) 0) a0).trans hv0) ?_
              refine ok_gp ktp ?_
              refine ok_bind (k_X7_refuse L hN (a0 := tp) (x1 := (3 : Int32)) ktp (show (3 : Int) ≠ 0 by first | with_reducible assumption | omega) i498) (fun r959 hr960 => ?_)
              obtain ⟨i961, ⟨u963, u964, u965⟩, p962⟩ := hr960
              have u966 := kp_t u502 u963
              have v967 : q_V r959 = q_V δ := (u964).trans v503
              have y968 : q_R r959 (Ad ad 7) = q_R δ (Ad ad 7) := (congrFun u965 (Ad ad 7)).trans y504
              have f969 := ti_b (q_I r959 7 5 tp)
              unfold J_X9_readStep_163
              have f970 : (q_I r959 9 4 a0).toInt = (q_I r496 9 4 a0).toInt := congrArg Int32.toInt (u963 9 4 a0 (by decide))
              have f971 : (q_I r959 8 2 th).toInt = (q_I δ 8 2 th).toInt := ((show (q_I r959 8 2 th).toInt = (q_I r496 8 2 th).toInt from congrArg Int32.toInt (u963 8 2 th (by decide))).trans ((show (q_I r496 8 2 th).toInt = (q_I r482.2 8 2 th).toInt from congrArg Int32.toInt (u499 8 2 th (by decide))).trans (show (q_I r482.2 8 2 th).toInt = (q_I δ 8 2 th).toInt from congrArg Int32.toInt (u486 8 2 th (by decide)))))
              have f972 := cb_8_2 I kth
              exact ok_some (show CI ad h.1 δ0 r959 ∧ (kp [(7, 3), (7, 4), (7, 5), (7, 6), (8, 2), (8, 3), (9, 2), (9, 3), (9, 4)] δ r959 ∧ q_V r959 = q_V δ) ∧ LSn ad r959 th (q_I r959 9 4 a0).toInt from ⟨i961, ⟨kp_w (by decide) u966, v967⟩, (hls.t (by omega) y968).n (by omega)⟩)
    · have c973 : r482.1.toInt ≠ (0 : Int) := o_ne h494
      have f976 : (q_I r482.2 9 4 a0).toInt = (q_I δ 9 4 a0).toInt := congrArg Int32.toInt (u486 9 4 a0 (by decide))
      have f977 : (q_I r482.2 8 2 th).toInt = (q_I δ 8 2 th).toInt := congrArg Int32.toInt (u486 8 2 th (by decide))
      have f978 := cb_8_2 I kth
      refine ok_bind (k_X9_closeLoop L hN (a0 := a0) k_a0 (show 1 ≤ (q_I r482.2 9 4 a0).toInt by first | with_reducible assumption | omega) ((congrFun (congrFun (congrFun v490 9) 0) a0).trans hv0) ((congrFun (congrFun (congrFun v490 9) 1) a0).trans hv1) ktp kth (show LSn ad r482.2 th (q_I r482.2 9 4 a0).toInt from (hls.t (by omega) y491).n (by omega)) i484) (fun r974 hr975 => ?_)
      obtain ⟨i979, ⟨u981, u982⟩, p980⟩ := hr975
      have u983 := kp_t u489 u981
      have v984 : q_V r974 = q_V δ := (u982).trans v490
      have f985 := cb_9_4 i979 k_a0
      have f986 := cb_8_2 i979 kth
      exact ok_some (show CI ad h.1 δ0 r974 ∧ (kp [(7, 3), (7, 4), (7, 5), (7, 6), (8, 2), (8, 3), (9, 2), (9, 3), (9, 4)] δ r974 ∧ q_V r974 = q_V δ) ∧ LSn ad r974 th (q_I r974 9 4 a0).toInt from ⟨i979, ⟨kp_w (by decide) u983, v984⟩, p980.n (by omega)⟩)
set_option maxHeartbeats 4000000 in
theorem kl_X9_read_34 {ad : List Nat} {h : hp} (L : Lay TLx ad h) {δ0 : dp} {N : Nat} (hN : 10000000 ≤ N) {tp th : Nat} {a0 : Nat} {a1 : Nat} {a2 : Nat} (k_a0 : q_K h.1 a0 = 9) : ∀ (n : Nat) (x3v : Int32) (δ : dp), CI ad h.1 δ0 δ → 0 ≤ (x3v).toInt → (x3v).toInt ≤ 500 → q_V δ 9 0 a0 = some tp → q_V δ 9 1 a0 = some th → q_K h.1 tp = 7 → q_K h.1 th = 8 → LSn ad δ th (q_I δ 9 4 a0).toInt → 500 - (x3v).toInt < (n : Int) → ok (L_X9_read_34 N h.1 a0 a1 a2 n x3v δ) (fun r => CI ad h.1 δ0 r ∧ (kp [(7, 3), (7, 4), (7, 5), (7, 6), (8, 2), (8, 3), (9, 2), (9, 3), (9, 4)] δ r ∧ q_V r = q_V δ)) := by
  intro n
  induction n with
  | zero =>
    intro x3v δ I j0 j1 hv0 hv1 ktp kth hls hm
    have f1 := ti_b x3v
    exfalso; omega
  | succ n ih =>
    intro x3v δ I j0 j1 hv0 hv1 ktp kth hls hm
    unfold L_X9_read_34
    have f1 := ti_b x3v
    refine ok_ite (fun h2 => ?_) (fun h2 => ?_)
    · have c3 : (500 : Int) ≤ x3v.toInt := o_le h2
      unfold J_X9_read_68
      have f4 := ti_b (q_I δ 9 2 a0)
      refine ok_ite (fun h5 => ?_) (fun h5 => ?_)
      · have c6 : (q_I δ 9 2 a0).toInt = (0 : Int) := o_eq h5
        refine ok_at ((rfl).trans hv0) ?_
        refine ok_gp ktp ?_
        refine ok_bind (k_X7_refuse L hN (a0 := tp) (x1 := (1 : Int32)) ktp (show (1 : Int) ≠ 0 by first | with_reducible assumption | omega) I) (fun r7 hr8 => ?_)
        obtain ⟨i9, ⟨u11, u12, u13⟩, p10⟩ := hr8
        have u14 := kp_t kp_r u11
        have v15 : q_V r7 = q_V δ := (u12).trans rfl
        have y16 : q_R r7 (Ad ad 7) = q_R δ (Ad ad 7) := (congrFun u13 (Ad ad 7)).trans rfl
        have f17 := ti_b (q_I r7 7 5 tp)
        unfold J_X9_read_83
        exact ok_some (show CI ad h.1 δ0 r7 ∧ (kp [(7, 3), (7, 4), (7, 5), (7, 6), (8, 2), (8, 3), (9, 2), (9, 3), (9, 4)] δ r7 ∧ q_V r7 = q_V δ) from ⟨i9, ⟨kp_w (by decide) u14, v15⟩⟩)
      · have c18 : (q_I δ 9 2 a0).toInt ≠ (0 : Int) := o_ne h5
        unfold J_X9_read_83
        exact ok_some (show CI ad h.1 δ0 δ ∧ (kp [(7, 3), (7, 4), (7, 5), (7, 6), (8, 2), (8, 3), (9, 2), (9, 3), (9, 4)] δ δ ∧ q_V δ = q_V δ) from ⟨I, ⟨kp_w (by decide) kp_r, rfl⟩⟩)
    · have c19 : x3v.toInt < (500 : Int) := o_nle h2
      refine ok_at ((rfl).trans hv0) ?_
      refine ok_gp ktp ?_
      refine ok_bind (k_X7_isSound L hN (a0 := tp) ktp I) (fun r20 hr21 => ?_)
      obtain ⟨i22, p23, p24, p25⟩ := hr21
      try rw [i22]
      have f26 := bo_t p23
      have f27 := ti_b r20.1
      have f28 := ti_b (q_I δ 7 5 tp)
      refine ok_ite (fun h29 => ?_) (fun h29 => ?_)
      · have c30 : r20.1.toInt = (0 : Int) := o_eq h29
        unfold J_X9_read_68
        have f31 := ti_b (q_I δ 9 2 a0)
        refine ok_ite (fun h32 => ?_) (fun h32 => ?_)
        · have c33 : (q_I δ 9 2 a0).toInt = (0 : Int) := o_eq h32
          refine ok_at ((rfl).trans hv0) ?_
          refine ok_gp ktp ?_
          refine ok_bind (k_X7_refuse L hN (a0 := tp) (x1 := (1 : Int32)) ktp (show (1 : Int) ≠ 0 by first | with_reducible assumption | omega) I) (fun r34 hr35 => ?_)
          obtain ⟨i36, ⟨u38, u39, u40⟩, p37⟩ := hr35
          have u41 := kp_t kp_r u38
          have v42 : q_V r34 = q_V δ := (u39).trans rfl
          have y43 : q_R r34 (Ad ad 7) = q_R δ (Ad ad 7) := (congrFun u40 (Ad ad 7)).trans rfl
          have f44 := ti_b (q_I r34 7 5 tp)
          unfold J_X9_read_83
          exact ok_some (show CI ad h.1 δ0 r34 ∧ (kp [(7, 3), (7, 4), (7, 5), (7, 6), (8, 2), (8, 3), (9, 2), (9, 3), (9, 4)] δ r34 ∧ q_V r34 = q_V δ) from ⟨i36, ⟨kp_w (by decide) u41, v42⟩⟩)
        · have c45 : (q_I δ 9 2 a0).toInt ≠ (0 : Int) := o_ne h32
          unfold J_X9_read_83
          exact ok_some (show CI ad h.1 δ0 δ ∧ (kp [(7, 3), (7, 4), (7, 5), (7, 6), (8, 2), (8, 3), (9, 2), (9, 3), (9, 4)] δ δ ∧ q_V δ = q_V δ) from ⟨I, ⟨kp_w (by decide) kp_r, rfl⟩⟩)
      · have c46 : r20.1.toInt ≠ (0 : Int) := o_ne h29
        refine ok_bind (k_X9_isOver L hN (a0 := a0) k_a0 ((rfl).trans hv0) ((rfl).trans hv1) ktp kth I) (fun r47 hr48 => ?_)
        obtain ⟨i49, ⟨u51, u52, u53⟩, p50⟩ := hr48
        have u54 := kp_t kp_r u51
        have v55 : q_V r47.2 = q_V δ := (u52).trans rfl
        have y56 : q_R r47.2 (Ad ad 7) = q_R δ (Ad ad 7) := (congrFun u53 (Ad ad 7)).trans rfl
        have f57 := bo_t p50
        have f58 := ti_b r47.1
        refine ok_ite (fun h59 => ?_) (fun h59 => ?_)
        · have c60 : r47.1.toInt = (0 : Int) := o_eq h59
          have f63 : (q_I r47.2 9 4 a0).toInt = (q_I δ 9 4 a0).toInt := congrArg Int32.toInt (u51 9 4 a0 (by decide))
          have f64 := cb_9_4 I k_a0
          have f65 : (q_I r47.2 8 2 th).toInt = (q_I δ 8 2 th).toInt := congrArg Int32.toInt (u51 8 2 th (by decide))
          have f66 := cb_8_2 I kth
          refine ok_bind (k_X9_readStep L hN (a0 := a0) k_a0 ((congrFun (congrFun (congrFun v55 9) 0) a0).trans hv0) ((congrFun (congrFun (congrFun v55 9) 1) a0).trans hv1) ktp kth (show LSn ad r47.2 th (q_I r47.2 9 4 a0).toInt from (hls.t (by omega) y56).n (by omega)) i49) (fun r61 hr62 => ?_)
          obtain ⟨i67, ⟨u69, u70⟩, p68⟩ := hr62
          have u71 := kp_t u54 u69
          have v72 : q_V r61 = q_V δ := (u70).trans v55
          have f73 := cb_9_4 i67 k_a0
          refine ok_biv (fun vx74 e75 => ?_)
          first | (have q76 := te_addc (c := 1) (n := 1) rfl x3v (by omega) (by omega); rw [← e75] at q76; obtain ⟨f77, f78, f79⟩ := q76) | (obtain ⟨q76, f77, f78, f79⟩ : ∃ q : Int, vx74.toInt = x3v.toInt + (1 : Int) + 4294967296 * q ∧ -2147483648 ≤ vx74.toInt ∧ vx74.toInt ≤ 2147483647 := by rw [e75]; exact ti_addc (c := 1) (n := 1) rfl x3v)
          have f82 := cb_8_2 i67 kth
          refine ok_mono (ih vx74 r61 i67 (show 0 ≤ (vx74).toInt by first | with_reducible assumption | omega) (show (vx74).toInt ≤ 500 by first | with_reducible assumption | omega) ((congrFun (congrFun (congrFun v72 9) 0) a0).trans hv0) ((congrFun (congrFun (congrFun v72 9) 1) a0).trans hv1) ktp kth (show LSn ad r61 th (q_I r61 9 4 a0).toInt from p68.n (by omega)) (show 500 - (vx74).toInt < _ by omega)) (fun r80 hr81 => ?_)
          obtain ⟨i83, ⟨u84, u85⟩⟩ := hr81
          have u86 := kp_t u71 u84
          have v87 : q_V r80 = q_V δ := (u85).trans v72
          exact ⟨by first | with_reducible assumption | assumption, ⟨kp_w (by decide) u86, v87⟩⟩
        · have c88 : r47.1.toInt ≠ (0 : Int) := o_ne h59
          unfold J_X9_read_68
          have f89 : (q_I r47.2 9 2 a0).toInt = (q_I δ 9 2 a0).toInt := congrArg Int32.toInt (u51 9 2 a0 (by decide))
          have f90 := ti_b (q_I δ 9 2 a0)
          refine ok_ite (fun h91 => ?_) (fun h91 => ?_)
          · have c92 : (q_I r47.2 9 2 a0).toInt = (0 : Int) := o_eq h91
            refine ok_at ((congrFun (congrFun (congrFun v55 9) 0) a0).trans hv0) ?_
            refine ok_gp ktp ?_
            refine ok_bind (k_X7_refuse L hN (a0 := tp) (x1 := (1 : Int32)) ktp (show (1 : Int) ≠ 0 by first | with_reducible assumption | omega) i49) (fun r93 hr94 => ?_)
            obtain ⟨i95, ⟨u97, u98, u99⟩, p96⟩ := hr94
            have u100 := kp_t u54 u97
            have v101 : q_V r93 = q_V δ := (u98).trans v55
            have y102 : q_R r93 (Ad ad 7) = q_R δ (Ad ad 7) := (congrFun u99 (Ad ad 7)).trans y56
            have f103 := ti_b (q_I r93 7 5 tp)
            unfold J_X9_read_83
            exact ok_some (show CI ad h.1 δ0 r93 ∧ (kp [(7, 3), (7, 4), (7, 5), (7, 6), (8, 2), (8, 3), (9, 2), (9, 3), (9, 4)] δ r93 ∧ q_V r93 = q_V δ) from ⟨i95, ⟨kp_w (by decide) u100, v101⟩⟩)
          · have c104 : (q_I r47.2 9 2 a0).toInt ≠ (0 : Int) := o_ne h91
            unfold J_X9_read_83
            exact ok_some (show CI ad h.1 δ0 r47.2 ∧ (kp [(7, 3), (7, 4), (7, 5), (7, 6), (8, 2), (8, 3), (9, 2), (9, 3), (9, 4)] δ r47.2 ∧ q_V r47.2 = q_V δ) from ⟨i49, ⟨kp_w (by decide) u54, v55⟩⟩)
