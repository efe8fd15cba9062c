/-! 68.kX0b (by gen_safe.py) -/
set_option maxHeartbeats 4000000 in
theorem kl_X0_find_70 {ad : List Nat} {h : hp} (L : Lay TLx ad h) {δ0 : dp} {N : Nat} (hN : 10000000 ≤ N) {T : Nat → Int32 → Int32 → dp → Option (Int32 × dp)} {K : Int} (hT : ∀ (a0 : Nat) (x1 : Int32) (x2 : Int32) (δ : dp), q_K h.1 a0 = 0 → 0 ≤ (x1).toInt → 0 ≤ (q_I δ 3 1 (Ad ad 43)).toInt → (q_I δ 3 1 (Ad ad 43)).toInt + (x1).toInt ≤ 6 → srt δ (Ad ad 43) (Ad ad 44) → (x1).toInt < K → CI ad h.1 δ0 δ → ok (T a0 x1 x2 δ) (fun r => CI ad h.1 δ0 r.2 ∧ (kp [(1, 3), (1, 4), (1, 5), (1, 6), (1, 7), (1, 8), (1, 9), (1, 10), (1, 11), (1, 12), (1, 13), (1, 14), (1, 15), (3, 1)] δ r.2 ∧ q_V r.2 = q_V δ ∧ sam ad δ r.2) ∧ bo (r.1))) {a0 : Nat} {x1 : Int32} {x2 : Int32} {kt38 : Int32 → dp → Option (Int32 × dp)} {K38 : Int} (h_kt38 : ∀ (x3v : Int32) (δ : dp), CI ad h.1 δ0 δ → 1 ≤ (x1).toInt → 0 ≤ (q_I δ 3 1 (Ad ad 43)).toInt → (q_I δ 3 1 (Ad ad 43)).toInt + (x1).toInt ≤ 6 → srt δ (Ad ad 43) (Ad ad 44) → (x1).toInt ≤ K → 0 ≤ (x3v).toInt → (x3v).toInt ≤ 5 → 5 - (x3v).toInt < K38 → ok (kt38 x3v δ) (fun r => CI ad h.1 δ0 r.2 ∧ (kp [(1, 3), (1, 4), (1, 5), (1, 6), (1, 7), (1, 8), (1, 9), (1, 10), (1, 11), (1, 12), (1, 13), (1, 14), (1, 15), (3, 1)] δ r.2 ∧ q_V r.2 = q_V δ ∧ sam ad δ r.2) ∧ bo (r.1))) (k_a0 : q_K h.1 a0 = 0) : ∀ (n : Nat) (x3v : Int32) (x4v : Int32) (x5v : Int32) (δ : dp), CI ad h.1 δ0 δ → 1 ≤ (x1).toInt → 0 ≤ (q_I δ 3 1 (Ad ad 43)).toInt → (q_I δ 3 1 (Ad ad 43)).toInt + (x1).toInt ≤ 6 → srt δ (Ad ad 43) (Ad ad 44) → (x1).toInt ≤ K → 0 ≤ (x3v).toInt → (x3v).toInt ≤ 4 → 0 ≤ (x5v).toInt → (x5v).toInt ≤ 65536 → 5 - (x3v).toInt ≤ K38 → 65536 - (x5v).toInt < (n : Int) → ok (L_X0_find_70 N h.1 T a0 x1 x2 kt38 n x3v x4v x5v δ) (fun r => CI ad h.1 δ0 r.2 ∧ (kp [(1, 3), (1, 4), (1, 5), (1, 6), (1, 7), (1, 8), (1, 9), (1, 10), (1, 11), (1, 12), (1, 13), (1, 14), (1, 15), (3, 1)] δ r.2 ∧ q_V r.2 = q_V δ ∧ sam ad δ r.2) ∧ bo (r.1)) := by
  intro n
  induction n with
  | zero =>
    intro x3v x4v x5v δ I j0 j1 j2 j3 j4 j5 j6 j7 j8 j9 hm
    have f1 := ti_b x1
    have f2 := ti_b x3v
    have f3 := ti_b x5v
    exfalso; omega
  | succ n ih =>
    intro x3v x4v x5v δ I j0 j1 j2 j3 j4 j5 j6 j7 j8 j9 hm
    unfold L_X0_find_70
    have f1 := ti_b x1
    have f2 := ti_b x3v
    have f3 := ti_b x5v
    obtain ⟨b4, o5, k6⟩ := gO_0_0 L k_a0
    refine ok_at o5 ?_
    refine ok_bind (k_X5_greatest L hN (a0 := b4) k6 I) (fun r7 hr8 => ?_)
    obtain ⟨i9, p10, p11, p12, p13⟩ := hr8
    try rw [i9]
    have f14 := ti_b r7.1
    have f15 := cb_5_0 I k6
    have f16 := ti_b r7.1
    refine ok_ite (fun h17 => ?_) (fun h17 => ?_)
    · have c18 : r7.1.toInt < x5v.toInt := o_lt h17
      unfold J_X0_find_120
      refine ok_biv (fun vx19 e20 => ?_)
      first | (have q21 := te_addc (c := 1) (n := 1) rfl x3v (by omega) (by omega); rw [← e20] at q21; obtain ⟨f22, f23, f24⟩ := q21) | (obtain ⟨q21, f22, f23, f24⟩ : ∃ q : Int, vx19.toInt = x3v.toInt + (1 : Int) + 4294967296 * q ∧ -2147483648 ≤ vx19.toInt ∧ vx19.toInt ≤ 2147483647 := by rw [e20]; exact ti_addc (c := 1) (n := 1) rfl x3v)
      refine ok_mono (h_kt38 vx19 δ I (show 1 ≤ (x1).toInt by first | assumption | omega) (show 0 ≤ (q_I δ 3 1 (Ad ad 43)).toInt by first | assumption | omega) (show (q_I δ 3 1 (Ad ad 43)).toInt + (x1).toInt ≤ 6 by first | assumption | omega) (srt_s sam_r j3) (show (x1).toInt ≤ K by first | assumption | omega) (show 0 ≤ (vx19).toInt by first | assumption | omega) (show (vx19).toInt ≤ 5 by first | assumption | omega) (show 5 - (vx19).toInt < _ by omega)) (fun r25 hr26 => ?_)
      obtain ⟨i27, ⟨u29, u30, u31⟩, p28⟩ := hr26
      have u32 := kp_t kp_r u29
      have v33 : q_V r25.2 = q_V δ := (u30).trans rfl
      have v34 : sam ad δ r25.2 := sam_t sam_r u31
      have f35 := bo_t p28
      have f36 := ti_b r25.1
      exact ⟨by assumption, ⟨kp_w (by decide) u32, v33, v34⟩, by first | assumption | omega⟩
    · have c37 : x5v.toInt ≤ r7.1.toInt := o_nlt h17
      have f38 := ti_b x4v
      refine ok_ite (fun h39 => ?_) (fun h39 => ?_)
      · have c40 : x4v.toInt = (0 : Int) := o_eq h39
        unfold J_X0_find_120
        refine ok_biv (fun vx41 e42 => ?_)
        first | (have q43 := te_addc (c := 1) (n := 1) rfl x3v (by omega) (by omega); rw [← e42] at q43; obtain ⟨f44, f45, f46⟩ := q43) | (obtain ⟨q43, f44, f45, f46⟩ : ∃ q : Int, vx41.toInt = x3v.toInt + (1 : Int) + 4294967296 * q ∧ -2147483648 ≤ vx41.toInt ∧ vx41.toInt ≤ 2147483647 := by rw [e42]; exact ti_addc (c := 1) (n := 1) rfl x3v)
        refine ok_mono (h_kt38 vx41 δ I (show 1 ≤ (x1).toInt by first | assumption | omega) (show 0 ≤ (q_I δ 3 1 (Ad ad 43)).toInt by first | assumption | omega) (show (q_I δ 3 1 (Ad ad 43)).toInt + (x1).toInt ≤ 6 by first | assumption | omega) (srt_s sam_r j3) (show (x1).toInt ≤ K by first | assumption | omega) (show 0 ≤ (vx41).toInt by first | assumption | omega) (show (vx41).toInt ≤ 5 by first | assumption | omega) (show 5 - (vx41).toInt < _ by omega)) (fun r47 hr48 => ?_)
        obtain ⟨i49, ⟨u51, u52, u53⟩, p50⟩ := hr48
        have u54 := kp_t kp_r u51
        have v55 : q_V r47.2 = q_V δ := (u52).trans rfl
        have v56 : sam ad δ r47.2 := sam_t sam_r u53
        have f57 := bo_t p50
        have f58 := ti_b r47.1
        exact ⟨by assumption, ⟨kp_w (by decide) u54, v55, v56⟩, by first | assumption | omega⟩
      · have c59 : x4v.toInt ≠ (0 : Int) := o_ne h39
        refine ok_bind (k_bX0_findBehind L hN (a0 := a0) (x1 := x3v) (x2 := x5v) (x3 := x1) (x4 := x2) hT k_a0 (show 1 ≤ (x1).toInt by first | assumption | omega) (show 0 ≤ (q_I δ 3 1 (Ad ad 43)).toInt by first | assumption | omega) (show (q_I δ 3 1 (Ad ad 43)).toInt + (x1).toInt ≤ 6 by first | assumption | omega) (srt_s sam_r j3) (show (x1).toInt ≤ K by first | assumption | omega) I) (fun r60 hr61 => ?_)
        obtain ⟨i62, ⟨u64, u65, u66⟩, p63⟩ := hr61
        have u67 := kp_t kp_r u64
        have v68 : q_V r60.2 = q_V δ := (u65).trans rfl
        have v69 : sam ad δ r60.2 := sam_t sam_r u66
        have f70 := bo_t p63
        have f71 := ti_b r60.1
        refine ok_ite (fun h72 => ?_) (fun h72 => ?_)
        · have c73 : r60.1.toInt = (0 : Int) := o_eq h72
          refine ok_biv (fun vx74 e75 => ?_)
          first | (have q76 := te_addc (c := 1) (n := 1) rfl x5v (by omega) (by omega); rw [← e75] at q76; obtain ⟨f77, f78, f79⟩ := q76) | (obtain ⟨q76, f77, f78, f79⟩ : ∃ q : Int, vx74.toInt = x5v.toInt + (1 : Int) + 4294967296 * q ∧ -2147483648 ≤ vx74.toInt ∧ vx74.toInt ≤ 2147483647 := by rw [e75]; exact ti_addc (c := 1) (n := 1) rfl x5v)
          have f80 : (q_I r60.2 3 1 (Ad ad 43)).toInt = (q_I δ 3 1 (Ad ad 43)).toInt := congrArg Int32.toInt (v69).1
          refine ok_mono (ih x3v x4v vx74 r60.2 i62 (show 1 ≤ (x1).toInt by first | assumption | omega) (show 0 ≤ (q_I r60.2 3 1 (Ad ad 43)).toInt by first | assumption | omega) (show (q_I r60.2 3 1 (Ad ad 43)).toInt + (x1).toInt ≤ 6 by first | assumption | omega) (srt_s v69 j3) (show (x1).toInt ≤ K by first | assumption | omega) (show 0 ≤ (x3v).toInt by first | assumption | omega) (show (x3v).toInt ≤ 4 by first | assumption | omega) (show 0 ≤ (vx74).toInt by first | assumption | omega) (show (vx74).toInt ≤ 65536 by first | assumption | omega) (show 5 - (x3v).toInt ≤ K38 by first | assumption | omega) (show 65536 - (vx74).toInt < _ by omega)) (fun r81 hr82 => ?_)
          obtain ⟨i83, ⟨u85, u86, u87⟩, p84⟩ := hr82
          have u88 := kp_t u67 u85
          have v89 : q_V r81.2 = q_V δ := (u86).trans v68
          have v90 : sam ad δ r81.2 := sam_t v69 u87
          have f91 := bo_t p84
          have f92 := ti_b r81.1
          exact ⟨by assumption, ⟨kp_w (by decide) u88, v89, v90⟩, by first | assumption | omega⟩
        · have c93 : r60.1.toInt ≠ (0 : Int) := o_ne h72
          obtain ⟨b94, o95, k96, n97, w98⟩ := gO_0_5 L k_a0
          obtain rfl := gS_0_5 L k_a0 o95
          refine ok_at o95 ?_
          have t99 := ti_tn x1
          refine ok_gd (fun hc100 => ?_) ?_
          · rcases hc100 with hc100 | hc100
            · have c101 : x1.toInt < (0 : Int) := o_lt hc100
              omega
            · omega
          refine ok_bdv (fun d102 e103 => ?_)
          have i104 : CI ad h.1 δ0 d102 := by rw [e103]; exact CI.sR L i62 w98
          have u105 := kp_N u67 (show q_I d102 = q_I r60.2 by rw [e103]; rfl)
          have v106 : q_V d102 = q_V δ := ((show q_V d102 = q_V r60.2 by rw [e103]; rfl)).trans v68
          have v107 : sam ad δ d102 := sam_t v69 ((show sam ad r60.2 d102 by rw [e103]; exact sam_w (ad_ne L (i := 53) (j := 44) (by decide) (by decide) (by decide))))
          refine ok_gp (by decide) ?_
          exact ok_some (show CI ad h.1 δ0 d102 ∧ (kp [(1, 3), (1, 4), (1, 5), (1, 6), (1, 7), (1, 8), (1, 9), (1, 10), (1, 11), (1, 12), (1, 13), (1, 14), (1, 15), (3, 1)] δ d102 ∧ q_V d102 = q_V δ ∧ sam ad δ d102) ∧ bo ((1 : Int32)) from ⟨i104, ⟨kp_w (by decide) u105, v106, v107⟩, bo_1⟩)
set_option maxHeartbeats 4000000 in
theorem kl_X0_find_38 {ad : List Nat} {h : hp} (L : Lay TLx ad h) {δ0 : dp} {N : Nat} (hN : 10000000 ≤ N) {T : Nat → Int32 → Int32 → dp → Option (Int32 × dp)} {K : Int} (hT : ∀ (a0 : Nat) (x1 : Int32) (x2 : Int32) (δ : dp), q_K h.1 a0 = 0 → 0 ≤ (x1).toInt → 0 ≤ (q_I δ 3 1 (Ad ad 43)).toInt → (q_I δ 3 1 (Ad ad 43)).toInt + (x1).toInt ≤ 6 → srt δ (Ad ad 43) (Ad ad 44) → (x1).toInt < K → CI ad h.1 δ0 δ → ok (T a0 x1 x2 δ) (fun r => CI ad h.1 δ0 r.2 ∧ (kp [(1, 3), (1, 4), (1, 5), (1, 6), (1, 7), (1, 8), (1, 9), (1, 10), (1, 11), (1, 12), (1, 13), (1, 14), (1, 15), (3, 1)] δ r.2 ∧ q_V r.2 = q_V δ ∧ sam ad δ r.2) ∧ bo (r.1))) {a0 : Nat} {x1 : Int32} {x2 : Int32} (k_a0 : q_K h.1 a0 = 0) : ∀ (n : Nat) (x3v : Int32) (δ : dp), CI ad h.1 δ0 δ → 1 ≤ (x1).toInt → 0 ≤ (q_I δ 3 1 (Ad ad 43)).toInt → (q_I δ 3 1 (Ad ad 43)).toInt + (x1).toInt ≤ 6 → srt δ (Ad ad 43) (Ad ad 44) → (x1).toInt ≤ K → 0 ≤ (x3v).toInt → (x3v).toInt ≤ 5 → 5 - (x3v).toInt < (n : Int) → ok (L_X0_find_38 N h.1 T a0 x1 x2 n x3v δ) (fun r => CI ad h.1 δ0 r.2 ∧ (kp [(1, 3), (1, 4), (1, 5), (1, 6), (1, 7), (1, 8), (1, 9), (1, 10), (1, 11), (1, 12), (1, 13), (1, 14), (1, 15), (3, 1)] δ r.2 ∧ q_V r.2 = q_V δ ∧ sam ad δ r.2) ∧ bo (r.1)) := by
  intro n
  induction n with
  | zero =>
    intro x3v δ I j0 j1 j2 j3 j4 j5 j6 hm
    have f1 := ti_b x1
    have f2 := ti_b x3v
    exfalso; omega
  | succ n ih =>
    intro x3v δ I j0 j1 j2 j3 j4 j5 j6 hm
    unfold L_X0_find_38
    have f1 := ti_b x1
    have f2 := ti_b x3v
    refine ok_ite (fun h3 => ?_) (fun h3 => ?_)
    · have c4 : (5 : Int) ≤ x3v.toInt := o_le h3
      refine ok_gp (by decide) ?_
      exact ok_some (show CI ad h.1 δ0 δ ∧ (kp [(1, 3), (1, 4), (1, 5), (1, 6), (1, 7), (1, 8), (1, 9), (1, 10), (1, 11), (1, 12), (1, 13), (1, 14), (1, 15), (3, 1)] δ δ ∧ q_V δ = q_V δ ∧ sam ad δ δ) ∧ bo ((0 : Int32)) from ⟨I, ⟨kp_w (by decide) kp_r, rfl, sam_r⟩, bo_0⟩)
    · have c5 : x3v.toInt < (5 : Int) := o_nle h3
      obtain ⟨b6, o7, k8⟩ := gO_0_1 L k_a0
      obtain rfl := gS_0_1 L k_a0 o7
      refine ok_at o7 ?_
      refine ok_bind (k_X0_limitOf L hN (a0 := a0) (x1 := x3v) (x2 := x1) (x3 := (q_I δ 3 1 (Ad ad 43))) k_a0 (show 1 ≤ (x1).toInt by first | assumption | omega) (show 0 ≤ ((q_I δ 3 1 (Ad ad 43))).toInt by first | assumption | omega) (show (x1).toInt + ((q_I δ 3 1 (Ad ad 43))).toInt ≤ 6 by first | assumption | omega) I) (fun r9 hr10 => ?_)
      obtain ⟨i11, p12, p13⟩ := hr10
      try rw [i11]
      have f14 := ti_b r9.1
      have f15 := ti_b r9.1
      have f16 := ti_b x2
      refine ok_ite (fun h17 => ?_) (fun h17 => ?_)
      · have c18 : r9.1.toInt < x2.toInt := o_lt h17
        unfold J_X0_find_65
        refine ok_mono (kl_X0_find_70 L hN (K38 := (n : Int)) hT ih k_a0 _ x3v (0 : Int32) (0 : Int32) δ I (show 1 ≤ (x1).toInt by first | assumption | omega) (show 0 ≤ (q_I δ 3 1 (Ad ad 43)).toInt by first | assumption | omega) (show (q_I δ 3 1 (Ad ad 43)).toInt + (x1).toInt ≤ 6 by first | assumption | omega) (srt_s sam_r j3) (show (x1).toInt ≤ K by first | assumption | omega) (show 0 ≤ (x3v).toInt by first | assumption | omega) (show (x3v).toInt ≤ 4 by first | assumption | omega) (show 0 ≤ (0 : Int) by first | assumption | omega) (show (0 : Int) ≤ 65536 by first | assumption | omega) (show 5 - (x3v).toInt ≤ (n : Int) by first | assumption | omega) (show 65536 - (0 : Int) < _ by omega)) (fun r19 hr20 => ?_)
        obtain ⟨i21, ⟨u23, u24, u25⟩, p22⟩ := hr20
        have u26 := kp_t kp_r u23
        have v27 : q_V r19.2 = q_V δ := (u24).trans rfl
        have v28 : sam ad δ r19.2 := sam_t sam_r u25
        have f29 := bo_t p22
        have f30 := ti_b r19.1
        exact ⟨by assumption, ⟨kp_w (by decide) u26, v27, v28⟩, by first | assumption | omega⟩
      · have c31 : x2.toInt ≤ r9.1.toInt := o_nlt h17
        unfold J_X0_find_65
        refine ok_mono (kl_X0_find_70 L hN (K38 := (n : Int)) hT ih k_a0 _ x3v (1 : Int32) (0 : Int32) δ I (show 1 ≤ (x1).toInt by first | assumption | omega) (show 0 ≤ (q_I δ 3 1 (Ad ad 43)).toInt by first | assumption | omega) (show (q_I δ 3 1 (Ad ad 43)).toInt + (x1).toInt ≤ 6 by first | assumption | omega) (srt_s sam_r j3) (show (x1).toInt ≤ K by first | assumption | omega) (show 0 ≤ (x3v).toInt by first | assumption | omega) (show (x3v).toInt ≤ 4 by first | assumption | omega) (show 0 ≤ (0 : Int) by first | assumption | omega) (show (0 : Int) ≤ 65536 by first | assumption | omega) (show 5 - (x3v).toInt ≤ (n : Int) by first | assumption | omega) (show 65536 - (0 : Int) < _ by omega)) (fun r32 hr33 => ?_)
        obtain ⟨i34, ⟨u36, u37, u38⟩, p35⟩ := hr33
        have u39 := kp_t kp_r u36
        have v40 : q_V r32.2 = q_V δ := (u37).trans rfl
        have v41 : sam ad δ r32.2 := sam_t sam_r u38
        have f42 := bo_t p35
        have f43 := ti_b r32.1
        exact ⟨by assumption, ⟨kp_w (by decide) u39, v40, v41⟩, by first | assumption | omega⟩
set_option maxHeartbeats 4000000 in
theorem ke_X0_find {ad : List Nat} {h : hp} (L : Lay TLx ad h) {δ0 : dp} {N : Nat} (hN : 10000000 ≤ N) : ∀ (k : Nat), ∀ (a0 : Nat) (x1 : Int32) (x2 : Int32) (δ : dp), q_K h.1 a0 = 0 → 0 ≤ (x1).toInt → 0 ≤ (q_I δ 3 1 (Ad ad 43)).toInt → (q_I δ 3 1 (Ad ad 43)).toInt + (x1).toInt ≤ 6 → srt δ (Ad ad 43) (Ad ad 44) → (x1).toInt < (k : Int) → CI ad h.1 δ0 δ → ok (E_X0_find N h.1 k a0 x1 x2 δ) (fun r => CI ad h.1 δ0 r.2 ∧ (kp [(1, 3), (1, 4), (1, 5), (1, 6), (1, 7), (1, 8), (1, 9), (1, 10), (1, 11), (1, 12), (1, 13), (1, 14), (1, 15), (3, 1)] δ r.2 ∧ q_V r.2 = q_V δ ∧ sam ad δ r.2) ∧ bo (r.1)) := by
  intro k
  induction k with
  | zero =>
    intro a0 x1 x2 δ k_a0 z0 z1 z2 z3 hd I
    exfalso; omega
  | succ k ih =>
    intro a0 x1 x2 δ k_a0 z0 z1 z2 z3 hd I
    unfold E_X0_find B_X0_find
    have f1 := ti_b x1
    refine ok_ite (fun h2 => ?_) (fun h2 => ?_)
    · have c3 : x1.toInt ≤ (0 : Int) := o_le h2
      unfold J_X0_find_22
      refine ok_ite (fun h4 => ?_) (fun h4 => ?_)
      · have c5 : (0 : Int) < x1.toInt := o_lt h4
        unfold J_X0_find_34
        unfold J_X0_find_35
        refine ok_gp (by decide) ?_
        exact ok_some (show CI ad h.1 δ0 δ ∧ (kp [(1, 3), (1, 4), (1, 5), (1, 6), (1, 7), (1, 8), (1, 9), (1, 10), (1, 11), (1, 12), (1, 13), (1, 14), (1, 15), (3, 1)] δ δ ∧ q_V δ = q_V δ ∧ sam ad δ δ) ∧ bo ((0 : Int32)) from ⟨I, ⟨kp_w (by decide) kp_r, rfl, sam_r⟩, bo_0⟩)
      · have c6 : x1.toInt ≤ (0 : Int) := o_nlt h4
        have f7 := ti_b x2
        refine ok_ite (fun h8 => ?_) (fun h8 => ?_)
        · have c9 : (0 : Int) < x2.toInt := o_lt h8
          unfold J_X0_find_34
          unfold J_X0_find_35
          refine ok_gp (by decide) ?_
          exact ok_some (show CI ad h.1 δ0 δ ∧ (kp [(1, 3), (1, 4), (1, 5), (1, 6), (1, 7), (1, 8), (1, 9), (1, 10), (1, 11), (1, 12), (1, 13), (1, 14), (1, 15), (3, 1)] δ δ ∧ q_V δ = q_V δ ∧ sam ad δ δ) ∧ bo ((0 : Int32)) from ⟨I, ⟨kp_w (by decide) kp_r, rfl, sam_r⟩, bo_0⟩)
        · have c10 : x2.toInt ≤ (0 : Int) := o_nlt h8
          unfold J_X0_find_35
          refine ok_gp (by decide) ?_
          exact ok_some (show CI ad h.1 δ0 δ ∧ (kp [(1, 3), (1, 4), (1, 5), (1, 6), (1, 7), (1, 8), (1, 9), (1, 10), (1, 11), (1, 12), (1, 13), (1, 14), (1, 15), (3, 1)] δ δ ∧ q_V δ = q_V δ ∧ sam ad δ δ) ∧ bo ((1 : Int32)) from ⟨I, ⟨kp_w (by decide) kp_r, rfl, sam_r⟩, bo_1⟩)
    · have c11 : (0 : Int) < x1.toInt := o_nle h2
      obtain ⟨b12, o13, k14, n15, w16⟩ := gO_0_3 L k_a0
      refine ok_at o13 ?_
      have t17 := ti_tn x1
      refine ok_gd (fun hc18 => ?_) ?_
      · rcases hc18 with hc18 | hc18
        · have c19 : x1.toInt < (0 : Int) := o_lt hc18
          omega
        · omega
      obtain ⟨b20, o21, k22, n23, w24⟩ := gW_0_3 L k_a0 o13 (i := x1.toNatClampNeg) (by omega)
      refine ok_at o21 ?_
      have ne26 : b20 ≠ Ad ad 44 := w24.ne L (by decide) (by decide)
      obtain ⟨b27, o28, k29⟩ := gO_0_1 L k_a0
      obtain rfl := gS_0_1 L k_a0 o28
      refine ok_at o28 ?_
      have t30 := ti_tn (q_I δ 3 1 (Ad ad 43))
      refine ok_gd (fun hc31 => ?_) ?_
      · rcases hc31 with hc31 | hc31
        · have c32 : (q_I δ 3 1 (Ad ad 43)).toInt < (0 : Int) := o_lt hc31
          omega
        · omega
      have f33 := ti_b x2
      have f34 := CI.wR I w24 (q_I δ 3 1 (Ad ad 43)).toNatClampNeg
      refine ok_ite (fun h35 => ?_) (fun h35 => ?_)
      · have c36 : x2.toInt ≤ (q_R δ b20 (q_I δ 3 1 (Ad ad 43)).toNatClampNeg).toInt := o_le h35
        refine ok_mono (kl_X0_find_38 L hN   ih k_a0 _ (0 : Int32) δ I (show 1 ≤ (x1).toInt by first | assumption | omega) (show 0 ≤ (q_I δ 3 1 (Ad ad 43)).toInt by first | assumption | omega) (show (q_I δ 3 1 (Ad ad 43)).toInt + (x1).toInt ≤ 6 by first | assumption | omega) (srt_s sam_r z3) (show (x1).toInt ≤ (k : Int) by first | assumption | omega) (show 0 ≤ (0 : Int) by first | assumption | omega) (show (0 : Int) ≤ 5 by first | assumption | omega) (show 5 - (0 : Int) < _ by omega)) (fun r37 hr38 => ?_)
        obtain ⟨i39, ⟨u41, u42, u43⟩, p40⟩ := hr38
        have u44 := kp_t kp_r u41
        have v45 : q_V r37.2 = q_V δ := (u42).trans rfl
        have v46 : sam ad δ r37.2 := sam_t sam_r u43
        have f47 := bo_t p40
        have f48 := ti_b r37.1
        exact ⟨by assumption, ⟨kp_w (by decide) u44, v45, v46⟩, by first | assumption | omega⟩
      · have c49 : (q_R δ b20 (q_I δ 3 1 (Ad ad 43)).toNatClampNeg).toInt < x2.toInt := o_nle h35
        unfold J_X0_find_22
        refine ok_ite (fun h50 => ?_) (fun h50 => ?_)
        · have c51 : (0 : Int) < x1.toInt := o_lt h50
          unfold J_X0_find_34
          unfold J_X0_find_35
          refine ok_gp (by decide) ?_
          exact ok_some (show CI ad h.1 δ0 δ ∧ (kp [(1, 3), (1, 4), (1, 5), (1, 6), (1, 7), (1, 8), (1, 9), (1, 10), (1, 11), (1, 12), (1, 13), (1, 14), (1, 15), (3, 1)] δ δ ∧ q_V δ = q_V δ ∧ sam ad δ δ) ∧ bo ((0 : Int32)) from ⟨I, ⟨kp_w (by decide) kp_r, rfl, sam_r⟩, bo_0⟩)
        · have c52 : x1.toInt ≤ (0 : Int) := o_nlt h50
          refine ok_ite (fun h53 => ?_) (fun h53 => ?_)
          · have c54 : (0 : Int) < x2.toInt := o_lt h53
            unfold J_X0_find_34
            unfold J_X0_find_35
            refine ok_gp (by decide) ?_
            exact ok_some (show CI ad h.1 δ0 δ ∧ (kp [(1, 3), (1, 4), (1, 5), (1, 6), (1, 7), (1, 8), (1, 9), (1, 10), (1, 11), (1, 12), (1, 13), (1, 14), (1, 15), (3, 1)] δ δ ∧ q_V δ = q_V δ ∧ sam ad δ δ) ∧ bo ((0 : Int32)) from ⟨I, ⟨kp_w (by decide) kp_r, rfl, sam_r⟩, bo_0⟩)
          · have c55 : x2.toInt ≤ (0 : Int) := o_nlt h53
            unfold J_X0_find_35
            refine ok_gp (by decide) ?_
            exact ok_some (show CI ad h.1 δ0 δ ∧ (kp [(1, 3), (1, 4), (1, 5), (1, 6), (1, 7), (1, 8), (1, 9), (1, 10), (1, 11), (1, 12), (1, 13), (1, 14), (1, 15), (3, 1)] δ δ ∧ q_V δ = q_V δ ∧ sam ad δ δ) ∧ bo ((1 : Int32)) from ⟨I, ⟨kp_w (by decide) kp_r, rfl, sam_r⟩, bo_1⟩)
set_option maxHeartbeats 4000000 in
theorem k_X0_find {ad : List Nat} {h : hp} (L : Lay TLx ad h) {δ0 : dp} {N : Nat} (hN : 10000000 ≤ N) {a0 : Nat} {x1 : Int32} {x2 : Int32} (k_a0 : q_K h.1 a0 = 0) {δ : dp} (z0 : 0 ≤ (x1).toInt) (z1 : 0 ≤ (q_I δ 3 1 (Ad ad 43)).toInt) (z2 : (q_I δ 3 1 (Ad ad 43)).toInt + (x1).toInt ≤ 6) (z3 : srt δ (Ad ad 43) (Ad ad 44)) (hd : (x1).toInt < 20) (I : CI ad h.1 δ0 δ) : ok (D_X0_find N h.1 a0 x1 x2 δ) (fun r => CI ad h.1 δ0 r.2 ∧ (kp [(1, 3), (1, 4), (1, 5), (1, 6), (1, 7), (1, 8), (1, 9), (1, 10), (1, 11), (1, 12), (1, 13), (1, 14), (1, 15), (3, 1)] δ r.2 ∧ q_V r.2 = q_V δ ∧ sam ad δ r.2) ∧ bo (r.1)) := ke_X0_find L hN 20 a0 x1 x2 δ k_a0 z0 z1 z2 z3 hd I
set_option maxHeartbeats 4000000 in
theorem kl_X0_learn_35 {ad : List Nat} {h : hp} (L : Lay TLx ad h) {δ0 : dp} {N : Nat} (hN : 10000000 ≤ N) {a0 : Nat} {x1 : Int32} (k_a0 : q_K h.1 a0 = 0) : ∀ (n : Nat) (x2v : Int32) (δ : dp), CI ad h.1 δ0 δ → 0 ≤ (x1).toInt → 0 ≤ (q_I δ 3 1 (Ad ad 43)).toInt → (q_I δ 3 1 (Ad ad 43)).toInt + (x1).toInt ≤ 6 → srt δ (Ad ad 43) (Ad ad 44) → 0 ≤ (x2v).toInt → (x2v).toInt ≤ 390 → (x2v).toInt < (n : Int) → ok (L_X0_learn_35 N h.1 a0 x1 n x2v δ) (fun r => CI ad h.1 δ0 r.2 ∧ (kp [(0, 4), (0, 6), (0, 7), (1, 3), (1, 4), (1, 5), (1, 6), (1, 7), (1, 8), (1, 9), (1, 10), (1, 11), (1, 12), (1, 13), (1, 14), (1, 15), (3, 1)] δ r.2 ∧ q_V r.2 = q_V δ)) := by
  intro n
  induction n with
  | zero =>
    intro x2v δ I j0 j1 j2 j3 j4 j5 hm
    have f1 := ti_b x1
    have f2 := ti_b x2v
    exfalso; omega
  | succ n ih =>
    intro x2v δ I j0 j1 j2 j3 j4 j5 hm
    unfold L_X0_learn_35
    have f1 := ti_b x1
    have f2 := ti_b x2v
    refine ok_ite (fun h3 => ?_) (fun h3 => ?_)
    · have c4 : x2v.toInt ≤ (0 : Int) := o_le h3
      unfold J_X0_learn_54
      refine ok_bdv (fun d5 e6 => ?_)
      have i7 : CI ad h.1 δ0 d5 := by rw [e6]; exact cs_0_6 L I
      have u8 := kp_I kp_r e6
      have v9 : q_V d5 = q_V δ := ((show q_V d5 = q_V δ by rw [e6]; rfl)).trans rfl
      have v10 : sam ad δ d5 := sam_t sam_r (sam_c (show q_I d5 3 1 _ = q_I δ 3 1 _ by rw [e6]; exact rI_o (by decide)) (show q_R d5 = q_R δ by rw [e6]; rfl))
      refine ok_bdv (fun d11 e12 => ?_)
      have i13 : CI ad h.1 δ0 d11 := by rw [e12]; exact cs_0_7 L i7
      have u14 := kp_I u8 e12
      have v15 : q_V d11 = q_V δ := ((show q_V d11 = q_V d5 by rw [e12]; rfl)).trans v9
      have v16 : sam ad δ d11 := sam_t v10 (sam_c (show q_I d11 3 1 _ = q_I d5 3 1 _ by rw [e12]; exact rI_o (by decide)) (show q_R d11 = q_R d5 by rw [e12]; rfl))
      unfold J_X0_learn_64
      exact ok_some (show CI ad h.1 δ0 d11 ∧ (kp [(0, 4), (0, 6), (0, 7), (1, 3), (1, 4), (1, 5), (1, 6), (1, 7), (1, 8), (1, 9), (1, 10), (1, 11), (1, 12), (1, 13), (1, 14), (1, 15), (3, 1)] δ d11 ∧ q_V d11 = q_V δ) from ⟨i13, ⟨kp_w (by decide) u14, v15⟩⟩)
    · have c17 : (0 : Int) < x2v.toInt := o_nle h3
      refine ok_bind (k_X0_find L hN (a0 := a0) (x1 := x1) (x2 := x2v) k_a0 (show 0 ≤ (x1).toInt by first | assumption | omega) (show 0 ≤ (q_I δ 3 1 (Ad ad 43)).toInt by first | assumption | omega) (show (q_I δ 3 1 (Ad ad 43)).toInt + (x1).toInt ≤ 6 by first | assumption | omega) (srt_s sam_r j3) (show (x1).toInt < 20 by first | assumption | omega) I) (fun r18 hr19 => ?_)
      obtain ⟨i20, ⟨u22, u23, u24⟩, p21⟩ := hr19
      have u25 := kp_t kp_r u22
      have v26 : q_V r18.2 = q_V δ := (u23).trans rfl
      have v27 : sam ad δ r18.2 := sam_t sam_r u24
      have f28 := bo_t p21
      have f29 := ti_b r18.1
      refine ok_ite (fun h30 => ?_) (fun h30 => ?_)
      · have c31 : r18.1.toInt = (0 : Int) := o_eq h30
        refine ok_biv (fun vx32 e33 => ?_)
        first | (have q34 := te_addc (c := -1) (n := -1) (by decide) x2v (by omega) (by omega); rw [← e33] at q34; obtain ⟨f35, f36, f37⟩ := q34) | (obtain ⟨q34, f35, f36, f37⟩ : ∃ q : Int, vx32.toInt = x2v.toInt + (-1 : Int) + 4294967296 * q ∧ -2147483648 ≤ vx32.toInt ∧ vx32.toInt ≤ 2147483647 := by rw [e33]; exact ti_addc (c := -1) (n := -1) (by decide) x2v)
        have f38 : (q_I r18.2 3 1 (Ad ad 43)).toInt = (q_I δ 3 1 (Ad ad 43)).toInt := congrArg Int32.toInt (v27).1
        refine ok_mono (ih vx32 r18.2 i20 (show 0 ≤ (x1).toInt by first | assumption | omega) (show 0 ≤ (q_I r18.2 3 1 (Ad ad 43)).toInt by first | assumption | omega) (show (q_I r18.2 3 1 (Ad ad 43)).toInt + (x1).toInt ≤ 6 by first | assumption | omega) (srt_s v27 j3) (show 0 ≤ (vx32).toInt by first | assumption | omega) (show (vx32).toInt ≤ 390 by first | assumption | omega) (show (vx32).toInt < _ by omega)) (fun r39 hr40 => ?_)
        obtain ⟨i41, ⟨u42, u43⟩⟩ := hr40
        have u44 := kp_t u25 u42
        have v45 : q_V r39.2 = q_V δ := (u43).trans v26
        have f46 := ti_b r39.1
        exact ⟨by assumption, ⟨kp_w (by decide) u44, v45⟩⟩
      · have c47 : r18.1.toInt ≠ (0 : Int) := o_ne h30
        unfold J_X0_learn_54
        refine ok_bdv (fun d48 e49 => ?_)
        have i50 : CI ad h.1 δ0 d48 := by rw [e49]; exact cs_0_6 L i20
        have u51 := kp_I u25 e49
        have v52 : q_V d48 = q_V δ := ((show q_V d48 = q_V r18.2 by rw [e49]; rfl)).trans v26
        have v53 : sam ad δ d48 := sam_t v27 (sam_c (show q_I d48 3 1 _ = q_I r18.2 3 1 _ by rw [e49]; exact rI_o (by decide)) (show q_R d48 = q_R r18.2 by rw [e49]; rfl))
        refine ok_bdv (fun d54 e55 => ?_)
        have i56 : CI ad h.1 δ0 d54 := by rw [e55]; exact cs_0_7 L i50
        have u57 := kp_I u51 e55
        have v58 : q_V d54 = q_V δ := ((show q_V d54 = q_V d48 by rw [e55]; rfl)).trans v52
        have v59 : sam ad δ d54 := sam_t v53 (sam_c (show q_I d54 3 1 _ = q_I d48 3 1 _ by rw [e55]; exact rI_o (by decide)) (show q_R d54 = q_R d48 by rw [e55]; rfl))
        unfold J_X0_learn_64
        exact ok_some (show CI ad h.1 δ0 d54 ∧ (kp [(0, 4), (0, 6), (0, 7), (1, 3), (1, 4), (1, 5), (1, 6), (1, 7), (1, 8), (1, 9), (1, 10), (1, 11), (1, 12), (1, 13), (1, 14), (1, 15), (3, 1)] δ d54 ∧ q_V d54 = q_V δ) from ⟨i56, ⟨kp_w (by decide) u57, v58⟩⟩)
set_option maxHeartbeats 4000000 in
theorem k_X0_learn {ad : List Nat} {h : hp} (L : Lay TLx ad h) {δ0 : dp} {N : Nat} (hN : 10000000 ≤ N) {a0 : Nat} {x1 : Int32} (k_a0 : q_K h.1 a0 = 0) {δ : dp} (z0 : 0 ≤ (x1).toInt) (z1 : (x1).toInt ≤ 6) (I : CI ad h.1 δ0 δ) : ok (D_X0_learn N h.1 a0 x1 δ) (fun r => CI ad h.1 δ0 r.2 ∧ (kp [(0, 4), (0, 6), (0, 7), (1, 3), (1, 4), (1, 5), (1, 6), (1, 7), (1, 8), (1, 9), (1, 10), (1, 11), (1, 12), (1, 13), (1, 14), (1, 15), (3, 1)] δ r.2 ∧ q_V r.2 = q_V δ)) := by
  unfold D_X0_learn
  have f1 := ti_b x1
  have f2 := cb_0_4 I k_a0
  refine ok_ite (fun h3 => ?_) (fun h3 => ?_)
  · have c4 : (q_I δ 0 4 a0).toInt = (0 : Int) := o_eq h3
    refine ok_bind (k_X0_setLimits L hN (a0 := a0) k_a0 I) (fun r5 hr6 => ?_)
    obtain ⟨i7, ⟨u8, u9⟩⟩ := hr6
    have u10 := kp_t kp_r u8
    have v11 : q_V r5 = q_V δ := (u9).trans rfl
    unfold J_X0_learn_11
    have f12 := ti_b (q_I r5 0 6 a0)
    have f13 : (q_I r5 0 6 a0).toInt = (q_I δ 0 6 a0).toInt := congrArg Int32.toInt (u8 0 6 a0 (by decide))
    have f14 := ti_b (q_I δ 0 6 a0)
    refine ok_ite (fun h15 => ?_) (fun h15 => ?_)
    · have c16 : (q_I r5 0 6 a0).toInt = x1.toInt := o_eq h15
      unfold J_X0_learn_64
      exact ok_some (show CI ad h.1 δ0 r5 ∧ (kp [(0, 4), (0, 6), (0, 7), (1, 3), (1, 4), (1, 5), (1, 6), (1, 7), (1, 8), (1, 9), (1, 10), (1, 11), (1, 12), (1, 13), (1, 14), (1, 15), (3, 1)] δ r5 ∧ q_V r5 = q_V δ) from ⟨i7, ⟨kp_w (by decide) u10, v11⟩⟩)
    · have c17 : (q_I r5 0 6 a0).toInt ≠ x1.toInt := o_ne h15
      obtain ⟨b18, o19, k20⟩ := gO_0_1 L k_a0
      obtain rfl := gS_0_1 L k_a0 o19
      refine ok_at o19 ?_
      refine ok_bind (k_X3_clear L hN (a0 := (Ad ad 43)) k20 i7) (fun r21 hr22 => ?_)
      obtain ⟨i23, ⟨u25, u26, u27⟩, p24⟩ := hr22
      have u28 := kp_t u10 u25
      have v29 : q_V r21 = q_V δ := (u26).trans v11
      obtain ⟨b30, o31, k32, ⟨n33, n34⟩, w35⟩ := gO_3_0 L k20
      have f36 := cb_3_1 i23 k20 o31
      obtain ⟨b37, o38, k39, n40, w41⟩ := gO_0_3 L k_a0
      refine ok_at o38 ?_
      have t42 := ti_tn x1
      refine ok_gd (fun hc43 => ?_) ?_
      · rcases hc43 with hc43 | hc43
        · have c44 : x1.toInt < (0 : Int) := o_lt hc43
          omega
        · omega
      obtain ⟨b45, o46, k47, n48, w49⟩ := gW_0_3 L k_a0 o38 (i := x1.toNatClampNeg) (by omega)
      refine ok_at o46 ?_
      have ne51 : b45 ≠ Ad ad 44 := w49.ne L (by decide) (by decide)
      have t52 : (0 : Int32).toNatClampNeg = 0 := rfl
      refine ok_gd (fun hc53 => ?_) ?_
      · rcases hc53 with hc53 | hc53
        · have c54 : (0 : Int) < (0 : Int) := o_lt hc53
          omega
        · omega
      have f57 := CI.wR i23 w49 (0 : Int32).toNatClampNeg
      refine ok_biv (fun vx55 e56 => ?_)
      have f58 : vx55.toInt = (q_R r21 b45 (0 : Int32).toNatClampNeg).toInt := congrArg Int32.toInt e56
      refine ok_mono (kl_X0_learn_35 L hN   k_a0 _ vx55 r21 i23 (show 0 ≤ (x1).toInt by first | assumption | omega) (show 0 ≤ (q_I r21 3 1 (Ad ad 43)).toInt by first | assumption | omega) (show (q_I r21 3 1 (Ad ad 43)).toInt + (x1).toInt ≤ 6 by first | assumption | omega) (srt_0 (by omega)) (show 0 ≤ (vx55).toInt by first | assumption | omega) (show (vx55).toInt ≤ 390 by first | assumption | omega) (show (vx55).toInt < _ by omega)) (fun r59 hr60 => ?_)
      obtain ⟨i61, ⟨u62, u63⟩⟩ := hr60
      have u64 := kp_t u28 u62
      have v65 : q_V r59.2 = q_V δ := (u63).trans v29
      have f66 := ti_b r59.1
      exact ⟨by assumption, ⟨kp_w (by decide) u64, v65⟩⟩
  · have c67 : (q_I δ 0 4 a0).toInt ≠ (0 : Int) := o_ne h3
    unfold J_X0_learn_11
    have f68 := ti_b (q_I δ 0 6 a0)
    refine ok_ite (fun h69 => ?_) (fun h69 => ?_)
    · have c70 : (q_I δ 0 6 a0).toInt = x1.toInt := o_eq h69
      unfold J_X0_learn_64
      exact ok_some (show CI ad h.1 δ0 δ ∧ (kp [(0, 4), (0, 6), (0, 7), (1, 3), (1, 4), (1, 5), (1, 6), (1, 7), (1, 8), (1, 9), (1, 10), (1, 11), (1, 12), (1, 13), (1, 14), (1, 15), (3, 1)] δ δ ∧ q_V δ = q_V δ) from ⟨I, ⟨kp_w (by decide) kp_r, rfl⟩⟩)
    · have c71 : (q_I δ 0 6 a0).toInt ≠ x1.toInt := o_ne h69
      obtain ⟨b72, o73, k74⟩ := gO_0_1 L k_a0
      obtain rfl := gS_0_1 L k_a0 o73
      refine ok_at o73 ?_
      refine ok_bind (k_X3_clear L hN (a0 := (Ad ad 43)) k74 I) (fun r75 hr76 => ?_)
      obtain ⟨i77, ⟨u79, u80, u81⟩, p78⟩ := hr76
      have u82 := kp_t kp_r u79
      have v83 : q_V r75 = q_V δ := (u80).trans rfl
      obtain ⟨b84, o85, k86, ⟨n87, n88⟩, w89⟩ := gO_3_0 L k74
      have f90 := cb_3_1 i77 k74 o85
      obtain ⟨b91, o92, k93, n94, w95⟩ := gO_0_3 L k_a0
      refine ok_at o92 ?_
      have t96 := ti_tn x1
      refine ok_gd (fun hc97 => ?_) ?_
      · rcases hc97 with hc97 | hc97
        · have c98 : x1.toInt < (0 : Int) := o_lt hc97
          omega
        · omega
      obtain ⟨b99, o100, k101, n102, w103⟩ := gW_0_3 L k_a0 o92 (i := x1.toNatClampNeg) (by omega)
      refine ok_at o100 ?_
      have ne105 : b99 ≠ Ad ad 44 := w103.ne L (by decide) (by decide)
      have t106 : (0 : Int32).toNatClampNeg = 0 := rfl
      refine ok_gd (fun hc107 => ?_) ?_
      · rcases hc107 with hc107 | hc107
        · have c108 : (0 : Int) < (0 : Int) := o_lt hc107
          omega
        · omega
      have f111 := CI.wR i77 w103 (0 : Int32).toNatClampNeg
      refine ok_biv (fun vx109 e110 => ?_)
      have f112 : vx109.toInt = (q_R r75 b99 (0 : Int32).toNatClampNeg).toInt := congrArg Int32.toInt e110
      refine ok_mono (kl_X0_learn_35 L hN   k_a0 _ vx109 r75 i77 (show 0 ≤ (x1).toInt by first | assumption | omega) (show 0 ≤ (q_I r75 3 1 (Ad ad 43)).toInt by first | assumption | omega) (show (q_I r75 3 1 (Ad ad 43)).toInt + (x1).toInt ≤ 6 by first | assumption | omega) (srt_0 (by omega)) (show 0 ≤ (vx109).toInt by first | assumption | omega) (show (vx109).toInt ≤ 390 by first | assumption | omega) (show (vx109).toInt < _ by omega)) (fun r113 hr114 => ?_)
      obtain ⟨i115, ⟨u116, u117⟩⟩ := hr114
      have u118 := kp_t u82 u116
      have v119 : q_V r113.2 = q_V δ := (u117).trans v83
      have f120 := ti_b r113.1
      exact ⟨by assumption, ⟨kp_w (by decide) u118, v119⟩⟩
