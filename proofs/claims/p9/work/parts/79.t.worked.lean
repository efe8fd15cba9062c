/-! a sum is worked out: the stack never runs empty -/
set_option maxHeartbeats 4000000 in
theorem fl_worked {ad : List Nat} {h : hp} (L : Lay TLx ad h) {δ0 : dp} {N : Nat} (hNN : 10000000 ≤ N) {a0 H f e : Nat} {x1 x2 x3 : Int32} (ka : q_K h.1 a0 = 12) (hx : x1.toInt = (H : Int)) (hh : H < 4) (h3 : x3.toInt = (e : Int)) (he : e ≤ 2000) (hfe : e ≤ f + 500) {ρ : Nat → Int32} : ∀ (n k s : Nat) (x4 x5 : Int32) (δ : dp), x4.toInt = (s : Int) → x5.toInt = (k : Int) → f ≤ k → k ≤ e → s + f ≤ k → RI ad h.1 δ0 δ → 0 ≤ (q_I δ 12 58 a0).toInt → (q_I δ 12 58 a0).toInt ≤ 4 → q_R δ (Ad ad 116) = ρ → (∃ m, rn ρ (e - k) k s = some m) → e - k < n → ok (L_X12_worked_6 N h.1 a0 x1 x2 x3 n x4 x5 δ) (fun r => RI ad h.1 δ0 r.2 ∧ kp [(12, 49)] δ r.2 ∧ kr ad [118] δ r.2) := by
  have e0 : (0 : Int32).toInt = 0 := rfl
  have tn := tnH hx
  obtain ⟨b1, o1, _, n1, _⟩ := gO_12_32 L ka
  obtain rfl := gS_12_32 L ka o1
  obtain ⟨b2, o2, _, n2, _⟩ := gO_12_33 L ka
  obtain rfl := gS_12_33 L ka o2
  obtain ⟨b3, o3, _, n3, w3⟩ := gO_12_34 L ka
  obtain rfl := gS_12_34 L ka o3
  obtain ⟨b4, o4, _, n4⟩ := gO_12_14 L ka
  obtain rfl := gS_12_14 L ka o4
  obtain ⟨b5, o5, _, n5, _⟩ := gO_12_57 L ka
  obtain rfl := gS_12_57 L ka o5
  intro n
  induction n with
  | zero => intro k s x4 x5 δ h4 h5 g1 g2 g3 I l1 l2 hr hm hn; exfalso; omega
  | succ n ih =>
    intro k s x4 x5 δ h4 h5 g1 g2 g3 I l1 l2 hr hm hn
    have t4 := ti_tn x4
    have t5 := ti_tn x5
    unfold L_X12_worked_6
    refine ok_ite (fun _ => ?_) (fun c => ?_)
    · refine ok_at o3 ?_
      refine ok_gd (fun z => ?_) ?_
      · rcases z with z | z
        · exact absurd z (by decide)
        · rw [n3] at z
          exact absurd z (by decide)
      exact ok_some ⟨I, kp_w (by decide) kp_r, kr_w (by decide) kr_r⟩
    · have c1 := o_nle c
      have k5 : x5.toNatClampNeg = k := by omega
      obtain ⟨m, hm⟩ := hm
      rw [show e - k = (e - (k + 1)) + 1 by omega] at hm
      -- a value is laid on
      have go : ∀ (y4 v : Int32) (s1 : Nat) (d : dp), RI ad h.1 δ0 d → kp [(12, 49)] δ d → kr ad [] δ d → y4.toInt = (s1 : Int) → s1 + f ≤ k → (∃ m, rn ρ (e - (k + 1)) (k + 1) (s1 + 1) = some m) → ok (J_X12_worked_316 N h.1 a0 x1 x2 x3 (L_X12_worked_6 N h.1 a0 x1 x2 x3 n) y4 x5 v d) (fun r => RI ad h.1 δ0 r.2 ∧ kp [(12, 49)] δ r.2 ∧ kr ad [118] δ r.2) := fun y4 v s1 d Id u w hy hs hq => by
        unfold J_X12_worked_316
        have ty := ti_tn y4
        refine ok_at o3 ?_
        refine ok_gd (fun z => ?_) ?_
        · rcases z with z | z
          · have := o_lt z; omega
          · omega
        refine ok_bdv (fun d1 e1 => ?_)
        have i1 : RI ad h.1 δ0 d1 := by rw [e1]; exact RI.sR L Id w3
        have u1 := kp_N u (show q_I d1 = q_I d by rw [e1]; rfl)
        have w1 := kr_s L (by decide) w e1
        refine ok_biv (fun z4 ez => ?_)
        refine ok_biv (fun z5 ez5 => ?_)
        have a4 : z4.toInt = y4.toInt + 1 := by rw [ez]; exact (te_addc (c := 1) (n := 1) rfl y4 (by omega) (by omega)).1
        have a5 : z5.toInt = x5.toInt + 1 := by rw [ez5]; exact (te_addc (c := 1) (n := 1) rfl x5 (by omega) (by omega)).1
        have el : q_I d1 12 58 a0 = q_I δ 12 58 a0 := u1 12 58 a0 (by decide)
        have er : q_R d1 (Ad ad 116) = ρ := by rw [w1 116 (by decide) (by decide) (by decide)]; exact hr
        refine ok_mono (ih (k + 1) (s1 + 1) z4 z5 d1 (by omega) (by omega) (by omega) (by omega) (by omega) i1 (by rw [el]; exact l1) (by rw [el]; exact l2) er hq (by omega)) (fun r hr2 => ?_)
        exact ⟨hr2.1, kp_w (by decide) (kp_t u1 hr2.2.1), kr_w (by decide) (kr_t w1 hr2.2.2)⟩
      refine ok_at o1 ?_
      refine ok_gd (fun z => ?_) ?_
      · rcases z with z | z
        · have := o_lt z; omega
        · omega
      rw [k5]
      refine ok_biv (fun w ew => ?_)
      have hw : w = ρ k := by rw [ew, hr]
      have lay : 0 ≤ w.toInt → w.toInt ≤ 5 → ∃ m, rn ρ (e - (k + 1)) (k + 1) (s + 1) = some m := fun a b => by
        refine ⟨m, ?_⟩
        rw [← hm]
        show _ = if 0 ≤ (ρ k).toInt ∧ (ρ k).toInt ≤ 5 then _ else _
        rw [← hw, if_pos ⟨a, b⟩]
      have op : ¬ (0 ≤ w.toInt ∧ w.toInt ≤ 5) → 2 ≤ s ∧ ∃ m, rn ρ (e - (k + 1)) (k + 1) (s - 1) = some m := fun a => by
        have hm2 : (if 0 ≤ (ρ k).toInt ∧ (ρ k).toInt ≤ 5 then rn ρ (e - (k + 1)) (k + 1) (s + 1) else if 2 ≤ s then rn ρ (e - (k + 1)) (k + 1) (s - 1) else none) = some m := hm
        rw [← hw, if_neg a] at hm2
        by_cases c2 : 2 ≤ s
        · rw [if_pos c2] at hm2; exact ⟨c2, m, hm2⟩
        · rw [if_neg c2] at hm2; exact absurd hm2 (by simp)
      have v1 : (1 : Int32).toInt = 1 := rfl
      have v2 : (2 : Int32).toInt = 2 := rfl
      have v3 : (3 : Int32).toInt = 3 := rfl
      have v4 : (4 : Int32).toInt = 4 := rfl
      have v5 : (5 : Int32).toInt = 5 := rfl
      have go0 : ∀ (v : Int32), 0 ≤ w.toInt → w.toInt ≤ 5 → ok (J_X12_worked_316 N h.1 a0 x1 x2 x3 (L_X12_worked_6 N h.1 a0 x1 x2 x3 n) x4 x5 v δ) (fun r => RI ad h.1 δ0 r.2 ∧ kp [(12, 49)] δ r.2 ∧ kr ad [118] δ r.2) := fun v a b => go x4 v s δ I (kp_w (by decide) kp_r) kr_r h4 g3 (lay a b)
      refine ok_ite (fun c0 => ?_) (fun c0 => ?_)
      · have d0 := o_eq c0
        refine ok_at o2 ?_
        refine ok_gd (fun z => ?_) ?_
        · rcases z with z | z
          · have := o_lt z; omega
          · omega
        exact ok_biv (fun y _ => go0 y (by omega) (by omega))
      have d0 := o_ne c0
      refine ok_ite (fun c2 => ?_) (fun c2 => ?_)
      · have d2 := o_eq c2
        refine ok_ite (fun _ => ?_) (fun c3 => ?_)
        · unfold J_X12_worked_94; exact go0 _ (by omega) (by omega)
        · have d3 := o_nle c3
          have t6 := te_subc (c := 1) (n := 1) rfl (q_I δ 12 58 a0) (by omega) (by omega)
          have t7 := ti_tn (q_I δ 12 58 a0 - 1)
          refine ok_at o5 ?_
          refine ok_gd (fun z => ?_) ?_
          · rcases z with z | z
            · have := o_lt z; omega
            · omega
          unfold J_X12_worked_94; exact go0 _ (by omega) (by omega)
      have d2 := o_ne c2
      refine ok_ite (fun c4 => ?_) (fun c4 => ?_)
      · have d4 := o_eq c4
        refine ok_ite (fun _ => ?_) (fun c3 => ?_)
        · unfold J_X12_worked_122; exact go0 _ (by omega) (by omega)
        · have d3 := o_nle c3
          have t6 := te_subc (c := 2) (n := 2) rfl (q_I δ 12 58 a0) (by omega) (by omega)
          have t7 := ti_tn (q_I δ 12 58 a0 - 2)
          refine ok_at o5 ?_
          refine ok_gd (fun z => ?_) ?_
          · rcases z with z | z
            · have := o_lt z; omega
            · omega
          unfold J_X12_worked_122; exact go0 _ (by omega) (by omega)
      have d4 := o_ne c4
      refine ok_ite (fun c6 => ?_) (fun c6 => ?_)
      · have d6 := o_eq c6
        exact ok_biv (fun y _ => go0 y (by omega) (by omega))
      have d6 := o_ne c6
      refine ok_ite (fun c7 => ?_) (fun c7 => ?_)
      · have d7 := o_eq c7
        refine ok_at o4 ?_
        refine ok_gd (fun z => ?_) ?_
        · rcases z with z | z
          · have := o_lt z; omega
          · omega
        exact ok_biv (fun y _ => go0 y (by omega) (by omega))
      have d7 := o_ne c7
      refine ok_ite (fun c8 => ?_) (fun c8 => ?_)
      · have d8 := o_eq c8
        refine ok_bdv (fun d9 e9 => ?_)
        have i9 : RI ad h.1 δ0 d9 := by rw [e9]; exact cs_12_49 L I
        have u9 := kp_I kp_r e9
        have w9 := kr_N (ad := ad) (W := []) (δ := δ) kr_r (show q_R d9 = q_R δ by rw [e9]; rfl)
        have ab := all_b ka i9
        rw [e_all, Option.bind_some]
        refine ok_gd (fun z => ?_) ?_
        · have z2 : (1 : Int32) <<< ((q_I d9 12 10 a0) &&& 31) = 0 := z
          have := o_eq z2
          omega
        exact ok_biv (fun y _ => go x4 y s d9 i9 (kp_w (by decide) u9) w9 h4 g3 (lay (by omega) (by omega)))
      have d8 := o_ne c8
      obtain ⟨s2, hq⟩ := op (by omega)
      refine ok_biv (fun y ey => ?_)
      have hy : y.toInt = x4.toInt + -2 := by rw [ey]; exact (te_addc (c := -2) (n := -2) (by decide) x4 (by omega) (by omega)).1
      have ty := ti_tn y
      have t8 := te_addc (c := 1) (n := 1) rfl y (by omega) (by omega)
      have t9 := ti_tn (y + 1)
      have g0 : ¬ (y < 0 ∨ q_N h.1 (Ad ad 118) ≤ y.toNatClampNeg) := fun z => by
        rcases z with z | z
        · have := o_lt z; omega
        · omega
      have g9 : ¬ ((y + (1 : Int32)) < 0 ∨ q_N h.1 (Ad ad 118) ≤ (y + (1 : Int32)).toNatClampNeg) := fun z => by
        rcases z with z | z
        · have := o_lt z; omega
        · omega
      have hq2 : ∃ m, rn ρ (e - (k + 1)) (k + 1) ((s - 2) + 1) = some m := by rw [show s - 2 + 1 = s - 1 by omega]; exact hq
      have go2 : ∀ v : Int32, ok (J_X12_worked_314 N h.1 a0 x1 x2 x3 (L_X12_worked_6 N h.1 a0 x1 x2 x3 n) v y x5 δ) (fun r => RI ad h.1 δ0 r.2 ∧ kp [(12, 49)] δ r.2 ∧ kr ad [118] δ r.2) := fun v => by
        unfold J_X12_worked_314
        exact go y v (s - 2) δ I (kp_w (by decide) kp_r) kr_r (by omega) (by omega) hq2
      have go3 : ok (J_X12_worked_293 N h.1 a0 x1 x2 x3 (L_X12_worked_6 N h.1 a0 x1 x2 x3 n) y x5 δ) (fun r => RI ad h.1 δ0 r.2 ∧ kp [(12, 49)] δ r.2 ∧ kr ad [118] δ r.2) := by
        unfold J_X12_worked_293
        exact go2 0
      refine ok_ite (fun _ => ok_at o3 (ok_gd g0 (ok_at o3 (ok_gd g9 (go2 _))))) (fun _ => ?_)
      refine ok_ite (fun _ => ok_at o3 (ok_gd g0 (ok_at o3 (ok_gd g9 (go2 _))))) (fun _ => ?_)
      refine ok_ite (fun _ => ok_at o3 (ok_gd g0 (ok_at o3 (ok_gd g9 (go2 _))))) (fun _ => ?_)
      refine ok_at o3 (ok_gd g9 ?_)
      refine ok_ite (fun _ => go3) (fun cz => ?_)
      refine ok_at o3 (ok_gd g9 ?_)
      refine ok_ite (fun _ => go3) (fun _ => ?_)
      exact ok_at o3 (ok_gd g0 (ok_at o3 (ok_gd g9 (ok_gd cz (go2 _)))))
