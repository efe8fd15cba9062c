set_option maxHeartbeats 4000000 in
theorem k_bX0_findBehind {ad : List Nat} {h : hp} (L : Lay TLx ad h) {δ0 : dp} {N : Nat} (hN : 10000000 ≤ N) {T : Nat → Int32 → Int32 → dp → Option (Int32 × dp)} {K : Int} (hT : ∀ (a0 : Nat) (x1 : Int32) (x2 : Int32) (δ : dp), q_K h.1 a0 = 0 → 0 ≤ (x1).toInt → 0 ≤ (q_I δ 3 1 (Ad ad 43)).toInt → (q_I δ 3 1 (Ad ad 43)).toInt + (x1).toInt ≤ 6 → srt δ (Ad ad 43) (Ad ad 44) → (x1).toInt < K → CI ad h.1 δ0 δ → ok (T a0 x1 x2 δ) (fun r => CI ad h.1 δ0 r.2 ∧ (kp [(1, 3), (1, 4), (1, 5), (1, 6), (1, 7), (1, 8), (1, 9), (1, 10), (1, 11), (1, 12), (1, 13), (1, 14), (1, 15), (3, 1)] δ r.2 ∧ q_V r.2 = q_V δ ∧ sam ad δ r.2) ∧ bo (r.1))) {a0 : Nat} {x1 : Int32} {x2 : Int32} {x3 : Int32} {x4 : Int32} (k_a0 : q_K h.1 a0 = 0) {δ : dp} (z0 : 1 ≤ (x3).toInt) (z1 : 0 ≤ (q_I δ 3 1 (Ad ad 43)).toInt) (z2 : (q_I δ 3 1 (Ad ad 43)).toInt + (x3).toInt ≤ 6) (z3 : srt δ (Ad ad 43) (Ad ad 44)) (z4 : (x3).toInt ≤ K) (I : CI ad h.1 δ0 δ) : ok (B_X0_findBehind N h.1 T a0 x1 x2 x3 x4 δ) (fun r => CI ad h.1 δ0 r.2 ∧ (kp [(1, 3), (1, 4), (1, 5), (1, 6), (1, 7), (1, 8), (1, 9), (1, 10), (1, 11), (1, 12), (1, 13), (1, 14), (1, 15), (3, 1)] δ r.2 ∧ q_V r.2 = q_V δ ∧ sam ad δ r.2) ∧ bo (r.1)) := by
  have e0 : (0 : Int32).toInt = 0 := rfl
  have kS : q_K h.1 (Ad ad 43) = 3 := (lay_knd L (by decide)).trans (by decide)
  obtain ⟨b1, o1, kb1⟩ := gO_0_2 L k_a0
  obtain ⟨s1, os, ks⟩ := gO_0_1 L k_a0
  obtain rfl := gS_0_1 L k_a0 os
  have tx := ti_b x3
  have tq := te_subc (c := 1) (n := 1) rfl x3 (by omega) (by omega)
  unfold B_X0_findBehind
  refine ok_at o1 ?_
  obtain ⟨nu, onu, knu⟩ := gO_1_1 L kb1
  refine ok_bind (k_X1_touchesOf L hN (a0 := b1) (x1 := x1) (x2 := x2) kb1 onu knu I) (fun r hr => ?_)
  obtain ⟨i1, ⟨u1, v1, w1⟩⟩ := hr
  have M1 : sam ad δ r.2 := sam_c (u1 3 1 _ (by decide)) w1
  have S1 := srt_s M1 z3
  have m1 : (q_I r.2 3 1 (Ad ad 43)).toInt = (q_I δ 3 1 (Ad ad 43)).toInt := congrArg Int32.toInt M1.1
  have plain : ok (J_X0_findBehind_53 N h.1 T a0 x1 x2 x3 x4 r.1 0 r.2) (fun r => CI ad h.1 δ0 r.2 ∧ (kp [(1, 3), (1, 4), (1, 5), (1, 6), (1, 7), (1, 8), (1, 9), (1, 10), (1, 11), (1, 12), (1, 13), (1, 14), (1, 15), (3, 1)] δ r.2 ∧ q_V r.2 = q_V δ ∧ sam ad δ r.2) ∧ bo (r.1)) := by
    unfold J_X0_findBehind_53 J_X0_findBehind_54
    refine ok_bind (hT a0 (x3 - 1) (x4 - r.1) r.2 k_a0 (by omega) (by omega) (by omega) S1 (by omega) i1) (fun r3 hr3 => ?_)
    obtain ⟨i3, ⟨u3, v3, M3⟩, b3⟩ := hr3
    refine ok_ite (fun _ => ?_) (fun c3 => absurd rfl c3)
    unfold J_X0_findBehind_84
    refine ok_ite (fun _ => ?_) (fun c3 => absurd rfl c3)
    unfold J_X0_findBehind_98
    refine ok_gp b3 ?_
    exact ok_some ⟨i3, ⟨kp_w (by decide) (kp_t u1 u3), v3.trans v1, sam_t M1 M3⟩, b3⟩
  have rest : ok (J_X0_findBehind_30 N h.1 T a0 x1 x2 x3 x4 r.1 r.2) (fun r => CI ad h.1 δ0 r.2 ∧ (kp [(1, 3), (1, 4), (1, 5), (1, 6), (1, 7), (1, 8), (1, 9), (1, 10), (1, 11), (1, 12), (1, 13), (1, 14), (1, 15), (3, 1)] δ r.2 ∧ q_V r.2 = q_V δ ∧ sam ad δ r.2) ∧ bo (r.1)) := by
    unfold J_X0_findBehind_30 J_X0_findBehind_31
    refine ok_ite (fun c => ?_) (fun c => ?_)
    · refine ok_at os ?_
      refine ok_bind (ok_and (k_X3_remove L hN (a0 := Ad ad 43) (x1 := x2) kS i1) (f_remove L hN (x := x2) kS (fO_43_0 L) i1 S1)) (fun r2 hr2 => ?_)
      obtain ⟨⟨i2, ⟨u2, v2⟩, _⟩, hf⟩ := hr2
      rcases hf with ⟨e2, e3, _⟩ | ⟨e2, p, P, lt, ex, D⟩
      · rw [e2, e3]
        refine ok_ite (fun _ => ?_) (fun c2 => absurd rfl c2)
        exact plain
      · rw [e2]
        refine ok_ite (fun c2 => absurd c2 (by decide)) (fun _ => ?_)
        unfold J_X0_findBehind_54
        refine ok_bind (hT a0 (x3 - 1) (x4 - r.1) r2.2 k_a0 (by omega) (by rw [D.1]; omega) (by rw [D.1]; omega) (del_srt S1 D) (by omega) i2) (fun r3 hr3 => ?_)
        obtain ⟨i3, ⟨u3, v3, M3⟩, b3⟩ := hr3
        refine ok_ite (fun _ => ?_) (fun c3 => absurd rfl c3)
        unfold J_X0_findBehind_84
        refine ok_ite (fun c3 => absurd c3 (by decide)) (fun _ => ?_)
        refine ok_at os ?_
        refine ok_bind (ok_and (k_X3_add L hN (a0 := Ad ad 43) (x1 := x2) kS i3) (undo_remove L hN i1 i3 S1 P lt ex D M3)) (fun r4 hr4 => ?_)
        obtain ⟨⟨i4, ⟨u4, v4⟩, _⟩, M4⟩ := hr4
        unfold J_X0_findBehind_98
        refine ok_gp b3 ?_
        exact ok_some ⟨i4, ⟨kp_w (by decide) (kp_t (kp_t (kp_t u1 u2) u3) u4), v4.trans (v3.trans (v2.trans v1)), sam_t M1 M4⟩, b3⟩
    · exact plain
  refine ok_ite (fun c => ?_) (fun c => ?_)
  · refine ok_at os ?_
    refine ok_bind (ok_and (k_X3_add L hN (a0 := Ad ad 43) (x1 := x2) kS i1) (f_add L hN (x := x2) kS (fO_43_0 L) i1 S1)) (fun r2 hr2 => ?_)
    obtain ⟨⟨i2, ⟨u2, v2⟩, _⟩, hf⟩ := hr2
    rcases hf with ⟨e2, e3, _⟩ | ⟨e2, p, P, ne, D⟩
    · rw [e2, e3]
      refine ok_ite (fun _ => ?_) (fun c2 => absurd rfl c2)
      exact rest
    · rw [e2]
      refine ok_ite (fun c2 => absurd c2 (by decide)) (fun _ => ?_)
      unfold J_X0_findBehind_31
      refine ok_ite (fun c3 => ?_) (fun c3 => ?_)
      · exact absurd (c.symm.trans c3) (by decide)
      unfold J_X0_findBehind_53 J_X0_findBehind_54
      refine ok_bind (hT a0 (x3 - 1) (x4 - r.1) r2.2 k_a0 (by omega) (by rw [D.1]; omega) (by rw [D.1]; omega) (ins_srt S1 P ne D) (by omega) i2) (fun r3 hr3 => ?_)
      obtain ⟨i3, ⟨u3, v3, M3⟩, b3⟩ := hr3
      refine ok_ite (fun c3 => absurd c3 (by decide)) (fun _ => ?_)
      refine ok_at os ?_
      refine ok_bind (ok_and (k_X3_remove L hN (a0 := Ad ad 43) (x1 := x2) kS i3) (undo_add L hN i3 S1 P ne D M3)) (fun r4 hr4 => ?_)
      obtain ⟨⟨i4, ⟨u4, v4⟩, _⟩, M4⟩ := hr4
      unfold J_X0_findBehind_84
      refine ok_ite (fun _ => ?_) (fun c3 => absurd rfl c3)
      unfold J_X0_findBehind_98
      refine ok_gp b3 ?_
      exact ok_some ⟨i4, ⟨kp_w (by decide) (kp_t (kp_t (kp_t u1 u2) u3) u4), v4.trans (v3.trans (v2.trans v1)), sam_t M1 M4⟩, b3⟩
  · exact rest
