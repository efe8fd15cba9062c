set_option maxHeartbeats 4000000 in
theorem k_X9_read {ad : List Nat} {h : hp} (L : Lay TLx ad h) {δ0 : dp} {N : Nat} (hN : 10000000 ≤ N) {a0 : Nat} {a1 : Nat} {a2 : Nat} (k_a0 : q_K h.1 a0 = 9) (k_a1 : q_K h.1 a1 = 7) (k_a2 : q_K h.1 a2 = 8) {δ : dp} (I : CI ad h.1 δ0 δ) : ok (D_X9_read N h.1 a0 a1 a2 δ) (fun r => CI ad h.1 δ0 r ∧ (kp [(7, 3), (7, 4), (7, 5), (7, 6), (8, 2), (8, 3), (9, 2), (9, 3), (9, 4)] δ r)) := by
  unfold D_X9_read
  refine ok_bdv (fun d1 e1 => ?_)
  refine ok_bdv (fun d3 e3 => ?_)
  have v0 : q_V d3 9 0 a0 = some a1 := by
    rw [e3, e1]
    simp [q_V, s_V, va_up]
  have v1 : q_V d3 9 1 a0 = some a2 := by
    rw [e3]
    simp [q_V, s_V, va_up]
  have i1 : CI ad h.1 δ0 d1 := by rw [e1]; exact CI.sV I
  have i3 : CI ad h.1 δ0 d3 := by rw [e3]; exact CI.sV i1
  have u3 := kp_N (kp_N (W := []) (δ := δ) kp_r (show q_I d1 = q_I δ by rw [e1]; rfl)) (show q_I d3 = q_I d1 by rw [e3]; rfl)
  refine ok_at v1 ?_
  refine ok_gp k_a2 ?_
  refine ok_bind (k_X8_clear L hN (a0 := a2) k_a2 i3) (fun r hr => ?_)
  obtain ⟨i8, ⟨u8, v8, w8⟩, p8⟩ := hr
  refine ok_bdv (fun d9 e9 => ?_)
  have i9 : CI ad h.1 δ0 d9 := by rw [e9]; exact cs_9_2 L i8
  refine ok_bdv (fun d11 e11 => ?_)
  have i11 : CI ad h.1 δ0 d11 := by rw [e11]; exact cs_9_3 L i9
  refine ok_bdv (fun d13 e13 => ?_)
  have i13 : CI ad h.1 δ0 d13 := by rw [e13]; exact cs_9_4 L i11 k_a0 (by decide) (by decide)
  have u13 := kp_I (kp_I (kp_I (kp_t u3 u8) e9) e11) e13
  have v13 : q_V d13 = q_V d3 := by
    rw [← v8, e13, e11, e9]
    rfl
  have z4 : (q_I d13 9 4 a0).toInt = 0 := by
    rw [e13, rI_s]
    rfl
  have e0 : (0 : Int32).toInt = 0 := rfl
  have ls : LSn ad d13 a2 (q_I d13 9 4 a0).toInt := ⟨fun i hi => by omega, fun i j hij hj => by omega⟩
  refine ok_mono (kl_X9_read_34 L hN (tp := a1) (th := a2) (a1 := a1) (a2 := a2) k_a0 N 0 d13 i13 (by omega) (by omega) (by rw [v13]; exact v0) (by rw [v13]; exact v1) k_a1 k_a2 ls (by omega)) (fun r2 hr2 => ?_)
  exact ⟨hr2.1, kp_w (by decide) (kp_t u13 hr2.2.1)⟩
