/-! 58.kX8 (by gen_safe.py) -/
set_option maxHeartbeats 4000000 in
theorem k_X8_clear {ad : List Nat} {h : hp} (L : Lay TLx ad h) {δ0 : dp} {N : Nat} (hN : 10000000 ≤ N) {a0 : Nat} (k_a0 : q_K h.1 a0 = 8) {δ : dp} (I : CI ad h.1 δ0 δ) : ok (D_X8_clear N h.1 a0 δ) (fun r => CI ad h.1 δ0 r ∧ (kp [(8, 2), (8, 3)] δ r ∧ q_V r = q_V δ) ∧ (q_I r 8 2 a0).toInt = 0) := by
  unfold D_X8_clear
  have f4 := cb_8_2 I k_a0
  refine ok_bdv (fun d1 e2 => ?_)
  have i3 : CI ad h.1 δ0 d1 := by rw [e2]; exact cs_8_2 L I k_a0 (show 0 ≤ (0 : Int) by omega) (show (0 : Int) ≤ (q_I δ 8 2 a0).toInt by omega)
  have u5 := kp_I kp_r e2
  have v6 : q_V d1 = q_V δ := (show q_V d1 = q_V δ by rw [e2]; rfl).trans rfl
  refine ok_bdv (fun d7 e8 => ?_)
  have i9 : CI ad h.1 δ0 d7 := by rw [e8]; exact cs_8_3 L i3 k_a0 (show 0 ≤ (0 : Int) by omega) (show (0 : Int) ≤ 1 by omega)
  have u10 := kp_I u5 e8
  have v11 : q_V d7 = q_V δ := (show q_V d7 = q_V d1 by rw [e8]; rfl).trans v6
  have f12 := cb_8_2 i9 k_a0
  have f13 : (q_I d7 8 2 a0).toInt = (q_I d1 8 2 a0).toInt := congrArg Int32.toInt (by rw [e8]; exact rI_o (by decide))
  have f14 := cb_8_2 i3 k_a0
  have f15 : (q_I d1 8 2 a0).toInt = (0 : Int) := congrArg Int32.toInt (show q_I d1 8 2 a0 = (0 : Int32) by rw [e2]; exact rI_s)
  exact ok_some (show CI ad h.1 δ0 d7 ∧ (kp [(8, 2), (8, 3)] δ d7 ∧ q_V d7 = q_V δ) ∧ (q_I d7 8 2 a0).toInt = 0 from ⟨i9, ⟨kp_w (by decide) u10, v11⟩, by first | assumption | omega⟩)
