/-! a sum worked out, from its codes -/
theorem k_X12_worked {ad : List Nat} {h : hp} (L : Lay TLx ad h) {δ0 : dp} {N : Nat} (hN : 10000000 ≤ N) {a0 : Nat} {x1 : Int32} {x2 : Int32} {x3 : Int32} (k_a0 : q_K h.1 a0 = 12) {δ : dp} (z0 : 0 ≤ (x1).toInt) (z1 : (x1).toInt ≤ 3) (z2 : 0 ≤ (x2).toInt) (z3 : (x2).toInt ≤ (x3).toInt) (z4 : (x3).toInt ≤ 2000) (z5 : (x3).toInt ≤ (x2).toInt + 500) (z6 : 0 ≤ (q_I δ 12 58 a0).toInt) (z7 : (q_I δ 12 58 a0).toInt ≤ 4) (z8 : rn (q_R δ (Ad ad 116)) ((x3).toInt.toNat - (x2).toInt.toNat) (x2).toInt.toNat 0 = some 1) (I : RI ad h.1 δ0 δ) : ok (D_X12_worked N h.1 a0 x1 x2 x3 δ) (fun r => RI ad h.1 δ0 r.2 ∧ (kp [(12, 49)] δ r.2 ∧ q_V r.2 = q_V δ ∧ kr ad [118] δ r.2)) := by
  unfold D_X12_worked
  refine ok_mono (fl_worked L hN (H := x1.toInt.toNat) (f := x2.toInt.toNat) (e := x3.toInt.toNat) k_a0 (by omega) (by omega) (by omega) (by omega) (by omega) N x2.toInt.toNat 0 0 x2 δ rfl (by omega) (Nat.le_refl _) (by omega) (by omega) I z6 z7 rfl ⟨1, z8⟩ (by omega)) (fun r hr => ?_)
  exact ⟨hr.1, hr.2.1, congrArg Prod.fst (hr.1.2.2.2.2.trans I.2.2.2.2.symm), hr.2.2⟩
theorem an_le {a b : Int32} (h : 0 ≤ b.toInt) : 0 ≤ (a &&& b).toInt ∧ (a &&& b).toInt ≤ b.toInt := by
  have e := un_and a b
  have l : un (a &&& b) ≤ un b := by rw [e]; exact Nat.and_le_right
  have hb := un_i h
  have tb := ti_b b
  have t := un_o (a := a &&& b) (by omega)
  omega
