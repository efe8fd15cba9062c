def pN : Nat := 9999960 + 40
set_option maxHeartbeats 4000000 in
theorem pure_PH (ad : List Nat) (h : hp) (x m o : Nat) (L : Lay TLf ad h) (hx : ad[0]? = some x) (hm : ad[99]? = some m) (ho : ad[127]? = some o) : ∃ Inv : Nat → dp → Prop, Inv 0 h.2 ∧ ∀ k δ, k < 1 → Inv k δ → ∀ (w : Int32) (a : Nat → Int32), ∃ δ', LwS pN h.1 x m o w a δ δ' ∧ Inv (k + 1) δ' := by
  have L2 : Lay TLx ad h := TLf_eq ▸ L
  obtain rfl := Ad_at hx
  obtain rfl := Ad_at hm
  obtain rfl := Ad_at ho
  refine ⟨fun k δ => k = 0 → δ = h.2, fun _ => rfl, ?_⟩
  intro k δ hk hi w a
  obtain rfl : k = 0 := by omega
  obtain rfl := hi rfl
  suffices H : ∃ δ', LwS pN h.1 (Ad ad 0) (Ad ad 99) (Ad ad 127) w a h.2 δ' from H.elim (fun d hd => ⟨d, hd, fun e => by omega⟩)
  unfold LwS pN
  by_cases w0 : w = 0
  · simp only [if_pos w0]; exact op_0 L2 9999960 (a 1) (a 2) (a 3) (a 4) (a 5)
  simp only [if_neg w0]
  by_cases w1 : w = 1
  · simp only [if_pos w1]; exact op_1 L2 9999960 (a 1)
  simp only [if_neg w1]
  by_cases w2 : w = 2
  · simp only [if_pos w2]; exact op_2 L2 9999960 (a 1)
  simp only [if_neg w2]
  by_cases w3 : w = 3
  · simp only [if_pos w3]; exact op_3 L2 9999960 
  simp only [if_neg w3]
  by_cases w4 : w = 4
  · simp only [if_pos w4]; exact op_4 L2 9999960 (a 1)
  simp only [if_neg w4]
  by_cases w5 : w = 5
  · simp only [if_pos w5]; exact op_5 L2 9999960 (a 1) (a 2)
  simp only [if_neg w5]
  by_cases w6 : w = 6
  · simp only [if_pos w6]; exact op_6 L2 9999960 (a 1) (a 2)
  simp only [if_neg w6]
  by_cases w7 : w = 7
  · simp only [if_pos w7]; exact op_7 L2 9999960 (a 1) (a 2)
  simp only [if_neg w7]
  by_cases w8 : w = 8
  · simp only [if_pos w8]; exact op_8 L2 9999960 (a 1) (a 2)
  simp only [if_neg w8]
  by_cases w9 : w = 9
  · simp only [if_pos w9]; exact op_9 L2 9999960 (a 1) (a 2)
  simp only [if_neg w9]
  by_cases w10 : w = 10
  · simp only [if_pos w10]; exact op_10 L2 9999960 (a 1) (a 2)
  simp only [if_neg w10]
  by_cases w11 : w = 11
  · simp only [if_pos w11]; exact op_11 L2 9999960 (a 1) (a 2)
  simp only [if_neg w11]
  by_cases w12 : w = 12
  · simp only [if_pos w12]; exact op_12 L2 9999960 (a 1) (a 2) (a 3)
  simp only [if_neg w12]
  by_cases w13 : w = 13
  · simp only [if_pos w13]; exact op_13 L2 9999960 (a 1) (a 2) (a 3) (a 4)
  simp only [if_neg w13]
  by_cases w14 : w = 14
  · simp only [if_pos w14]; exact op_14 L2 9999960 (a 1) (a 2)
  simp only [if_neg w14]
  by_cases w15 : w = 15
  · simp only [if_pos w15]; exact op_15 L2 9999960 (a 1)
  simp only [if_neg w15]
  by_cases w16 : w = 16
  · simp only [if_pos w16]; exact op_16 L2 9999960 (a 1) (a 2) (a 3)
  simp only [if_neg w16]
  by_cases w17 : w = 17
  · simp only [if_pos w17]; exact op_17 L2 9999960 (a 1) (a 2) (a 3)
  simp only [if_neg w17]
  by_cases w18 : w = 18
  · simp only [if_pos w18]; exact op_18 L2 9999960 (a 1) (a 2) (a 3)
  simp only [if_neg w18]
  by_cases w19 : w = 19
  · simp only [if_pos w19]; exact op_19 L2 9999960 (a 1) (a 2) (a 3) (a 4)
  simp only [if_neg w19]
  by_cases w20 : w = 20
  · simp only [if_pos w20]; exact op_20 L2 9999960 (a 1) (a 2) (a 3)
  simp only [if_neg w20]
  by_cases w21 : w = 21
  · simp only [if_pos w21]; exact op_21 L2 9999960 (a 1) (a 2)
  simp only [if_neg w21]
  by_cases w22 : w = 22
  · simp only [if_pos w22]; exact op_22 L2 9999960 (a 1) (a 2) (a 3)
  simp only [if_neg w22]
  by_cases w23 : w = 23
  · simp only [if_pos w23]; exact op_23 L2 9999960 (a 1) (a 2)
  simp only [if_neg w23]
  by_cases w24 : w = 24
  · simp only [if_pos w24]; exact op_24 L2 9999960 (a 1) (a 2) (a 3) (a 4)
  simp only [if_neg w24]
  by_cases w25 : w = 25
  · simp only [if_pos w25]; exact op_25 L2 9999960 (a 1)
  simp only [if_neg w25]
  by_cases w26 : w = 26
  · simp only [if_pos w26]; exact op_26 L2 9999960 (a 1)
  simp only [if_neg w26]
  by_cases w27 : w = 27
  · simp only [if_pos w27]; exact op_27 L2 9999960 (a 1) (a 2)
  simp only [if_neg w27]
  by_cases w28 : w = 28
  · simp only [if_pos w28]; exact op_28 L2 9999960 (a 1) (a 2) (a 3)
  simp only [if_neg w28]
  by_cases w29 : w = 29
  · simp only [if_pos w29]; exact op_29 L2 9999960 (a 1) (a 2)
  simp only [if_neg w29]
  by_cases w30 : w = 30
  · simp only [if_pos w30]; exact op_30 L2 9999960 (a 1) (a 2) (a 3) (a 4) (a 5)
  simp only [if_neg w30]
  by_cases w31 : w = 31
  · simp only [if_pos w31]; exact op_31 L2 9999960 (by decide) 
  simp only [if_neg w31]
  by_cases w32 : w = 32
  · simp only [if_pos w32]; exact op_32 L2 9999960 
  simp only [if_neg w32]
  by_cases w33 : w = 33
  · simp only [if_pos w33]; exact op_33 L2 9999960 (a 1)
  simp only [if_neg w33]
  by_cases w34 : w = 34
  · simp only [if_pos w34]; exact op_34 L2 9999960 (a 1)
  simp only [if_neg w34]
  exact ⟨h.2, rfl⟩
