/-! bounds of fields, one by one (by gen_safe.py) -/
theorem bo_i {v : Int32} (h0 : 0 ≤ v.toInt) (h1 : v.toInt ≤ 1) : v = 0 ∨ v = 1 := by
  rcases (show v.toInt = 0 ∨ v.toInt = 1 by omega) with e | e
  · exact Or.inl (i_eq e)
  · exact Or.inr (i_eq e)
theorem cb_3_1 {ad : List Nat} {g : gp} {δ0 δ : dp} (I : CI ad g δ0 δ) {a b : Nat} (ka : q_K g a = 3) (hb : q_O g 3 0 a = some b) : 0 ≤ (q_I δ 3 1 a).toInt ∧ (q_I δ 3 1 a).toInt ≤ (q_N g b : Int) := by
  have := I.b 1 ka
  simpa [b_I, hb] using this
theorem cs_3_1 {ad : List Nat} {h : hp} (L : Lay TLx ad h) {δ0 δ : dp} (I : CI ad h.1 δ0 δ) {a b : Nat} {v : Int32} (hb : q_O h.1 3 0 a = some b) (h1 : 0 ≤ v.toInt) (h2 : v.toInt ≤ (q_N h.1 b : Int)) : CI ad h.1 δ0 (s_I δ 3 1 a v) := I.sI L (by decide) (by decide) (by simpa [b_I, hb] using h1) (by simpa [b_I, hb] using h2)
theorem cs_8_2 {ad : List Nat} {h : hp} (L : Lay TLx ad h) {δ0 δ : dp} (I : CI ad h.1 δ0 δ) {a : Nat} {v : Int32} (ka : q_K h.1 a = 8) (h1 : 0 ≤ v.toInt) (h2 : v.toInt ≤ (q_I δ 8 2 a).toInt) : CI ad h.1 δ0 (s_I δ 8 2 a v) := by
  have hb := I.b 2 ka
  have eb : b_I h.1 8 2 a = (0, 500) := by simp [b_I]
  rw [eb] at hb
  dsimp only at hb
  refine ⟨fun c' k' a' hk => ?_, fun b i => I.2.1 b i, fun j hj i hi => ?_, fun k' a' => ?_, fun i q1 q2 => I.2.2.2.2 i q1 q2⟩
  · rw [qI_sI]
    by_cases e : c' = 8 ∧ k' = 2 ∧ a' = a
    · rw [if_pos e, e.1, e.2.1, e.2.2, eb]; exact ⟨h1, by omega⟩
    · rw [if_neg e]; exact I.1 c' k' a' hk
  · refine I.2.2.1 j hj i ?_
    rw [qI_sI] at hi
    by_cases e : Ad ad (60 + 3 * j) = a
    · rw [if_pos ⟨rfl, rfl, e⟩] at hi
      rw [e]; omega
    · rw [if_neg (fun z => e z.2.2)] at hi; exact hi
  · rw [rI_o (fun z => absurd z.1 (by decide))]; exact I.2.2.2.1 k' a'
theorem cs_0_4 {ad : List Nat} {h : hp} (L : Lay TLx ad h) {δ0 δ : dp} (I : CI ad h.1 δ0 δ) {a : Nat} {v : Int32} (_ : q_K h.1 a = 0) (h1 : 0 ≤ v.toInt) (h2 : v.toInt ≤ 1) : CI ad h.1 δ0 (s_I δ 0 4 a v) := I.sI L (by decide) (by decide) (by simpa [b_I] using h1) (by simpa [b_I] using h2)
theorem cs_0_6 {ad : List Nat} {h : hp} (L : Lay TLx ad h) {δ0 δ : dp} (I : CI ad h.1 δ0 δ) {a : Nat} {v : Int32} : CI ad h.1 δ0 (s_I δ 0 6 a v) := I.sI L (by decide) (by decide) (by simpa [b_I] using (ti_b v).1) (by simpa [b_I] using (ti_b v).2)
theorem cs_0_7 {ad : List Nat} {h : hp} (L : Lay TLx ad h) {δ0 δ : dp} (I : CI ad h.1 δ0 δ) {a : Nat} {v : Int32} : CI ad h.1 δ0 (s_I δ 0 7 a v) := I.sI L (by decide) (by decide) (by simpa [b_I] using (ti_b v).1) (by simpa [b_I] using (ti_b v).2)
theorem cs_1_3 {ad : List Nat} {h : hp} (L : Lay TLx ad h) {δ0 δ : dp} (I : CI ad h.1 δ0 δ) {a : Nat} {v : Int32} : CI ad h.1 δ0 (s_I δ 1 3 a v) := I.sI L (by decide) (by decide) (by simpa [b_I] using (ti_b v).1) (by simpa [b_I] using (ti_b v).2)
theorem cs_1_4 {ad : List Nat} {h : hp} (L : Lay TLx ad h) {δ0 δ : dp} (I : CI ad h.1 δ0 δ) {a : Nat} {v : Int32} : CI ad h.1 δ0 (s_I δ 1 4 a v) := I.sI L (by decide) (by decide) (by simpa [b_I] using (ti_b v).1) (by simpa [b_I] using (ti_b v).2)
theorem cs_1_5 {ad : List Nat} {h : hp} (L : Lay TLx ad h) {δ0 δ : dp} (I : CI ad h.1 δ0 δ) {a : Nat} {v : Int32} : CI ad h.1 δ0 (s_I δ 1 5 a v) := I.sI L (by decide) (by decide) (by simpa [b_I] using (ti_b v).1) (by simpa [b_I] using (ti_b v).2)
theorem cs_1_6 {ad : List Nat} {h : hp} (L : Lay TLx ad h) {δ0 δ : dp} (I : CI ad h.1 δ0 δ) {a : Nat} {v : Int32} : CI ad h.1 δ0 (s_I δ 1 6 a v) := I.sI L (by decide) (by decide) (by simpa [b_I] using (ti_b v).1) (by simpa [b_I] using (ti_b v).2)
theorem cs_1_7 {ad : List Nat} {h : hp} (L : Lay TLx ad h) {δ0 δ : dp} (I : CI ad h.1 δ0 δ) {a : Nat} {v : Int32} : CI ad h.1 δ0 (s_I δ 1 7 a v) := I.sI L (by decide) (by decide) (by simpa [b_I] using (ti_b v).1) (by simpa [b_I] using (ti_b v).2)
theorem cs_1_8 {ad : List Nat} {h : hp} (L : Lay TLx ad h) {δ0 δ : dp} (I : CI ad h.1 δ0 δ) {a : Nat} {v : Int32} : CI ad h.1 δ0 (s_I δ 1 8 a v) := I.sI L (by decide) (by decide) (by simpa [b_I] using (ti_b v).1) (by simpa [b_I] using (ti_b v).2)
theorem cs_1_9 {ad : List Nat} {h : hp} (L : Lay TLx ad h) {δ0 δ : dp} (I : CI ad h.1 δ0 δ) {a : Nat} {v : Int32} : CI ad h.1 δ0 (s_I δ 1 9 a v) := I.sI L (by decide) (by decide) (by simpa [b_I] using (ti_b v).1) (by simpa [b_I] using (ti_b v).2)
theorem cs_1_10 {ad : List Nat} {h : hp} (L : Lay TLx ad h) {δ0 δ : dp} (I : CI ad h.1 δ0 δ) {a : Nat} {v : Int32} : CI ad h.1 δ0 (s_I δ 1 10 a v) := I.sI L (by decide) (by decide) (by simpa [b_I] using (ti_b v).1) (by simpa [b_I] using (ti_b v).2)
theorem cs_1_11 {ad : List Nat} {h : hp} (L : Lay TLx ad h) {δ0 δ : dp} (I : CI ad h.1 δ0 δ) {a : Nat} {v : Int32} : CI ad h.1 δ0 (s_I δ 1 11 a v) := I.sI L (by decide) (by decide) (by simpa [b_I] using (ti_b v).1) (by simpa [b_I] using (ti_b v).2)
theorem cs_1_12 {ad : List Nat} {h : hp} (L : Lay TLx ad h) {δ0 δ : dp} (I : CI ad h.1 δ0 δ) {a : Nat} {v : Int32} : CI ad h.1 δ0 (s_I δ 1 12 a v) := I.sI L (by decide) (by decide) (by simpa [b_I] using (ti_b v).1) (by simpa [b_I] using (ti_b v).2)
theorem cs_1_13 {ad : List Nat} {h : hp} (L : Lay TLx ad h) {δ0 δ : dp} (I : CI ad h.1 δ0 δ) {a : Nat} {v : Int32} : CI ad h.1 δ0 (s_I δ 1 13 a v) := I.sI L (by decide) (by decide) (by simpa [b_I] using (ti_b v).1) (by simpa [b_I] using (ti_b v).2)
theorem cs_1_14 {ad : List Nat} {h : hp} (L : Lay TLx ad h) {δ0 δ : dp} (I : CI ad h.1 δ0 δ) {a : Nat} {v : Int32} : CI ad h.1 δ0 (s_I δ 1 14 a v) := I.sI L (by decide) (by decide) (by simpa [b_I] using (ti_b v).1) (by simpa [b_I] using (ti_b v).2)
theorem cs_1_15 {ad : List Nat} {h : hp} (L : Lay TLx ad h) {δ0 δ : dp} (I : CI ad h.1 δ0 δ) {a : Nat} {v : Int32} (_ : q_K h.1 a = 1) (h1 : 0 ≤ v.toInt) (h2 : v.toInt ≤ 1) : CI ad h.1 δ0 (s_I δ 1 15 a v) := I.sI L (by decide) (by decide) (by simpa [b_I] using h1) (by simpa [b_I] using h2)
theorem cs_2_4 {ad : List Nat} {h : hp} (L : Lay TLx ad h) {δ0 δ : dp} (I : CI ad h.1 δ0 δ) {a : Nat} {v : Int32} (_ : q_K h.1 a = 2) (h1 : 0 ≤ v.toInt) (h2 : v.toInt ≤ 1000) : CI ad h.1 δ0 (s_I δ 2 4 a v) := I.sI L (by decide) (by decide) (by simpa [b_I] using h1) (by simpa [b_I] using h2)
theorem cs_4_5 {ad : List Nat} {h : hp} (L : Lay TLx ad h) {δ0 δ : dp} (I : CI ad h.1 δ0 δ) {a : Nat} {v : Int32} (_ : q_K h.1 a = 4) (h1 : 0 ≤ v.toInt) (h2 : v.toInt ≤ 32) : CI ad h.1 δ0 (s_I δ 4 5 a v) := I.sI L (by decide) (by decide) (by simpa [b_I] using h1) (by simpa [b_I] using h2)
theorem cs_4_6 {ad : List Nat} {h : hp} (L : Lay TLx ad h) {δ0 δ : dp} (I : CI ad h.1 δ0 δ) {a : Nat} {v : Int32} (_ : q_K h.1 a = 4) (h1 : 0 ≤ v.toInt) (h2 : v.toInt ≤ 500) : CI ad h.1 δ0 (s_I δ 4 6 a v) := I.sI L (by decide) (by decide) (by simpa [b_I] using h1) (by simpa [b_I] using h2)
theorem cs_4_7 {ad : List Nat} {h : hp} (L : Lay TLx ad h) {δ0 δ : dp} (I : CI ad h.1 δ0 δ) {a : Nat} {v : Int32} : CI ad h.1 δ0 (s_I δ 4 7 a v) := I.sI L (by decide) (by decide) (by simpa [b_I] using (ti_b v).1) (by simpa [b_I] using (ti_b v).2)
theorem cs_4_8 {ad : List Nat} {h : hp} (L : Lay TLx ad h) {δ0 δ : dp} (I : CI ad h.1 δ0 δ) {a : Nat} {v : Int32} : CI ad h.1 δ0 (s_I δ 4 8 a v) := I.sI L (by decide) (by decide) (by simpa [b_I] using (ti_b v).1) (by simpa [b_I] using (ti_b v).2)
theorem cs_4_9 {ad : List Nat} {h : hp} (L : Lay TLx ad h) {δ0 δ : dp} (I : CI ad h.1 δ0 δ) {a : Nat} {v : Int32} (_ : q_K h.1 a = 4) (h1 : 0 ≤ v.toInt) (h2 : v.toInt ≤ 1) : CI ad h.1 δ0 (s_I δ 4 9 a v) := I.sI L (by decide) (by decide) (by simpa [b_I] using h1) (by simpa [b_I] using h2)
theorem cs_4_10 {ad : List Nat} {h : hp} (L : Lay TLx ad h) {δ0 δ : dp} (I : CI ad h.1 δ0 δ) {a : Nat} {v : Int32} : CI ad h.1 δ0 (s_I δ 4 10 a v) := I.sI L (by decide) (by decide) (by simpa [b_I] using (ti_b v).1) (by simpa [b_I] using (ti_b v).2)
theorem cs_4_11 {ad : List Nat} {h : hp} (L : Lay TLx ad h) {δ0 δ : dp} (I : CI ad h.1 δ0 δ) {a : Nat} {v : Int32} : CI ad h.1 δ0 (s_I δ 4 11 a v) := I.sI L (by decide) (by decide) (by simpa [b_I] using (ti_b v).1) (by simpa [b_I] using (ti_b v).2)
theorem cs_4_12 {ad : List Nat} {h : hp} (L : Lay TLx ad h) {δ0 δ : dp} (I : CI ad h.1 δ0 δ) {a : Nat} {v : Int32} : CI ad h.1 δ0 (s_I δ 4 12 a v) := I.sI L (by decide) (by decide) (by simpa [b_I] using (ti_b v).1) (by simpa [b_I] using (ti_b v).2)
theorem cs_4_13 {ad : List Nat} {h : hp} (L : Lay TLx ad h) {δ0 δ : dp} (I : CI ad h.1 δ0 δ) {a : Nat} {v : Int32} : CI ad h.1 δ0 (s_I δ 4 13 a v) := I.sI L (by decide) (by decide) (by simpa [b_I] using (ti_b v).1) (by simpa [b_I] using (ti_b v).2)
theorem cs_4_14 {ad : List Nat} {h : hp} (L : Lay TLx ad h) {δ0 δ : dp} (I : CI ad h.1 δ0 δ) {a : Nat} {v : Int32} : CI ad h.1 δ0 (s_I δ 4 14 a v) := I.sI L (by decide) (by decide) (by simpa [b_I] using (ti_b v).1) (by simpa [b_I] using (ti_b v).2)
theorem cs_4_15 {ad : List Nat} {h : hp} (L : Lay TLx ad h) {δ0 δ : dp} (I : CI ad h.1 δ0 δ) {a : Nat} {v : Int32} : CI ad h.1 δ0 (s_I δ 4 15 a v) := I.sI L (by decide) (by decide) (by simpa [b_I] using (ti_b v).1) (by simpa [b_I] using (ti_b v).2)
theorem cs_4_16 {ad : List Nat} {h : hp} (L : Lay TLx ad h) {δ0 δ : dp} (I : CI ad h.1 δ0 δ) {a : Nat} {v : Int32} (_ : q_K h.1 a = 4) (h1 : 0 ≤ v.toInt) (h2 : v.toInt ≤ 1) : CI ad h.1 δ0 (s_I δ 4 16 a v) := I.sI L (by decide) (by decide) (by simpa [b_I] using h1) (by simpa [b_I] using h2)
theorem cs_4_17 {ad : List Nat} {h : hp} (L : Lay TLx ad h) {δ0 δ : dp} (I : CI ad h.1 δ0 δ) {a : Nat} {v : Int32} : CI ad h.1 δ0 (s_I δ 4 17 a v) := I.sI L (by decide) (by decide) (by simpa [b_I] using (ti_b v).1) (by simpa [b_I] using (ti_b v).2)
theorem cs_4_18 {ad : List Nat} {h : hp} (L : Lay TLx ad h) {δ0 δ : dp} (I : CI ad h.1 δ0 δ) {a : Nat} {v : Int32} : CI ad h.1 δ0 (s_I δ 4 18 a v) := I.sI L (by decide) (by decide) (by simpa [b_I] using (ti_b v).1) (by simpa [b_I] using (ti_b v).2)
theorem cs_4_19 {ad : List Nat} {h : hp} (L : Lay TLx ad h) {δ0 δ : dp} (I : CI ad h.1 δ0 δ) {a : Nat} {v : Int32} : CI ad h.1 δ0 (s_I δ 4 19 a v) := I.sI L (by decide) (by decide) (by simpa [b_I] using (ti_b v).1) (by simpa [b_I] using (ti_b v).2)
theorem cs_5_0 {ad : List Nat} {h : hp} (L : Lay TLx ad h) {δ0 δ : dp} (I : CI ad h.1 δ0 δ) {a : Nat} {v : Int32} (_ : q_K h.1 a = 5) (h1 : 2 ≤ v.toInt) (h2 : v.toInt ≤ 16) : CI ad h.1 δ0 (s_I δ 5 0 a v) := I.sI L (by decide) (by decide) (by simpa [b_I] using h1) (by simpa [b_I] using h2)
theorem cs_5_1 {ad : List Nat} {h : hp} (L : Lay TLx ad h) {δ0 δ : dp} (I : CI ad h.1 δ0 δ) {a : Nat} {v : Int32} (_ : q_K h.1 a = 5) (h1 : 0 ≤ v.toInt) (h2 : v.toInt ≤ 1) : CI ad h.1 δ0 (s_I δ 5 1 a v) := I.sI L (by decide) (by decide) (by simpa [b_I] using h1) (by simpa [b_I] using h2)
theorem cs_5_2 {ad : List Nat} {h : hp} (L : Lay TLx ad h) {δ0 δ : dp} (I : CI ad h.1 δ0 δ) {a : Nat} {v : Int32} (_ : q_K h.1 a = 5) (h1 : 1 ≤ v.toInt) (h2 : v.toInt ≤ 5) : CI ad h.1 δ0 (s_I δ 5 2 a v) := I.sI L (by decide) (by decide) (by simpa [b_I] using h1) (by simpa [b_I] using h2)
theorem cs_6_0 {ad : List Nat} {h : hp} (L : Lay TLx ad h) {δ0 δ : dp} (I : CI ad h.1 δ0 δ) {a : Nat} {v : Int32} : CI ad h.1 δ0 (s_I δ 6 0 a v) := I.sI L (by decide) (by decide) (by simpa [b_I] using (ti_b v).1) (by simpa [b_I] using (ti_b v).2)
theorem cs_6_1 {ad : List Nat} {h : hp} (L : Lay TLx ad h) {δ0 δ : dp} (I : CI ad h.1 δ0 δ) {a : Nat} {v : Int32} (_ : q_K h.1 a = 6) (h1 : 0 ≤ v.toInt) (h2 : v.toInt ≤ 1) : CI ad h.1 δ0 (s_I δ 6 1 a v) := I.sI L (by decide) (by decide) (by simpa [b_I] using h1) (by simpa [b_I] using h2)
theorem cs_6_2 {ad : List Nat} {h : hp} (L : Lay TLx ad h) {δ0 δ : dp} (I : CI ad h.1 δ0 δ) {a : Nat} {v : Int32} : CI ad h.1 δ0 (s_I δ 6 2 a v) := I.sI L (by decide) (by decide) (by simpa [b_I] using (ti_b v).1) (by simpa [b_I] using (ti_b v).2)
theorem cs_7_1 {ad : List Nat} {h : hp} (L : Lay TLx ad h) {δ0 δ : dp} (I : CI ad h.1 δ0 δ) {a : Nat} {v : Int32} (_ : q_K h.1 a = 7) (h1 : 0 ≤ v.toInt) (h2 : v.toInt ≤ 500) : CI ad h.1 δ0 (s_I δ 7 1 a v) := I.sI L (by decide) (by decide) (by simpa [b_I] using h1) (by simpa [b_I] using h2)
theorem cs_7_2 {ad : List Nat} {h : hp} (L : Lay TLx ad h) {δ0 δ : dp} (I : CI ad h.1 δ0 δ) {a : Nat} {v : Int32} (_ : q_K h.1 a = 7) (h1 : 0 ≤ v.toInt) (h2 : v.toInt ≤ 500) : CI ad h.1 δ0 (s_I δ 7 2 a v) := I.sI L (by decide) (by decide) (by simpa [b_I] using h1) (by simpa [b_I] using h2)
theorem cs_7_3 {ad : List Nat} {h : hp} (L : Lay TLx ad h) {δ0 δ : dp} (I : CI ad h.1 δ0 δ) {a : Nat} {v : Int32} (_ : q_K h.1 a = 7) (h1 : 0 ≤ v.toInt) (h2 : v.toInt ≤ 500) : CI ad h.1 δ0 (s_I δ 7 3 a v) := I.sI L (by decide) (by decide) (by simpa [b_I] using h1) (by simpa [b_I] using h2)
theorem cs_7_4 {ad : List Nat} {h : hp} (L : Lay TLx ad h) {δ0 δ : dp} (I : CI ad h.1 δ0 δ) {a : Nat} {v : Int32} (_ : q_K h.1 a = 7) (h1 : 0 ≤ v.toInt) (h2 : v.toInt ≤ 500) : CI ad h.1 δ0 (s_I δ 7 4 a v) := I.sI L (by decide) (by decide) (by simpa [b_I] using h1) (by simpa [b_I] using h2)
theorem cs_7_5 {ad : List Nat} {h : hp} (L : Lay TLx ad h) {δ0 δ : dp} (I : CI ad h.1 δ0 δ) {a : Nat} {v : Int32} : CI ad h.1 δ0 (s_I δ 7 5 a v) := I.sI L (by decide) (by decide) (by simpa [b_I] using (ti_b v).1) (by simpa [b_I] using (ti_b v).2)
theorem cs_7_6 {ad : List Nat} {h : hp} (L : Lay TLx ad h) {δ0 δ : dp} (I : CI ad h.1 δ0 δ) {a : Nat} {v : Int32} : CI ad h.1 δ0 (s_I δ 7 6 a v) := I.sI L (by decide) (by decide) (by simpa [b_I] using (ti_b v).1) (by simpa [b_I] using (ti_b v).2)
theorem cs_8_3 {ad : List Nat} {h : hp} (L : Lay TLx ad h) {δ0 δ : dp} (I : CI ad h.1 δ0 δ) {a : Nat} {v : Int32} (_ : q_K h.1 a = 8) (h1 : 0 ≤ v.toInt) (h2 : v.toInt ≤ 1) : CI ad h.1 δ0 (s_I δ 8 3 a v) := I.sI L (by decide) (by decide) (by simpa [b_I] using h1) (by simpa [b_I] using h2)
theorem cs_9_0 {ad : List Nat} {h : hp} (L : Lay TLx ad h) {δ0 δ : dp} (I : CI ad h.1 δ0 δ) {a : Nat} {v : Int32} : CI ad h.1 δ0 (s_I δ 9 0 a v) := I.sI L (by decide) (by decide) (by simpa [b_I] using (ti_b v).1) (by simpa [b_I] using (ti_b v).2)
theorem cs_9_1 {ad : List Nat} {h : hp} (L : Lay TLx ad h) {δ0 δ : dp} (I : CI ad h.1 δ0 δ) {a : Nat} {v : Int32} : CI ad h.1 δ0 (s_I δ 9 1 a v) := I.sI L (by decide) (by decide) (by simpa [b_I] using (ti_b v).1) (by simpa [b_I] using (ti_b v).2)
theorem cs_9_2 {ad : List Nat} {h : hp} (L : Lay TLx ad h) {δ0 δ : dp} (I : CI ad h.1 δ0 δ) {a : Nat} {v : Int32} : CI ad h.1 δ0 (s_I δ 9 2 a v) := I.sI L (by decide) (by decide) (by simpa [b_I] using (ti_b v).1) (by simpa [b_I] using (ti_b v).2)
theorem cs_9_3 {ad : List Nat} {h : hp} (L : Lay TLx ad h) {δ0 δ : dp} (I : CI ad h.1 δ0 δ) {a : Nat} {v : Int32} : CI ad h.1 δ0 (s_I δ 9 3 a v) := I.sI L (by decide) (by decide) (by simpa [b_I] using (ti_b v).1) (by simpa [b_I] using (ti_b v).2)
theorem cs_9_4 {ad : List Nat} {h : hp} (L : Lay TLx ad h) {δ0 δ : dp} (I : CI ad h.1 δ0 δ) {a : Nat} {v : Int32} (_ : q_K h.1 a = 9) (h1 : 0 ≤ v.toInt) (h2 : v.toInt ≤ 3) : CI ad h.1 δ0 (s_I δ 9 4 a v) := I.sI L (by decide) (by decide) (by simpa [b_I] using h1) (by simpa [b_I] using h2)
theorem cs_11_5 {ad : List Nat} {h : hp} (L : Lay TLx ad h) {δ0 δ : dp} (I : CI ad h.1 δ0 δ) {a : Nat} {v : Int32} (_ : q_K h.1 a = 11) (h1 : 0 ≤ v.toInt) (h2 : v.toInt ≤ 4) : CI ad h.1 δ0 (s_I δ 11 5 a v) := I.sI L (by decide) (by decide) (by simpa [b_I] using h1) (by simpa [b_I] using h2)
theorem cs_11_12 {ad : List Nat} {h : hp} (L : Lay TLx ad h) {δ0 δ : dp} (I : CI ad h.1 δ0 δ) {a : Nat} {v : Int32} (_ : q_K h.1 a = 11) (h1 : 0 ≤ v.toInt) (h2 : v.toInt ≤ 3) : CI ad h.1 δ0 (s_I δ 11 12 a v) := I.sI L (by decide) (by decide) (by simpa [b_I] using h1) (by simpa [b_I] using h2)
theorem cb_2_4 {ad : List Nat} {g : gp} {δ0 δ : dp} (I : CI ad g δ0 δ) {a : Nat} (ka : q_K g a = 2) : 0 ≤ (q_I δ 2 4 a).toInt ∧ (q_I δ 2 4 a).toInt ≤ 1000 := by
  have := I.b 4 ka
  simpa [b_I] using this
theorem cb_4_5 {ad : List Nat} {g : gp} {δ0 δ : dp} (I : CI ad g δ0 δ) {a : Nat} (ka : q_K g a = 4) : 0 ≤ (q_I δ 4 5 a).toInt ∧ (q_I δ 4 5 a).toInt ≤ 32 := by
  have := I.b 5 ka
  simpa [b_I] using this
theorem cb_5_0 {ad : List Nat} {g : gp} {δ0 δ : dp} (I : CI ad g δ0 δ) {a : Nat} (ka : q_K g a = 5) : 2 ≤ (q_I δ 5 0 a).toInt ∧ (q_I δ 5 0 a).toInt ≤ 16 := by
  have := I.b 0 ka
  simpa [b_I] using this
theorem cb_5_1 {ad : List Nat} {g : gp} {δ0 δ : dp} (I : CI ad g δ0 δ) {a : Nat} (ka : q_K g a = 5) : 0 ≤ (q_I δ 5 1 a).toInt ∧ (q_I δ 5 1 a).toInt ≤ 1 := by
  have := I.b 1 ka
  simpa [b_I] using this
theorem cb_5_2 {ad : List Nat} {g : gp} {δ0 δ : dp} (I : CI ad g δ0 δ) {a : Nat} (ka : q_K g a = 5) : 1 ≤ (q_I δ 5 2 a).toInt ∧ (q_I δ 5 2 a).toInt ≤ 5 := by
  have := I.b 2 ka
  simpa [b_I] using this
theorem cb_7_1 {ad : List Nat} {g : gp} {δ0 δ : dp} (I : CI ad g δ0 δ) {a : Nat} (ka : q_K g a = 7) : 0 ≤ (q_I δ 7 1 a).toInt ∧ (q_I δ 7 1 a).toInt ≤ 500 := by
  have := I.b 1 ka
  simpa [b_I] using this
theorem cb_7_2 {ad : List Nat} {g : gp} {δ0 δ : dp} (I : CI ad g δ0 δ) {a : Nat} (ka : q_K g a = 7) : 0 ≤ (q_I δ 7 2 a).toInt ∧ (q_I δ 7 2 a).toInt ≤ 500 := by
  have := I.b 2 ka
  simpa [b_I] using this
theorem cb_7_3 {ad : List Nat} {g : gp} {δ0 δ : dp} (I : CI ad g δ0 δ) {a : Nat} (ka : q_K g a = 7) : 0 ≤ (q_I δ 7 3 a).toInt ∧ (q_I δ 7 3 a).toInt ≤ 500 := by
  have := I.b 3 ka
  simpa [b_I] using this
theorem cb_7_4 {ad : List Nat} {g : gp} {δ0 δ : dp} (I : CI ad g δ0 δ) {a : Nat} (ka : q_K g a = 7) : 0 ≤ (q_I δ 7 4 a).toInt ∧ (q_I δ 7 4 a).toInt ≤ 500 := by
  have := I.b 4 ka
  simpa [b_I] using this
theorem cb_8_2 {ad : List Nat} {g : gp} {δ0 δ : dp} (I : CI ad g δ0 δ) {a : Nat} (ka : q_K g a = 8) : 0 ≤ (q_I δ 8 2 a).toInt ∧ (q_I δ 8 2 a).toInt ≤ 500 := by
  have := I.b 2 ka
  simpa [b_I] using this
theorem cb_9_4 {ad : List Nat} {g : gp} {δ0 δ : dp} (I : CI ad g δ0 δ) {a : Nat} (ka : q_K g a = 9) : 0 ≤ (q_I δ 9 4 a).toInt ∧ (q_I δ 9 4 a).toInt ≤ 3 := by
  have := I.b 4 ka
  simpa [b_I] using this
theorem cb_11_5 {ad : List Nat} {g : gp} {δ0 δ : dp} (I : CI ad g δ0 δ) {a : Nat} (ka : q_K g a = 11) : 0 ≤ (q_I δ 11 5 a).toInt ∧ (q_I δ 11 5 a).toInt ≤ 4 := by
  have := I.b 5 ka
  simpa [b_I] using this
theorem cb_11_12 {ad : List Nat} {g : gp} {δ0 δ : dp} (I : CI ad g δ0 δ) {a : Nat} (ka : q_K g a = 11) : 0 ≤ (q_I δ 11 12 a).toInt ∧ (q_I δ 11 12 a).toInt ≤ 3 := by
  have := I.b 12 ka
  simpa [b_I] using this
theorem cb_1_15 {ad : List Nat} {g : gp} {δ0 δ : dp} (I : CI ad g δ0 δ) {a : Nat} (ka : q_K g a = 1) : 0 ≤ (q_I δ 1 15 a).toInt ∧ (q_I δ 1 15 a).toInt ≤ 1 := by
  have := I.b 15 ka
  simpa [b_I] using this
theorem cb_4_9 {ad : List Nat} {g : gp} {δ0 δ : dp} (I : CI ad g δ0 δ) {a : Nat} (ka : q_K g a = 4) : 0 ≤ (q_I δ 4 9 a).toInt ∧ (q_I δ 4 9 a).toInt ≤ 1 := by
  have := I.b 9 ka
  simpa [b_I] using this
theorem cb_4_16 {ad : List Nat} {g : gp} {δ0 δ : dp} (I : CI ad g δ0 δ) {a : Nat} (ka : q_K g a = 4) : 0 ≤ (q_I δ 4 16 a).toInt ∧ (q_I δ 4 16 a).toInt ≤ 1 := by
  have := I.b 16 ka
  simpa [b_I] using this
theorem cb_6_1 {ad : List Nat} {g : gp} {δ0 δ : dp} (I : CI ad g δ0 δ) {a : Nat} (ka : q_K g a = 6) : 0 ≤ (q_I δ 6 1 a).toInt ∧ (q_I δ 6 1 a).toInt ≤ 1 := by
  have := I.b 1 ka
  simpa [b_I] using this
theorem cb_8_3 {ad : List Nat} {g : gp} {δ0 δ : dp} (I : CI ad g δ0 δ) {a : Nat} (ka : q_K g a = 8) : 0 ≤ (q_I δ 8 3 a).toInt ∧ (q_I δ 8 3 a).toInt ≤ 1 := by
  have := I.b 3 ka
  simpa [b_I] using this
theorem cb_0_4 {ad : List Nat} {g : gp} {δ0 δ : dp} (I : CI ad g δ0 δ) {a : Nat} (ka : q_K g a = 0) : 0 ≤ (q_I δ 0 4 a).toInt ∧ (q_I δ 0 4 a).toInt ≤ 1 := by
  have := I.b 4 ka
  simpa [b_I] using this
theorem cb_4_6 {ad : List Nat} {g : gp} {δ0 δ : dp} (I : CI ad g δ0 δ) {a : Nat} (ka : q_K g a = 4) : 0 ≤ (q_I δ 4 6 a).toInt ∧ (q_I δ 4 6 a).toInt ≤ 500 := by
  have := I.b 6 ka
  simpa [b_I] using this
