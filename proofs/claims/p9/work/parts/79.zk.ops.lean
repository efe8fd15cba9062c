/-! each call of the reference keeps it -/
theorem o_fault {ad : List Nat} {h : hp} (L : Lay TLx ad h) {δ0 : dp} {N : Nat} (hN : 10000000 ≤ N) {a0 : Nat} (k_a0 : q_K h.1 a0 = 12) {δ : dp} (I : RI ad h.1 δ0 δ) (O : OI ad a0 δ) : ok (D_X12_fault N h.1 a0 δ) (fun r => OR ad h.1 a0 δ0 δ r.2 ∧ q_I r.2 12 18 a0 = q_I δ 12 18 a0) := by
  refine ok_mono (k_X12_fault L hN  k_a0 I) (fun r hr => ?_)
  obtain ⟨i, ⟨u, v, _, w⟩⟩ := hr
  exact ⟨⟨i, O.n u w (by decide) (by decide) (by decide) (by decide), by rw [u 12 2 a0 (by decide)], w 101 (by decide) (by decide) (by decide), u 12 10 a0 (by decide), u 12 11 a0 (by decide), u 12 12 a0 (by decide)⟩, u 12 18 a0 (by decide)⟩
theorem o_told {ad : List Nat} {h : hp} (L : Lay TLx ad h) {δ0 : dp} {N : Nat} (hN : 10000000 ≤ N) {a0 : Nat} {x1 : Int32} (k_a0 : q_K h.1 a0 = 12) {δ : dp} (I : RI ad h.1 δ0 δ) (O : OI ad a0 δ) : ok (D_X12_told N h.1 a0 x1 δ) (fun r => OR ad h.1 a0 δ0 δ r.2 ∧ q_I r.2 12 18 a0 = q_I δ 12 18 a0) := by
  refine ok_mono (k_X12_told L hN (x1 := x1) k_a0 I) (fun r hr => ?_)
  obtain ⟨i, ⟨u, v, w⟩⟩ := hr
  exact ⟨⟨i, O.n u w (by decide) (by decide) (by decide) (by decide), by rw [u 12 2 a0 (by decide)], w 101 (by decide) (by decide) (by decide), u 12 10 a0 (by decide), u 12 11 a0 (by decide), u 12 12 a0 (by decide)⟩, u 12 18 a0 (by decide)⟩
theorem o_has {ad : List Nat} {h : hp} (L : Lay TLx ad h) {δ0 : dp} {N : Nat} (hN : 10000000 ≤ N) {a0 : Nat} {x1 x2 : Int32} (k_a0 : q_K h.1 a0 = 12) {δ : dp} (I : RI ad h.1 δ0 δ) (O : OI ad a0 δ) : ok (D_X12_has N h.1 a0 x1 x2 δ) (fun r => OR ad h.1 a0 δ0 δ r.2 ∧ q_I r.2 12 18 a0 = q_I δ 12 18 a0) := by
  refine ok_mono (k_X12_has L hN (x1 := x1) (x2 := x2) k_a0 I) (fun r hr => ?_)
  obtain ⟨i, ⟨u, v, w⟩⟩ := hr
  exact ⟨⟨i, O.n u w (by decide) (by decide) (by decide) (by decide), by rw [u 12 2 a0 (by decide)], w 101 (by decide) (by decide) (by decide), u 12 10 a0 (by decide), u 12 11 a0 (by decide), u 12 12 a0 (by decide)⟩, u 12 18 a0 (by decide)⟩
theorem o_of_ {ad : List Nat} {h : hp} (L : Lay TLx ad h) {δ0 : dp} {N : Nat} (hN : 10000000 ≤ N) {a0 : Nat} {x1 x2 : Int32} (k_a0 : q_K h.1 a0 = 12) {δ : dp} (I : RI ad h.1 δ0 δ) (O : OI ad a0 δ) : ok (D_X12_of_ N h.1 a0 x1 x2 δ) (fun r => OR ad h.1 a0 δ0 δ r.2 ∧ q_I r.2 12 18 a0 = q_I δ 12 18 a0) := by
  refine ok_mono (k_X12_of_ L hN (x1 := x1) (x2 := x2) k_a0 I) (fun r hr => ?_)
  obtain ⟨i, ⟨u, v, w⟩⟩ := hr
  exact ⟨⟨i, O.n u w (by decide) (by decide) (by decide) (by decide), by rw [u 12 2 a0 (by decide)], w 101 (by decide) (by decide) (by decide), u 12 10 a0 (by decide), u 12 11 a0 (by decide), u 12 12 a0 (by decide)⟩, u 12 18 a0 (by decide)⟩
theorem o_next {ad : List Nat} {h : hp} (L : Lay TLx ad h) {δ0 : dp} {N : Nat} (hN : 10000000 ≤ N) {a0 : Nat} {x1 x2 : Int32} (k_a0 : q_K h.1 a0 = 12) {δ : dp} (I : RI ad h.1 δ0 δ) (O : OI ad a0 δ) : ok (D_X12_next N h.1 a0 x1 x2 δ) (fun r => OR ad h.1 a0 δ0 δ r.2 ∧ q_I r.2 12 18 a0 = q_I δ 12 18 a0) := by
  refine ok_mono (k_X12_next L hN (x1 := x1) (x2 := x2) k_a0 I) (fun r hr => ?_)
  obtain ⟨i, ⟨u, v, w⟩⟩ := hr
  exact ⟨⟨i, O.n u w (by decide) (by decide) (by decide) (by decide), by rw [u 12 2 a0 (by decide)], w 101 (by decide) (by decide) (by decide), u 12 10 a0 (by decide), u 12 11 a0 (by decide), u 12 12 a0 (by decide)⟩, u 12 18 a0 (by decide)⟩
theorem o_before {ad : List Nat} {h : hp} (L : Lay TLx ad h) {δ0 : dp} {N : Nat} (hN : 10000000 ≤ N) {a0 : Nat} {x1 x2 : Int32} (k_a0 : q_K h.1 a0 = 12) {δ : dp} (I : RI ad h.1 δ0 δ) (O : OI ad a0 δ) : ok (D_X12_before N h.1 a0 x1 x2 δ) (fun r => OR ad h.1 a0 δ0 δ r.2 ∧ q_I r.2 12 18 a0 = q_I δ 12 18 a0) := by
  refine ok_mono (k_X12_before L hN (x1 := x1) (x2 := x2) k_a0 I) (fun r hr => ?_)
  obtain ⟨i, ⟨u, v, w⟩⟩ := hr
  exact ⟨⟨i, O.n u w (by decide) (by decide) (by decide) (by decide), by rw [u 12 2 a0 (by decide)], w 101 (by decide) (by decide) (by decide), u 12 10 a0 (by decide), u 12 11 a0 (by decide), u 12 12 a0 (by decide)⟩, u 12 18 a0 (by decide)⟩
theorem o_kth {ad : List Nat} {h : hp} (L : Lay TLx ad h) {δ0 : dp} {N : Nat} (hN : 10000000 ≤ N) {a0 : Nat} {x1 x2 : Int32} (k_a0 : q_K h.1 a0 = 12) {δ : dp} (I : RI ad h.1 δ0 δ) (O : OI ad a0 δ) : ok (D_X12_kth N h.1 a0 x1 x2 δ) (fun r => OR ad h.1 a0 δ0 δ r.2 ∧ q_I r.2 12 18 a0 = q_I δ 12 18 a0) := by
  refine ok_mono (k_X12_kth L hN (x1 := x1) (x2 := x2) k_a0 I) (fun r hr => ?_)
  obtain ⟨i, ⟨u, v, w⟩⟩ := hr
  exact ⟨⟨i, O.n u w (by decide) (by decide) (by decide) (by decide), by rw [u 12 2 a0 (by decide)], w 101 (by decide) (by decide) (by decide), u 12 10 a0 (by decide), u 12 11 a0 (by decide), u 12 12 a0 (by decide)⟩, u 12 18 a0 (by decide)⟩
theorem o_between {ad : List Nat} {h : hp} (L : Lay TLx ad h) {δ0 : dp} {N : Nat} (hN : 10000000 ≤ N) {a0 : Nat} {x1 x2 x3 : Int32} (k_a0 : q_K h.1 a0 = 12) {δ : dp} (I : RI ad h.1 δ0 δ) (O : OI ad a0 δ) : ok (D_X12_between N h.1 a0 x1 x2 x3 δ) (fun r => OR ad h.1 a0 δ0 δ r.2 ∧ q_I r.2 12 18 a0 = q_I δ 12 18 a0) := by
  refine ok_mono (k_X12_between L hN (x1 := x1) (x2 := x2) (x3 := x3) k_a0 I) (fun r hr => ?_)
  obtain ⟨i, ⟨u, v, w⟩⟩ := hr
  exact ⟨⟨i, O.n u w (by decide) (by decide) (by decide) (by decide), by rw [u 12 2 a0 (by decide)], w 101 (by decide) (by decide) (by decide), u 12 10 a0 (by decide), u 12 11 a0 (by decide), u 12 12 a0 (by decide)⟩, u 12 18 a0 (by decide)⟩
theorem o_touches {ad : List Nat} {h : hp} (L : Lay TLx ad h) {δ0 : dp} {N : Nat} (hN : 10000000 ≤ N) {a0 : Nat} {x1 x2 x3 x4 : Int32} (k_a0 : q_K h.1 a0 = 12) {δ : dp} (I : RI ad h.1 δ0 δ) (O : OI ad a0 δ) : ok (D_X12_touches N h.1 a0 x1 x2 x3 x4 δ) (fun r => OR ad h.1 a0 δ0 δ r.2 ∧ q_I r.2 12 18 a0 = q_I δ 12 18 a0) := by
  refine ok_mono (k_X12_touches L hN (x1 := x1) (x2 := x2) (x3 := x3) (x4 := x4) k_a0 I) (fun r hr => ?_)
  obtain ⟨i, ⟨u, v, w⟩⟩ := hr
  exact ⟨⟨i, O.n u w (by decide) (by decide) (by decide) (by decide), by rw [u 12 2 a0 (by decide)], w 101 (by decide) (by decide) (by decide), u 12 10 a0 (by decide), u 12 11 a0 (by decide), u 12 12 a0 (by decide)⟩, u 12 18 a0 (by decide)⟩
theorem o_size {ad : List Nat} {h : hp} (L : Lay TLx ad h) {δ0 : dp} {N : Nat} (hN : 10000000 ≤ N) {a0 : Nat} {x1 x2 : Int32} (k_a0 : q_K h.1 a0 = 12) {δ : dp} (I : RI ad h.1 δ0 δ) (O : OI ad a0 δ) : ok (D_X12_size N h.1 a0 x1 x2 δ) (fun r => OR ad h.1 a0 δ0 δ r.2 ∧ q_I r.2 12 18 a0 = q_I δ 12 18 a0) := by
  refine ok_mono (k_X12_size L hN (x1 := x1) (x2 := x2) k_a0 I) (fun r hr => ?_)
  obtain ⟨i, ⟨u, v, w⟩⟩ := hr
  exact ⟨⟨i, O.n u w (by decide) (by decide) (by decide) (by decide), by rw [u 12 2 a0 (by decide)], w 101 (by decide) (by decide) (by decide), u 12 10 a0 (by decide), u 12 11 a0 (by decide), u 12 12 a0 (by decide)⟩, u 12 18 a0 (by decide)⟩
theorem o_bound {ad : List Nat} {h : hp} (L : Lay TLx ad h) {δ0 : dp} {N : Nat} (hN : 10000000 ≤ N) {a0 : Nat} {x1 : Int32} (k_a0 : q_K h.1 a0 = 12) {δ : dp} (I : RI ad h.1 δ0 δ) (O : OI ad a0 δ) : ok (D_X12_bound N h.1 a0 x1 δ) (fun r => OR ad h.1 a0 δ0 δ r.2 ∧ q_I r.2 12 18 a0 = q_I δ 12 18 a0) := by
  refine ok_mono (k_X12_bound L hN (x1 := x1) k_a0 I) (fun r hr => ?_)
  obtain ⟨i, ⟨u, v, w⟩⟩ := hr
  exact ⟨⟨i, O.n u w (by decide) (by decide) (by decide) (by decide), by rw [u 12 2 a0 (by decide)], w 101 (by decide) (by decide) (by decide), u 12 10 a0 (by decide), u 12 11 a0 (by decide), u 12 12 a0 (by decide)⟩, u 12 18 a0 (by decide)⟩
theorem o_worst {ad : List Nat} {h : hp} (L : Lay TLx ad h) {δ0 : dp} {N : Nat} (hN : 10000000 ≤ N) {a0 : Nat} {x1 x2 x3 : Int32} (k_a0 : q_K h.1 a0 = 12) {δ : dp} (I : RI ad h.1 δ0 δ) (O : OI ad a0 δ) : ok (D_X12_worst N h.1 a0 x1 x2 x3 δ) (fun r => OR ad h.1 a0 δ0 δ r.2 ∧ q_I r.2 12 18 a0 = q_I δ 12 18 a0) := by
  refine ok_mono (k_X12_worst L hN (x1 := x1) (x2 := x2) (x3 := x3) k_a0 I) (fun r hr => ?_)
  obtain ⟨i, ⟨u, v, w⟩⟩ := hr
  exact ⟨⟨i, O.n u w (by decide) (by decide) (by decide) (by decide), by rw [u 12 2 a0 (by decide)], w 101 (by decide) (by decide) (by decide), u 12 10 a0 (by decide), u 12 11 a0 (by decide), u 12 12 a0 (by decide)⟩, u 12 18 a0 (by decide)⟩
theorem o_bad {ad : List Nat} {h : hp} (L : Lay TLx ad h) {δ0 : dp} {N : Nat} (hN : 10000000 ≤ N) {a0 : Nat} {x1 x2 x3 : Int32} (k_a0 : q_K h.1 a0 = 12) {δ : dp} (I : RI ad h.1 δ0 δ) (O : OI ad a0 δ) : ok (D_X12_bad N h.1 a0 x1 x2 x3 δ) (fun r => OR ad h.1 a0 δ0 δ r.2 ∧ q_I r.2 12 18 a0 = q_I δ 12 18 a0) := by
  refine ok_mono (k_X12_bad L hN (x1 := x1) (x2 := x2) (x3 := x3) k_a0 I) (fun r hr => ?_)
  obtain ⟨i, ⟨u, v, w⟩⟩ := hr
  exact ⟨⟨i, O.n u w (by decide) (by decide) (by decide) (by decide), by rw [u 12 2 a0 (by decide)], w 101 (by decide) (by decide) (by decide), u 12 10 a0 (by decide), u 12 11 a0 (by decide), u 12 12 a0 (by decide)⟩, u 12 18 a0 (by decide)⟩
theorem o_since {ad : List Nat} {h : hp} (L : Lay TLx ad h) {δ0 : dp} {N : Nat} (hN : 10000000 ≤ N) {a0 : Nat} {x1 x2 x3 : Int32} (k_a0 : q_K h.1 a0 = 12) {δ : dp} (I : RI ad h.1 δ0 δ) (O : OI ad a0 δ) : ok (D_X12_since N h.1 a0 x1 x2 x3 δ) (fun r => OR ad h.1 a0 δ0 δ r.2 ∧ q_I r.2 12 18 a0 = q_I δ 12 18 a0) := by
  refine ok_mono (k_X12_since L hN (x1 := x1) (x2 := x2) (x3 := x3) k_a0 I) (fun r hr => ?_)
  obtain ⟨i, ⟨u, v, w⟩⟩ := hr
  exact ⟨⟨i, O.n u w (by decide) (by decide) (by decide) (by decide), by rw [u 12 2 a0 (by decide)], w 101 (by decide) (by decide) (by decide), u 12 10 a0 (by decide), u 12 11 a0 (by decide), u 12 12 a0 (by decide)⟩, u 12 18 a0 (by decide)⟩
theorem o_reached {ad : List Nat} {h : hp} (L : Lay TLx ad h) {δ0 : dp} {N : Nat} (hN : 10000000 ≤ N) {a0 : Nat} {x1 : Int32} (k_a0 : q_K h.1 a0 = 12) {δ : dp} (I : RI ad h.1 δ0 δ) (O : OI ad a0 δ) : ok (D_X12_reached N h.1 a0 x1 δ) (fun r => OR ad h.1 a0 δ0 δ r.2 ∧ q_I r.2 12 18 a0 = q_I δ 12 18 a0) := by
  refine ok_mono (k_X12_reached L hN (x1 := x1) k_a0 I) (fun r hr => ?_)
  obtain ⟨i, ⟨u, v, w⟩⟩ := hr
  exact ⟨⟨i, O.n u w (by decide) (by decide) (by decide) (by decide), by rw [u 12 2 a0 (by decide)], w 101 (by decide) (by decide) (by decide), u 12 10 a0 (by decide), u 12 11 a0 (by decide), u 12 12 a0 (by decide)⟩, u 12 18 a0 (by decide)⟩
theorem o_row {ad : List Nat} {h : hp} (L : Lay TLx ad h) {δ0 : dp} {N : Nat} (hN : 10000000 ≤ N) {a0 : Nat} {x1 : Int32} (k_a0 : q_K h.1 a0 = 12) {δ : dp} (I : RI ad h.1 δ0 δ) (O : OI ad a0 δ) : ok (D_X12_row N h.1 a0 x1 δ) (fun r => OR ad h.1 a0 δ0 δ r.2 ∧ q_I r.2 12 18 a0 = q_I δ 12 18 a0) := by
  refine ok_mono (k_X12_row L hN (x1 := x1) k_a0 I) (fun r hr => ?_)
  obtain ⟨i, ⟨u, v, w⟩⟩ := hr
  exact ⟨⟨i, O.n u w (by decide) (by decide) (by decide) (by decide), by rw [u 12 2 a0 (by decide)], w 101 (by decide) (by decide) (by decide), u 12 10 a0 (by decide), u 12 11 a0 (by decide), u 12 12 a0 (by decide)⟩, u 12 18 a0 (by decide)⟩
theorem o_rowCall {ad : List Nat} {h : hp} (L : Lay TLx ad h) {δ0 : dp} {N : Nat} (hN : 10000000 ≤ N) {a0 : Nat} {x1 x2 : Int32} (k_a0 : q_K h.1 a0 = 12) {δ : dp} (I : RI ad h.1 δ0 δ) (O : OI ad a0 δ) : ok (D_X12_rowCall N h.1 a0 x1 x2 δ) (fun r => OR ad h.1 a0 δ0 δ r.2 ∧ q_I r.2 12 18 a0 = q_I δ 12 18 a0) := by
  refine ok_mono (k_X12_rowCall L hN (x1 := x1) (x2 := x2) k_a0 I) (fun r hr => ?_)
  obtain ⟨i, ⟨u, v, w⟩⟩ := hr
  exact ⟨⟨i, O.n u w (by decide) (by decide) (by decide) (by decide), by rw [u 12 2 a0 (by decide)], w 101 (by decide) (by decide) (by decide), u 12 10 a0 (by decide), u 12 11 a0 (by decide), u 12 12 a0 (by decide)⟩, u 12 18 a0 (by decide)⟩
theorem o_gap {ad : List Nat} {h : hp} (L : Lay TLx ad h) {δ0 : dp} {N : Nat} (hN : 10000000 ≤ N) {a0 : Nat} {x1 x2 : Int32} (k_a0 : q_K h.1 a0 = 12) {δ : dp} (I : RI ad h.1 δ0 δ) (O : OI ad a0 δ) : ok (D_X12_gap N h.1 a0 x1 x2 δ) (fun r => OR ad h.1 a0 δ0 δ r.2 ∧ q_I r.2 12 18 a0 = q_I δ 12 18 a0) := by
  refine ok_mono (k_X12_gap L hN (x1 := x1) (x2 := x2) k_a0 I) (fun r hr => ?_)
  obtain ⟨i, ⟨u, v, w⟩⟩ := hr
  exact ⟨⟨i, O.n u w (by decide) (by decide) (by decide) (by decide), by rw [u 12 2 a0 (by decide)], w 101 (by decide) (by decide) (by decide), u 12 10 a0 (by decide), u 12 11 a0 (by decide), u 12 12 a0 (by decide)⟩, u 12 18 a0 (by decide)⟩
theorem o_status {ad : List Nat} {h : hp} (L : Lay TLx ad h) {δ0 : dp} {N : Nat} (hN : 10000000 ≤ N) {a0 : Nat} {x1 : Int32} (k_a0 : q_K h.1 a0 = 12) {δ : dp} (I : RI ad h.1 δ0 δ) (O : OI ad a0 δ) : ok (D_X12_status N h.1 a0 x1 δ) (fun r => OR ad h.1 a0 δ0 δ r.2 ∧ q_I r.2 12 18 a0 = q_I δ 12 18 a0) := by
  refine ok_mono (k_X12_status L hN (x1 := x1) k_a0 I) (fun r hr => ?_)
  obtain ⟨i, ⟨u, v, _, w⟩⟩ := hr
  exact ⟨⟨i, O.n u w (by decide) (by decide) (by decide) (by decide), by rw [u 12 2 a0 (by decide)], w 101 (by decide) (by decide) (by decide), u 12 10 a0 (by decide), u 12 11 a0 (by decide), u 12 12 a0 (by decide)⟩, u 12 18 a0 (by decide)⟩
theorem o_count {ad : List Nat} {h : hp} (L : Lay TLx ad h) {δ0 : dp} {N : Nat} (hN : 10000000 ≤ N) {a0 : Nat} {x1 : Int32} (k_a0 : q_K h.1 a0 = 12) {δ : dp} (I : RI ad h.1 δ0 δ) (O : OI ad a0 δ) : ok (D_X12_count N h.1 a0 x1 δ) (fun r => OR ad h.1 a0 δ0 δ r.2 ∧ q_I r.2 12 18 a0 = q_I δ 12 18 a0) := by
  refine ok_mono (k_X12_count L hN (x1 := x1) k_a0 I) (fun r hr => ?_)
  obtain ⟨i, ⟨u, v, _, w⟩⟩ := hr
  exact ⟨⟨i, O.n u w (by decide) (by decide) (by decide) (by decide), by rw [u 12 2 a0 (by decide)], w 101 (by decide) (by decide) (by decide), u 12 10 a0 (by decide), u 12 11 a0 (by decide), u 12 12 a0 (by decide)⟩, u 12 18 a0 (by decide)⟩
theorem o_put {ad : List Nat} {h : hp} (L : Lay TLx ad h) {δ0 : dp} {N : Nat} (hN : 10000000 ≤ N) {a0 : Nat} {x1 x2 : Int32} (k_a0 : q_K h.1 a0 = 12) {δ : dp} (I : RI ad h.1 δ0 δ) (O : OI ad a0 δ) : ok (D_X12_put N h.1 a0 x1 x2 δ) (fun r => OR ad h.1 a0 δ0 δ r.2 ∧ q_I r.2 12 18 a0 = q_I δ 12 18 a0) := by
  refine ok_mono (f12_put L hN (x1 := x1) (x2 := x2) k_a0 I O.1) (fun r hr => ?_)
  obtain ⟨i, u, w, S⟩ := hr
  exact ⟨⟨i, O.s u w (by decide) (by decide) S, by rw [u 12 2 a0 (by decide)], w 101 (by decide) (by decide) (by decide), u 12 10 a0 (by decide), u 12 11 a0 (by decide), u 12 12 a0 (by decide)⟩, u 12 18 a0 (by decide)⟩
theorem o_drop {ad : List Nat} {h : hp} (L : Lay TLx ad h) {δ0 : dp} {N : Nat} (hN : 10000000 ≤ N) {a0 : Nat} {x1 x2 : Int32} (k_a0 : q_K h.1 a0 = 12) {δ : dp} (I : RI ad h.1 δ0 δ) (O : OI ad a0 δ) : ok (D_X12_drop N h.1 a0 x1 x2 δ) (fun r => OR ad h.1 a0 δ0 δ r.2 ∧ q_I r.2 12 18 a0 = q_I δ 12 18 a0) := by
  refine ok_mono (f12_drop L hN (x1 := x1) (x2 := x2) k_a0 I O.1) (fun r hr => ?_)
  obtain ⟨i, u, w, S⟩ := hr
  exact ⟨⟨i, O.s u w (by decide) (by decide) S, by rw [u 12 2 a0 (by decide)], w 101 (by decide) (by decide) (by decide), u 12 10 a0 (by decide), u 12 11 a0 (by decide), u 12 12 a0 (by decide)⟩, u 12 18 a0 (by decide)⟩
theorem o_joins {ad : List Nat} {h : hp} (L : Lay TLx ad h) {δ0 : dp} {N : Nat} (hN : 10000000 ≤ N) {a0 : Nat} {x1 x2 x3 : Int32} (k_a0 : q_K h.1 a0 = 12) {δ : dp} (I : RI ad h.1 δ0 δ) (O : OI ad a0 δ) : ok (D_X12_joins N h.1 a0 x1 x2 x3 δ) (fun r => OR ad h.1 a0 δ0 δ r.2 ∧ q_I r.2 12 18 a0 = q_I δ 12 18 a0) := by
  refine ok_mono (f12_joins L hN (x1 := x1) (x2 := x2) (x3 := x3) k_a0 I O.1) (fun r hr => ?_)
  obtain ⟨i, u, w, S⟩ := hr
  exact ⟨⟨i, O.s u w (by decide) (by decide) S, by rw [u 12 2 a0 (by decide)], w 101 (by decide) (by decide) (by decide), u 12 10 a0 (by decide), u 12 11 a0 (by decide), u 12 12 a0 (by decide)⟩, u 12 18 a0 (by decide)⟩
theorem o_split {ad : List Nat} {h : hp} (L : Lay TLx ad h) {δ0 : dp} {N : Nat} (hN : 10000000 ≤ N) {a0 : Nat} {x1 x2 x3 : Int32} (k_a0 : q_K h.1 a0 = 12) {δ : dp} (I : RI ad h.1 δ0 δ) (O : OI ad a0 δ) : ok (D_X12_split N h.1 a0 x1 x2 x3 δ) (fun r => OR ad h.1 a0 δ0 δ r.2 ∧ q_I r.2 12 18 a0 = q_I δ 12 18 a0) := by
  refine ok_mono (f12_split L hN (x1 := x1) (x2 := x2) (x3 := x3) k_a0 I O.1) (fun r hr => ?_)
  obtain ⟨i, u, w, S⟩ := hr
  exact ⟨⟨i, O.s u w (by decide) (by decide) S, by rw [u 12 2 a0 (by decide)], w 101 (by decide) (by decide) (by decide), u 12 10 a0 (by decide), u 12 11 a0 (by decide), u 12 12 a0 (by decide)⟩, u 12 18 a0 (by decide)⟩
theorem o_runs {ad : List Nat} {h : hp} (L : Lay TLx ad h) {δ0 : dp} {N : Nat} (hN : 10000000 ≤ N) {a0 : Nat} {x1 x2 : Int32} (k_a0 : q_K h.1 a0 = 12) {δ : dp} (I : RI ad h.1 δ0 δ) (O : OI ad a0 δ) : ok (D_X12_runs N h.1 a0 x1 x2 δ) (fun r => OR ad h.1 a0 δ0 δ r.2 ∧ q_I r.2 12 18 a0 = q_I δ 12 18 a0) := by
  refine ok_mono (f12_runs L hN (x1 := x1) (x2 := x2) k_a0 I O.1) (fun r hr => ?_)
  obtain ⟨i, u, w, S⟩ := hr
  exact ⟨⟨i, O.s u w (by decide) (by decide) S, by rw [u 12 2 a0 (by decide)], w 101 (by decide) (by decide) (by decide), u 12 10 a0 (by decide), u 12 11 a0 (by decide), u 12 12 a0 (by decide)⟩, u 12 18 a0 (by decide)⟩
theorem o_was {ad : List Nat} {h : hp} (L : Lay TLx ad h) {δ0 : dp} {N : Nat} (hN : 10000000 ≤ N) {a0 : Nat} {x1 x2 x3 : Int32} (k_a0 : q_K h.1 a0 = 12) {δ : dp} (I : RI ad h.1 δ0 δ) (O : OI ad a0 δ) : ok (D_X12_was N h.1 a0 x1 x2 x3 δ) (fun r => OR ad h.1 a0 δ0 δ r.2 ∧ q_I r.2 12 18 a0 = q_I δ 12 18 a0) := by
  refine ok_mono (ok_and (k_X12_was L hN (x1 := x1) (x2 := x2) (x3 := x3) k_a0 I) (f_was L hN (x1 := x1) (x2 := x2) (x3 := x3) k_a0 I (fun K hK => O.h hK))) (fun r hr => ?_)
  obtain ⟨⟨i, ⟨u, v, w⟩⟩, B⟩ := hr
  exact ⟨⟨i, O.b u w (by decide) (by decide) B, by rw [u 12 2 a0 (by decide)], w 101 (by decide) (by decide) (by decide), u 12 10 a0 (by decide), u 12 11 a0 (by decide), u 12 12 a0 (by decide)⟩, u 12 18 a0 (by decide)⟩
theorem o_asked {ad : List Nat} {h : hp} (L : Lay TLx ad h) {δ0 : dp} {N : Nat} (hN : 10000000 ≤ N) {a0 : Nat} {x1 x2 x3 x4 : Int32} (k_a0 : q_K h.1 a0 = 12) {δ : dp} (I : RI ad h.1 δ0 δ) (O : OI ad a0 δ) : ok (D_X12_asked N h.1 a0 x1 x2 x3 x4 δ) (fun r => OR ad h.1 a0 δ0 δ r.2 ∧ q_I r.2 12 18 a0 = q_I δ 12 18 a0) := by
  refine ok_mono (ok_and (k_X12_asked L hN (x1 := x1) (x2 := x2) (x3 := x3) (x4 := x4) k_a0 I) (f_asked L hN (x1 := x1) (x2 := x2) (x3 := x3) (x4 := x4) k_a0 I (fun K hK => O.h hK))) (fun r hr => ?_)
  obtain ⟨⟨i, ⟨u, v, w⟩⟩, B⟩ := hr
  exact ⟨⟨i, O.b u w (by decide) (by decide) B, by rw [u 12 2 a0 (by decide)], w 101 (by decide) (by decide) (by decide), u 12 10 a0 (by decide), u 12 11 a0 (by decide), u 12 12 a0 (by decide)⟩, u 12 18 a0 (by decide)⟩
theorem o_room {ad : List Nat} {h : hp} (L : Lay TLx ad h) {δ0 : dp} {N : Nat} (hN : 10000000 ≤ N) {a0 : Nat} {x1 x2 : Int32} (k_a0 : q_K h.1 a0 = 12) {δ : dp} (I : RI ad h.1 δ0 δ) (O : OI ad a0 δ) : ok (D_X12_room N h.1 a0 x1 x2 δ) (fun r => OR ad h.1 a0 δ0 δ r.2 ∧ q_I r.2 12 18 a0 = q_I δ 12 18 a0) := by
  refine ok_mono (ok_and (k_X12_room L hN (x1 := x1) (x2 := x2) k_a0 I) (f_room L hN (x1 := x1) (x2 := x2) k_a0 I (fun K hK => O.h hK))) (fun r hr => ?_)
  obtain ⟨⟨i, ⟨u, v, w⟩⟩, B⟩ := hr
  exact ⟨⟨i, O.b u w (by decide) (by decide) B, by rw [u 12 2 a0 (by decide)], w 101 (by decide) (by decide) (by decide), u 12 10 a0 (by decide), u 12 11 a0 (by decide), u 12 12 a0 (by decide)⟩, u 12 18 a0 (by decide)⟩
theorem o_steals {ad : List Nat} {h : hp} (L : Lay TLx ad h) {δ0 : dp} {N : Nat} (hN : 10000000 ≤ N) {a0 : Nat} {x1 x2 x3 x4 : Int32} (k_a0 : q_K h.1 a0 = 12) {δ : dp} (I : RI ad h.1 δ0 δ) (O : OI ad a0 δ) : ok (D_X12_steals N h.1 a0 x1 x2 x3 x4 δ) (fun r => OR ad h.1 a0 δ0 δ r.2 ∧ q_I r.2 12 18 a0 = q_I δ 12 18 a0) := by
  refine ok_mono (f_steals L hN (x1 := x1) (x2 := x2) (x3 := x3) (x4 := x4) k_a0 I O.2.1 (fun K hK => O.h hK)) (fun r hr => ?_)
  obtain ⟨i, u, w, B⟩ := hr
  exact ⟨⟨i, O.b u w (by decide) (by decide) B, by rw [u 12 2 a0 (by decide)], w 101 (by decide) (by decide) (by decide), u 12 10 a0 (by decide), u 12 11 a0 (by decide), u 12 12 a0 (by decide)⟩, u 12 18 a0 (by decide)⟩
theorem o_seeds {ad : List Nat} {h : hp} (L : Lay TLx ad h) {δ0 : dp} {N : Nat} (hN : 10000000 ≤ N) {a0 : Nat} {x1 x2 x3 x4 x5 : Int32} (k_a0 : q_K h.1 a0 = 12) {δ : dp} (I : RI ad h.1 δ0 δ) (O : OI ad a0 δ) : ok (D_X12_seeds N h.1 a0 x1 x2 x3 x4 x5 δ) (fun r => OR ad h.1 a0 δ0 δ r.2 ∧ q_I r.2 12 18 a0 = q_I δ 12 18 a0) := by
  refine ok_mono (f_seeds L hN (x1 := x1) (x2 := x2) (x3 := x3) (x4 := x4) (x5 := x5) k_a0 I O.2.1 (fun K hK => O.h hK)) (fun r hr => ?_)
  obtain ⟨i, u, w, B⟩ := hr
  exact ⟨⟨i, O.b u w (by decide) (by decide) B, by rw [u 12 2 a0 (by decide)], w 101 (by decide) (by decide) (by decide), u 12 10 a0 (by decide), u 12 11 a0 (by decide), u 12 12 a0 (by decide)⟩, u 12 18 a0 (by decide)⟩
