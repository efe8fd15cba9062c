section
/-! the codes that a sum's text makes: nothing is ever taken off an empty stack -/
def cbx (a0 : Nat) (δ : dp) : Nat := (500 * (q_I δ 12 24 a0).toInt + (q_I δ 12 26 a0).toInt).toNat
def rn (ρ : Nat → Int32) : Nat → Nat → Nat → Option Nat
  | 0, _, n => some n
  | m + 1, i, n => if 0 ≤ (ρ i).toInt ∧ (ρ i).toInt ≤ 5 then rn ρ m (i + 1) (n + 1) else if 2 ≤ n then rn ρ m (i + 1) (n - 1) else none
theorem rn_add (ρ : Nat → Int32) : ∀ m1 m2 i n, rn ρ (m1 + m2) i n = (rn ρ m1 i n).bind (rn ρ m2 (i + m1)) := by
  intro m1
  induction m1 with
  | zero => intro m2 i n; rw [Nat.zero_add]; rfl
  | succ m1 ih =>
    intro m2 i n
    rw [show m1 + 1 + m2 = (m1 + m2) + 1 by omega]
    show (if 0 ≤ (ρ i).toInt ∧ (ρ i).toInt ≤ 5 then rn ρ (m1 + m2) (i + 1) (n + 1) else if 2 ≤ n then rn ρ (m1 + m2) (i + 1) (n - 1) else none) = (if 0 ≤ (ρ i).toInt ∧ (ρ i).toInt ≤ 5 then rn ρ m1 (i + 1) (n + 1) else if 2 ≤ n then rn ρ m1 (i + 1) (n - 1) else none).bind (rn ρ m2 (i + (m1 + 1)))
    by_cases c : 0 ≤ (ρ i).toInt ∧ (ρ i).toInt ≤ 5
    · rw [if_pos c, if_pos c, ih, show i + 1 + m1 = i + (m1 + 1) by omega]
    · rw [if_neg c, if_neg c]
      by_cases c2 : 2 ≤ n
      · rw [if_pos c2, if_pos c2, ih, show i + 1 + m1 = i + (m1 + 1) by omega]
      · rw [if_neg c2, if_neg c2]; rfl
theorem rn_c {ρ σ : Nat → Int32} : ∀ m i n, (∀ j, i ≤ j → j < i + m → ρ j = σ j) → rn ρ m i n = rn σ m i n := by
  intro m
  induction m with
  | zero => intro i n _; rfl
  | succ m ih =>
    intro i n h
    show (if 0 ≤ (ρ i).toInt ∧ (ρ i).toInt ≤ 5 then rn ρ m (i + 1) (n + 1) else if 2 ≤ n then rn ρ m (i + 1) (n - 1) else none) = (if 0 ≤ (σ i).toInt ∧ (σ i).toInt ≤ 5 then rn σ m (i + 1) (n + 1) else if 2 ≤ n then rn σ m (i + 1) (n - 1) else none)
    rw [h i (Nat.le_refl _) (by omega), ih (i + 1) (n + 1) (fun j h1 h2 => h j (by omega) (by omega)), ih (i + 1) (n - 1) (fun j h1 h2 => h j (by omega) (by omega))]
/-- no code is made -/
def NU (ad : List Nat) (a0 : Nat) (δ δ1 : dp) : Prop := q_R δ1 (Ad ad 116) = q_R δ (Ad ad 116) ∧ q_I δ1 12 26 a0 = q_I δ 12 26 a0 ∧ q_I δ1 12 24 a0 = q_I δ 12 24 a0 ∧ ((q_I δ1 12 5 a0).toInt = -1 → (q_I δ 12 5 a0).toInt = -1)
def UB (ad : List Nat) (a0 : Nat) (δ δ1 : dp) : Prop := q_I δ1 12 24 a0 = q_I δ 12 24 a0 ∧ cbx a0 δ ≤ cbx a0 δ1 ∧ (∀ i, i < cbx a0 δ → q_R δ1 (Ad ad 116) i = q_R δ (Ad ad 116) i) ∧ ((q_I δ1 12 5 a0).toInt = -1 → (q_I δ 12 5 a0).toInt = -1)
/-- codes that lay one number more -/
def US (ad : List Nat) (a0 : Nat) (δ δ1 : dp) : Prop := UB ad a0 δ δ1 ∧ ((q_I δ1 12 5 a0).toInt = -1 → ∀ n, rn (q_R δ1 (Ad ad 116)) (cbx a0 δ1 - cbx a0 δ) (cbx a0 δ) n = some (n + 1))
/-- codes that leave as many numbers, one at least -/
def LU (ad : List Nat) (a0 : Nat) (δ δ1 : dp) : Prop := UB ad a0 δ δ1 ∧ ((q_I δ1 12 5 a0).toInt = -1 → ∀ n, rn (q_R δ1 (Ad ad 116)) (cbx a0 δ1 - cbx a0 δ) (cbx a0 δ) (n + 1) = some (n + 1))
/-- one code is made, if all is fine -/
def EM (ad : List Nat) (a0 : Nat) (δ δ1 : dp) (w : Int32) : Prop := q_I δ1 12 24 a0 = q_I δ 12 24 a0 ∧ q_I δ1 12 5 a0 = q_I δ 12 5 a0 ∧ ((q_I δ 12 5 a0).toInt = -1 → cbx a0 δ1 = cbx a0 δ + 1 ∧ ∀ i, q_R δ1 (Ad ad 116) i = if i = cbx a0 δ then w else q_R δ (Ad ad 116) i) ∧ ((q_I δ 12 5 a0).toInt ≠ -1 → q_R δ1 (Ad ad 116) = q_R δ (Ad ad 116) ∧ cbx a0 δ1 = cbx a0 δ)
theorem NU.r {ad : List Nat} {a0 : Nat} {δ : dp} : NU ad a0 δ δ := ⟨rfl, rfl, rfl, id⟩
theorem NU.t {ad : List Nat} {a0 : Nat} {δ δ1 δ2 : dp} (h : NU ad a0 δ δ1) (k : NU ad a0 δ1 δ2) : NU ad a0 δ δ2 := ⟨k.1.trans h.1, k.2.1.trans h.2.1, k.2.2.1.trans h.2.2.1, fun z => h.2.2.2 (k.2.2.2 z)⟩
theorem NU.w {ad : List Nat} {a0 : Nat} {δ δ1 : dp} {k : Nat} {v : Int32} (e : δ1 = s_I δ 12 k a0 v) (hk : k ≠ 5 ∧ k ≠ 24 ∧ k ≠ 26) : NU ad a0 δ δ1 := by
  subst e
  refine ⟨rfl, rI_o (fun z => hk.2.2 z.2.symm), rI_o (fun z => hk.2.1 z.2.symm), fun z => ?_⟩
  rw [rI_o (fun z => hk.1 z.2.symm)] at z
  exact z
theorem NU.c {ad : List Nat} {a0 : Nat} {δ δ1 : dp} (h : NU ad a0 δ δ1) : cbx a0 δ1 = cbx a0 δ := by
  unfold cbx
  rw [h.2.1, h.2.2.1]
theorem NU.b {ad : List Nat} {a0 : Nat} {δ δ1 : dp} (h : NU ad a0 δ δ1) : UB ad a0 δ δ1 := ⟨h.2.2.1, by rw [h.c]; exact Nat.le_refl _, fun i _ => by rw [h.1], h.2.2.2⟩
theorem UB.t {ad : List Nat} {a0 : Nat} {δ δ1 δ2 : dp} (h : UB ad a0 δ δ1) (k : UB ad a0 δ1 δ2) : UB ad a0 δ δ2 := ⟨k.1.trans h.1, Nat.le_trans h.2.1 k.2.1, fun i hi => (k.2.2.1 i (Nat.lt_of_lt_of_le hi h.2.1)).trans (h.2.2.1 i hi), fun z => h.2.2.2 (k.2.2.2 z)⟩
theorem US.pre {ad : List Nat} {a0 : Nat} {δ δ1 δ2 : dp} (h : NU ad a0 δ δ1) (k : US ad a0 δ1 δ2) : US ad a0 δ δ2 := ⟨h.b.t k.1, fun z n => by rw [← h.c]; exact k.2 z n⟩
theorem LU.pre {ad : List Nat} {a0 : Nat} {δ δ1 δ2 : dp} (h : NU ad a0 δ δ1) (k : LU ad a0 δ1 δ2) : LU ad a0 δ δ2 := ⟨h.b.t k.1, fun z n => by rw [← h.c]; exact k.2 z n⟩
theorem US.post {ad : List Nat} {a0 : Nat} {δ δ1 δ2 : dp} (h : US ad a0 δ δ1) (k : NU ad a0 δ1 δ2) : US ad a0 δ δ2 := ⟨h.1.t k.b, fun z n => by rw [k.1, k.c]; exact h.2 (k.2.2.2 z) n⟩
theorem LU.post {ad : List Nat} {a0 : Nat} {δ δ1 δ2 : dp} (h : LU ad a0 δ δ1) (k : NU ad a0 δ1 δ2) : LU ad a0 δ δ2 := ⟨h.1.t k.b, fun z n => by rw [k.1, k.c]; exact h.2 (k.2.2.2 z) n⟩
theorem LU.n {ad : List Nat} {a0 : Nat} {δ δ1 : dp} (h : NU ad a0 δ δ1) : LU ad a0 δ δ1 := ⟨h.b, fun z n => by rw [h.c, Nat.sub_self]; rfl⟩
theorem US.bad {ad : List Nat} {a0 : Nat} {δ δ1 : dp} (h : NU ad a0 δ δ1) (b : (q_I δ1 12 5 a0).toInt ≠ -1) : US ad a0 δ δ1 := ⟨h.b, fun z => absurd z b⟩
theorem EM.b {ad : List Nat} {a0 : Nat} {δ δ1 : dp} {w : Int32} (h : EM ad a0 δ δ1 w) : UB ad a0 δ δ1 := by
  refine ⟨h.1, ?_, fun i hi => ?_, fun z => by rw [h.2.1] at z; exact z⟩
  · by_cases c : (q_I δ 12 5 a0).toInt = -1
    · rw [(h.2.2.1 c).1]; omega
    · rw [(h.2.2.2 c).2]; exact Nat.le_refl _
  · by_cases c : (q_I δ 12 5 a0).toInt = -1
    · rw [(h.2.2.1 c).2, if_neg (by omega)]
    · rw [(h.2.2.2 c).1]
theorem EM.z {ad : List Nat} {a0 : Nat} {δ δ1 : dp} {w : Int32} (h : EM ad a0 δ δ1 w) (z : (q_I δ1 12 5 a0).toInt = -1) : (q_I δ 12 5 a0).toInt = -1 := by rw [h.2.1] at z; exact z
theorem US.em {ad : List Nat} {a0 : Nat} {δ δ1 δ2 : dp} {w : Int32} (h : NU ad a0 δ δ1) (k : EM ad a0 δ1 δ2 w) (w1 : 0 ≤ w.toInt) (w2 : w.toInt ≤ 5) : US ad a0 δ δ2 := by
  refine US.pre h ⟨k.b, fun z n => ?_⟩
  have c := k.2.2.1 (k.z z)
  rw [c.1, Nat.add_sub_cancel_left]
  show (if 0 ≤ (q_R δ2 (Ad ad 116) (cbx a0 δ1)).toInt ∧ (q_R δ2 (Ad ad 116) (cbx a0 δ1)).toInt ≤ 5 then rn _ 0 _ (n + 1) else _) = _
  rw [c.2, if_pos rfl, if_pos ⟨w1, w2⟩]
  rfl
theorem LU.em {ad : List Nat} {a0 : Nat} {δ δ1 δ2 : dp} {w : Int32} (h : US ad a0 δ δ1) (k : EM ad a0 δ1 δ2 w) (w1 : w.toInt < 0 ∨ 5 < w.toInt) : LU ad a0 δ δ2 := by
  refine ⟨h.1.t k.b, fun z n => ?_⟩
  have c := k.2.2.1 (k.z z)
  have g := h.2 (k.z z) (n + 1)
  have l := h.1.2.1
  rw [c.1, show cbx a0 δ1 + 1 - cbx a0 δ = (cbx a0 δ1 - cbx a0 δ) + 1 by omega, rn_add, rn_c (σ := q_R δ1 (Ad ad 116)) _ _ _ (fun j h1 h2 => by rw [c.2, if_neg (by omega)]), g, Option.bind_some, show cbx a0 δ + (cbx a0 δ1 - cbx a0 δ) = cbx a0 δ1 by omega]
  show (if 0 ≤ (q_R δ2 (Ad ad 116) (cbx a0 δ1)).toInt ∧ (q_R δ2 (Ad ad 116) (cbx a0 δ1)).toInt ≤ 5 then _ else if 2 ≤ n + 1 + 1 then rn _ 0 _ (n + 1 + 1 - 1) else none) = _
  rw [c.2, if_pos rfl, if_neg (by omega), if_pos (by omega)]
  rfl
theorem rn_seq {ad : List Nat} {a0 : Nat} {δ δ1 δ2 : dp} (h : UB ad a0 δ δ1) (k : UB ad a0 δ1 δ2) (n : Nat) : rn (q_R δ2 (Ad ad 116)) (cbx a0 δ2 - cbx a0 δ) (cbx a0 δ) n = (rn (q_R δ1 (Ad ad 116)) (cbx a0 δ1 - cbx a0 δ) (cbx a0 δ) n).bind (rn (q_R δ2 (Ad ad 116)) (cbx a0 δ2 - cbx a0 δ1) (cbx a0 δ1)) := by
  have l1 := h.2.1
  have l2 := k.2.1
  rw [show cbx a0 δ2 - cbx a0 δ = (cbx a0 δ1 - cbx a0 δ) + (cbx a0 δ2 - cbx a0 δ1) by omega, rn_add, rn_c (σ := q_R δ1 (Ad ad 116)) (cbx a0 δ1 - cbx a0 δ) _ _ (fun j h1 h2 => k.2.2.1 j (by omega)), show cbx a0 δ + (cbx a0 δ1 - cbx a0 δ) = cbx a0 δ1 by omega]
theorem LU.t {ad : List Nat} {a0 : Nat} {δ δ1 δ2 : dp} (h : LU ad a0 δ δ1) (k : LU ad a0 δ1 δ2) : LU ad a0 δ δ2 := ⟨h.1.t k.1, fun z n => by
  rw [rn_seq h.1 k.1, h.2 (k.1.2.2.2 z) n]
  exact k.2 z n⟩
theorem US.l {ad : List Nat} {a0 : Nat} {δ δ1 δ2 : dp} (h : US ad a0 δ δ1) (k : LU ad a0 δ1 δ2) : US ad a0 δ δ2 := ⟨h.1.t k.1, fun z n => by
  rw [rn_seq h.1 k.1, h.2 (k.1.2.2.2 z) n]
  exact k.2 z n⟩
theorem f_emit {ad : List Nat} {h : hp} (L : Lay TLx ad h) {δ0 : dp} {N : Nat} (hN : 10000000 ≤ N) {a0 : Nat} {x1 x2 : Int32} (k_a0 : q_K h.1 a0 = 12) {δ : dp} (z0 : (q_I δ 12 24 a0).toInt ≤ 3) (z1 : (q_I δ 12 5 a0).toInt < 0 → (q_I δ 12 26 a0).toInt < 500) (I : RI ad h.1 δ0 δ) : ok (D_X12_emit N h.1 a0 x1 x2 δ) (fun r => EM ad a0 δ r x1) := by
  have e0 : (0 : Int32).toInt = 0 := rfl
  have f1 := cb_12_24 I k_a0
  have f2 := cb_12_26 I k_a0
  unfold D_X12_emit
  refine ok_bind (k_X12_fine L hN (a0 := a0) k_a0 I) (fun r hr => ?_)
  obtain ⟨e, b, g1, g2⟩ := hr
  have g0 := bo_t b
  have g5 := cb_12_5 I k_a0
  rw [e]
  refine ok_ite (fun c => ?_) (fun c => ?_)
  · have c1 : r.1.toInt = 0 := o_eq c
    exact ok_some ⟨rfl, rfl, fun z => by omega, fun _ => ⟨rfl, rfl⟩⟩
  · have c1 : r.1.toInt ≠ 0 := o_ne c
    have hb : (q_I δ 12 5 a0).toInt = -1 := by omega
    have hc := z1 (by omega)
    obtain ⟨b1, o1, _, n1, w1⟩ := gO_12_32 L k_a0
    obtain rfl := gS_12_32 L k_a0 o1
    obtain ⟨b2, o2, _, n2, w2⟩ := gO_12_33 L k_a0
    obtain rfl := gS_12_33 L k_a0 o2
    have t1 := te_mulc (c := 500) (n := 500) rfl (q_I δ 12 24 a0) (by omega) (by omega)
    have t2 := te_add ((500 : Int32) * q_I δ 12 24 a0) (q_I δ 12 26 a0) (by omega) (by omega)
    have t3 := ti_tn ((500 : Int32) * q_I δ 12 24 a0 + q_I δ 12 26 a0)
    have ec : ((500 : Int32) * q_I δ 12 24 a0 + q_I δ 12 26 a0).toNatClampNeg = cbx a0 δ := by unfold cbx; omega
    refine ok_at o1 ?_
    refine ok_gd (fun z => ?_) ?_
    · rcases z with z | z
      · have := o_lt z; omega
      · omega
    refine ok_bdv (fun d1 e1 => ?_)
    have q1 : q_I d1 = q_I δ := by rw [e1]; rfl
    rw [q1]
    refine ok_at o2 ?_
    refine ok_gd (fun z => ?_) ?_
    · rcases z with z | z
      · have := o_lt z; omega
      · omega
    refine ok_bdv (fun d2 e2 => ?_)
    have q2 : q_I d2 = q_I δ := by rw [e2]; exact q1
    refine ok_bdv (fun d3 e3 => ?_)
    have t4 := te_addc (c := 1) (n := 1) rfl (q_I δ 12 26 a0) (by omega) (by omega)
    have r26 : q_I d3 12 26 a0 = q_I δ 12 26 a0 + 1 := by rw [e3, rI_s, q2]
    have r24 : q_I d3 12 24 a0 = q_I δ 12 24 a0 := by rw [e3, rI_o (by decide), q2]
    refine ok_some ⟨r24, by rw [e3, rI_o (by decide), q2], fun _ => ⟨?_, fun i => ?_⟩, fun z => absurd hb z⟩
    · unfold cbx
      rw [r26, r24]
      omega
    · rw [e3, qR_sI, e2, rR_o (ad_ne L (by decide) (by decide) (by decide)), e1, qR_sR, ec]
      by_cases c3 : i = cbx a0 δ
      · rw [if_pos ⟨rfl, c3⟩, if_pos c3]
      · rw [if_neg (fun z => c3 z.2), if_neg c3]
set_option maxHeartbeats 4000000 in
theorem k0_X12_emit {ad : List Nat} {h : hp} (L : Lay TLx ad h) {δ0 : dp} {N : Nat} (hN : 10000000 ≤ N) {a0 : Nat} {x1 : Int32} {x2 : Int32} (k_a0 : q_K h.1 a0 = 12) {δ : dp} (z0 : (q_I δ 12 24 a0).toInt ≤ 3) (z1 : (q_I δ 12 5 a0).toInt < 0 → (q_I δ 12 26 a0).toInt < 500) (I : RI ad h.1 δ0 δ) : ok (D_X12_emit N h.1 a0 x1 x2 δ) (fun r => RI ad h.1 δ0 r ∧ (kp [(12, 26)] δ r ∧ q_V r = q_V δ ∧ kr ad [116, 117] δ r) ∧ (q_I δ 12 26 a0).toInt ≤ (q_I r 12 26 a0).toInt ∧ (q_I r 12 26 a0).toInt ≤ (q_I δ 12 26 a0).toInt + 1 ∧ (0 ≤ (q_I δ 12 5 a0).toInt → (q_I r 12 26 a0).toInt = (q_I δ 12 26 a0).toInt)) := by
  unfold D_X12_emit
  have f1 := cb_12_24 I k_a0
  have f2 := cb_12_5 I k_a0
  have f3 := cb_12_26 I k_a0
  refine ok_bind (k_X12_fine L hN (a0 := a0) k_a0 I) (fun r4 hr5 => ?_)
  obtain ⟨i6, p7, p8, p9⟩ := hr5
  try rw [i6]
  have f10 := bo_t p7
  have f11 := ti_b r4.1
  refine ok_ite (fun h12 => ?_) (fun h12 => ?_)
  · have c13 : r4.1.toInt = (0 : Int) := o_eq h12
    exact ok_some (show RI ad h.1 δ0 δ ∧ (kp [(12, 26)] δ δ ∧ q_V δ = q_V δ ∧ kr ad [116, 117] δ δ) ∧ (q_I δ 12 26 a0).toInt ≤ (q_I δ 12 26 a0).toInt ∧ (q_I δ 12 26 a0).toInt ≤ (q_I δ 12 26 a0).toInt + 1 ∧ (0 ≤ (q_I δ 12 5 a0).toInt → (q_I δ 12 26 a0).toInt = (q_I δ 12 26 a0).toInt) from ⟨I, ⟨kp_w (by decide) kp_r, rfl, kr_w (by decide) (kr_r (ad := ad))⟩, by first | with_reducible assumption | omega, by first | with_reducible assumption | omega, by first | with_reducible assumption | omega⟩)
  · have c14 : r4.1.toInt ≠ (0 : Int) := o_ne h12
    obtain ⟨b15, o16, k17, n18, w19⟩ := gO_12_32 L k_a0
    obtain rfl := gS_12_32 L k_a0 o16
    refine ok_at o16 ?_
    first | (have q21 := te_mulc (c := 500) (n := 500) rfl (q_I δ 12 24 a0) (by omega) (by omega); obtain ⟨f22, f23, f24⟩ := q21) | (obtain ⟨q21, f22, f23, f24⟩ := ti_mulc (c := 500) (n := 500) rfl (q_I δ 12 24 a0))
    first | (have q26 := te_add ((500 : Int32) * (q_I δ 12 24 a0)) (q_I δ 12 26 a0) (by omega) (by omega); obtain ⟨f27, f28, f29⟩ := q26) | (obtain ⟨q26, f27, f28, f29⟩ := ti_add ((500 : Int32) * (q_I δ 12 24 a0)) (q_I δ 12 26 a0))
    have t30 := ti_tn (((500 : Int32) * (q_I δ 12 24 a0)) + (q_I δ 12 26 a0))
    refine ok_gd (fun hc31 => ?_) ?_
    · rcases hc31 with hc31 | hc31
      · have c32 : (((500 : Int32) * (q_I δ 12 24 a0)) + (q_I δ 12 26 a0)).toInt < (0 : Int) := o_lt hc31
        omega
      · omega
    refine ok_bdv (fun d33 e34 => ?_)
    have i35 : RI ad h.1 δ0 d33 := by rw [e34]; exact RI.sR L I w19
    have u36 := kp_N kp_r (show q_I d33 = q_I δ by rw [e34]; rfl)
    have v37 : q_V d33 = q_V δ := ((show q_V d33 = q_V δ by rw [e34]; rfl)).trans rfl
    have v38 := kr_s L (by decide) (kr_r (ad := ad)) e34
    obtain ⟨b39, o40, k41, n42, w43⟩ := gO_12_33 L k_a0
    obtain rfl := gS_12_33 L k_a0 o40
    refine ok_at o40 ?_
    have f45 : (q_I d33 12 24 a0).toInt = (q_I δ 12 24 a0).toInt := congrArg Int32.toInt (by rw [e34]; rfl)
    first | (have q46 := te_mulc (c := 500) (n := 500) rfl (q_I d33 12 24 a0) (by omega) (by omega); obtain ⟨f47, f48, f49⟩ := q46) | (obtain ⟨q46, f47, f48, f49⟩ := ti_mulc (c := 500) (n := 500) rfl (q_I d33 12 24 a0))
    have f50 : (q_I d33 12 26 a0).toInt = (q_I δ 12 26 a0).toInt := congrArg Int32.toInt (by rw [e34]; rfl)
    first | (have q52 := te_add ((500 : Int32) * (q_I d33 12 24 a0)) (q_I d33 12 26 a0) (by omega) (by omega); obtain ⟨f53, f54, f55⟩ := q52) | (obtain ⟨q52, f53, f54, f55⟩ := ti_add ((500 : Int32) * (q_I d33 12 24 a0)) (q_I d33 12 26 a0))
    have t56 := ti_tn (((500 : Int32) * (q_I d33 12 24 a0)) + (q_I d33 12 26 a0))
    refine ok_gd (fun hc57 => ?_) ?_
    · rcases hc57 with hc57 | hc57
      · have c58 : (((500 : Int32) * (q_I d33 12 24 a0)) + (q_I d33 12 26 a0)).toInt < (0 : Int) := o_lt hc57
        omega
      · omega
    refine ok_bdv (fun d59 e60 => ?_)
    have i61 : RI ad h.1 δ0 d59 := by rw [e60]; exact RI.sR L i35 w43
    have u62 := kp_N u36 (show q_I d59 = q_I d33 by rw [e60]; rfl)
    have v63 : q_V d59 = q_V δ := ((show q_V d59 = q_V d33 by rw [e60]; rfl)).trans v37
    have v64 := kr_s L (by decide) v38 e60
    have f68 : (q_I d59 12 26 a0).toInt = (q_I d33 12 26 a0).toInt := congrArg Int32.toInt (by rw [e60]; rfl)
    first | (have q70 := te_addc (c := 1) (n := 1) rfl (q_I d59 12 26 a0) (by omega) (by omega); obtain ⟨f71, f72, f73⟩ := q70) | (obtain ⟨q70, f71, f72, f73⟩ := ti_addc (c := 1) (n := 1) rfl (q_I d59 12 26 a0))
    refine ok_bdv (fun d65 e66 => ?_)
    have i67 : RI ad h.1 δ0 d65 := by rw [e66]; exact cs_12_26 L i61 k_a0 (show 0 ≤ ((q_I d59 12 26 a0) + (1 : Int32)).toInt by omega) (show ((q_I d59 12 26 a0) + (1 : Int32)).toInt ≤ 500 by omega)
    have u74 := kp_I u62 e66
    have v75 : q_V d65 = q_V δ := ((show q_V d65 = q_V d59 by rw [e66]; rfl)).trans v63
    have v76 := kr_N v64 (show q_R d65 = q_R d59 by rw [e66]; rfl)
    have f77 := cb_12_26 i67 k_a0
    have f78 : (q_I d65 12 26 a0).toInt = ((q_I d59 12 26 a0) + (1 : Int32)).toInt := congrArg Int32.toInt (show q_I d65 12 26 a0 = ((q_I d59 12 26 a0) + (1 : Int32)) by rw [e66]; exact rI_s)
    exact ok_some (show RI ad h.1 δ0 d65 ∧ (kp [(12, 26)] δ d65 ∧ q_V d65 = q_V δ ∧ kr ad [116, 117] δ d65) ∧ (q_I δ 12 26 a0).toInt ≤ (q_I d65 12 26 a0).toInt ∧ (q_I d65 12 26 a0).toInt ≤ (q_I δ 12 26 a0).toInt + 1 ∧ (0 ≤ (q_I δ 12 5 a0).toInt → (q_I d65 12 26 a0).toInt = (q_I δ 12 26 a0).toInt) from ⟨i67, ⟨kp_w (by decide) u74, v75, kr_w (by decide) v76⟩, by first | with_reducible assumption | omega, by first | with_reducible assumption | omega, by first | with_reducible assumption | omega⟩)
set_option maxHeartbeats 4000000 in
theorem k_X12_emit {ad : List Nat} {h : hp} (L : Lay TLx ad h) {δ0 : dp} {N : Nat} (hN : 10000000 ≤ N) {a0 : Nat} {x1 : Int32} {x2 : Int32} (k_a0 : q_K h.1 a0 = 12) {δ : dp} (z0 : (q_I δ 12 24 a0).toInt ≤ 3) (z1 : (q_I δ 12 5 a0).toInt < 0 → (q_I δ 12 26 a0).toInt < 500) (I : RI ad h.1 δ0 δ) : ok (D_X12_emit N h.1 a0 x1 x2 δ) (fun r => RI ad h.1 δ0 r ∧ (kp [(12, 26)] δ r ∧ q_V r = q_V δ ∧ kr ad [116, 117] δ r) ∧ (q_I δ 12 26 a0).toInt ≤ (q_I r 12 26 a0).toInt ∧ (q_I r 12 26 a0).toInt ≤ (q_I δ 12 26 a0).toInt + 1 ∧ (0 ≤ (q_I δ 12 5 a0).toInt → (q_I r 12 26 a0).toInt = (q_I δ 12 26 a0).toInt) ∧ EM ad a0 δ r (x1)) := by
  refine ok_mono (ok_and (k0_X12_emit L hN k_a0 z0 z1 I) (f_emit L hN k_a0 z0 z1 I)) (fun r hr => ?_)
  exact ⟨hr.1.1, hr.1.2.1, hr.1.2.2.1, hr.1.2.2.2.1, hr.1.2.2.2.2, hr.2⟩
end
section
/-! room of the reference: the house comes back -/
theorem ix1 {x1 : Int32} {h : Nat} (hx : x1.toInt = (h : Int)) (hh : h < 4) {m : Int32} {k : Nat} (hm : m.toInt = (k : Int)) (hk : k < 1000) : ((1000 : Int32) * x1 + m).toInt = ((1000 * h + k : Nat) : Int) ∧ ((1000 : Int32) * x1 + m).toNatClampNeg = 1000 * h + k := by
  have t1 := te_mulc (c := 1000) (n := 1000) rfl x1 (by omega) (by omega)
  have t2 := te_add ((1000 : Int32) * x1) m (by omega) (by omega)
  have t3 := ti_tn ((1000 : Int32) * x1 + m)
  omega
set_option maxHeartbeats 4000000 in
theorem fl_room {ad : List Nat} {h : hp} (L : Lay TLx ad h) {δ0 : dp} {N : Nat} (hNN : 10000000 ≤ N) {a0 H : Nat} {x1 x2 : Int32} (ka : q_K h.1 a0 = 12) (hx : x1.toInt = (H : Int)) (hh : H < 4) {δ : dp} (I0 : RI ad h.1 δ0 δ) (S : ∀ K, K < 4 → 0 ≤ hM ad δ K) : ∀ (n k : Nat) (x3 x4 : Int32) (d : dp), x4.toInt = (k : Int) → k ≤ 1000 → RI ad h.1 δ0 d → -(k : Int) ≤ (q_R d (Ad ad 103) x1.toNatClampNeg).toInt → (q_R d (Ad ad 103) x1.toNatClampNeg).toInt ≤ (k : Int) → kpt ad a0 H δ d → 1000 - k < n → ok (L_X12_room_60 N h.1 a0 x1 x2 n x3 x4 d) (fun r => bak ad δ r.2) := by
  have e0 : (0 : Int32).toInt = 0 := rfl
  have tn := tnH hx
  obtain ⟨b1, o1, _, n1, _⟩ := gO_12_15 L ka
  obtain rfl := gS_12_15 L ka o1
  obtain ⟨b2, o2, _, n2, _⟩ := gO_12_16 L ka
  obtain rfl := gS_12_16 L ka o2
  obtain ⟨b3, o3, _, n3⟩ := gO_12_17 L ka
  obtain rfl := gS_12_17 L ka o3
  intro n
  induction n with
  | zero => intro k x3 x4 d h1 h2 I m1 m2 K hn; exfalso; omega
  | succ n ih =>
    intro k x3 x4 d h1 h2 I m1 m2 K hn
    have hB : 0 ≤ (q_R d (Ad ad 106) H).toInt ∧ (q_R d (Ad ad 106) H).toInt ≤ 1000 := rb_106 L I H
    unfold L_X12_room_60
    refine ok_at o3 ?_
    refine ok_gd (fun z => ?_) ?_
    · rcases z with z | z
      · have := o_lt z; omega
      · omega
    rw [tn]
    refine ok_ite (fun _ => ?_) (fun c => ?_)
    · exact ok_bind (f_back L hNN ka hx hh I0 S K) (fun r hr => ok_some hr)
    · have c1 := o_nle c
      obtain ⟨i1, i2⟩ := ix1 hx hh h1 (by omega)
      have go : ∀ cc : Int32, ok (J_X12_room_96 N h.1 a0 x1 x2 (L_X12_room_60 N h.1 a0 x1 x2 n) cc x1 a0 x3 x4 d) (fun r => bak ad δ r.2) := fun cc => by
        unfold J_X12_room_96
        refine ok_at o1 ?_
        refine ok_gd (fun z => ?_) ?_
        · rcases z with z | z
          · have := o_lt z; omega
          · rw [i2] at z; omega
        refine ok_bind (k_X12_halves L hNN (a0 := a0) (x1 := x1) (x2 := cc) (x3 := q_R d (Ad ad 104) ((1000 : Int32) * x1 + x4).toNatClampNeg) ka (by omega) (by omega) I) (fun r hr => ?_)
        obtain ⟨j1, u1, v1, w1⟩ := hr
        have q3 := w1 103 (by decide) (by decide) (by decide)
        have K1 : kpt ad a0 H δ r.2 := K.t (sgk_k (w1 102 (by decide) (by decide) (by decide)) q3) (w1 124 (by decide) (by decide) (by decide)) (u1 12 47 a0 (by decide))
        refine ok_biv (fun s2 _ => ?_)
        refine ok_bind (g_X12_changes L hNN (a0 := a0) (x1 := x1) (x2 := x4) ka (by omega) (by omega) (by omega) (by omega) (by rw [q3]; omega) (by rw [q3]; omega) j1) (fun r2 hr2 => ?_)
        obtain ⟨j2, ⟨u2, v2, w2, s2'⟩, p1, p2⟩ := hr2
        rw [q3] at p1 p2
        rw [tn] at s2'
        refine ok_biv (fun y ey => ?_)
        have hy : y.toInt = x4.toInt + 1 := by rw [ey]; exact (te_addc (c := 1) (n := 1) rfl x4 (by omega) (by omega)).1
        exact ih (k + 1) s2 y r2 (by omega) (by omega) j2 (by omega) (by omega) (K1.t s2' (w2 124 (by decide) (by decide) (by decide)) (u2 12 47 a0 (by decide))) (by omega)
      refine ok_at o2 ?_
      refine ok_gd (fun z => ?_) ?_
      · rcases z with z | z
        · have := o_lt z; omega
        · rw [i2] at z; omega
      exact ok_ite (fun _ => go 0) (fun _ => go 1)
set_option maxHeartbeats 4000000 in
theorem f_room {ad : List Nat} {h : hp} (L : Lay TLx ad h) {δ0 : dp} {N : Nat} (hNN : 10000000 ≤ N) {a0 : Nat} {x1 x2 : Int32} (ka : q_K h.1 a0 = 12) {δ : dp} (I : RI ad h.1 δ0 δ) (S : ∀ K, K < 4 → 0 ≤ hM ad δ K) : ok (D_X12_room N h.1 a0 x1 x2 δ) (fun r => bak ad δ r.2) := by
  have e0 : (0 : Int32).toInt = 0 := rfl
  unfold D_X12_room
  refine ok_bdv (fun d1 e1 => ?_)
  have i1 : RI ad h.1 δ0 d1 := by rw [e1]; exact cs_12_0 L I
  have w1 := kr_N (ad := ad) (W := []) (δ := δ) kr_r (show q_R d1 = q_R δ by rw [e1]; rfl)
  refine ok_bind (k_X12_isHouse L hNN (a0 := a0) (x1 := x1) (x2 := 1) ka (by decide) i1) (fun r2 hr2 => ?_)
  obtain ⟨i2, ⟨u2, v2, w2⟩, b2, g2⟩ := hr2
  have w2' : kr ad [100] δ r2.2 := kr_w (by decide) (kr_t w1 w2)
  have out : ∀ d, kr ad [100] δ d → bak ad δ d := fun d w => bak_k (w 102 (by decide) (by decide) (by decide)) (w 103 (by decide) (by decide) (by decide))
  refine ok_ite (fun _ => ?_) (fun c2 => ?_)
  · unfold J_X12_room_29; exact ok_some (out _ w2')
  have n2 := bo_l b2
  have m2 := o_ne c2
  have hx := g2 (by omega)
  obtain ⟨A, hA⟩ : ∃ A : Nat, x1.toInt = (A : Int) := ⟨x1.toInt.toNat, by omega⟩
  have tn := tnH hA
  refine ok_bind (k_X12_within L hNN (x0 := x2) (x1 := 0) (x2 := 1) i2) (fun r5 hr5 => ?_)
  obtain ⟨e5, b5, _, _⟩ := hr5
  rw [e5]
  refine ok_bind (k_X12_may L hNN (a0 := a0) (x1 := r5.1) (x2 := 2) (x3 := 2) ka (by decide) (by decide) (by decide) i2) (fun r hr => ?_)
  obtain ⟨i4, ⟨u4, v4, w4⟩, b4, g4, _⟩ := hr
  have w4' : kr ad [100] δ r.2 := kr_w (by decide) (kr_t w2' w4)
  have b0 := out _ w4'
  refine ok_ite (fun _ => ?_) (fun c4 => ?_)
  · unfold J_X12_room_29; exact ok_some b0
  have S4 : ∀ K, K < 4 → 0 ≤ hM ad r.2 K := fun K hK => by rw [(b0 K hK).1]; exact S K hK
  obtain ⟨b3, o3, _, n3⟩ := gO_12_17 L ka
  obtain rfl := gS_12_17 L ka o3
  obtain ⟨bm, om, _, nm⟩ := gO_12_14 L ka
  obtain rfl := gS_12_14 L ka om
  refine ok_ite (fun _ => ?_) (fun _ => ?_)
  · refine ok_at o3 ?_
    refine ok_gd (fun z => ?_) (ok_some b0)
    rcases z with z | z
    · have := o_lt z; omega
    · omega
  · refine ok_bind (ok_and (k_X12_keeps L hNN (a0 := a0) (x1 := x1) ka (by omega) (by omega) i4) (f_keeps L hNN ka hA (by omega) i4 (S4 A (by omega)))) (fun r9 hr9 => ?_)
    obtain ⟨⟨i9, _⟩, k9⟩ := hr9
    refine ok_at om ?_
    refine ok_gd (fun z => ?_) ?_
    · rcases z with z | z
      · have := o_lt z; omega
      · omega
    refine ok_bdv (fun d10 e10 => ?_)
    have i10 : RI ad h.1 δ0 d10 := by rw [e10]; exact cr_103 L i9 (by decide) (by decide)
    have m0 : (q_R d10 (Ad ad 103) x1.toNatClampNeg).toInt = 0 := by
      rw [e10, qR_sR, if_pos ⟨rfl, rfl⟩]
      rfl
    have k10 : kpt ad a0 A r.2 d10 := k9.t (by rw [e10, tn]; exact sgk_3 L) (by rw [e10, rR_o (ad_ne L (by decide) (by decide) (by decide))]) (by rw [e10]; rfl)
    exact ok_mono (fl_room L hNN ka hA (by omega) i4 S4 N 0 0 0 d10 (by omega) (by omega) i10 (by omega) (by omega) k10 (by omega)) (fun r11 hr11 => b0.t hr11)
end
section
/-! a THIEF's steps, as they were read -/
/-- steps s0 .. s1 of THIEF t, read at depth d at least; their codes lie below c1 -/
def stp (κ φ τ ρ : Nat → Int32) (t s0 s1 d c1 : Nat) : Prop := ∃ dl : Nat → Nat, ∀ i, s0 ≤ i → i < s1 → d ≤ dl i ∧ dl i ≤ 3 ∧ ((κ (60 * t + i)).toInt = 5 → dl i ≤ 2 ∧ (φ (60 * t + i)).toInt ≤ 1000000 ∧ ∃ k : Nat, (τ (60 * t + i)).toInt = (k : Int) ∧ i < k ∧ k ≤ s1 ∧ ∀ j, i < j → j < k → dl i < dl j) ∧ ((κ (60 * t + i)).toInt ≠ 5 → 0 ≤ (κ (60 * t + i)).toInt ∧ (κ (60 * t + i)).toInt ≤ 4 ∧ ∃ f e : Nat, (φ (60 * t + i)).toInt = (f : Int) ∧ (τ (60 * t + i)).toInt = (e : Int) ∧ 500 * t ≤ f ∧ f ≤ e ∧ e ≤ c1 ∧ rn ρ (e - f) f 0 = some 1)
theorem stp_0 {κ φ τ ρ : Nat → Int32} {t s0 d c1 : Nat} : stp κ φ τ ρ t s0 s0 d c1 := ⟨fun _ => 0, fun i h1 h2 => by omega⟩
theorem stp_c {κ φ τ ρ κ' φ' τ' ρ' : Nat → Int32} {t s0 s1 d c1 c2 : Nat} (hk : ∀ i, s0 ≤ i → i < s1 → κ' (60 * t + i) = κ (60 * t + i)) (hf : ∀ i, s0 ≤ i → i < s1 → φ' (60 * t + i) = φ (60 * t + i)) (ht : ∀ i, s0 ≤ i → i < s1 → τ' (60 * t + i) = τ (60 * t + i)) (hr : ∀ i, i < c1 → ρ' i = ρ i) (hc : c1 ≤ c2) (S : stp κ φ τ ρ t s0 s1 d c1) : stp κ' φ' τ' ρ' t s0 s1 d c2 := by
  obtain ⟨dl, h⟩ := S
  refine ⟨dl, fun i h1 h2 => ?_⟩
  obtain ⟨a, b, c, e⟩ := h i h1 h2
  rw [hk i h1 h2, hf i h1 h2, ht i h1 h2]
  refine ⟨a, b, c, fun z => ?_⟩
  obtain ⟨e1, e2, f, g, e3, e4, e5, e6, e7, e8⟩ := e z
  exact ⟨e1, e2, f, g, e3, e4, e5, e6, by omega, (rn_c _ _ _ (fun j j1 j2 => hr j (by omega))).trans e8⟩
theorem stp_app {κ φ τ ρ : Nat → Int32} {t s0 s1 s2 d c1 : Nat} (h01 : s0 ≤ s1) (h12 : s1 ≤ s2) (S : stp κ φ τ ρ t s0 s1 d c1) (S2 : stp κ φ τ ρ t s1 s2 d c1) : stp κ φ τ ρ t s0 s2 d c1 := by
  obtain ⟨dl, h⟩ := S
  obtain ⟨dl2, h2⟩ := S2
  obtain ⟨D, hD1, hD2⟩ : ∃ D : Nat → Nat, (∀ i, i < s1 → D i = dl i) ∧ ∀ i, ¬ i < s1 → D i = dl2 i := ⟨fun i => if i < s1 then dl i else dl2 i, fun i h => if_pos h, fun i h => if_neg h⟩
  refine ⟨D, fun i i1 i2 => ?_⟩
  by_cases c : i < s1
  · obtain ⟨a, b, e, f⟩ := h i i1 c
    rw [hD1 i c]
    refine ⟨a, b, fun z => ?_, f⟩
    obtain ⟨e1, e9, k, e2, e3, e4, e5⟩ := e z
    exact ⟨e1, e9, k, e2, e3, by omega, fun j j1 j2 => by rw [hD1 j (by omega)]; exact e5 j j1 j2⟩
  · obtain ⟨a, b, e, f⟩ := h2 i (by omega) i2
    rw [hD2 i c]
    refine ⟨a, b, fun z => ?_, f⟩
    obtain ⟨e1, e9, k, e2, e3, e4, e5⟩ := e z
    exact ⟨e1, e9, k, e2, e3, e4, fun j j1 j2 => by rw [hD2 j (by omega)]; exact e5 j j1 j2⟩
theorem stp_call {κ φ τ ρ : Nat → Int32} {t s0 d c1 f e : Nat} (hd : d ≤ 3) (k1 : 0 ≤ (κ (60 * t + s0)).toInt) (k2 : (κ (60 * t + s0)).toInt ≤ 4) (hf : (φ (60 * t + s0)).toInt = (f : Int)) (he : (τ (60 * t + s0)).toInt = (e : Int)) (h1 : 500 * t ≤ f) (h2 : f ≤ e) (h3 : e ≤ c1) (hr : rn ρ (e - f) f 0 = some 1) : stp κ φ τ ρ t s0 (s0 + 1) d c1 := by
  refine ⟨fun _ => d, fun i i1 i2 => ?_⟩
  obtain rfl : i = s0 := by omega
  exact ⟨Nat.le_refl _, hd, fun z => by omega, fun _ => ⟨k1, k2, f, e, hf, he, h1, h2, h3, hr⟩⟩
theorem stp_times {κ φ τ ρ : Nat → Int32} {t s0 s1 d c1 : Nat} (hd : d ≤ 2) (h01 : s0 < s1) (hk : (κ (60 * t + s0)).toInt = 5) (hq : (φ (60 * t + s0)).toInt ≤ 1000000) (ht : (τ (60 * t + s0)).toInt = (s1 : Int)) (S : stp κ φ τ ρ t (s0 + 1) s1 (d + 1) c1) : stp κ φ τ ρ t s0 s1 d c1 := by
  obtain ⟨dl, h⟩ := S
  obtain ⟨D, hD1, hD2⟩ : ∃ D : Nat → Nat, D s0 = d ∧ ∀ i, i ≠ s0 → D i = dl i := ⟨fun i => if i = s0 then d else dl i, if_pos rfl, fun i h => if_neg h⟩
  refine ⟨D, fun i i1 i2 => ?_⟩
  by_cases c : i = s0
  · subst c
    rw [hD1]
    refine ⟨Nat.le_refl _, by omega, fun _ => ⟨hd, hq, s1, ht, h01, Nat.le_refl _, fun j j1 j2 => ?_⟩, fun z => absurd hk z⟩
    rw [hD2 j (by omega)]
    have := (h j (by omega) j2).1
    omega
  · obtain ⟨a, b, e, f⟩ := h i (by omega) i2
    rw [hD2 i c]
    refine ⟨by omega, b, fun z => ?_, f⟩
    obtain ⟨e1, e9, k, e2, e3, e4, e5⟩ := e z
    exact ⟨e1, e9, k, e2, e3, e4, fun j j1 j2 => by rw [hD2 j (by omega)]; exact e5 j j1 j2⟩
theorem stp_d {κ φ τ ρ : Nat → Int32} {t s0 s1 d d1 c1 : Nat} (h : d1 ≤ d) (S : stp κ φ τ ρ t s0 s1 d c1) : stp κ φ τ ρ t s0 s1 d1 c1 := by
  obtain ⟨dl, g⟩ := S
  exact ⟨dl, fun i a b => ⟨Nat.le_trans h (g i a b).1, (g i a b).2⟩⟩
end
section
/-! reading a THIEF: what each piece does to its steps -/
def tN (a0 : Nat) (δ : dp) : Nat := (q_I δ 12 24 a0).toInt.toNat
def sN (a0 : Nat) (δ : dp) : Nat := (q_I δ 12 25 a0).toInt.toNat
def dN (a0 : Nat) (δ : dp) : Nat := (q_I δ 12 27 a0).toInt.toNat
/-- no step, no code is made -/
def NS (ad : List Nat) (a0 : Nat) (δ δ1 : dp) : Prop := q_R δ1 (Ad ad 112) = q_R δ (Ad ad 112) ∧ q_R δ1 (Ad ad 113) = q_R δ (Ad ad 113) ∧ q_R δ1 (Ad ad 114) = q_R δ (Ad ad 114) ∧ q_R δ1 (Ad ad 115) = q_R δ (Ad ad 115) ∧ q_R δ1 (Ad ad 116) = q_R δ (Ad ad 116) ∧ q_I δ1 12 24 a0 = q_I δ 12 24 a0 ∧ q_I δ1 12 25 a0 = q_I δ 12 25 a0 ∧ q_I δ1 12 26 a0 = q_I δ 12 26 a0 ∧ q_I δ1 12 27 a0 = q_I δ 12 27 a0 ∧ ((q_I δ1 12 5 a0).toInt = -1 → (q_I δ 12 5 a0).toInt = -1)
/-- the same, whether all was fine or not -/
def NS0 (ad : List Nat) (a0 : Nat) (δ δ1 : dp) : Prop := q_R δ1 (Ad ad 112) = q_R δ (Ad ad 112) ∧ q_R δ1 (Ad ad 113) = q_R δ (Ad ad 113) ∧ q_R δ1 (Ad ad 114) = q_R δ (Ad ad 114) ∧ q_R δ1 (Ad ad 115) = q_R δ (Ad ad 115) ∧ q_R δ1 (Ad ad 116) = q_R δ (Ad ad 116) ∧ q_I δ1 12 24 a0 = q_I δ 12 24 a0
theorem NS.z {ad : List Nat} {a0 : Nat} {δ δ1 : dp} (h : NS ad a0 δ δ1) : NS0 ad a0 δ δ1 := ⟨h.1, h.2.1, h.2.2.1, h.2.2.2.1, h.2.2.2.2.1, h.2.2.2.2.2.1⟩
theorem NS0.t {ad : List Nat} {a0 : Nat} {δ δ1 δ2 : dp} (h : NS0 ad a0 δ δ1) (k : NS0 ad a0 δ1 δ2) : NS0 ad a0 δ δ2 := by
  obtain ⟨a1, a2, a3, a4, a5, a6⟩ := h
  obtain ⟨b1, b2, b3, b4, b5, b6⟩ := k
  exact ⟨b1.trans a1, b2.trans a2, b3.trans a3, b4.trans a4, b5.trans a5, b6.trans a6⟩
theorem NS.r {ad : List Nat} {a0 : Nat} {δ : dp} : NS ad a0 δ δ := ⟨rfl, rfl, rfl, rfl, rfl, rfl, rfl, rfl, rfl, id⟩
theorem NS.t {ad : List Nat} {a0 : Nat} {δ δ1 δ2 : dp} (h : NS ad a0 δ δ1) (k : NS ad a0 δ1 δ2) : NS ad a0 δ δ2 := by
  obtain ⟨a1, a2, a3, a4, a5, a6, a7, a8, a9, a10⟩ := h
  obtain ⟨b1, b2, b3, b4, b5, b6, b7, b8, b9, b10⟩ := k
  exact ⟨b1.trans a1, b2.trans a2, b3.trans a3, b4.trans a4, b5.trans a5, b6.trans a6, b7.trans a7, b8.trans a8, b9.trans a9, fun z => a10 (b10 z)⟩
theorem NS.w {ad : List Nat} {a0 : Nat} {δ δ1 : dp} {k : Nat} {v : Int32} (e : δ1 = s_I δ 12 k a0 v) (hk : k ≠ 5 ∧ k ≠ 24 ∧ k ≠ 25 ∧ k ≠ 26 ∧ k ≠ 27) : NS ad a0 δ δ1 := by
  subst e
  refine ⟨rfl, rfl, rfl, rfl, rfl, rI_o (fun z => hk.2.1 z.2.symm), rI_o (fun z => hk.2.2.1 z.2.symm), rI_o (fun z => hk.2.2.2.1 z.2.symm), rI_o (fun z => hk.2.2.2.2 z.2.symm), fun z => ?_⟩
  rw [rI_o (fun z => hk.1 z.2.symm)] at z
  exact z
theorem NS.c {ad : List Nat} {a0 : Nat} {δ δ1 : dp} (h : NS ad a0 δ δ1) : cbx a0 δ1 = cbx a0 δ ∧ tN a0 δ1 = tN a0 δ ∧ sN a0 δ1 = sN a0 δ ∧ dN a0 δ1 = dN a0 δ := by
  unfold cbx tN sN dN
  rw [h.2.2.2.2.2.1, h.2.2.2.2.2.2.1, h.2.2.2.2.2.2.2.1, h.2.2.2.2.2.2.2.2.1]
  exact ⟨rfl, rfl, rfl, rfl⟩
/-- the steps of THIEF tN from sN on: those before stay, those made are well made -/
def SS (ad : List Nat) (a0 : Nat) (δ δ1 : dp) : Prop := q_I δ1 12 24 a0 = q_I δ 12 24 a0 ∧ q_I δ1 12 27 a0 = q_I δ 12 27 a0 ∧ sN a0 δ ≤ sN a0 δ1 ∧ cbx a0 δ ≤ cbx a0 δ1 ∧ (∀ i, i < 60 * tN a0 δ + sN a0 δ → q_R δ1 (Ad ad 113) i = q_R δ (Ad ad 113) i ∧ q_R δ1 (Ad ad 114) i = q_R δ (Ad ad 114) i ∧ q_R δ1 (Ad ad 115) i = q_R δ (Ad ad 115) i) ∧ (∀ i, i < cbx a0 δ → q_R δ1 (Ad ad 116) i = q_R δ (Ad ad 116) i) ∧ ((q_I δ1 12 5 a0).toInt = -1 → (q_I δ 12 5 a0).toInt = -1 ∧ stp (q_R δ1 (Ad ad 113)) (q_R δ1 (Ad ad 114)) (q_R δ1 (Ad ad 115)) (q_R δ1 (Ad ad 116)) (tN a0 δ) (sN a0 δ) (sN a0 δ1) (dN a0 δ) (cbx a0 δ1))
theorem SS.n {ad : List Nat} {a0 : Nat} {δ δ1 : dp} (h : NS ad a0 δ δ1) : SS ad a0 δ δ1 := by
  obtain ⟨c1, c2, c3, c4⟩ := h.c
  obtain ⟨a1, a2, a3, a4, a5, a6, a7, a8, a9, a10⟩ := h
  refine ⟨a6, a9, by omega, by omega, fun i _ => ?_, fun i _ => by rw [a5], fun z => ⟨a10 z, ?_⟩⟩
  · rw [a2, a3, a4]; exact ⟨rfl, rfl, rfl⟩
  · rw [c3]; exact stp_0
theorem SS.t {ad : List Nat} {a0 : Nat} {δ δ1 δ2 : dp} (h : SS ad a0 δ δ1) (k : SS ad a0 δ1 δ2) : SS ad a0 δ δ2 := by
  obtain ⟨a1, a2, a3, a4, a5, a6, a7⟩ := h
  obtain ⟨b1, b2, b3, b4, b5, b6, b7⟩ := k
  have ct : tN a0 δ1 = tN a0 δ := by unfold tN; rw [a1]
  have cd : dN a0 δ1 = dN a0 δ := by unfold dN; rw [a2]
  rw [ct] at b5 b7
  rw [cd] at b7
  refine ⟨b1.trans a1, b2.trans a2, by omega, by omega, fun i hi => ?_, fun i hi => (b6 i (by omega)).trans (a6 i hi), fun z => ?_⟩
  · obtain ⟨p1, p2, p3⟩ := b5 i (by omega)
    obtain ⟨q1, q2, q3⟩ := a5 i hi
    exact ⟨p1.trans q1, p2.trans q2, p3.trans q3⟩
  · obtain ⟨z1, s2⟩ := b7 z
    obtain ⟨z0, s1⟩ := a7 z1
    exact ⟨z0, stp_app a3 b3 (stp_c (fun i _ i2 => (b5 _ (by omega)).1) (fun i _ i2 => (b5 _ (by omega)).2.1) (fun i _ i2 => (b5 _ (by omega)).2.2) (fun i hi => b6 i hi) b4 s1) s2⟩
theorem SS.pre {ad : List Nat} {a0 : Nat} {δ δ1 δ2 : dp} (h : NS ad a0 δ δ1) (k : SS ad a0 δ1 δ2) : SS ad a0 δ δ2 := (SS.n h).t k
theorem SS.call {ad : List Nat} {h : hp} (L : Lay TLx ad h) {a0 : Nat} {δ d0 d1 d2 d3 d4 d5 d6 : dp} {v k f e : Int32} {i : Nat} (n0 : NS ad a0 δ d0) (e1 : d1 = s_I d0 12 25 a0 v) (e2 : d2 = s_R d1 (Ad ad 113) i k) (e3 : d3 = s_R d2 (Ad ad 114) i f) (u : US ad a0 d3 d4) (r3 : q_R d4 (Ad ad 113) = q_R d3 (Ad ad 113)) (r4 : q_R d4 (Ad ad 114) = q_R d3 (Ad ad 114)) (r5 : q_R d4 (Ad ad 115) = q_R d3 (Ad ad 115)) (f5 : q_I d4 12 25 a0 = q_I d3 12 25 a0) (f7 : q_I d4 12 27 a0 = q_I d3 12 27 a0) (e5 : d5 = s_R d4 (Ad ad 115) i e) (n6 : NS ad a0 d5 d6)
    (ht : 0 ≤ (q_I δ 12 24 a0).toInt) (hs : 0 ≤ (q_I δ 12 25 a0).toInt) (hc : 0 ≤ (q_I δ 12 26 a0).toInt) (hd : 0 ≤ (q_I δ 12 27 a0).toInt) (hd3 : (q_I δ 12 27 a0).toInt ≤ 3) (h46 : 0 ≤ (q_I d4 12 26 a0).toInt)
    (hi : (i : Int) = 60 * (q_I δ 12 24 a0).toInt + (q_I δ 12 25 a0).toInt) (hv : v.toInt = (q_I δ 12 25 a0).toInt + 1) (k1 : 0 ≤ k.toInt) (k2 : k.toInt ≤ 4) (hf : f.toInt = 500 * (q_I d3 12 24 a0).toInt + (q_I d3 12 26 a0).toInt) (he : e.toInt = 500 * (q_I d4 12 24 a0).toInt + (q_I d4 12 26 a0).toInt) : SS ad a0 δ d6 := by
  obtain ⟨m1, m2, m3, m4⟩ := n6.c
  obtain ⟨c1, c2, c3, c4⟩ := n0.c
  obtain ⟨a1, a2, a3, a4, a5, a6, a7, a8, a9, a10⟩ := n0
  obtain ⟨b1, b2, b3, b4, b5, b6, b7, b8, b9, b10⟩ := n6
  have ne34 : Ad ad 113 ≠ Ad ad 114 := ad_ne L (by decide) (by decide) (by decide)
  have ne35 : Ad ad 113 ≠ Ad ad 115 := ad_ne L (by decide) (by decide) (by decide)
  have ne45 : Ad ad 114 ≠ Ad ad 115 := ad_ne L (by decide) (by decide) (by decide)
  have ne63 : Ad ad 116 ≠ Ad ad 113 := ad_ne L (by decide) (by decide) (by decide)
  have ne64 : Ad ad 116 ≠ Ad ad 114 := ad_ne L (by decide) (by decide) (by decide)
  have ne65 : Ad ad 116 ≠ Ad ad 115 := ad_ne L (by decide) (by decide) (by decide)
  -- fields at d3
  have g24 : q_I d3 12 24 a0 = q_I δ 12 24 a0 := by rw [e3, e2, e1]; show q_I (s_I d0 12 25 a0 v) 12 24 a0 = _; rw [rI_o (fun z => absurd z.2 (by decide)), a6]
  have g25 : (q_I d3 12 25 a0).toInt = (q_I δ 12 25 a0).toInt + 1 := by rw [e3, e2, e1]; show (q_I (s_I d0 12 25 a0 v) 12 25 a0).toInt = _; rw [rI_s]; exact hv
  have g26 : q_I d3 12 26 a0 = q_I δ 12 26 a0 := by rw [e3, e2, e1]; show q_I (s_I d0 12 25 a0 v) 12 26 a0 = _; rw [rI_o (fun z => absurd z.2 (by decide)), a8]
  have g27 : q_I d3 12 27 a0 = q_I δ 12 27 a0 := by rw [e3, e2, e1]; show q_I (s_I d0 12 25 a0 v) 12 27 a0 = _; rw [rI_o (fun z => absurd z.2 (by decide)), a9]
  have g05 : q_I d3 12 5 a0 = q_I d0 12 5 a0 := by rw [e3, e2, e1]; show q_I (s_I d0 12 25 a0 v) 12 5 a0 = _; rw [rI_o (fun z => absurd z.2 (by decide))]
  have cb3 : cbx a0 d3 = cbx a0 δ := by unfold cbx; rw [g24, g26]
  -- rows at d3
  have w3 : ∀ j, q_R d3 (Ad ad 113) j = if j = i then k else q_R δ (Ad ad 113) j := by
    intro j
    rw [e3, rR_o ne34, e2, qR_sR, ← a2, e1]
    by_cases c : j = i
    · rw [if_pos ⟨rfl, c⟩, if_pos c]
    · rw [if_neg (fun z => c z.2), if_neg c]; rfl
  have w4 : ∀ j, q_R d3 (Ad ad 114) j = if j = i then f else q_R δ (Ad ad 114) j := by
    intro j
    rw [e3, qR_sR, ← a3]
    by_cases c : j = i
    · rw [if_pos ⟨rfl, c⟩, if_pos c]
    · rw [if_neg (fun z => c z.2), if_neg c, e2, rR_o (Ne.symm ne34), e1]; rfl
  have w5 : q_R d3 (Ad ad 115) = q_R δ (Ad ad 115) := by rw [e3, rR_o (Ne.symm ne45), e2, rR_o (Ne.symm ne35), e1]; exact a4
  have w6 : q_R d3 (Ad ad 116) = q_R δ (Ad ad 116) := by rw [e3, rR_o ne64, e2, rR_o ne63, e1]; exact a5
  obtain ⟨⟨u1, u2, u3, u4⟩, u5⟩ := u
  -- at d6
  have z24 : q_I d6 12 24 a0 = q_I δ 12 24 a0 := by rw [b6, e5]; exact u1.trans g24
  have z27 : q_I d6 12 27 a0 = q_I δ 12 27 a0 := by rw [b9, e5]; exact f7.trans g27
  have z25 : (q_I d6 12 25 a0).toInt = (q_I δ 12 25 a0).toInt + 1 := by rw [b7, e5]; exact (congrArg Int32.toInt f5).trans g25
  have cb5 : cbx a0 d5 = cbx a0 d4 := by rw [e5]; rfl
  have x3 : ∀ j, q_R d6 (Ad ad 113) j = if j = i then k else q_R δ (Ad ad 113) j := by intro j; rw [b2, e5, rR_o ne35, r3]; exact w3 j
  have x4 : ∀ j, q_R d6 (Ad ad 114) j = if j = i then f else q_R δ (Ad ad 114) j := by intro j; rw [b3, e5, rR_o ne45, r4]; exact w4 j
  have x5 : ∀ j, q_R d6 (Ad ad 115) j = if j = i then e else q_R δ (Ad ad 115) j := by
    intro j
    rw [b4, e5, qR_sR, r5, w5]
    by_cases c : j = i
    · rw [if_pos ⟨rfl, c⟩, if_pos c]
    · rw [if_neg (fun z => c z.2), if_neg c]
  have x6 : q_R d6 (Ad ad 116) = q_R d4 (Ad ad 116) := by rw [b5, e5, rR_o ne65]
  have hS : sN a0 d6 = sN a0 δ + 1 := by unfold sN; omega
  have hii : i = 60 * tN a0 δ + sN a0 δ := by unfold tN sN; omega
  refine ⟨z24, z27, by omega, by omega, fun j hj => ?_, fun j hj => ?_, fun z => ?_⟩
  · rw [x3, x4, x5, if_neg (by omega), if_neg (by omega), if_neg (by omega)]; exact ⟨rfl, rfl, rfl⟩
  · rw [x6, u3 j (by omega), w6]
  · have z5 := b10 z
    rw [e5] at z5
    have z4 : (q_I d4 12 5 a0).toInt = -1 := z5
    have z3 := u4 z4
    rw [g05] at z3
    refine ⟨a10 z3, ?_⟩
    rw [hS]
    have hr := u5 z4 0
    have hc4 : cbx a0 d6 = cbx a0 d4 := by rw [m1, cb5]
    refine stp_call (f := cbx a0 d3) (e := cbx a0 d4) (by unfold dN; omega) ?_ ?_ ?_ ?_ ?_ u2 (by omega) ?_
    · rw [x3, if_pos hii.symm]; exact k1
    · rw [x3, if_pos hii.symm]; exact k2
    · rw [x4, if_pos hii.symm, hf, cb3]; unfold cbx; rw [g24, g26]; omega
    · rw [x5, if_pos hii.symm, he]; unfold cbx; rw [u1, g24]; omega
    · rw [cb3]; unfold cbx tN; omega
    · rw [x6]; exact hr
theorem SS.times {ad : List Nat} {h : hp} (L : Lay TLx ad h) {a0 : Nat} {δ d0 d1 d2 d3 d4 d5 d6 d7 d8 d9 d10 : dp} {v k f e w w2 : Int32} {i : Nat} (n0 : NS ad a0 δ d0) (e1 : d1 = s_I d0 12 25 a0 v) (e2 : d2 = s_R d1 (Ad ad 113) i k) (n3 : NS ad a0 d2 d3) (e4 : d4 = s_R d3 (Ad ad 114) i f) (n5 : NS ad a0 d4 d5) (e6 : d6 = s_I d5 12 27 a0 w) (S : SS ad a0 d6 d7) (e8 : d8 = s_I d7 12 27 a0 w2) (n9 : NS ad a0 d8 d9) (e10 : d10 = s_R d9 (Ad ad 115) i e)
    (ht : 0 ≤ (q_I δ 12 24 a0).toInt) (hs : 0 ≤ (q_I δ 12 25 a0).toInt) (hd : 0 ≤ (q_I δ 12 27 a0).toInt) (hd2 : (q_I δ 12 27 a0).toInt ≤ 2)
    (hi : (i : Int) = 60 * (q_I δ 12 24 a0).toInt + (q_I δ 12 25 a0).toInt) (hv : v.toInt = (q_I δ 12 25 a0).toInt + 1) (hk : k.toInt = 5) (hq : f.toInt ≤ 1000000) (hw : w.toInt = (q_I δ 12 27 a0).toInt + 1) (hw2 : w2.toInt = (q_I d7 12 27 a0).toInt - 1) (he : e.toInt = (q_I d9 12 25 a0).toInt) : SS ad a0 δ d10 := by
  obtain ⟨a1, a2, a3, a4, a5, a6, a7, a8, a9, a10⟩ := n0
  obtain ⟨b1, b2, b3, b4, b5, b6, b7, b8, b9, b10⟩ := n3
  obtain ⟨c1, c2, c3, c4, c5, c6, c7, c8, c9, c10⟩ := n5
  obtain ⟨m1, m2, m3, m4, m5, m6, m7, m8, m9, m10⟩ := n9
  obtain ⟨s1, s2, s3, s4, s5, s6, s7⟩ := S
  have ne34 : Ad ad 113 ≠ Ad ad 114 := ad_ne L (by decide) (by decide) (by decide)
  have ne35 : Ad ad 113 ≠ Ad ad 115 := ad_ne L (by decide) (by decide) (by decide)
  have ne45 : Ad ad 114 ≠ Ad ad 115 := ad_ne L (by decide) (by decide) (by decide)
  have ne63 : Ad ad 116 ≠ Ad ad 113 := ad_ne L (by decide) (by decide) (by decide)
  have ne64 : Ad ad 116 ≠ Ad ad 114 := ad_ne L (by decide) (by decide) (by decide)
  have ne65 : Ad ad 116 ≠ Ad ad 115 := ad_ne L (by decide) (by decide) (by decide)
  -- d6 against δ
  have g24 : q_I d6 12 24 a0 = q_I δ 12 24 a0 := by
    rw [e6, rI_o (fun z => absurd z.2 (by decide)), c6, e4]
    show q_I d3 12 24 a0 = _
    rw [b6, e2, e1]
    show q_I (s_I d0 12 25 a0 v) 12 24 a0 = _
    rw [rI_o (fun z => absurd z.2 (by decide)), a6]
  have g25 : (q_I d6 12 25 a0).toInt = (q_I δ 12 25 a0).toInt + 1 := by
    rw [e6, rI_o (fun z => absurd z.2 (by decide)), c7, e4]
    show (q_I d3 12 25 a0).toInt = _
    rw [b7, e2, e1]
    show (q_I (s_I d0 12 25 a0 v) 12 25 a0).toInt = _
    rw [rI_s]; exact hv
  have g26 : q_I d6 12 26 a0 = q_I δ 12 26 a0 := by
    rw [e6, rI_o (fun z => absurd z.2 (by decide)), c8, e4]
    show q_I d3 12 26 a0 = _
    rw [b8, e2, e1]
    show q_I (s_I d0 12 25 a0 v) 12 26 a0 = _
    rw [rI_o (fun z => absurd z.2 (by decide)), a8]
  have g27 : (q_I d6 12 27 a0).toInt = (q_I δ 12 27 a0).toInt + 1 := by rw [e6, rI_s]; exact hw
  have g05 : (q_I d6 12 5 a0).toInt = -1 → (q_I δ 12 5 a0).toInt = -1 := by
    intro z
    rw [e6, rI_o (fun z => absurd z.2 (by decide))] at z
    have z4 := c10 z
    rw [e4] at z4
    have z3 := b10 z4
    rw [e2, e1] at z3
    have z2 : (q_I (s_I d0 12 25 a0 v) 12 5 a0).toInt = -1 := z3
    rw [rI_o (fun z => absurd z.2 (by decide))] at z2
    exact a10 z2
  have w3 : ∀ j, q_R d6 (Ad ad 113) j = if j = i then k else q_R δ (Ad ad 113) j := by
    intro j
    have : q_R d6 (Ad ad 113) = q_R d2 (Ad ad 113) := by
      rw [e6]
      show q_R d5 (Ad ad 113) = _
      rw [c2, e4, rR_o ne34, b2]
    rw [this, e2, qR_sR, ← a2, e1]
    by_cases c : j = i
    · rw [if_pos ⟨rfl, c⟩, if_pos c]
    · rw [if_neg (fun z => c z.2), if_neg c]; rfl
  have w4 : ∀ j, q_R d6 (Ad ad 114) j = if j = i then f else q_R δ (Ad ad 114) j := by
    intro j
    have : q_R d6 (Ad ad 114) = q_R d4 (Ad ad 114) := by
      rw [e6]
      show q_R d5 (Ad ad 114) = _
      rw [c3]
    rw [this, e4, qR_sR, b3, e2, rR_o (Ne.symm ne34), e1]
    by_cases c : j = i
    · rw [if_pos ⟨rfl, c⟩, if_pos c]
    · rw [if_neg (fun z => c z.2), if_neg c]; show q_R d0 (Ad ad 114) j = _; rw [a3]
  have w5 : q_R d6 (Ad ad 115) = q_R δ (Ad ad 115) := by
    rw [e6]
    show q_R d5 (Ad ad 115) = _
    rw [c4, e4, rR_o (Ne.symm ne45), b4, e2, rR_o (Ne.symm ne35), e1]
    exact a4
  have w6 : q_R d6 (Ad ad 116) = q_R δ (Ad ad 116) := by
    rw [e6]
    show q_R d5 (Ad ad 116) = _
    rw [c5, e4, rR_o ne64, b5, e2, rR_o ne63, e1]
    exact a5
  -- d10 against d7
  have x3 : q_R d10 (Ad ad 113) = q_R d7 (Ad ad 113) := by rw [e10, rR_o ne35, m2, e8]; rfl
  have x4 : q_R d10 (Ad ad 114) = q_R d7 (Ad ad 114) := by rw [e10, rR_o ne45, m3, e8]; rfl
  have x5 : ∀ j, q_R d10 (Ad ad 115) j = if j = i then e else q_R d7 (Ad ad 115) j := by
    intro j
    rw [e10, qR_sR, m4, e8]
    by_cases c : j = i
    · rw [if_pos ⟨rfl, c⟩, if_pos c]
    · rw [if_neg (fun z => c z.2), if_neg c]; rfl
  have x6 : q_R d10 (Ad ad 116) = q_R d7 (Ad ad 116) := by rw [e10, rR_o ne65, m5, e8]; rfl
  have h24 : q_I d10 12 24 a0 = q_I δ 12 24 a0 := by
    rw [e10]
    show q_I d9 12 24 a0 = _
    rw [m6, e8, rI_o (fun z => absurd z.2 (by decide)), s1, g24]
  have h25 : q_I d10 12 25 a0 = q_I d7 12 25 a0 := by
    rw [e10]
    show q_I d9 12 25 a0 = _
    rw [m7, e8, rI_o (fun z => absurd z.2 (by decide))]
  have h26 : q_I d10 12 26 a0 = q_I d7 12 26 a0 := by
    rw [e10]
    show q_I d9 12 26 a0 = _
    rw [m8, e8, rI_o (fun z => absurd z.2 (by decide))]
  have h27 : q_I d10 12 27 a0 = q_I δ 12 27 a0 := by
    apply i_eq
    rw [e10]
    show (q_I d9 12 27 a0).toInt = _
    rw [m9, e8, rI_s, hw2, s2, g27]
    omega
  have hT : tN a0 d6 = tN a0 δ := by unfold tN; rw [g24]
  have hS6 : sN a0 d6 = sN a0 δ + 1 := by unfold sN; omega
  have hD6 : dN a0 d6 = dN a0 δ + 1 := by unfold dN; omega
  have hC6 : cbx a0 d6 = cbx a0 δ := by unfold cbx; rw [g24, g26]
  have hS10 : sN a0 d10 = sN a0 d7 := by unfold sN; rw [h25]
  have hC10 : cbx a0 d10 = cbx a0 d7 := by unfold cbx; rw [h26, h24, s1, g24]
  have hii : i = 60 * tN a0 δ + sN a0 δ := by unfold tN sN; omega
  rw [hT, hS6] at s5
  rw [hC6] at s6
  refine ⟨h24, h27, by omega, by omega, fun j hj => ?_, fun j hj => ?_, fun z => ?_⟩
  · obtain ⟨p1, p2, p3⟩ := s5 j (by omega)
    rw [x3, x4, x5, p1, p2, if_neg (by omega), p3, w3, w4, w5, if_neg (by omega), if_neg (by omega)]
    exact ⟨rfl, rfl, rfl⟩
  · rw [x6, s6 j hj, w6]
  · have z7 : (q_I d7 12 5 a0).toInt = -1 := by
      rw [e10] at z
      have z9 := m10 z
      rw [e8, rI_o (fun z => absurd z.2 (by decide))] at z9
      exact z9
    obtain ⟨z6, st⟩ := s7 z7
    refine ⟨g05 z6, ?_⟩
    rw [hT, hS6, hD6] at st
    rw [hS10, hC10, x3, x4, x6]
    have s3' : sN a0 δ + 1 ≤ sN a0 d7 := by omega
    refine stp_times (by unfold dN; omega) (by omega) ?_ ?_ ?_ (stp_c (fun _ _ _ => rfl) (fun _ _ _ => rfl) (fun j _ _ => by rw [x5, if_neg (by omega)]) (fun _ _ => rfl) (Nat.le_refl _) st)
    · obtain ⟨p1, p2, p3⟩ := s5 (60 * tN a0 δ + sN a0 δ) (by omega)
      rw [p1, w3, if_pos hii.symm]; exact hk
    · obtain ⟨p1, p2, p3⟩ := s5 (60 * tN a0 δ + sN a0 δ) (by omega)
      rw [p2, w4, if_pos hii.symm]; exact hq
    · rw [x5, if_pos hii.symm, he, m7, e8, rI_o (fun z => absurd z.2 (by decide))]
      have : 0 ≤ (q_I d7 12 25 a0).toInt ∨ sN a0 d7 = 0 := by unfold sN; omega
      unfold sN at this ⊢
      unfold sN at s3'
      omega
/-- all THIEVES are well made -/
def TH (ad : List Nat) (a0 : Nat) (δ : dp) : Prop := ∀ t, t < tN a0 δ → stp (q_R δ (Ad ad 113)) (q_R δ (Ad ad 114)) (q_R δ (Ad ad 115)) (q_R δ (Ad ad 116)) t 0 (q_R δ (Ad ad 112) t).toInt.toNat 0 (500 * t + 500)
def TK (ad : List Nat) (a0 : Nat) (δ δ1 : dp) : Prop := (∀ t, t < tN a0 δ → (q_R δ (Ad ad 112) t).toInt ≤ 60) → TH ad a0 δ → TH ad a0 δ1
theorem stp_e {κ φ τ ρ κ' φ' τ' ρ' : Nat → Int32} {t s0 s1 d c1 : Nat} (hk : ∀ i, s0 ≤ i → i < s1 → κ' (60 * t + i) = κ (60 * t + i)) (hf : ∀ i, s0 ≤ i → i < s1 → φ' (60 * t + i) = φ (60 * t + i)) (ht : ∀ i, s0 ≤ i → i < s1 → τ' (60 * t + i) = τ (60 * t + i)) (hr : ∀ i, i < c1 → ρ' i = ρ i) (S : stp κ φ τ ρ t s0 s1 d c1) : stp κ' φ' τ' ρ' t s0 s1 d c1 := stp_c hk hf ht hr (Nat.le_refl _) S
theorem TK.n {ad : List Nat} {a0 : Nat} {δ δ1 : dp} (h : NS0 ad a0 δ δ1) : TK ad a0 δ δ1 := by
  obtain ⟨a1, a2, a3, a4, a5, a6⟩ := h
  have c2 : tN a0 δ1 = tN a0 δ := by unfold tN; rw [a6]
  intro _ T t ht
  rw [a1, a2, a3, a4, a5]
  exact T t (by omega)
theorem TK.bad {ad : List Nat} {h : hp} (L : Lay TLx ad h) {a0 : Nat} {δ d0 d1 d2 d3 d4 d5 d6 : dp} {v w x : Int32} (n0 : NS0 ad a0 δ d0) (e1 : d1 = s_I d0 12 25 a0 v) (e2 : d2 = s_I d1 12 26 a0 w) (e3 : d3 = s_I d2 12 27 a0 x) (n4 : NS ad a0 d3 d4) (S : SS ad a0 d4 d5) (r5 : q_R d5 (Ad ad 112) = q_R d4 (Ad ad 112)) (n6 : NS ad a0 d5 d6) (hv : v.toInt = 0) (hw : w.toInt = 0) (hx : x.toInt = 0) (ht : 0 ≤ (q_I δ 12 24 a0).toInt) : TK ad a0 δ d6 := by
  obtain ⟨a1, a2, a3, a4, a5, a6⟩ := n0
  obtain ⟨b1, b2, b3, b4, b5, b6, b7, b8, b9, b10⟩ := n4
  obtain ⟨m1, m2, m3, m4⟩ := n6.c
  obtain ⟨c1, c2, c3, c4, c5, c6, c7, c8, c9, c10⟩ := n6
  obtain ⟨s1, s2, s3, s4, s5, s6, s7⟩ := S
  have i4 : q_I d4 12 24 a0 = q_I δ 12 24 a0 := by rw [b6, e3, rI_o (fun z => absurd z.2 (by decide)), e2, rI_o (fun z => absurd z.2 (by decide)), e1, rI_o (fun z => absurd z.2 (by decide)), a6]
  have i6 : (q_I d4 12 26 a0).toInt = 0 := by rw [b8, e3, rI_o (fun z => absurd z.2 (by decide)), e2, rI_s]; exact hw
  have t4 : tN a0 d4 = tN a0 δ := by unfold tN; rw [i4]
  have t6 : tN a0 d6 = tN a0 δ := by rw [m2]; unfold tN; rw [s1, i4]
  have k4 : cbx a0 d4 = 500 * tN a0 δ := by unfold cbx tN; rw [i6, i4]; omega
  have q2 : q_R d4 (Ad ad 112) = q_R δ (Ad ad 112) := by rw [b1, e3, e2, e1]; exact a1
  have q3 : q_R d4 (Ad ad 113) = q_R δ (Ad ad 113) := by rw [b2, e3, e2, e1]; exact a2
  have q4 : q_R d4 (Ad ad 114) = q_R δ (Ad ad 114) := by rw [b3, e3, e2, e1]; exact a3
  have q5 : q_R d4 (Ad ad 115) = q_R δ (Ad ad 115) := by rw [b4, e3, e2, e1]; exact a4
  have q6 : q_R d4 (Ad ad 116) = q_R δ (Ad ad 116) := by rw [b5, e3, e2, e1]; exact a5
  intro hm T t ht
  rw [t6] at ht
  have hmt := hm t ht
  have hn : (q_R δ (Ad ad 112) t).toInt.toNat ≤ 60 := by omega
  rw [c1, c2, c3, c4, c5, r5, q2]
  refine stp_e (fun i _ i2 => ?_) (fun i _ i2 => ?_) (fun i _ i2 => ?_) (fun i hi => ?_) (T t ht)
  · rw [(s5 _ (by omega)).1, q3]
  · rw [(s5 _ (by omega)).2.1, q4]
  · rw [(s5 _ (by omega)).2.2, q5]
  · rw [s6 i (by omega), q6]
theorem TK.good {ad : List Nat} {h : hp} (L : Lay TLx ad h) {a0 : Nat} {δ d0 d1 d2 d3 d4 d5 d6 d7 d8 : dp} {v w x y z : Int32} {i : Nat} (n0 : NS0 ad a0 δ d0) (e1 : d1 = s_I d0 12 25 a0 v) (e2 : d2 = s_I d1 12 26 a0 w) (e3 : d3 = s_I d2 12 27 a0 x) (n4 : NS ad a0 d3 d4) (S : SS ad a0 d4 d5) (r5 : q_R d5 (Ad ad 112) = q_R d4 (Ad ad 112)) (n6 : NS ad a0 d5 d6) (hv : v.toInt = 0) (hw : w.toInt = 0) (hx : x.toInt = 0) (ht : 0 ≤ (q_I δ 12 24 a0).toInt) (e7 : d7 = s_R d6 (Ad ad 112) i y) (e8 : d8 = s_I d7 12 24 a0 z) (hi : (i : Int) = (q_I δ 12 24 a0).toInt) (hy : y.toInt = (q_I d6 12 25 a0).toInt) (hz : z.toInt = (q_I δ 12 24 a0).toInt + 1) (hb : (q_I d6 12 5 a0).toInt = -1) (hc : (q_I d6 12 26 a0).toInt ≤ 500) : TK ad a0 δ d8 := by
  have B := TK.bad L n0 e1 e2 e3 n4 S r5 n6 hv hw hx ht
  obtain ⟨a1, a2, a3, a4, a5, a6⟩ := n0
  obtain ⟨b1, b2, b3, b4, b5, b6, b7, b8, b9, b10⟩ := n4
  obtain ⟨m1, m2, m3, m4⟩ := n6.c
  obtain ⟨c1, c2, c3, c4, c5, c6, c7, c8, c9, c10⟩ := n6
  obtain ⟨s1, s2, s3, s4, s5, s6, s7⟩ := S
  have i4 : q_I d4 12 24 a0 = q_I δ 12 24 a0 := by rw [b6, e3, rI_o (fun z => absurd z.2 (by decide)), e2, rI_o (fun z => absurd z.2 (by decide)), e1, rI_o (fun z => absurd z.2 (by decide)), a6]
  have i5 : (q_I d4 12 25 a0).toInt = 0 := by rw [b7, e3, rI_o (fun z => absurd z.2 (by decide)), e2, rI_o (fun z => absurd z.2 (by decide)), e1, rI_s]; exact hv
  have i7 : (q_I d4 12 27 a0).toInt = 0 := by rw [b9, e3, rI_s]; exact hx
  have t4 : tN a0 d4 = tN a0 δ := by unfold tN; rw [i4]
  have t6 : tN a0 d6 = tN a0 δ := by rw [m2]; unfold tN; rw [s1, i4]
  have t8 : tN a0 d8 = tN a0 δ + 1 := by rw [e8]; unfold tN; rw [rI_s, hz]; omega
  have hit : i = tN a0 δ := by unfold tN; omega
  have nr : ∀ c, c ∈ [113, 114, 115, 116] → q_R d8 (Ad ad c) = q_R d6 (Ad ad c) := by
    intro c hc
    rw [e8, e7]
    have : Ad ad c ≠ Ad ad 112 := by
      simp only [List.mem_cons, List.not_mem_nil, or_false] at hc
      rcases hc with rfl | rfl | rfl | rfl <;> exact ad_ne L (by decide) (by decide) (by decide)
    exact rR_o this
  have n2 : ∀ t, q_R d8 (Ad ad 112) t = if t = i then y else q_R d6 (Ad ad 112) t := by
    intro t
    rw [e8, e7]
    show q_R (s_R d6 (Ad ad 112) i y) (Ad ad 112) t = _
    rw [qR_sR]
    by_cases c : t = i
    · rw [if_pos ⟨rfl, c⟩, if_pos c]
    · rw [if_neg (fun z => c z.2), if_neg c]
  intro hm T t ht8
  rw [nr 113 (by decide), nr 114 (by decide), nr 115 (by decide), nr 116 (by decide), n2]
  by_cases c : t = i
  · rw [if_pos c]
    obtain ⟨_, st⟩ := s7 (c10 hb)
    rw [t4, ← hit, ← c] at st
    have e0 : sN a0 d4 = 0 := by unfold sN; omega
    have e7 : dN a0 d4 = 0 := by unfold dN; omega
    have eS : y.toInt.toNat = sN a0 d5 := by rw [hy, c7]; rfl
    rw [e0, e7] at st
    rw [c2, c3, c4, c5, eS]
    refine stp_c (fun _ _ _ => rfl) (fun _ _ _ => rfl) (fun _ _ _ => rfl) (fun _ _ => rfl) ?_ st
    rw [← m1]
    have q24 : q_I d6 12 24 a0 = q_I δ 12 24 a0 := by rw [c6, s1, i4]
    unfold cbx
    rw [q24]
    unfold tN at hit
    omega
  · rw [if_neg c]
    exact B hm T t (by omega)
end
section
/-! a sum is worked out: the stack never runs empty -/
set_option maxHeartbeats 4000000 in
theorem fl_worked {ad : List Nat} {h : hp} (L : Lay TLx ad h) {δ0 : dp} {N : Nat} (hNN : 10000000 ≤ N) {a0 H f e : Nat} {x1 x2 x3 : Int32} (ka : q_K h.1 a0 = 12) (hx : x1.toInt = (H : Int)) (hh : H < 4) (h3 : x3.toInt = (e : Int)) (he : e ≤ 2000) (hfe : e ≤ f + 500) {ρ : Nat → Int32} : ∀ (n k s : Nat) (x4 x5 : Int32) (δ : dp), x4.toInt = (s : Int) → x5.toInt = (k : Int) → f ≤ k → k ≤ e → s + f ≤ k → RI ad h.1 δ0 δ → 0 ≤ (q_I δ 12 58 a0).toInt → (q_I δ 12 58 a0).toInt ≤ 4 → q_R δ (Ad ad 116) = ρ → (∃ m, rn ρ (e - k) k s = some m) → e - k < n → ok (L_X12_worked_6 N h.1 a0 x1 x2 x3 n x4 x5 δ) (fun r => RI ad h.1 δ0 r.2 ∧ kp [(12, 49)] δ r.2 ∧ kr ad [118] δ r.2) := by
  have e0 : (0 : Int32).toInt = 0 := rfl
  have tn := tnH hx
  obtain ⟨b1, o1, _, n1, _⟩ := gO_12_32 L ka
  obtain rfl := gS_12_32 L ka o1
  obtain ⟨b2, o2, _, n2, _⟩ := gO_12_33 L ka
  obtain rfl := gS_12_33 L ka o2
  obtain ⟨b3, o3, _, n3, w3⟩ := gO_12_34 L ka
  obtain rfl := gS_12_34 L ka o3
  obtain ⟨b4, o4, _, n4⟩ := gO_12_14 L ka
  obtain rfl := gS_12_14 L ka o4
  obtain ⟨b5, o5, _, n5, _⟩ := gO_12_57 L ka
  obtain rfl := gS_12_57 L ka o5
  intro n
  induction n with
  | zero => intro k s x4 x5 δ h4 h5 g1 g2 g3 I l1 l2 hr hm hn; exfalso; omega
  | succ n ih =>
    intro k s x4 x5 δ h4 h5 g1 g2 g3 I l1 l2 hr hm hn
    have t4 := ti_tn x4
    have t5 := ti_tn x5
    unfold L_X12_worked_6
    refine ok_ite (fun _ => ?_) (fun c => ?_)
    · refine ok_at o3 ?_
      refine ok_gd (fun z => ?_) ?_
      · rcases z with z | z
        · exact absurd z (by decide)
        · rw [n3] at z
          exact absurd z (by decide)
      exact ok_some ⟨I, kp_w (by decide) kp_r, kr_w (by decide) kr_r⟩
    · have c1 := o_nle c
      have k5 : x5.toNatClampNeg = k := by omega
      obtain ⟨m, hm⟩ := hm
      rw [show e - k = (e - (k + 1)) + 1 by omega] at hm
      -- a value is laid on
      have go : ∀ (y4 v : Int32) (s1 : Nat) (d : dp), RI ad h.1 δ0 d → kp [(12, 49)] δ d → kr ad [] δ d → y4.toInt = (s1 : Int) → s1 + f ≤ k → (∃ m, rn ρ (e - (k + 1)) (k + 1) (s1 + 1) = some m) → ok (J_X12_worked_316 N h.1 a0 x1 x2 x3 (L_X12_worked_6 N h.1 a0 x1 x2 x3 n) y4 x5 v d) (fun r => RI ad h.1 δ0 r.2 ∧ kp [(12, 49)] δ r.2 ∧ kr ad [118] δ r.2) := fun y4 v s1 d Id u w hy hs hq => by
        unfold J_X12_worked_316
        have ty := ti_tn y4
        refine ok_at o3 ?_
        refine ok_gd (fun z => ?_) ?_
        · rcases z with z | z
          · have := o_lt z; omega
          · omega
        refine ok_bdv (fun d1 e1 => ?_)
        have i1 : RI ad h.1 δ0 d1 := by rw [e1]; exact RI.sR L Id w3
        have u1 := kp_N u (show q_I d1 = q_I d by rw [e1]; rfl)
        have w1 := kr_s L (by decide) w e1
        refine ok_biv (fun z4 ez => ?_)
        refine ok_biv (fun z5 ez5 => ?_)
        have a4 : z4.toInt = y4.toInt + 1 := by rw [ez]; exact (te_addc (c := 1) (n := 1) rfl y4 (by omega) (by omega)).1
        have a5 : z5.toInt = x5.toInt + 1 := by rw [ez5]; exact (te_addc (c := 1) (n := 1) rfl x5 (by omega) (by omega)).1
        have el : q_I d1 12 58 a0 = q_I δ 12 58 a0 := u1 12 58 a0 (by decide)
        have er : q_R d1 (Ad ad 116) = ρ := by rw [w1 116 (by decide) (by decide) (by decide)]; exact hr
        refine ok_mono (ih (k + 1) (s1 + 1) z4 z5 d1 (by omega) (by omega) (by omega) (by omega) (by omega) i1 (by rw [el]; exact l1) (by rw [el]; exact l2) er hq (by omega)) (fun r hr2 => ?_)
        exact ⟨hr2.1, kp_w (by decide) (kp_t u1 hr2.2.1), kr_w (by decide) (kr_t w1 hr2.2.2)⟩
      refine ok_at o1 ?_
      refine ok_gd (fun z => ?_) ?_
      · rcases z with z | z
        · have := o_lt z; omega
        · omega
      rw [k5]
      refine ok_biv (fun w ew => ?_)
      have hw : w = ρ k := by rw [ew, hr]
      have lay : 0 ≤ w.toInt → w.toInt ≤ 5 → ∃ m, rn ρ (e - (k + 1)) (k + 1) (s + 1) = some m := fun a b => by
        refine ⟨m, ?_⟩
        rw [← hm]
        show _ = if 0 ≤ (ρ k).toInt ∧ (ρ k).toInt ≤ 5 then _ else _
        rw [← hw, if_pos ⟨a, b⟩]
      have op : ¬ (0 ≤ w.toInt ∧ w.toInt ≤ 5) → 2 ≤ s ∧ ∃ m, rn ρ (e - (k + 1)) (k + 1) (s - 1) = some m := fun a => by
        have hm2 : (if 0 ≤ (ρ k).toInt ∧ (ρ k).toInt ≤ 5 then rn ρ (e - (k + 1)) (k + 1) (s + 1) else if 2 ≤ s then rn ρ (e - (k + 1)) (k + 1) (s - 1) else none) = some m := hm
        rw [← hw, if_neg a] at hm2
        by_cases c2 : 2 ≤ s
        · rw [if_pos c2] at hm2; exact ⟨c2, m, hm2⟩
        · rw [if_neg c2] at hm2; exact absurd hm2 (by simp)
      have v1 : (1 : Int32).toInt = 1 := rfl
      have v2 : (2 : Int32).toInt = 2 := rfl
      have v3 : (3 : Int32).toInt = 3 := rfl
      have v4 : (4 : Int32).toInt = 4 := rfl
      have v5 : (5 : Int32).toInt = 5 := rfl
      have go0 : ∀ (v : Int32), 0 ≤ w.toInt → w.toInt ≤ 5 → ok (J_X12_worked_316 N h.1 a0 x1 x2 x3 (L_X12_worked_6 N h.1 a0 x1 x2 x3 n) x4 x5 v δ) (fun r => RI ad h.1 δ0 r.2 ∧ kp [(12, 49)] δ r.2 ∧ kr ad [118] δ r.2) := fun v a b => go x4 v s δ I (kp_w (by decide) kp_r) kr_r h4 g3 (lay a b)
      refine ok_ite (fun c0 => ?_) (fun c0 => ?_)
      · have d0 := o_eq c0
        refine ok_at o2 ?_
        refine ok_gd (fun z => ?_) ?_
        · rcases z with z | z
          · have := o_lt z; omega
          · omega
        exact ok_biv (fun y _ => go0 y (by omega) (by omega))
      have d0 := o_ne c0
      refine ok_ite (fun c2 => ?_) (fun c2 => ?_)
      · have d2 := o_eq c2
        refine ok_ite (fun _ => ?_) (fun c3 => ?_)
        · unfold J_X12_worked_94; exact go0 _ (by omega) (by omega)
        · have d3 := o_nle c3
          have t6 := te_subc (c := 1) (n := 1) rfl (q_I δ 12 58 a0) (by omega) (by omega)
          have t7 := ti_tn (q_I δ 12 58 a0 - 1)
          refine ok_at o5 ?_
          refine ok_gd (fun z => ?_) ?_
          · rcases z with z | z
            · have := o_lt z; omega
            · omega
          unfold J_X12_worked_94; exact go0 _ (by omega) (by omega)
      have d2 := o_ne c2
      refine ok_ite (fun c4 => ?_) (fun c4 => ?_)
      · have d4 := o_eq c4
        refine ok_ite (fun _ => ?_) (fun c3 => ?_)
        · unfold J_X12_worked_122; exact go0 _ (by omega) (by omega)
        · have d3 := o_nle c3
          have t6 := te_subc (c := 2) (n := 2) rfl (q_I δ 12 58 a0) (by omega) (by omega)
          have t7 := ti_tn (q_I δ 12 58 a0 - 2)
          refine ok_at o5 ?_
          refine ok_gd (fun z => ?_) ?_
          · rcases z with z | z
            · have := o_lt z; omega
            · omega
          unfold J_X12_worked_122; exact go0 _ (by omega) (by omega)
      have d4 := o_ne c4
      refine ok_ite (fun c6 => ?_) (fun c6 => ?_)
      · have d6 := o_eq c6
        exact ok_biv (fun y _ => go0 y (by omega) (by omega))
      have d6 := o_ne c6
      refine ok_ite (fun c7 => ?_) (fun c7 => ?_)
      · have d7 := o_eq c7
        refine ok_at o4 ?_
        refine ok_gd (fun z => ?_) ?_
        · rcases z with z | z
          · have := o_lt z; omega
          · omega
        exact ok_biv (fun y _ => go0 y (by omega) (by omega))
      have d7 := o_ne c7
      refine ok_ite (fun c8 => ?_) (fun c8 => ?_)
      · have d8 := o_eq c8
        refine ok_bdv (fun d9 e9 => ?_)
        have i9 : RI ad h.1 δ0 d9 := by rw [e9]; exact cs_12_49 L I
        have u9 := kp_I kp_r e9
        have w9 := kr_N (ad := ad) (W := []) (δ := δ) kr_r (show q_R d9 = q_R δ by rw [e9]; rfl)
        have ab := all_b ka i9
        rw [e_all, Option.bind_some]
        refine ok_gd (fun z => ?_) ?_
        · have z2 : (1 : Int32) <<< ((q_I d9 12 10 a0) &&& 31) = 0 := z
          have := o_eq z2
          omega
        exact ok_biv (fun y _ => go x4 y s d9 i9 (kp_w (by decide) u9) w9 h4 g3 (lay (by omega) (by omega)))
      have d8 := o_ne c8
      obtain ⟨s2, hq⟩ := op (by omega)
      refine ok_biv (fun y ey => ?_)
      have hy : y.toInt = x4.toInt + -2 := by rw [ey]; exact (te_addc (c := -2) (n := -2) (by decide) x4 (by omega) (by omega)).1
      have ty := ti_tn y
      have t8 := te_addc (c := 1) (n := 1) rfl y (by omega) (by omega)
      have t9 := ti_tn (y + 1)
      have g0 : ¬ (y < 0 ∨ q_N h.1 (Ad ad 118) ≤ y.toNatClampNeg) := fun z => by
        rcases z with z | z
        · have := o_lt z; omega
        · omega
      have g9 : ¬ ((y + (1 : Int32)) < 0 ∨ q_N h.1 (Ad ad 118) ≤ (y + (1 : Int32)).toNatClampNeg) := fun z => by
        rcases z with z | z
        · have := o_lt z; omega
        · omega
      have hq2 : ∃ m, rn ρ (e - (k + 1)) (k + 1) ((s - 2) + 1) = some m := by rw [show s - 2 + 1 = s - 1 by omega]; exact hq
      have go2 : ∀ v : Int32, ok (J_X12_worked_314 N h.1 a0 x1 x2 x3 (L_X12_worked_6 N h.1 a0 x1 x2 x3 n) v y x5 δ) (fun r => RI ad h.1 δ0 r.2 ∧ kp [(12, 49)] δ r.2 ∧ kr ad [118] δ r.2) := fun v => by
        unfold J_X12_worked_314
        exact go y v (s - 2) δ I (kp_w (by decide) kp_r) kr_r (by omega) (by omega) hq2
      have go3 : ok (J_X12_worked_293 N h.1 a0 x1 x2 x3 (L_X12_worked_6 N h.1 a0 x1 x2 x3 n) y x5 δ) (fun r => RI ad h.1 δ0 r.2 ∧ kp [(12, 49)] δ r.2 ∧ kr ad [118] δ r.2) := by
        unfold J_X12_worked_293
        exact go2 0
      refine ok_ite (fun _ => ok_at o3 (ok_gd g0 (ok_at o3 (ok_gd g9 (go2 _))))) (fun _ => ?_)
      refine ok_ite (fun _ => ok_at o3 (ok_gd g0 (ok_at o3 (ok_gd g9 (go2 _))))) (fun _ => ?_)
      refine ok_ite (fun _ => ok_at o3 (ok_gd g0 (ok_at o3 (ok_gd g9 (go2 _))))) (fun _ => ?_)
      refine ok_at o3 (ok_gd g9 ?_)
      refine ok_ite (fun _ => go3) (fun cz => ?_)
      refine ok_at o3 (ok_gd g9 ?_)
      refine ok_ite (fun _ => go3) (fun _ => ?_)
      exact ok_at o3 (ok_gd g0 (ok_at o3 (ok_gd g9 (ok_gd cz (go2 _)))))
end
