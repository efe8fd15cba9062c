/-! the codes that a sum's text makes: nothing is ever taken off an empty stack -/
def cbx (a0 : Nat) (δ : dp) : Nat := (500 * (q_I δ 12 24 a0).toInt + (q_I δ 12 26 a0).toInt).toNat
def rn (ρ : Nat → Int32) : Nat → Nat → Nat → Option Nat
  | 0, _, n => some n
  | m + 1, i, n => if 0 ≤ (ρ i).toInt ∧ (ρ i).toInt ≤ 5 then rn ρ m (i + 1) (n + 1) else if 2 ≤ n then rn ρ m (i + 1) (n - 1) else none
theorem rn_add (ρ : Nat → Int32) : ∀ m1 m2 i n, rn ρ (m1 + m2) i n = (rn ρ m1 i n).bind (rn ρ m2 (i + m1)) := by
  intro m1
  induction m1 with
  | zero => intro m2 i n; rw [Nat.zero_add]; rfl
  | succ m1 ih =>
    intro m2 i n
    rw [show m1 + 1 + m2 = (m1 + m2) + 1 by omega]
    show (if 0 ≤ (ρ i).toInt ∧ (ρ i).toInt ≤ 5 then rn ρ (m1 + m2) (i + 1) (n + 1) else if 2 ≤ n then rn ρ (m1 + m2) (i + 1) (n - 1) else none) = (if 0 ≤ (ρ i).toInt ∧ (ρ i).toInt ≤ 5 then rn ρ m1 (i + 1) (n + 1) else if 2 ≤ n then rn ρ m1 (i + 1) (n - 1) else none).bind (rn ρ m2 (i + (m1 + 1)))
    by_cases c : 0 ≤ (ρ i).toInt ∧ (ρ i).toInt ≤ 5
    · rw [if_pos c, if_pos c, ih, show i + 1 + m1 = i + (m1 + 1) by omega]
    · rw [if_neg c, if_neg c]
      by_cases c2 : 2 ≤ n
      · rw [if_pos c2, if_pos c2, ih, show i + 1 + m1 = i + (m1 + 1) by omega]
      · rw [if_neg c2, if_neg c2]; rfl
theorem rn_c {ρ σ : Nat → Int32} : ∀ m i n, (∀ j, i ≤ j → j < i + m → ρ j = σ j) → rn ρ m i n = rn σ m i n := by
  intro m
  induction m with
  | zero => intro i n _; rfl
  | succ m ih =>
    intro i n h
    show (if 0 ≤ (ρ i).toInt ∧ (ρ i).toInt ≤ 5 then rn ρ m (i + 1) (n + 1) else if 2 ≤ n then rn ρ m (i + 1) (n - 1) else none) = (if 0 ≤ (σ i).toInt ∧ (σ i).toInt ≤ 5 then rn σ m (i + 1) (n + 1) else if 2 ≤ n then rn σ m (i + 1) (n - 1) else none)
    rw [h i (Nat.le_refl _) (by omega), ih (i + 1) (n + 1) (fun j h1 h2 => h j (by omega) (by omega)), ih (i + 1) (n - 1) (fun j h1 h2 => h j (by omega) (by omega))]
/-- no code is made -/
def NU (ad : List Nat) (a0 : Nat) (δ δ1 : dp) : Prop := q_R δ1 (Ad ad 116) = q_R δ (Ad ad 116) ∧ q_I δ1 12 26 a0 = q_I δ 12 26 a0 ∧ q_I δ1 12 24 a0 = q_I δ 12 24 a0 ∧ ((q_I δ1 12 5 a0).toInt = -1 → (q_I δ 12 5 a0).toInt = -1)
def UB (ad : List Nat) (a0 : Nat) (δ δ1 : dp) : Prop := q_I δ1 12 24 a0 = q_I δ 12 24 a0 ∧ cbx a0 δ ≤ cbx a0 δ1 ∧ (∀ i, i < cbx a0 δ → q_R δ1 (Ad ad 116) i = q_R δ (Ad ad 116) i) ∧ ((q_I δ1 12 5 a0).toInt = -1 → (q_I δ 12 5 a0).toInt = -1)
/-- codes that lay one number more -/
def US (ad : List Nat) (a0 : Nat) (δ δ1 : dp) : Prop := UB ad a0 δ δ1 ∧ ((q_I δ1 12 5 a0).toInt = -1 → ∀ n, rn (q_R δ1 (Ad ad 116)) (cbx a0 δ1 - cbx a0 δ) (cbx a0 δ) n = some (n + 1))
/-- codes that leave as many numbers, one at least -/
def LU (ad : List Nat) (a0 : Nat) (δ δ1 : dp) : Prop := UB ad a0 δ δ1 ∧ ((q_I δ1 12 5 a0).toInt = -1 → ∀ n, rn (q_R δ1 (Ad ad 116)) (cbx a0 δ1 - cbx a0 δ) (cbx a0 δ) (n + 1) = some (n + 1))
/-- one code is made, if all is fine -/
def EM (ad : List Nat) (a0 : Nat) (δ δ1 : dp) (w : Int32) : Prop := q_I δ1 12 24 a0 = q_I δ 12 24 a0 ∧ q_I δ1 12 5 a0 = q_I δ 12 5 a0 ∧ ((q_I δ 12 5 a0).toInt = -1 → cbx a0 δ1 = cbx a0 δ + 1 ∧ ∀ i, q_R δ1 (Ad ad 116) i = if i = cbx a0 δ then w else q_R δ (Ad ad 116) i) ∧ ((q_I δ 12 5 a0).toInt ≠ -1 → q_R δ1 (Ad ad 116) = q_R δ (Ad ad 116) ∧ cbx a0 δ1 = cbx a0 δ)
theorem NU.r {ad : List Nat} {a0 : Nat} {δ : dp} : NU ad a0 δ δ := ⟨rfl, rfl, rfl, id⟩
theorem NU.t {ad : List Nat} {a0 : Nat} {δ δ1 δ2 : dp} (h : NU ad a0 δ δ1) (k : NU ad a0 δ1 δ2) : NU ad a0 δ δ2 := ⟨k.1.trans h.1, k.2.1.trans h.2.1, k.2.2.1.trans h.2.2.1, fun z => h.2.2.2 (k.2.2.2 z)⟩
theorem NU.w {ad : List Nat} {a0 : Nat} {δ δ1 : dp} {k : Nat} {v : Int32} (e : δ1 = s_I δ 12 k a0 v) (hk : k ≠ 5 ∧ k ≠ 24 ∧ k ≠ 26) : NU ad a0 δ δ1 := by
  subst e
  refine ⟨rfl, rI_o (fun z => hk.2.2 z.2.symm), rI_o (fun z => hk.2.1 z.2.symm), fun z => ?_⟩
  rw [rI_o (fun z => hk.1 z.2.symm)] at z
  exact z
theorem NU.c {ad : List Nat} {a0 : Nat} {δ δ1 : dp} (h : NU ad a0 δ δ1) : cbx a0 δ1 = cbx a0 δ := by
  unfold cbx
  rw [h.2.1, h.2.2.1]
theorem NU.b {ad : List Nat} {a0 : Nat} {δ δ1 : dp} (h : NU ad a0 δ δ1) : UB ad a0 δ δ1 := ⟨h.2.2.1, by rw [h.c]; exact Nat.le_refl _, fun i _ => by rw [h.1], h.2.2.2⟩
theorem UB.t {ad : List Nat} {a0 : Nat} {δ δ1 δ2 : dp} (h : UB ad a0 δ δ1) (k : UB ad a0 δ1 δ2) : UB ad a0 δ δ2 := ⟨k.1.trans h.1, Nat.le_trans h.2.1 k.2.1, fun i hi => (k.2.2.1 i (Nat.lt_of_lt_of_le hi h.2.1)).trans (h.2.2.1 i hi), fun z => h.2.2.2 (k.2.2.2 z)⟩
theorem US.pre {ad : List Nat} {a0 : Nat} {δ δ1 δ2 : dp} (h : NU ad a0 δ δ1) (k : US ad a0 δ1 δ2) : US ad a0 δ δ2 := ⟨h.b.t k.1, fun z n => by rw [← h.c]; exact k.2 z n⟩
theorem LU.pre {ad : List Nat} {a0 : Nat} {δ δ1 δ2 : dp} (h : NU ad a0 δ δ1) (k : LU ad a0 δ1 δ2) : LU ad a0 δ δ2 := ⟨h.b.t k.1, fun z n => by rw [← h.c]; exact k.2 z n⟩
theorem US.post {ad : List Nat} {a0 : Nat} {δ δ1 δ2 : dp} (h : US ad a0 δ δ1) (k : NU ad a0 δ1 δ2) : US ad a0 δ δ2 := ⟨h.1.t k.b, fun z n => by rw [k.1, k.c]; exact h.2 (k.2.2.2 z) n⟩
theorem LU.post {ad : List Nat} {a0 : Nat} {δ δ1 δ2 : dp} (h : LU ad a0 δ δ1) (k : NU ad a0 δ1 δ2) : LU ad a0 δ δ2 := ⟨h.1.t k.b, fun z n => by rw [k.1, k.c]; exact h.2 (k.2.2.2 z) n⟩
theorem LU.n {ad : List Nat} {a0 : Nat} {δ δ1 : dp} (h : NU ad a0 δ δ1) : LU ad a0 δ δ1 := ⟨h.b, fun z n => by rw [h.c, Nat.sub_self]; rfl⟩
theorem US.bad {ad : List Nat} {a0 : Nat} {δ δ1 : dp} (h : NU ad a0 δ δ1) (b : (q_I δ1 12 5 a0).toInt ≠ -1) : US ad a0 δ δ1 := ⟨h.b, fun z => absurd z b⟩
theorem EM.b {ad : List Nat} {a0 : Nat} {δ δ1 : dp} {w : Int32} (h : EM ad a0 δ δ1 w) : UB ad a0 δ δ1 := by
  refine ⟨h.1, ?_, fun i hi => ?_, fun z => by rw [h.2.1] at z; exact z⟩
  · by_cases c : (q_I δ 12 5 a0).toInt = -1
    · rw [(h.2.2.1 c).1]; omega
    · rw [(h.2.2.2 c).2]; exact Nat.le_refl _
  · by_cases c : (q_I δ 12 5 a0).toInt = -1
    · rw [(h.2.2.1 c).2, if_neg (by omega)]
    · rw [(h.2.2.2 c).1]
theorem EM.z {ad : List Nat} {a0 : Nat} {δ δ1 : dp} {w : Int32} (h : EM ad a0 δ δ1 w) (z : (q_I δ1 12 5 a0).toInt = -1) : (q_I δ 12 5 a0).toInt = -1 := by rw [h.2.1] at z; exact z
theorem US.em {ad : List Nat} {a0 : Nat} {δ δ1 δ2 : dp} {w : Int32} (h : NU ad a0 δ δ1) (k : EM ad a0 δ1 δ2 w) (w1 : 0 ≤ w.toInt) (w2 : w.toInt ≤ 5) : US ad a0 δ δ2 := by
  refine US.pre h ⟨k.b, fun z n => ?_⟩
  have c := k.2.2.1 (k.z z)
  rw [c.1, Nat.add_sub_cancel_left]
  show (if 0 ≤ (q_R δ2 (Ad ad 116) (cbx a0 δ1)).toInt ∧ (q_R δ2 (Ad ad 116) (cbx a0 δ1)).toInt ≤ 5 then rn _ 0 _ (n + 1) else _) = _
  rw [c.2, if_pos rfl, if_pos ⟨w1, w2⟩]
  rfl
theorem LU.em {ad : List Nat} {a0 : Nat} {δ δ1 δ2 : dp} {w : Int32} (h : US ad a0 δ δ1) (k : EM ad a0 δ1 δ2 w) (w1 : w.toInt < 0 ∨ 5 < w.toInt) : LU ad a0 δ δ2 := by
  refine ⟨h.1.t k.b, fun z n => ?_⟩
  have c := k.2.2.1 (k.z z)
  have g := h.2 (k.z z) (n + 1)
  have l := h.1.2.1
  rw [c.1, show cbx a0 δ1 + 1 - cbx a0 δ = (cbx a0 δ1 - cbx a0 δ) + 1 by omega, rn_add, rn_c (σ := q_R δ1 (Ad ad 116)) _ _ _ (fun j h1 h2 => by rw [c.2, if_neg (by omega)]), g, Option.bind_some, show cbx a0 δ + (cbx a0 δ1 - cbx a0 δ) = cbx a0 δ1 by omega]
  show (if 0 ≤ (q_R δ2 (Ad ad 116) (cbx a0 δ1)).toInt ∧ (q_R δ2 (Ad ad 116) (cbx a0 δ1)).toInt ≤ 5 then _ else if 2 ≤ n + 1 + 1 then rn _ 0 _ (n + 1 + 1 - 1) else none) = _
  rw [c.2, if_pos rfl, if_neg (by omega), if_pos (by omega)]
  rfl
theorem rn_seq {ad : List Nat} {a0 : Nat} {δ δ1 δ2 : dp} (h : UB ad a0 δ δ1) (k : UB ad a0 δ1 δ2) (n : Nat) : rn (q_R δ2 (Ad ad 116)) (cbx a0 δ2 - cbx a0 δ) (cbx a0 δ) n = (rn (q_R δ1 (Ad ad 116)) (cbx a0 δ1 - cbx a0 δ) (cbx a0 δ) n).bind (rn (q_R δ2 (Ad ad 116)) (cbx a0 δ2 - cbx a0 δ1) (cbx a0 δ1)) := by
  have l1 := h.2.1
  have l2 := k.2.1
  rw [show cbx a0 δ2 - cbx a0 δ = (cbx a0 δ1 - cbx a0 δ) + (cbx a0 δ2 - cbx a0 δ1) by omega, rn_add, rn_c (σ := q_R δ1 (Ad ad 116)) (cbx a0 δ1 - cbx a0 δ) _ _ (fun j h1 h2 => k.2.2.1 j (by omega)), show cbx a0 δ + (cbx a0 δ1 - cbx a0 δ) = cbx a0 δ1 by omega]
theorem LU.t {ad : List Nat} {a0 : Nat} {δ δ1 δ2 : dp} (h : LU ad a0 δ δ1) (k : LU ad a0 δ1 δ2) : LU ad a0 δ δ2 := ⟨h.1.t k.1, fun z n => by
  rw [rn_seq h.1 k.1, h.2 (k.1.2.2.2 z) n]
  exact k.2 z n⟩
theorem US.l {ad : List Nat} {a0 : Nat} {δ δ1 δ2 : dp} (h : US ad a0 δ δ1) (k : LU ad a0 δ1 δ2) : US ad a0 δ δ2 := ⟨h.1.t k.1, fun z n => by
  rw [rn_seq h.1 k.1, h.2 (k.1.2.2.2 z) n]
  exact k.2 z n⟩
theorem f_emit {ad : List Nat} {h : hp} (L : Lay TLx ad h) {δ0 : dp} {N : Nat} (hN : 10000000 ≤ N) {a0 : Nat} {x1 x2 : Int32} (k_a0 : q_K h.1 a0 = 12) {δ : dp} (z0 : (q_I δ 12 24 a0).toInt ≤ 3) (z1 : (q_I δ 12 5 a0).toInt < 0 → (q_I δ 12 26 a0).toInt < 500) (I : RI ad h.1 δ0 δ) : ok (D_X12_emit N h.1 a0 x1 x2 δ) (fun r => EM ad a0 δ r x1) := by
  have e0 : (0 : Int32).toInt = 0 := rfl
  have f1 := cb_12_24 I k_a0
  have f2 := cb_12_26 I k_a0
  unfold D_X12_emit
  refine ok_bind (k_X12_fine L hN (a0 := a0) k_a0 I) (fun r hr => ?_)
  obtain ⟨e, b, g1, g2⟩ := hr
  have g0 := bo_t b
  have g5 := cb_12_5 I k_a0
  rw [e]
  refine ok_ite (fun c => ?_) (fun c => ?_)
  · have c1 : r.1.toInt = 0 := o_eq c
    exact ok_some ⟨rfl, rfl, fun z => by omega, fun _ => ⟨rfl, rfl⟩⟩
  · have c1 : r.1.toInt ≠ 0 := o_ne c
    have hb : (q_I δ 12 5 a0).toInt = -1 := by omega
    have hc := z1 (by omega)
    obtain ⟨b1, o1, _, n1, w1⟩ := gO_12_32 L k_a0
    obtain rfl := gS_12_32 L k_a0 o1
    obtain ⟨b2, o2, _, n2, w2⟩ := gO_12_33 L k_a0
    obtain rfl := gS_12_33 L k_a0 o2
    have t1 := te_mulc (c := 500) (n := 500) rfl (q_I δ 12 24 a0) (by omega) (by omega)
    have t2 := te_add ((500 : Int32) * q_I δ 12 24 a0) (q_I δ 12 26 a0) (by omega) (by omega)
    have t3 := ti_tn ((500 : Int32) * q_I δ 12 24 a0 + q_I δ 12 26 a0)
    have ec : ((500 : Int32) * q_I δ 12 24 a0 + q_I δ 12 26 a0).toNatClampNeg = cbx a0 δ := by unfold cbx; omega
    refine ok_at o1 ?_
    refine ok_gd (fun z => ?_) ?_
    · rcases z with z | z
      · have := o_lt z; omega
      · omega
    refine ok_bdv (fun d1 e1 => ?_)
    have q1 : q_I d1 = q_I δ := by rw [e1]; rfl
    rw [q1]
    refine ok_at o2 ?_
    refine ok_gd (fun z => ?_) ?_
    · rcases z with z | z
      · have := o_lt z; omega
      · omega
    refine ok_bdv (fun d2 e2 => ?_)
    have q2 : q_I d2 = q_I δ := by rw [e2]; exact q1
    refine ok_bdv (fun d3 e3 => ?_)
    have t4 := te_addc (c := 1) (n := 1) rfl (q_I δ 12 26 a0) (by omega) (by omega)
    have r26 : q_I d3 12 26 a0 = q_I δ 12 26 a0 + 1 := by rw [e3, rI_s, q2]
    have r24 : q_I d3 12 24 a0 = q_I δ 12 24 a0 := by rw [e3, rI_o (by decide), q2]
    refine ok_some ⟨r24, by rw [e3, rI_o (by decide), q2], fun _ => ⟨?_, fun i => ?_⟩, fun z => absurd hb z⟩
    · unfold cbx
      rw [r26, r24]
      omega
    · rw [e3, qR_sI, e2, rR_o (ad_ne L (by decide) (by decide) (by decide)), e1, qR_sR, ec]
      by_cases c3 : i = cbx a0 δ
      · rw [if_pos ⟨rfl, c3⟩, if_pos c3]
      · rw [if_neg (fun z => c3 z.2), if_neg c3]
set_option maxHeartbeats 4000000 in
theorem k0_X12_emit {ad : List Nat} {h : hp} (L : Lay TLx ad h) {δ0 : dp} {N : Nat} (hN : 10000000 ≤ N) {a0 : Nat} {x1 : Int32} {x2 : Int32} (k_a0 : q_K h.1 a0 = 12) {δ : dp} (z0 : (q_I δ 12 24 a0).toInt ≤ 3) (z1 : (q_I δ 12 5 a0).toInt < 0 → (q_I δ 12 26 a0).toInt < 500) (I : RI ad h.1 δ0 δ) : ok (D_X12_emit N h.1 a0 x1 x2 δ) (fun r => RI ad h.1 δ0 r ∧ (kp [(12, 26)] δ r ∧ q_V r = q_V δ ∧ kr ad [116, 117] δ r) ∧ (q_I δ 12 26 a0).toInt ≤ (q_I r 12 26 a0).toInt ∧ (q_I r 12 26 a0).toInt ≤ (q_I δ 12 26 a0).toInt + 1 ∧ (0 ≤ (q_I δ 12 5 a0).toInt → (q_I r 12 26 a0).toInt = (q_I δ 12 26 a0).toInt)) := by
  unfold D_X12_emit
  have f1 := cb_12_24 I k_a0
  have f2 := cb_12_5 I k_a0
  have f3 := cb_12_26 I k_a0
  refine ok_bind (k_X12_fine L hN (a0 := a0) k_a0 I) (fun r4 hr5 => ?_)
  obtain ⟨i6, p7, p8, p9⟩ := hr5
  try rw [i6]
  have f10 := bo_t p7
  have f11 := ti_b r4.1
  refine ok_ite (fun h12 => ?_) (fun h12 => ?_)
  · have c13 : r4.1.toInt = (0 : Int) := o_eq h12
    exact ok_some (show RI ad h.1 δ0 δ ∧ (kp [(12, 26)] δ δ ∧ q_V δ = q_V δ ∧ kr ad [116, 117] δ δ) ∧ (q_I δ 12 26 a0).toInt ≤ (q_I δ 12 26 a0).toInt ∧ (q_I δ 12 26 a0).toInt ≤ (q_I δ 12 26 a0).toInt + 1 ∧ (0 ≤ (q_I δ 12 5 a0).toInt → (q_I δ 12 26 a0).toInt = (q_I δ 12 26 a0).toInt) from ⟨I, ⟨kp_w (by decide) kp_r, rfl, kr_w (by decide) (kr_r (ad := ad))⟩, by first | with_reducible assumption | omega, by first | with_reducible assumption | omega, by first | with_reducible assumption | omega⟩)
  · have c14 : r4.1.toInt ≠ (0 : Int) := o_ne h12
    obtain ⟨b15, o16, k17, n18, w19⟩ := gO_12_32 L k_a0
    obtain rfl := gS_12_32 L k_a0 o16
    refine ok_at o16 ?_
    first | (have q21 := te_mulc (c := 500) (n := 500) rfl (q_I δ 12 24 a0) (by omega) (by omega); obtain ⟨f22, f23, f24⟩ := q21) | (obtain ⟨q21, f22, f23, f24⟩ := ti_mulc (c := 500) (n := 500) rfl (q_I δ 12 24 a0))
    first | (have q26 := te_add ((500 : Int32) * (q_I δ 12 24 a0)) (q_I δ 12 26 a0) (by omega) (by omega); obtain ⟨f27, f28, f29⟩ := q26) | (obtain ⟨q26, f27, f28, f29⟩ := ti_add ((500 : Int32) * (q_I δ 12 24 a0)) (q_I δ 12 26 a0))
    have t30 := ti_tn (((500 : Int32) * (q_I δ 12 24 a0)) + (q_I δ 12 26 a0))
    refine ok_gd (fun hc31 => ?_) ?_
    · rcases hc31 with hc31 | hc31
      · have c32 : (((500 : Int32) * (q_I δ 12 24 a0)) + (q_I δ 12 26 a0)).toInt < (0 : Int) := o_lt hc31
        omega
      · omega
    refine ok_bdv (fun d33 e34 => ?_)
    have i35 : RI ad h.1 δ0 d33 := by rw [e34]; exact RI.sR L I w19
    have u36 := kp_N kp_r (show q_I d33 = q_I δ by rw [e34]; rfl)
    have v37 : q_V d33 = q_V δ := ((show q_V d33 = q_V δ by rw [e34]; rfl)).trans rfl
    have v38 := kr_s L (by decide) (kr_r (ad := ad)) e34
    obtain ⟨b39, o40, k41, n42, w43⟩ := gO_12_33 L k_a0
    obtain rfl := gS_12_33 L k_a0 o40
    refine ok_at o40 ?_
    have f45 : (q_I d33 12 24 a0).toInt = (q_I δ 12 24 a0).toInt := congrArg Int32.toInt (by rw [e34]; rfl)
    first | (have q46 := te_mulc (c := 500) (n := 500) rfl (q_I d33 12 24 a0) (by omega) (by omega); obtain ⟨f47, f48, f49⟩ := q46) | (obtain ⟨q46, f47, f48, f49⟩ := ti_mulc (c := 500) (n := 500) rfl (q_I d33 12 24 a0))
    have f50 : (q_I d33 12 26 a0).toInt = (q_I δ 12 26 a0).toInt := congrArg Int32.toInt (by rw [e34]; rfl)
    first | (have q52 := te_add ((500 : Int32) * (q_I d33 12 24 a0)) (q_I d33 12 26 a0) (by omega) (by omega); obtain ⟨f53, f54, f55⟩ := q52) | (obtain ⟨q52, f53, f54, f55⟩ := ti_add ((500 : Int32) * (q_I d33 12 24 a0)) (q_I d33 12 26 a0))
    have t56 := ti_tn (((500 : Int32) * (q_I d33 12 24 a0)) + (q_I d33 12 26 a0))
    refine ok_gd (fun hc57 => ?_) ?_
    · rcases hc57 with hc57 | hc57
      · have c58 : (((500 : Int32) * (q_I d33 12 24 a0)) + (q_I d33 12 26 a0)).toInt < (0 : Int) := o_lt hc57
        omega
      · omega
    refine ok_bdv (fun d59 e60 => ?_)
    have i61 : RI ad h.1 δ0 d59 := by rw [e60]; exact RI.sR L i35 w43
    have u62 := kp_N u36 (show q_I d59 = q_I d33 by rw [e60]; rfl)
    have v63 : q_V d59 = q_V δ := ((show q_V d59 = q_V d33 by rw [e60]; rfl)).trans v37
    have v64 := kr_s L (by decide) v38 e60
    have f68 : (q_I d59 12 26 a0).toInt = (q_I d33 12 26 a0).toInt := congrArg Int32.toInt (by rw [e60]; rfl)
    first | (have q70 := te_addc (c := 1) (n := 1) rfl (q_I d59 12 26 a0) (by omega) (by omega); obtain ⟨f71, f72, f73⟩ := q70) | (obtain ⟨q70, f71, f72, f73⟩ := ti_addc (c := 1) (n := 1) rfl (q_I d59 12 26 a0))
    refine ok_bdv (fun d65 e66 => ?_)
    have i67 : RI ad h.1 δ0 d65 := by rw [e66]; exact cs_12_26 L i61 k_a0 (show 0 ≤ ((q_I d59 12 26 a0) + (1 : Int32)).toInt by omega) (show ((q_I d59 12 26 a0) + (1 : Int32)).toInt ≤ 500 by omega)
    have u74 := kp_I u62 e66
    have v75 : q_V d65 = q_V δ := ((show q_V d65 = q_V d59 by rw [e66]; rfl)).trans v63
    have v76 := kr_N v64 (show q_R d65 = q_R d59 by rw [e66]; rfl)
    have f77 := cb_12_26 i67 k_a0
    have f78 : (q_I d65 12 26 a0).toInt = ((q_I d59 12 26 a0) + (1 : Int32)).toInt := congrArg Int32.toInt (show q_I d65 12 26 a0 = ((q_I d59 12 26 a0) + (1 : Int32)) by rw [e66]; exact rI_s)
    exact ok_some (show RI ad h.1 δ0 d65 ∧ (kp [(12, 26)] δ d65 ∧ q_V d65 = q_V δ ∧ kr ad [116, 117] δ d65) ∧ (q_I δ 12 26 a0).toInt ≤ (q_I d65 12 26 a0).toInt ∧ (q_I d65 12 26 a0).toInt ≤ (q_I δ 12 26 a0).toInt + 1 ∧ (0 ≤ (q_I δ 12 5 a0).toInt → (q_I d65 12 26 a0).toInt = (q_I δ 12 26 a0).toInt) from ⟨i67, ⟨kp_w (by decide) u74, v75, kr_w (by decide) v76⟩, by first | with_reducible assumption | omega, by first | with_reducible assumption | omega, by first | with_reducible assumption | omega⟩)
set_option maxHeartbeats 4000000 in
theorem k_X12_emit {ad : List Nat} {h : hp} (L : Lay TLx ad h) {δ0 : dp} {N : Nat} (hN : 10000000 ≤ N) {a0 : Nat} {x1 : Int32} {x2 : Int32} (k_a0 : q_K h.1 a0 = 12) {δ : dp} (z0 : (q_I δ 12 24 a0).toInt ≤ 3) (z1 : (q_I δ 12 5 a0).toInt < 0 → (q_I δ 12 26 a0).toInt < 500) (I : RI ad h.1 δ0 δ) : ok (D_X12_emit N h.1 a0 x1 x2 δ) (fun r => RI ad h.1 δ0 r ∧ (kp [(12, 26)] δ r ∧ q_V r = q_V δ ∧ kr ad [116, 117] δ r) ∧ (q_I δ 12 26 a0).toInt ≤ (q_I r 12 26 a0).toInt ∧ (q_I r 12 26 a0).toInt ≤ (q_I δ 12 26 a0).toInt + 1 ∧ (0 ≤ (q_I δ 12 5 a0).toInt → (q_I r 12 26 a0).toInt = (q_I δ 12 26 a0).toInt) ∧ EM ad a0 δ r (x1)) := by
  refine ok_mono (ok_and (k0_X12_emit L hN k_a0 z0 z1 I) (f_emit L hN k_a0 z0 z1 I)) (fun r hr => ?_)
  exact ⟨hr.1.1, hr.1.2.1, hr.1.2.2.1, hr.1.2.2.2.1, hr.1.2.2.2.2, hr.2⟩
