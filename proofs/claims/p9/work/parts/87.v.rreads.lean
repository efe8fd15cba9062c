/-! calls that only read: the reference -/
def OZ (c2 : Prop) (Q : Int → Prop) (a0 : Nat) (b : Int32) (d : dp) : Prop := (c2 ∧ q_I d 12 0 a0 = 2) ∨ (¬ c2 ∧ q_I d 12 0 a0 = 0 ∧ Q b.toInt)
section
variable {ad : List Nat} {h : hp}
theorem hr_H (L : Lay TLx ad h) {δ0 : dp} {N : Nat} (hNN : 10000000 ≤ N) {a0 : Nat} {x1 : Int32} (ka : q_K h.1 a0 = 12) {δ : dp} (I : RI ad h.1 δ0 δ) {J K : Int32 × dp → Option (Int32 × dp)} {c2 : Prop} {Q : Int → Prop} (hJ : ∀ p, hs (J p) (fun r => r.2 = p.2)) (k : ∀ (b : Int32) (d1 : dp) (H : Nat), RI ad h.1 δ0 d1 → q_I d1 12 0 a0 = 0 → q_R d1 = q_R δ → (∀ c k a, ¬ (c = 12 ∧ k = 0) → q_I d1 c k a = q_I δ c k a) → H < 4 → x1.toInt = (H : Int) → hs (K (b, d1)) (fun r => OZ c2 Q a0 r.1 r.2)) : hs (bd (s_I δ 12 0 a0 0) fun δ1 => (D_X12_isHouse N h.1 a0 x1 1 δ1).bind fun r => if r.1 = 0 then J r else K r) (fun r => OM (nH x1) c2 Q a0 r.1 r.2) := by
  refine hs_bdv (fun d1 e1 => ?_)
  have i1 : RI ad h.1 δ0 d1 := by rw [e1]; exact cs_12_0 L I
  have t0 : q_I d1 12 0 a0 = 0 := by rw [e1]; exact rI_s
  have w1 : q_R d1 = q_R δ := by rw [e1]; rfl
  refine hs_bind (hr_isHouse L hNN (x1 := x1) (x2 := 1) ka i1 t0 (by decide)) (fun r hr => ?_)
  obtain ⟨b, d⟩ := r
  rcases hr with ⟨q1, q2, H, hH, hx⟩ | ⟨q1, q2, q3, q4⟩
  · dsimp only at q1 q2
    subst q2
    refine hs_ite (fun z => by dsimp only at z; rw [q1] at z; exact absurd z (by decide)) (fun _ => hs_mono (k b d H i1 t0 w1 (fun c k a n => by rw [e1, rI_o n]) hH hx) (fun r hr => ?_))
    rcases hr with ⟨h1, h2⟩ | ⟨h1, h2, h3⟩
    · exact Or.inr (Or.inl ⟨fun z => by omega, h1, h2⟩)
    · exact Or.inr (Or.inr ⟨fun z => by omega, h1, h2, h3⟩)
  · exact hs_ite (fun _ => hs_mono (hJ (b, d)) (fun r' e => Or.inl ⟨q2, by rw [e]; exact q3⟩)) (fun z => absurd q1 z)
theorem hr_C (L : Lay TLx ad h) {N : Nat} {a0 : Nat} (ka : q_K h.1 a0 = 12) {c : Int32} {c2 : Prop} (hc : c2 ↔ c = 0) {d : dp} (t0 : q_I d 12 0 a0 = 0) {J K : Int32 × dp → Option (Int32 × dp)} {Q : Int → Prop} (hJ : ∀ p, hs (J p) (fun r => r.2 = p.2)) (k : ¬ c2 → ∀ b : Int32, hs (K (b, d)) (fun r => r.2 = d ∧ Q r.1.toInt)) : hs ((D_X12_may N h.1 a0 c 2 2 d).bind fun r => if r.1 = 0 then J r else K r) (fun r => OZ c2 Q a0 r.1 r.2) := by
  refine hs_bind (hr_may L (x1 := c) (x2 := 2) (x3 := 2) ka t0 (by decide)) (fun r4 h4 => ?_)
  obtain ⟨b, d'⟩ := r4
  rcases h4 with ⟨n4, g1, g2⟩ | ⟨n4, g1, g2, g3⟩
  · have nc : ¬ c2 := fun z => n4 (hc.mp z)
    dsimp only at g1 g2
    subst g2
    exact hs_ite (fun z => by dsimp only at z; rw [g1] at z; exact absurd z (by decide)) (fun _ => hs_mono (k nc b) (fun r hr => Or.inr ⟨nc, by rw [hr.1]; exact t0, hr.2⟩))
  · exact hs_ite (fun _ => hs_mono (hJ (b, d')) (fun r' e => Or.inl ⟨hc.mpr n4, by rw [e]; exact g2⟩)) (fun z => absurd g1 z)
/-- what stays after the first line -/
theorem shA_1 {a0 : Nat} {δ d1 : dp} (e : ∀ c k a, ¬ (c = 12 ∧ k = 0) → q_I d1 c k a = q_I δ c k a) : shA a0 d1 = shA a0 δ := by unfold shA; rw [e 12 10 a0 (by decide)]
theorem hsr_1 {δ d1 : dp} {K : Nat} (w : q_R d1 = q_R δ) (S : hsr ad δ K) : hM ad d1 K = hM ad δ K ∧ hR ad d1 K = hR ad δ K ∧ hN ad d1 K = hN ad δ K ∧ hsr ad d1 K := by
  have eM : hM ad d1 K = hM ad δ K := by unfold hM; rw [w]
  have eR : hR ad d1 K = hR ad δ K := by funext i; unfold hR; rw [w]
  exact ⟨eM, eR, by unfold hN; rw [w], by rw [eM]; exact S.1, by rw [eM, eR]; exact S.2⟩
theorem hr_has (L : Lay TLx ad h) {δ0 : dp} {N : Nat} (hNN : 10000000 ≤ N) {a0 : Nat} {x1 x2 : Int32} (ka : q_K h.1 a0 = 12) {δ : dp} (I : RI ad h.1 δ0 δ) (S : ∀ K, K < 4 → hsr ad δ K) : hs (D_X12_has N h.1 a0 x1 x2 δ) (fun r => OM (nH x1) (nN (shA a0 δ) x2) (fun v => aHo (hM ad δ (tH x1)) (hR ad δ (tH x1)) x2.toInt v) a0 r.1 r.2) := by
  unfold D_X12_has
  have J0 : ∀ p : Int32 × dp, hs (J_X12_has_28 N h.1 a0 x1 x2 p.2) (fun r => r.2 = p.2) := fun p => by
    unfold J_X12_has_28
    exact hs_gp (fun _ => hs_some rfl)
  refine hr_H L hNN ka I J0 (fun b d1 H i1 t0 w e hH hx => ?_)
  dsimp only
  refine hs_bind (hr_isNumber L hNN (x1 := x2) ka i1) (fun r hr => ?_)
  obtain ⟨e5, hr⟩ := hr
  rw [e5]
  rw [shA_1 e] at hr
  obtain ⟨eM, eR, _, S1⟩ := hsr_1 w (S H hH)
  refine hr_C L ka (by rcases hr with ⟨a, b1, b2⟩ | ⟨a, b⟩ <;> rw [a]; exact ⟨fun z => by omega, fun z => absurd z (by decide)⟩; exact ⟨fun _ => rfl, fun _ => b⟩) t0 J0 (fun nc _ => ?_)
  dsimp only
  refine hs_bind (hr_isThere L hNN (x := x2) ka hx hH i1 S1) (fun q hq => hs_gp (fun _ => hs_some ⟨hq.1, ?_⟩))
  rw [tH_e hx]
  rw [eM, eR] at hq
  rcases hq.2 with ⟨e, m⟩ | ⟨e, m⟩
  · exact Or.inl ⟨by show q.1.toInt = 1; rw [e]; rfl, m⟩
  · exact Or.inr ⟨by show q.1.toInt = 0; rw [e]; rfl, m⟩
theorem hr_next (L : Lay TLx ad h) {δ0 : dp} {N : Nat} (hNN : 10000000 ≤ N) {a0 : Nat} {x1 x2 : Int32} (ka : q_K h.1 a0 = 12) {δ : dp} (sb : shA a0 δ ≤ 65536) (I : RI ad h.1 δ0 δ) (S : ∀ K, K < 4 → hsr ad δ K) : hs (D_X12_next N h.1 a0 x1 x2 δ) (fun r => OM (nH x1) (¬ okA (shA a0 δ) 3 x2.toInt) (fun v => aAb (hM ad δ (tH x1)) (hR ad δ (tH x1)) x2.toInt v) a0 r.1 r.2) := by
  unfold D_X12_next
  have J0 : ∀ p : Int32 × dp, hs (J_X12_next_29 N h.1 a0 x1 x2 p.2) (fun r => r.2 = p.2) := fun p => hs_some rfl
  refine hr_H L hNN ka I J0 (fun b d1 H i1 t0 w e hH hx => ?_)
  dsimp only
  refine hs_bind (hr_mayAsk L hNN (x1 := 3) (x2 := x2) ka i1) (fun r hr => ?_)
  obtain ⟨e5, hr⟩ := hr
  rw [e5]
  rw [shA_1 e] at hr
  obtain ⟨eM, eR, _, S1⟩ := hsr_1 w (S H hH)
  refine hr_C L ka (by rcases hr with ⟨a, b⟩ | ⟨a, b⟩ <;> rw [a]; exact ⟨fun z => absurd b z, fun z => absurd z (by decide)⟩; exact ⟨fun _ => rfl, fun _ => b⟩) t0 J0 (fun nc _ => ?_)
  dsimp only
  have ok3 : okA (shA a0 δ) 3 x2.toInt := Classical.byContradiction nc
  have b3 : x2.toInt < 2147483647 := by rcases ok3 with z | z | z <;> omega
  refine hs_bind (hr_answer L hNN (c := 3) (x := x2) ka hx hH i1 S1 b3) (fun q hq => hs_some ⟨hq.1, ?_⟩)
  rw [tH_e hx]
  rw [eM, eR] at hq
  rcases hq.2 with ⟨_, z⟩ | ⟨z, _⟩ | ⟨z, _⟩
  · exact z
  · exact absurd z (by decide)
  · exact absurd rfl z
theorem hr_before (L : Lay TLx ad h) {δ0 : dp} {N : Nat} (hNN : 10000000 ≤ N) {a0 : Nat} {x1 x2 : Int32} (ka : q_K h.1 a0 = 12) {δ : dp} (sb : shA a0 δ ≤ 65536) (I : RI ad h.1 δ0 δ) (S : ∀ K, K < 4 → hsr ad δ K) : hs (D_X12_before N h.1 a0 x1 x2 δ) (fun r => OM (nH x1) (¬ okA (shA a0 δ) 4 x2.toInt) (fun v => aBe (hM ad δ (tH x1)) (hR ad δ (tH x1)) x2.toInt v) a0 r.1 r.2) := by
  unfold D_X12_before
  have J0 : ∀ p : Int32 × dp, hs (J_X12_before_29 N h.1 a0 x1 x2 p.2) (fun r => r.2 = p.2) := fun p => hs_some rfl
  refine hr_H L hNN ka I J0 (fun b d1 H i1 t0 w e hH hx => ?_)
  dsimp only
  refine hs_bind (hr_mayAsk L hNN (x1 := 4) (x2 := x2) ka i1) (fun r hr => ?_)
  obtain ⟨e5, hr⟩ := hr
  rw [e5]
  rw [shA_1 e] at hr
  obtain ⟨eM, eR, _, S1⟩ := hsr_1 w (S H hH)
  refine hr_C L ka (by rcases hr with ⟨a, b⟩ | ⟨a, b⟩ <;> rw [a]; exact ⟨fun z => absurd b z, fun z => absurd z (by decide)⟩; exact ⟨fun _ => rfl, fun _ => b⟩) t0 J0 (fun nc _ => ?_)
  dsimp only
  have ok3 : okA (shA a0 δ) 4 x2.toInt := Classical.byContradiction nc
  have b3 : x2.toInt < 2147483647 := by rcases ok3 with z | z | z <;> omega
  refine hs_bind (hr_answer L hNN (c := 4) (x := x2) ka hx hH i1 S1 b3) (fun q hq => hs_some ⟨hq.1, ?_⟩)
  rw [tH_e hx]
  rw [eM, eR] at hq
  rcases hq.2 with ⟨z, _⟩ | ⟨_, z⟩ | ⟨_, z, _⟩
  · exact absurd z (by decide)
  · exact z
  · exact absurd rfl z
theorem hr_kth (L : Lay TLx ad h) {δ0 : dp} {N : Nat} (hNN : 10000000 ≤ N) {a0 : Nat} {x1 x2 : Int32} (ka : q_K h.1 a0 = 12) {δ : dp} (I : RI ad h.1 δ0 δ) : hs (D_X12_kth N h.1 a0 x1 x2 δ) (fun r => OM (nH x1) False (fun v => AT (hM ad δ (tH x1)) (hR ad δ (tH x1)) x2.toInt v) a0 r.1 r.2) := by
  unfold D_X12_kth
  refine hr_H L hNN ka I (J := fun p => some (0, p.2)) (fun p => hs_some rfl) (fun b d1 H i1 t0 w e hH hx => ?_)
  dsimp only
  have eM : hM ad d1 H = hM ad δ H := by unfold hM; rw [w]
  have eR : hR ad d1 H = hR ad δ H := by funext i; unfold hR; rw [w]
  refine hs_bind (hr_numberAt L hNN (x2 := x2) ka hx hH i1) (fun q hq => hs_some (Or.inr ⟨fun z => z, by rw [hq.1]; exact t0, ?_⟩))
  rw [tH_e hx]
  rw [eM, eR] at hq
  exact hq.2
theorem hr_between (L : Lay TLx ad h) {δ0 : dp} {N : Nat} (hNN : 10000000 ≤ N) {a0 : Nat} {x1 x2 x3 : Int32} (ka : q_K h.1 a0 = 12) {δ : dp} (sb : shA a0 δ ≤ 65536) (I : RI ad h.1 δ0 δ) (S : ∀ K, K < 4 → hsr ad δ K) : hs (D_X12_between N h.1 a0 x1 x2 x3 δ) (fun r => OM (nH x1) (nN (shA a0 δ) x2 ∨ nN (shA a0 δ) x3) (fun v => aBt (hM ad δ (tH x1)) (hR ad δ (tH x1)) x2.toInt x3.toInt v) a0 r.1 r.2) := by
  unfold D_X12_between
  have J0 : ∀ p : Int32 × dp, hs (J_X12_between_44 N h.1 a0 x1 x2 x3 p.2) (fun r => r.2 = p.2) := fun p => hs_some rfl
  refine hr_H L hNN ka I J0 (fun b d1 H i1 t0 w e hH hx => ?_)
  dsimp only
  obtain ⟨eM, eR, _, S1⟩ := hsr_1 w (S H hH)
  have no : (nN (shA a0 δ) x2 ∨ nN (shA a0 δ) x3) → hs (J_X12_between_35 N h.1 a0 x1 x2 x3 a0 d1) (fun r => OZ (nN (shA a0 δ) x2 ∨ nN (shA a0 δ) x3) (fun v => aBt (hM ad δ (tH x1)) (hR ad δ (tH x1)) x2.toInt x3.toInt v) a0 r.1 r.2) := fun z => by
    unfold J_X12_between_35 J_X12_between_36
    exact hr_C L ka ⟨fun _ => rfl, fun _ => z⟩ t0 J0 (fun nc _ => absurd z nc)
  refine hs_bind (hr_isNumber L hNN (x1 := x2) ka i1) (fun r hr => ?_)
  obtain ⟨e5, hr⟩ := hr
  rw [e5]
  rw [shA_1 e] at hr
  rcases hr with ⟨a, v1, v2⟩ | ⟨a, v⟩
  rotate_left
  · rw [a]
    exact hs_ite (fun _ => no (Or.inl v)) (fun z => absurd rfl z)
  rw [a]
  refine hs_ite (fun z => absurd z (by decide)) (fun _ => hs_bind (hr_isNumber L hNN (x1 := x3) ka i1) (fun r hr => ?_))
  obtain ⟨e5, hr⟩ := hr
  rw [e5]
  rw [shA_1 e] at hr
  rcases hr with ⟨a, u1, u2⟩ | ⟨a, v⟩
  rotate_left
  · rw [a]
    exact hs_ite (fun _ => no (Or.inr v)) (fun z => absurd rfl z)
  rw [a]
  refine hs_ite (fun z => absurd z (by decide)) (fun _ => ?_)
  unfold J_X12_between_36
  refine hr_C L ka ⟨fun z => by rcases z with z | z <;> rcases z with z | z <;> omega, fun z => absurd z (by decide)⟩ t0 J0 (fun nc _ => ?_)
  dsimp only
  unfold J_X12_between_70
  have t3 := te_addc (c := 1) (n := 1) rfl x3 (by omega) (by omega)
  have mb := rb_103 L I H
  have vM : (q_R δ (Ad ad 103) H).toInt = hM ad δ H := rfl
  rw [tH_e hx]
  refine hs_ite (fun c => ?_) (fun c => ?_)
  · have c1 := o_le c
    refine hs_bind (hr_place L hNN (x := x3 + 1) ka hx hH i1 S1) (fun q hq => ?_)
    obtain ⟨e1, p, hp, P⟩ := hq
    rw [e1]
    refine hs_bind (hr_place L hNN (x := x2) ka hx hH i1 S1) (fun q' hq => ?_)
    obtain ⟨e2, p', hp', P'⟩ := hq
    rw [eM, eR] at P P'
    have b1 : (p : Int) ≤ hM ad δ H := P.1
    have b2 : (p' : Int) ≤ hM ad δ H := P'.1
    have t4 := te_sub q.1 q'.1 (by omega) (by omega)
    rw [t3.1] at P
    exact hs_some ⟨e2, Or.inr ⟨c1, p, p', P, P', by show (q.1 - q'.1).toInt = _; omega⟩⟩
  · have c1 := o_nle c
    exact hs_some ⟨rfl, Or.inl ⟨by omega, rfl⟩⟩
theorem hr_of (L : Lay TLx ad h) {δ0 : dp} {N : Nat} (hNN : 10000000 ≤ N) {a0 : Nat} {x1 x2 : Int32} (ka : q_K h.1 a0 = 12) {δ : dp} (I : RI ad h.1 δ0 δ) (S : ∀ K, K < 4 → hsr ad δ K) : hs (D_X12_of_ N h.1 a0 x1 x2 δ) (fun r => OM (nH x1) (x2.toInt < 0 ∨ 3 < x2.toInt) (fun v => (x2.toInt = 3 ∧ v = hN ad δ (tH x1)) ∨ (x2.toInt ≠ 3 ∧ aTe (hM ad δ (tH x1)) (hR ad δ (tH x1)) x2.toInt v)) a0 r.1 r.2) := by
  have z3 : (3 : Int32).toInt = 3 := rfl
  have z0 : (0 : Int32).toInt = 0 := rfl
  have z1 : (1 : Int32).toInt = 1 := rfl
  have z2 : (2 : Int32).toInt = 2 := rfl
  obtain ⟨bm, om, _⟩ := gO_12_14 L ka
  obtain rfl := gS_12_14 L ka om
  obtain ⟨bt, ot, _⟩ := gO_12_17 L ka
  obtain rfl := gS_12_17 L ka ot
  unfold D_X12_of_
  have J0 : ∀ p : Int32 × dp, hs (J_X12_of__29 N h.1 a0 x1 x2 p.2) (fun r => r.2 = p.2) := fun p => hs_some rfl
  refine hr_H L hNN ka I J0 (fun b d1 H i1 t0 w e hH hx => ?_)
  dsimp only
  obtain ⟨eM, eR, eN, S1⟩ := hsr_1 w (S H hH)
  have tx := tnH hx
  refine hs_bind (hr_within L hNN (x0 := x2) (x1 := 0) (x2 := 3) i1) (fun r hr => ?_)
  obtain ⟨e5, hr⟩ := hr
  rw [e5]
  refine hr_C L ka (by rcases hr with ⟨a, b1, b2⟩ | ⟨a, b⟩ <;> rw [a]; exact ⟨fun z => by omega, fun z => absurd z (by decide)⟩; exact ⟨fun _ => rfl, fun _ => by omega⟩) t0 J0 (fun nc _ => ?_)
  dsimp only
  rw [tH_e hx]
  unfold J_X12_of__85
  have mb := rb_103 L i1 H
  have vM : (q_R d1 (Ad ad 103) H).toInt = hM ad δ H := eM
  refine hs_ite (fun c => ?_) (fun c => hs_ite (fun c' => ?_) (fun c' => hs_ite (fun c'' => ?_) (fun c'' => ?_)))
  · have c1 := o_eq c
    refine hs_at om (hs_gd (fun _ => hs_some ⟨rfl, Or.inr ⟨by omega, Or.inl ⟨by omega, ?_⟩⟩⟩))
    show (q_R d1 (Ad ad 103) x1.toNatClampNeg).toInt = _
    rw [tx]; exact vM
  · have c1 := o_eq c'
    refine hs_bind (hr_numberAt L hNN (x2 := 0) ka hx hH i1) (fun q hq => hs_some ⟨hq.1, Or.inr ⟨by omega, Or.inr (Or.inl ⟨by omega, ?_⟩)⟩⟩)
    rw [eM, eR] at hq
    exact hq.2
  · have c1 := o_eq c''
    refine hs_at om (hs_gd (fun _ => ?_))
    rw [tx]
    have t4 := te_subc (c := 1) (n := 1) rfl (q_R d1 (Ad ad 103) H) (by omega) (by omega)
    refine hs_bind (hr_numberAt L hNN (x2 := q_R d1 (Ad ad 103) H - 1) ka hx hH i1) (fun q hq => hs_some ⟨hq.1, Or.inr ⟨by omega, Or.inr (Or.inr ⟨by omega, by omega, ?_⟩)⟩⟩)
    rw [eM, eR, t4.1, vM] at hq
    exact hq.2
  · have c1 := o_ne c
    have c2 := o_ne c'
    have c3 := o_ne c''
    refine hs_at ot (hs_gd (fun _ => hs_some ⟨rfl, Or.inl ⟨by omega, ?_⟩⟩))
    show (q_R d1 (Ad ad 106) x1.toNatClampNeg).toInt = _
    rw [tx]; exact eN
end
