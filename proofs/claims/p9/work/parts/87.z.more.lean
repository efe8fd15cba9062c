/-! count, gap, since -/
/-- the houses' numbers together -/
def cs (ad : List Nat) (δ : dp) : Nat → Int
  | 0 => 0
  | k + 1 => cs ad δ k + cM ad δ k
section
variable {ad : List Nat} {h : hp}
theorem hc_count33 (L : Lay TLx ad h) {δ0 : dp} {N : Nat} {x1 : Int32} {δ : dp} (I : CI ad h.1 δ0 δ) : ∀ (f k : Nat) (x2 x3 : Int32), x3.toInt = (k : Int) → k ≤ 4 → x2.toInt = cs ad δ k → 0 ≤ x2.toInt → x2.toInt ≤ 2000 * (k : Int) → hs (L_X11_count_33 N h.1 (Ad ad 0) x1 f x2 x3 δ) (fun r => r.1.toInt = cs ad δ 4) := by
  have z4 : (4 : Int32).toInt = 4 := rfl
  intro f
  induction f with
  | zero => intro k x2 x3 _ _ _ _ _; exact hs_none
  | succ f ih =>
    intro k x2 x3 h3 hk h2 b1 b2
    unfold L_X11_count_33
    refine hs_ite (fun c => ?_) (fun c => ?_)
    · have c1 := o_le c
      obtain rfl : k = 4 := by omega
      exact hs_some h2
    · have c1 := o_nle c
      have hk' : k < 4 := by omega
      have mb := cM_b L I hk'
      have vm : (q_I δ 3 1 (Ad ad (76 + 6 * k))).toInt = cM ad δ k := rfl
      refine hc_row L hk' h3 (hs_biv (fun y ey => hs_biv (fun y' ey' => ?_)))
      have t2 := te_add x2 (q_I δ 3 1 (Ad ad (76 + 6 * k))) (by omega) (by omega)
      have t3 := te_addc (c := 1) (n := 1) rfl x3 (by omega) (by omega)
      rw [← ey] at t2
      rw [← ey'] at t3
      exact ih (k + 1) y y' (by omega) (by omega) (by show y.toInt = cs ad δ k + cM ad δ k; omega) (by omega) (by omega)
theorem y_count (L : Lay TLx ad h) {N : Nat} (hNN : 10000000 ≤ N) (kx : q_K h.1 (Ad ad 0) = 11) (km : q_K h.1 (Ad ad 99) = 12) (no : q_N h.1 (Ad ad 127) = 1) {x1 : Int32} {δ : dp} (V : IY ad h.1 δ) : ∃ d, (∃ (b : Int32) (δ1 : dp), D_X11_count N h.1 (Ad ad 0) x1 δ = some (b, δ1) ∧ D_X12_count N h.1 (Ad ad 99) x1 δ1 = some (b, d)) ∧ IY ad h.1 d := by
  obtain ⟨d, ⟨kk, b, δ1, e1, e2⟩, W⟩ := n_count L hNN kx km no V (x1 := x1)
  have ed : δ1 = δ := ok_h (k_X11_count L hNN (x1 := x1) kx V.1.1.1) _ e1
  subst ed
  obtain ⟨⟨⟨V1, V2, V3, V4⟩, A⟩, X⟩ := id V
  have A3 := A.2.2.1
  have z0 : (0 : Int32).toInt = 0 := rfl
  have z1 : (1 : Int32).toInt = 1 := rfl
  have z2 : (2 : Int32).toInt = 2 := rfl
  obtain ⟨b14, o14, _⟩ := gO_12_14 L km
  obtain rfl := gS_12_14 L km o14
  have C : hs (D_X11_count N h.1 (Ad ad 0) x1 δ1) (fun r => (x1 = 0 → r.1.toInt = (q_I δ1 11 12 (Ad ad 0)).toInt) ∧ (x1 = 1 → r.1.toInt = (q_I δ1 7 1 (Ad ad 1)).toInt) ∧ (x1 = 2 → r.1.toInt = cs ad δ1 4) ∧ (x1 ≠ 0 → x1 ≠ 1 → x1 ≠ 2 → r.1 = -1)) := by
    unfold D_X11_count
    refine hs_ite (fun c => hs_some ⟨fun _ => rfl, fun z => ?_, fun z => ?_, fun z => absurd c z⟩) (fun c => hs_ite (fun c' => ?_) (fun c' => hs_ite (fun c'' => ?_) (fun c'' => hs_some ⟨fun z => absurd z c, fun z => absurd z c', fun z => absurd z c'', fun _ _ _ => rfl⟩)))
    · rw [c] at z; exact absurd z (by decide)
    · rw [c] at z; exact absurd z (by decide)
    · refine hs_at (fO_0_0 L) (hs_some ⟨fun z => absurd z c, fun _ => rfl, fun z => ?_, fun _ z => absurd c' z⟩)
      rw [c'] at z; exact absurd z (by decide)
    · exact hs_mono (hc_count33 L V1 N 0 0 0 rfl (by decide) rfl (by decide) (by decide)) (fun r hr => ⟨fun z => absurd z c, fun z => absurd z c', fun _ => hr, fun _ _ z => absurd c'' z⟩)
  have R : hs (D_X12_count N h.1 (Ad ad 99) x1 δ1) (fun r => (x1 = 0 → r.1.toInt = (q_I δ1 12 18 (Ad ad 99)).toInt) ∧ (x1 = 1 → r.1.toInt = (q_I δ1 12 2 (Ad ad 99)).toInt) ∧ (x1 = 2 → r.1.toInt = hM ad δ1 0 + hM ad δ1 1 + hM ad δ1 2 + hM ad δ1 3) ∧ (x1 ≠ 0 → x1 ≠ 1 → x1 ≠ 2 → r.1 = -1)) := by
    unfold D_X12_count J_X12_count_64
    refine hs_bdv (fun d1 e => ?_)
    have w1 : q_R d1 = q_R δ1 := by rw [e]; rfl
    have f18 : q_I d1 12 18 (Ad ad 99) = q_I δ1 12 18 (Ad ad 99) := by rw [e, rI_o (by decide)]
    have f2 : q_I d1 12 2 (Ad ad 99) = q_I δ1 12 2 (Ad ad 99) := by rw [e, rI_o (by decide)]
    refine hs_ite (fun c => hs_some ⟨fun _ => by rw [f18], fun z => ?_, fun z => ?_, fun z => absurd c z⟩) (fun c => hs_ite (fun c' => ?_) (fun c' => hs_ite (fun c'' => ?_) (fun c'' => hs_some ⟨fun z => absurd z c, fun z => absurd z c', fun z => absurd z c'', fun _ _ _ => rfl⟩)))
    · rw [c] at z; exact absurd z (by decide)
    · rw [c] at z; exact absurd z (by decide)
    · refine hs_some ⟨fun z => absurd z c, fun _ => by rw [f2], fun z => ?_, fun _ z => absurd c' z⟩
      rw [c'] at z; exact absurd z (by decide)
    · refine hs_at o14 (hs_gd (fun _ => hs_at o14 (hs_gd (fun _ => hs_at o14 (hs_gd (fun _ => hs_at o14 (hs_gd (fun _ => hs_some ⟨fun z => absurd z c, fun z => absurd z c', fun _ => ?_, fun _ _ z => absurd c'' z⟩))))))))
      rw [w1]
      have b0 := rb_103 L V2 0
      have b1 := rb_103 L V2 1
      have b2 := rb_103 L V2 2
      have b3 := rb_103 L V2 3
      have t1 := te_add (q_R δ1 (Ad ad 103) 0) (q_R δ1 (Ad ad 103) 1) (by omega) (by omega)
      have t2 := te_add (q_R δ1 (Ad ad 103) 0 + q_R δ1 (Ad ad 103) 1) (q_R δ1 (Ad ad 103) 2) (by omega) (by omega)
      have t3 := te_add (q_R δ1 (Ad ad 103) 0 + q_R δ1 (Ad ad 103) 1 + q_R δ1 (Ad ad 103) 2) (q_R δ1 (Ad ad 103) 3) (by omega) (by omega)
      have v0 : (q_R δ1 (Ad ad 103) 0).toInt = hM ad δ1 0 := rfl
      have v1 : (q_R δ1 (Ad ad 103) 1).toInt = hM ad δ1 1 := rfl
      have v2 : (q_R δ1 (Ad ad 103) 2).toInt = hM ad δ1 2 := rfl
      have v3 : (q_R δ1 (Ad ad 103) 3).toInt = hM ad δ1 3 := rfl
      show (q_R δ1 (Ad ad 103) 0 + q_R δ1 (Ad ad 103) 1 + q_R δ1 (Ad ad 103) 2 + q_R δ1 (Ad ad 103) 3).toInt = _
      omega
  obtain ⟨c1, c2, c3, c4⟩ := C _ e1
  obtain ⟨r1, r2, r3, r4⟩ := R _ e2
  dsimp only at c1 c2 c3 c4 r1 r2 r3 r4
  have eb : kk = b := by
    by_cases q0 : x1 = 0
    · exact i_eq (by rw [c1 q0, r1 q0]; exact A3)
    · by_cases q1 : x1 = 1
      · exact i_eq (by rw [c2 q1, r2 q1]; exact V4)
      · by_cases q2 : x1 = 2
        · refine i_eq ?_
          rw [c3 q2, r3 q2]
          have k0 := (X.1 0 (by decide)).1.1
          have k1 := (X.1 1 (by decide)).1.1
          have k2 := (X.1 2 (by decide)).1.1
          have k3 := (X.1 3 (by decide)).1.1
          show 0 + cM ad δ1 0 + cM ad δ1 1 + cM ad δ1 2 + cM ad δ1 3 = _
          omega
        · rw [c4 q0 q1 q2, r4 q0 q1 q2]
  subst eb
  exact ⟨d, ⟨kk, δ1, e1, e2⟩, W⟩
end
/-- the last that P, or none -/
def aLa (n : Int) (P : Nat → Prop) (v : Int) : Prop := (v = -1 ∧ ∀ i : Nat, (i : Int) < n → ¬ P i) ∨ ∃ i : Nat, (i : Int) < n ∧ P i ∧ v = (i : Int) + 1 ∧ ∀ j : Nat, i < j → (j : Int) < n → ¬ P j
theorem aLa_u {n m v w : Int} {P Q : Nat → Prop} (e : n = m) (f : ∀ i : Nat, (i : Int) < m → (P i ↔ Q i)) (h : aLa n P v) (g : aLa m Q w) : v = w := by
  subst e
  rcases h with ⟨h1, h2⟩ | ⟨i, h1, h2, h3, h4⟩ <;> rcases g with ⟨g1, g2⟩ | ⟨j, g1, g2, g3, g4⟩
  · omega
  · exact absurd ((f j g1).mpr g2) (h2 j g1)
  · exact absurd ((f i h1).mp h2) (g2 i h1)
  · rcases (show i < j ∨ i = j ∨ j < i by omega) with z | z | z
    · exact absurd ((f j g1).mpr g2) (h4 j z g1)
    · omega
    · exact absurd ((f i h1).mp h2) (g4 i z h1)
section
variable {ad : List Nat} {h : hp}
theorem h2_last (L : Lay TLx ad h) {N : Nat} {K : Nat} (hK : K < 4) {x1 x2 : Int32} {δ : dp} (nb : cN ad δ K ≤ 1000) (hv : (x2 * 2 + x1).toInt = 2 * x2.toInt + x1.toInt) : ∀ (f : Nat) (x3 : Int32), -1 ≤ x3.toInt → x3.toInt < cN ad δ K → (∀ j : Nat, x3.toInt < (j : Int) → (j : Int) < cN ad δ K → ¬ cC ad δ K j = 2 * x2.toInt + x1.toInt) → hs (L_X2_lastChange_7 N h.1 (Ad ad (75 + 6 * K)) x1 x2 f x3 δ) (fun r => r.2 = δ ∧ aLa (cN ad δ K) (fun j => cC ad δ K j = 2 * x2.toInt + x1.toInt) r.1.toInt) := by
  have z0 : (0 : Int32).toInt = 0 := rfl
  intro f
  induction f with
  | zero => intro x3 _ _ _; exact hs_none
  | succ f ih =>
    intro x3 h1 h2 h3
    unfold L_X2_lastChange_7
    refine hs_ite (fun c => ?_) (fun c => ?_)
    · have c1 := o_lt c
      exact hs_some ⟨rfl, Or.inl ⟨rfl, fun i hi => h3 i (by omega) hi⟩⟩
    · have c1 := o_nlt c
      have n3 := ti_tn x3
      refine hs_at (lk_2 L hK) (hs_gd (fun _ => ?_))
      have vc : (q_R δ (Ad ad (78 + 6 * K)) x3.toNatClampNeg).toInt = cC ad δ K x3.toNatClampNeg := rfl
      refine hs_ite (fun c' => ?_) (fun c' => hs_biv (fun y ey => ?_))
      · have c2 := o_eq c'
        rw [vc, hv] at c2
        have t := te_addc (c := 1) (n := 1) rfl x3 (by omega) (by omega)
        exact hs_some ⟨rfl, Or.inr ⟨x3.toNatClampNeg, by omega, c2, by show (x3 + 1).toInt = _; omega, fun j a b => h3 j (by omega) b⟩⟩
      · have c2 := o_ne c'
        rw [vc, hv] at c2
        have t := te_addc (c := -1) (n := -1) rfl x3 (by omega) (by omega)
        rw [← ey] at t
        refine ih y (by omega) (by omega) (fun j a b => ?_)
        by_cases z : j = x3.toNatClampNeg
        · rw [z]; exact c2
        · exact h3 j (by omega) b
theorem hL_since (L : Lay TLx ad h) {δ0 : dp} {N : Nat} {x1 x2 x3 : Int32} {o : Nat} {δ : dp} (I : CI ad h.1 δ0 δ) : hs (D_L_since N h.1 (Ad ad 0) x1 x2 x3 o δ) (fun r => OL (nH x1) (nN (scA ad δ) x2 ∨ x3.toInt < 0 ∨ 1 < x3.toInt) (fun v => aLa (cN ad δ (tH x1)) (fun j => cC ad δ (tH x1) j = 2 * x2.toInt + x3.toInt) v) o r.1 r.2) := by
  have ab := scA_b L I
  have z0 : (0 : Int32).toInt = 0 := rfl
  have z1 : (1 : Int32).toInt = 1 := rfl
  have z2 : (2 : Int32).toInt = 2 := rfl
  unfold D_L_since
  refine OX_L (Q := fun v => aLa (cN ad δ (tH x1)) (fun j => cC ad δ (tH x1) j = 2 * x2.toInt + x3.toInt) v) ?_ (fun v d hv => hs_gd (fun _ => hs_some rfl)) (fun d => hs_ite (fun _ => hs_some rfl) (fun z => absurd rfl z)) (fun _ d => hs_ite (fun z => absurd z (by decide)) (fun _ => hs_ite (fun z => absurd z (by decide)) (fun _ => hs_some rfl)))
  unfold D_X11_since
  refine hc_H L (fun H hH hx => hs_bind (hc_isNumber L (x1 := x2) I) (fun r hr => ?_))
  obtain ⟨e, hr⟩ := hr
  rw [e]
  have no : (nN (scA ad δ) x2 ∨ x3.toInt < 0 ∨ 1 < x3.toInt) → hs (J_X11_since_27 N h.1 (Ad ad 0) x1 x2 x3 (Ad ad 0) δ) (fun r => OY (nN (scA ad δ) x2 ∨ x3.toInt < 0 ∨ 1 < x3.toInt) (fun v => aLa (cN ad δ (tH x1)) (fun j => cC ad δ (tH x1) j = 2 * x2.toInt + x3.toInt) v) r.1) := fun z => by
    unfold J_X11_since_27 J_X11_since_28
    exact hc_C L ⟨fun _ => rfl, fun _ => z⟩ (fun nc => absurd z nc)
  rcases hr with ⟨a, v1, v2⟩ | ⟨a, v⟩
  rotate_left
  · rw [a]
    exact hs_ite (fun _ => no (Or.inl v)) (fun z => absurd rfl z)
  rw [a]
  have nb := cN_b L I hH
  have run : (x3 = 0 ∨ x3 = 1) → hs (J_X11_since_23 N h.1 (Ad ad 0) x1 x2 x3 (Ad ad 0) δ) (fun r => OY (nN (scA ad δ) x2 ∨ x3.toInt < 0 ∨ 1 < x3.toInt) (fun v => aLa (cN ad δ (tH x1)) (fun j => cC ad δ (tH x1) j = 2 * x2.toInt + x3.toInt) v) r.1) := fun hh => by
    have h01 : x3.toInt = 0 ∨ x3.toInt = 1 := by rcases hh with q | q <;> rw [q]; exact Or.inl rfl; exact Or.inr rfl
    unfold J_X11_since_23 J_X11_since_28
    refine hc_C L ⟨fun z => by rcases z with z | z; rcases z with z | z; omega; omega; omega, fun z => absurd z (by decide)⟩ (fun nc => hc_house L hH hx ?_)
    unfold J_X11_since_46
    rw [tH_e hx]
    have go : ∀ xs : Int32, xs = x3 → hs ((D_X2_lastChange N h.1 (Ad ad (75 + 6 * H)) xs x2 δ).bind fun r_14 => some ((Sum.inl r_14.1 : Int32 ⊕ Nat), r_14.2)) (fun r => ∃ w : Int32, r.1 = .inl w ∧ aLa (cN ad δ H) (fun j => cC ad δ H j = 2 * x2.toInt + x3.toInt) w.toInt) := fun xs exs => by
      subst exs
      unfold D_X2_lastChange
      have vn : (q_I δ 2 4 (Ad ad (75 + 6 * H))).toInt = cN ad δ H := rfl
      have t1 := te_subc (c := 1) (n := 1) rfl (q_I δ 2 4 (Ad ad (75 + 6 * H))) (by omega) (by omega)
      have t2 := te_mulr (c := 2) (n := 2) rfl x2 (by omega) (by omega)
      have t3 := te_add (x2 * 2) xs (by omega) (by omega)
      refine hs_bind (P := fun r => aLa (cN ad δ H) (fun j => cC ad δ H j = 2 * x2.toInt + xs.toInt) r.1.toInt) (hs_biv (fun y ey => ?_)) (fun r hr => hs_some ⟨r.1, rfl, hr⟩)
      rw [← ey] at t1
      exact hs_mono (h2_last L hH nb.2 (by omega) N y (by omega) (by omega) (fun j a b => by omega)) (fun r hr => hr.2)
    refine hs_ite (fun c => go 0 c.symm) (fun c => go 1 ?_)
    rcases hh with q | q
    · exact absurd q c
    · exact q.symm
  refine hs_ite (fun z => absurd z (by decide)) (fun _ => hs_ite (fun c => run (Or.inl c)) (fun c => hs_ite (fun c' => run (Or.inr c')) (fun c' => no (Or.inr ?_))))
  have := o_ne c
  have := o_ne c'
  omega
theorem hr_last (L : Lay TLx ad h) {N : Nat} {a0 H : Nat} {x1 x2 x3 : Int32} (ka : q_K h.1 a0 = 12) (hx : x1.toInt = (H : Int)) (hH : H < 4) (h3 : x3.toInt = 0 ∨ x3.toInt = 1) {δ : dp} (bN : hN ad δ H ≤ 1000) : ∀ (f : Nat) (x4 : Int32), -1 ≤ x4.toInt → x4.toInt < hN ad δ H → (∀ j : Nat, x4.toInt < (j : Int) → (j : Int) < hN ad δ H → ¬ (nT ad δ H j = x2.toInt ∧ cF ad δ H j = 1 - x3.toInt)) → hs (L_X12_since_57 N h.1 a0 x1 x2 x3 f x4 δ) (fun r => r.2 = δ ∧ aLa (hN ad δ H) (fun j => nT ad δ H j = x2.toInt ∧ cF ad δ H j = 1 - x3.toInt) r.1.toInt) := by
  have z0 : (0 : Int32).toInt = 0 := rfl
  have z1 : (1 : Int32).toInt = 1 := rfl
  obtain ⟨b15, o15, _⟩ := gO_12_15 L ka
  obtain rfl := gS_12_15 L ka o15
  obtain ⟨b16, o16, _⟩ := gO_12_16 L ka
  obtain rfl := gS_12_16 L ka o16
  intro f
  induction f with
  | zero => intro x4 _ _ _; exact hs_none
  | succ f ih =>
    intro x4 g1 g2 g3
    unfold L_X12_since_57
    refine hs_ite (fun c => ?_) (fun c => ?_)
    · have c1 := o_lt c
      exact hs_some ⟨rfl, Or.inl ⟨rfl, fun i hi => g3 i (by omega) hi⟩⟩
    · have c1 := o_nlt c
      have n4 := ti_tn x4
      have t3 := te_addc (c := 1) (n := 1) rfl x4 (by omega) (by omega)
      have t4 := te_csub (c := 1) (n := 1) rfl x3 (by omega) (by omega)
      have nx : ¬ (nT ad δ H x4.toNatClampNeg = x2.toInt ∧ cF ad δ H x4.toNatClampNeg = 1 - x3.toInt) → hs (J_X12_since_103 N h.1 a0 x1 x2 x3 (L_X12_since_57 N h.1 a0 x1 x2 x3 f) x4 δ) (fun r => r.2 = δ ∧ aLa (hN ad δ H) (fun j => nT ad δ H j = x2.toInt ∧ cF ad δ H j = 1 - x3.toInt) r.1.toInt) := fun np => by
        unfold J_X12_since_103
        refine hs_biv (fun y ey => ?_)
        clear t3 t4
        have t2 := te_addc (c := -1) (n := -1) rfl x4 (by omega) (by omega)
        rw [← ey] at t2
        refine ih y (by omega) (by omega) (fun j a b => ?_)
        by_cases z : j = x4.toNatClampNeg
        · rw [z]; exact np
        · exact g3 j (by omega) b
      refine hs_at o15 (hs_gd (fun g => ?_))
      clear g
      rw [(ix1 hx hH (m := x4) (k := x4.toNatClampNeg) (by omega) (by omega)).2]
      have vT : (q_R δ (Ad ad 104) (1000 * H + x4.toNatClampNeg)).toInt = nT ad δ H x4.toNatClampNeg := rfl
      have vF : (q_R δ (Ad ad 105) (1000 * H + x4.toNatClampNeg)).toInt = cF ad δ H x4.toNatClampNeg := rfl
      refine hs_ite (fun c2 => ?_) (fun c2 => ?_)
      · have e2 := o_eq c2
        refine hs_at o16 (hs_gd (fun g => ?_))
        clear g
        refine hs_ite (fun c3 => ?_) (fun c3 => ?_)
        · have e3 := o_eq c3
          exact hs_some ⟨rfl, Or.inr ⟨x4.toNatClampNeg, by omega, ⟨by omega, by omega⟩, by show (x4 + 1).toInt = _; omega, fun j a b => g3 j (by omega) b⟩⟩
        · have e3 := o_ne c3
          exact nx (fun z => by omega)
      · have e2 := o_ne c2
        exact nx (fun z => by omega)
theorem hr_since (L : Lay TLx ad h) {δ0 : dp} {N : Nat} (hNN : 10000000 ≤ N) {x1 x2 x3 : Int32} (ka : q_K h.1 (Ad ad 99) = 12) {δ : dp} (I : RI ad h.1 δ0 δ) : hs (D_X12_since N h.1 (Ad ad 99) x1 x2 x3 δ) (fun r => OM (nH x1) (nN (shA (Ad ad 99) δ) x2 ∨ x3.toInt < 0 ∨ 1 < x3.toInt) (fun v => aLa (hN ad δ (tH x1)) (fun j => nT ad δ (tH x1) j = x2.toInt ∧ cF ad δ (tH x1) j = 1 - x3.toInt) v) (Ad ad 99) r.1 r.2) := by
  have z0 : (0 : Int32).toInt = 0 := rfl
  have z1 : (1 : Int32).toInt = 1 := rfl
  obtain ⟨b17, o17, _⟩ := gO_12_17 L ka
  obtain rfl := gS_12_17 L ka o17
  unfold D_X12_since
  have J0 : ∀ p : Int32 × dp, hs (J_X12_since_45 N h.1 (Ad ad 99) x1 x2 x3 p.2) (fun r => r.2 = p.2) := fun p => hs_some rfl
  refine hr_H L hNN ka I J0 (fun b d1 H i1 t0 w e hH hx => ?_)
  dsimp only
  have no : (nN (shA (Ad ad 99) δ) x2 ∨ x3.toInt < 0 ∨ 1 < x3.toInt) → hs (J_X12_since_36 N h.1 (Ad ad 99) x1 x2 x3 (Ad ad 99) d1) (fun r => OZ (nN (shA (Ad ad 99) δ) x2 ∨ x3.toInt < 0 ∨ 1 < x3.toInt) (fun v => aLa (hN ad δ (tH x1)) (fun j => nT ad δ (tH x1) j = x2.toInt ∧ cF ad δ (tH x1) j = 1 - x3.toInt) v) (Ad ad 99) r.1 r.2) := fun z => by
    unfold J_X12_since_36 J_X12_since_37
    exact hr_C L ka ⟨fun _ => rfl, fun _ => z⟩ t0 J0 (fun nc _ => absurd z nc)
  refine hs_bind (hr_isNumber L hNN (x1 := x2) ka i1) (fun r hr => ?_)
  obtain ⟨e5, hr⟩ := hr
  rw [e5]
  rw [shA_1 e] at hr
  rcases hr with ⟨a, v1, v2⟩ | ⟨a, v⟩
  rotate_left
  · rw [a]
    exact hs_ite (fun _ => no (Or.inl v)) (fun z => absurd rfl z)
  rw [a]
  refine hs_ite (fun z => absurd z (by decide)) (fun _ => hs_bind (hr_within L hNN (x0 := x3) (x1 := 0) (x2 := 1) i1) (fun r hr => ?_))
  obtain ⟨e5, hr⟩ := hr
  rw [e5]
  rcases hr with ⟨a, u1, u2⟩ | ⟨a, v⟩
  rotate_left
  · rw [a]
    exact hs_ite (fun _ => no (Or.inr (by omega))) (fun z => absurd rfl z)
  rw [a]
  refine hs_ite (fun z => absurd z (by decide)) (fun _ => ?_)
  unfold J_X12_since_37
  refine hr_C L ka ⟨fun z => by rcases z with z | z; rcases z with z | z; omega; omega; omega, fun z => absurd z (by decide)⟩ t0 J0 (fun nc _ => ?_)
  dsimp only
  have tx := tnH hx
  have eN : hN ad d1 H = hN ad δ H := by unfold hN; rw [w]
  have eT : nT ad d1 H = nT ad δ H := by funext i; unfold nT; rw [w]
  have eF : cF ad d1 H = cF ad δ H := by funext i; unfold cF; rw [w]
  have bN := rb_106 L i1 H
  have vN : (q_R d1 (Ad ad 106) H).toInt = hN ad d1 H := rfl
  have t1 := te_subc (c := 1) (n := 1) rfl (q_R d1 (Ad ad 106) H) (by omega) (by omega)
  refine hs_at o17 (hs_gd (fun _ => ?_))
  rw [tx]
  refine hs_biv (fun y ey => ?_)
  rw [← ey] at t1
  rw [tH_e hx, ← eN, ← eT, ← eF]
  exact hr_last L ka hx hH (by omega) (by omega) N y (by omega) (by omega) (fun j a b => by omega)
theorem y_since (L : Lay TLx ad h) {N : Nat} (hNN : 10000000 ≤ N) (kx : q_K h.1 (Ad ad 0) = 11) (km : q_K h.1 (Ad ad 99) = 12) (no : q_N h.1 (Ad ad 127) = 1) {x1 x2 x3 : Int32} {δ : dp} (V : IY ad h.1 δ) : ∃ d, (∃ (kk b : Int32) (δ1 : dp), D_L_since N h.1 (Ad ad 0) x1 x2 x3 (Ad ad 127) δ = some (kk, δ1) ∧ D_X12_since N h.1 (Ad ad 99) x1 x2 x3 δ1 = some (b, d) ∧ q_I d 12 0 (Ad ad 99) = kk ∧ (kk = 0 → q_J d (Ad ad 127) 0 = b.toInt64)) ∧ IY ad h.1 d :=
  stepR (d1 := fun _ => nH x1) (d2 := fun δ1 => nN (shA (Ad ad 99) δ1) x2 ∨ x3.toInt < 0 ∨ 1 < x3.toInt) (P := fun δ1 v => aLa (hN ad δ1 (tH x1)) (fun j => nT ad δ1 (tH x1) j = x2.toInt ∧ cF ad δ1 (tH x1) j = 1 - x3.toInt) v) (f := fun δ1 => D_X12_since N h.1 (Ad ad 99) x1 x2 x3 δ1) km V (k_L_since L hNN (x1 := x1) (x2 := x2) (x3 := x3) kx no V.1.1.1) (gL_since L kx) (hL_since L V.1.1.1) (fun δ1 I1 O1 => o_since L hNN km I1 O1) (fun δ1 I1 O1 X1 => hs_and (rs_since L hNN km I1 O1) (hr_since L hNN km I1)) (fun δ1 X1 c eA e4 => ⟨Iff.rfl, fun _ => by show (nN (scA ad δ) x2 ∨ x3.toInt < 0 ∨ 1 < x3.toInt) ↔ (nN (shA (Ad ad 99) δ1) x2 ∨ x3.toInt < 0 ∨ 1 < x3.toInt); rw [eA], fun n1 n2 v w hq hp => by
    have h4 : tH x1 < 4 := by show x1.toInt.toNat < 4; omega
    obtain ⟨h1, h2, h3, _, _, h6, h7, _⟩ := X1.1 (tH x1) h4
    obtain ⟨c1, c2, c3, c5, _⟩ := c.1 (tH x1) h4
    rw [c3] at h2
    rw [c5] at h6
    refine aLa_u h2 (fun i hi => ?_) hq hp
    rw [h6 i hi]
    have vd := (h7 i (by omega)).2.2
    constructor
    · intro z
      rcases vd with ⟨q, _⟩ | ⟨q, _⟩ <;> constructor <;> omega
    · intro z
      omega⟩)
end
