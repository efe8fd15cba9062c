/-! calls that only read: what each side says -/
abbrev nH (x : Int32) : Prop := x.toInt < 0 ∨ 3 < x.toInt
abbrev nN (A : Int) (x : Int32) : Prop := x.toInt < 0 ∨ A ≤ x.toInt
abbrev tH (x : Int32) : Nat := x.toInt.toNat
theorem tH_e {x : Int32} {H : Nat} (h : x.toInt = (H : Int)) : tH x = H := by show x.toInt.toNat = H; omega
/-- what a read of the class says -/
def OX (c1 c2 : Prop) (Q : Int → Prop) (v : Int32 ⊕ Nat) : Prop := (c1 ∧ v = .inr 0) ∨ (¬ c1 ∧ c2 ∧ v = .inr 2) ∨ (¬ c1 ∧ ¬ c2 ∧ ∃ w : Int32, v = .inl w ∧ Q w.toInt)
def OY (c2 : Prop) (Q : Int → Prop) (v : Int32 ⊕ Nat) : Prop := (c2 ∧ v = .inr 2) ∨ (¬ c2 ∧ ∃ w : Int32, v = .inl w ∧ Q w.toInt)
theorem OX_L {c1 c2 : Prop} {Q : Int → Prop} {o : Nat} {X : Option ((Int32 ⊕ Nat) × dp)} (H : hs X (fun r => OX c1 c2 Q r.1)) {f : (Int32 ⊕ Nat) × dp → Option (Int32 × dp)} (hf1 : ∀ v d, Q v.toInt → hs (f (.inl v, d)) (fun r => r = (0, s_J d o 0 v.toInt64))) (hf2 : ∀ d, hs (f (.inr 0, d)) (fun r => r = (1, d))) (hf3 : c2 → ∀ d, hs (f (.inr 2, d)) (fun r => r = (2, d))) : hs (X.bind f) (fun r => OL c1 c2 Q o r.1 r.2) := by
  refine hs_bind H (fun r hr => ?_)
  obtain ⟨v, d⟩ := r
  rcases hr with ⟨h1, h2⟩ | ⟨h1, h3, h2⟩ | ⟨h1, h3, w, h2, h4⟩
  · dsimp only at h2
    subst h2
    exact hs_mono (hf2 d) (fun r e => by rw [e]; exact Or.inl ⟨h1, rfl⟩)
  · dsimp only at h2
    subst h2
    exact hs_mono (hf3 h3 d) (fun r e => by rw [e]; exact Or.inr (Or.inl ⟨h1, h3, rfl⟩))
  · dsimp only at h2
    subst h2
    exact hs_mono (hf1 w d h4) (fun r e => by rw [e]; exact Or.inr (Or.inr ⟨h1, h3, rfl, w, jup, h4⟩))
section
variable {ad : List Nat} {h : hp}
theorem hc_H (L : Lay TLx ad h) {N : Nat} {x1 : Int32} {δ : dp} {K : dp → Option ((Int32 ⊕ Nat) × dp)} {c2 : Prop} {Q : Int → Prop} (k : ∀ H : Nat, H < 4 → x1.toInt = (H : Int) → hs (K δ) (fun r => OY c2 Q r.1)) : hs (bxv (D_X11_needHouse N h.1 (Ad ad 0) x1 δ) (fun n δ => (.inr n, δ)) K) (fun r => OX (nH x1) c2 Q r.1) := by
  refine hs_bxv (hc_needHouse L (x1 := x1)) (fun n d hn => ?_) (fun d hn => ?_)
  · rcases hn with ⟨z, _⟩ | ⟨z1, z2, z3⟩
    · cases z
    · exact Or.inl ⟨z3, inrc z1⟩
  rcases hn with ⟨_, e, H, hH, hx⟩ | ⟨z, _⟩
  rotate_left
  · cases z
  dsimp only at e
  subst e
  refine hs_mono (k H hH hx) (fun r hr => ?_)
  rcases hr with ⟨h1, h2⟩ | ⟨h1, h2⟩
  · exact Or.inr (Or.inl ⟨fun z => by omega, h1, h2⟩)
  · exact Or.inr (Or.inr ⟨fun z => by omega, h1, h2⟩)
theorem hc_N (L : Lay TLx ad h) {N : Nat} {x2 : Int32} {δ0 δ : dp} (I : CI ad h.1 δ0 δ) {K : dp → Option ((Int32 ⊕ Nat) × dp)} {Q : Int → Prop} (k : 0 ≤ x2.toInt → x2.toInt < scA ad δ → hs (K δ) (fun r => ∃ w : Int32, r.1 = .inl w ∧ Q w.toInt)) : hs (bxv (D_X11_needNumber N h.1 (Ad ad 0) x2 δ) (fun n δ => (.inr n, δ)) K) (fun r => OY (nN (scA ad δ) x2) Q r.1) := by
  refine hs_bxv (hc_needNumber L (x1 := x2) I) (fun n d1 hn => ?_) (fun d1 hn => ?_)
  · rcases hn with ⟨z, _⟩ | ⟨z1, z2, z3⟩
    · cases z
    · exact Or.inl ⟨z3, inrc z1⟩
  rcases hn with ⟨_, e, v1, v2⟩ | ⟨z, _⟩
  rotate_left
  · cases z
  dsimp only at e
  subst e
  exact hs_mono (k v1 v2) (fun r hr => Or.inr ⟨fun z => by omega, hr⟩)
theorem hc_C (L : Lay TLx ad h) {N : Nat} {c : Int32} {c2 : Prop} (hc : c2 ↔ c = 0) {δ : dp} {K : dp → Option ((Int32 ⊕ Nat) × dp)} {Q : Int → Prop} (k : ¬ c2 → hs (K δ) (fun r => ∃ w : Int32, r.1 = .inl w ∧ Q w.toInt)) : hs (bxv (D_X11_need N h.1 (Ad ad 0) c δ) (fun n δ => (.inr n, δ)) K) (fun r => OY c2 Q r.1) := by
  refine hs_bxv (hc_need L (x1 := c)) (fun n d1 hn => ?_) (fun d1 hn => ?_)
  · rcases hn with ⟨z, _⟩ | ⟨z1, z2, z3⟩
    · cases z
    · exact Or.inl ⟨hc.mpr z3, inrc z1⟩
  rcases hn with ⟨_, e, v1⟩ | ⟨z, _⟩
  rotate_left
  · cases z
  dsimp only at e
  subst e
  have nc : ¬ c2 := fun z => v1 (hc.mp z)
  exact hs_mono (k nc) (fun r hr => Or.inr ⟨nc, hr⟩)
/-- to the row of a house -/
theorem hc_row (L : Lay TLx ad h) {x1 : Int32} {H : Nat} (hH : H < 4) (hx : x1.toInt = (H : Int)) {β : Type} {K : Nat → Option β} {Q : β → Prop} (k : hs (K (Ad ad (76 + 6 * H))) Q) : hs ((q_O h.1 11 6 (Ad ad 0)).bind fun b_7 => if x1 < 0 ∨ q_N h.1 b_7 ≤ x1.toNatClampNeg then none else (q_E h.1 b_7 x1.toNatClampNeg).bind fun b_9 => (q_O h.1 2 0 b_9).bind K) Q := by
  have tx : x1.toNatClampNeg = H := tnH hx
  refine hs_at (fO_0_6 L) (hs_gd (fun _ => ?_))
  rw [tx]
  exact hs_at (lk_e L hH) (hs_at (lk_0 L hH) k)
theorem hc_house (L : Lay TLx ad h) {x1 : Int32} {H : Nat} (hH : H < 4) (hx : x1.toInt = (H : Int)) {β : Type} {K : Nat → Option β} {Q : β → Prop} (k : hs (K (Ad ad (75 + 6 * H))) Q) : hs ((q_O h.1 11 6 (Ad ad 0)).bind fun b_7 => if x1 < 0 ∨ q_N h.1 b_7 ≤ x1.toNatClampNeg then none else (q_E h.1 b_7 x1.toNatClampNeg).bind K) Q := by
  have tx : x1.toNatClampNeg = H := tnH hx
  refine hs_at (fO_0_6 L) (hs_gd (fun _ => ?_))
  rw [tx]
  exact hs_at (lk_e L hH) k
theorem hL_has (L : Lay TLx ad h) {δ0 : dp} {N : Nat} (hN : 10000000 ≤ N) {x1 x2 : Int32} {o : Nat} {δ : dp} (I : CI ad h.1 δ0 δ) (S : ∀ K, K < 4 → SR (cM ad δ K) (cR ad δ K)) : hs (D_L_has N h.1 (Ad ad 0) x1 x2 o δ) (fun r => OL (nH x1) (nN (scA ad δ) x2) (fun v => aHo (cM ad δ (tH x1)) (cR ad δ (tH x1)) x2.toInt v) o r.1 r.2) := by
  unfold D_L_has
  refine OX_L (Q := fun v => aHo (cM ad δ (tH x1)) (cR ad δ (tH x1)) x2.toInt v) ?_ (fun v d hv => hs_gd (fun _ => hs_some ?_)) (fun d => hs_ite (fun _ => hs_some rfl) (fun z => absurd rfl z)) (fun _ d => hs_ite (fun z => absurd z (by decide)) (fun _ => hs_ite (fun z => absurd z (by decide)) (fun _ => hs_some rfl)))
  · unfold D_X11_has
    refine hc_H L (fun H hH hx => hc_N L I (fun v1 v2 => hc_row L hH hx (hs_bind (h3_holds L hN (x := x2) (kk_3 L hH) (lk_r L hH) I (S H hH)) (fun r hr => hs_gp (fun _ => hs_some ⟨r.1, rfl, ?_⟩)))))
    rw [tH_e hx]
    rcases hr.2 with ⟨e, m⟩ | ⟨e, m⟩
    · exact Or.inl ⟨by rw [e]; rfl, m⟩
    · exact Or.inr ⟨by rw [e]; rfl, m⟩
  · rcases hv with ⟨e, _⟩ | ⟨e, _⟩
    · have : v = 1 := i_eq e
      subst this; rfl
    · have : v = 0 := i_eq e
      subst this; rfl
theorem hL_next (L : Lay TLx ad h) {δ0 : dp} {N : Nat} (hN : 10000000 ≤ N) {x1 x2 : Int32} {o : Nat} {δ : dp} (I : CI ad h.1 δ0 δ) (S : ∀ K, K < 4 → SR (cM ad δ K) (cR ad δ K)) : hs (D_L_next N h.1 (Ad ad 0) x1 x2 o δ) (fun r => OL (nH x1) (¬ okA (scA ad δ) 3 x2.toInt) (fun v => aAb (cM ad δ (tH x1)) (cR ad δ (tH x1)) x2.toInt v) o r.1 r.2) := by
  have ab := scA_b L I
  unfold D_L_next
  refine OX_L (Q := fun v => aAb (cM ad δ (tH x1)) (cR ad δ (tH x1)) x2.toInt v) ?_ (fun v d hv => hs_gd (fun _ => hs_some rfl)) (fun d => hs_ite (fun _ => hs_some rfl) (fun z => absurd rfl z)) (fun _ d => hs_ite (fun z => absurd z (by decide)) (fun _ => hs_ite (fun z => absurd z (by decide)) (fun _ => hs_some rfl)))
  unfold D_X11_next
  refine hc_H L (fun H hH hx => hs_bind (hc_mayAsk L (x1 := 3) (x2 := x2) I) (fun r hr => ?_))
  obtain ⟨e, hr⟩ := hr
  rw [e]
  refine hc_C L (by rcases hr with ⟨a, b⟩ | ⟨a, b⟩ <;> rw [a]; exact ⟨fun z => absurd b z, fun z => absurd z (by decide)⟩; exact ⟨fun _ => rfl, fun _ => b⟩) (fun nc => hc_row L hH hx ?_)
  have ok3 : okA (scA ad δ) 3 x2.toInt := Classical.byContradiction nc
  have b3 : x2.toInt < 2147483647 := by rcases ok3 with z | z | z <;> omega
  refine hs_bind (h3_above L hN (x := x2) (kk_3 L hH) (lk_r L hH) I (S H hH) b3) (fun q hq => hs_some ⟨q.1, rfl, ?_⟩)
  rw [tH_e hx]
  exact hq.2
theorem hL_before (L : Lay TLx ad h) {δ0 : dp} {N : Nat} (hN : 10000000 ≤ N) {x1 x2 : Int32} {o : Nat} {δ : dp} (I : CI ad h.1 δ0 δ) (S : ∀ K, K < 4 → SR (cM ad δ K) (cR ad δ K)) : hs (D_L_before N h.1 (Ad ad 0) x1 x2 o δ) (fun r => OL (nH x1) (¬ okA (scA ad δ) 4 x2.toInt) (fun v => aBe (cM ad δ (tH x1)) (cR ad δ (tH x1)) x2.toInt v) o r.1 r.2) := by
  unfold D_L_before
  refine OX_L (Q := fun v => aBe (cM ad δ (tH x1)) (cR ad δ (tH x1)) x2.toInt v) ?_ (fun v d hv => hs_gd (fun _ => hs_some rfl)) (fun d => hs_ite (fun _ => hs_some rfl) (fun z => absurd rfl z)) (fun _ d => hs_ite (fun z => absurd z (by decide)) (fun _ => hs_ite (fun z => absurd z (by decide)) (fun _ => hs_some rfl)))
  unfold D_X11_before
  refine hc_H L (fun H hH hx => hs_bind (hc_mayAsk L (x1 := 4) (x2 := x2) I) (fun r hr => ?_))
  obtain ⟨e, hr⟩ := hr
  rw [e]
  refine hc_C L (by rcases hr with ⟨a, b⟩ | ⟨a, b⟩ <;> rw [a]; exact ⟨fun z => absurd b z, fun z => absurd z (by decide)⟩; exact ⟨fun _ => rfl, fun _ => b⟩) (fun nc => hc_row L hH hx ?_)
  refine hs_bind (h3_below L hN (x := x2) (kk_3 L hH) (lk_r L hH) I (S H hH)) (fun q hq => hs_some ⟨q.1, rfl, ?_⟩)
  rw [tH_e hx]
  exact hq.2
theorem hL_kth (L : Lay TLx ad h) {N : Nat} {x1 x2 : Int32} {o : Nat} {δ : dp} : hs (D_L_kth N h.1 (Ad ad 0) x1 x2 o δ) (fun r => OL (nH x1) False (fun v => AT (cM ad δ (tH x1)) (cR ad δ (tH x1)) x2.toInt v) o r.1 r.2) := by
  unfold D_L_kth
  refine OX_L (Q := fun v => AT (cM ad δ (tH x1)) (cR ad δ (tH x1)) x2.toInt v) ?_ (fun v d hv => hs_gd (fun _ => hs_some rfl)) (fun d => hs_ite (fun _ => hs_some rfl) (fun z => absurd rfl z)) (fun z => z.elim)
  unfold D_X11_kth
  refine hc_H L (fun H hH hx => hc_row L hH hx (hs_bind (h3_at (x := x2) (lk_r L hH)) (fun q hq => hs_some (Or.inr ⟨fun z => z, q.1, rfl, ?_⟩))))
  rw [tH_e hx]
  exact hq.2
/-- how many lie between -/
def aBt (M : Int) (R : Nat → Int) (x y v : Int) : Prop := (y < x ∧ v = 0) ∨ (x ≤ y ∧ ∃ p q : Nat, PL M R (y + 1) p ∧ PL M R x q ∧ v = (p : Int) - (q : Int))
theorem hL_between (L : Lay TLx ad h) {δ0 : dp} {N : Nat} (hN : 10000000 ≤ N) {x1 x2 x3 : Int32} {o : Nat} {δ : dp} (I : CI ad h.1 δ0 δ) (S : ∀ K, K < 4 → SR (cM ad δ K) (cR ad δ K)) : hs (D_L_between N h.1 (Ad ad 0) x1 x2 x3 o δ) (fun r => OL (nH x1) (nN (scA ad δ) x2 ∨ nN (scA ad δ) x3) (fun v => aBt (cM ad δ (tH x1)) (cR ad δ (tH x1)) x2.toInt x3.toInt v) o r.1 r.2) := by
  have ab := scA_b L I
  unfold D_L_between
  refine OX_L (Q := fun v => aBt (cM ad δ (tH x1)) (cR ad δ (tH x1)) x2.toInt x3.toInt v) ?_ (fun v d hv => hs_gd (fun _ => hs_some rfl)) (fun d => hs_ite (fun _ => hs_some rfl) (fun z => absurd rfl z)) (fun _ d => hs_ite (fun z => absurd z (by decide)) (fun _ => hs_ite (fun z => absurd z (by decide)) (fun _ => hs_some rfl)))
  unfold D_X11_between
  refine hc_H L (fun H hH hx => hs_bind (hc_isNumber L (x1 := x2) I) (fun r hr => ?_))
  obtain ⟨e, hr⟩ := hr
  rw [e]
  have no : (nN (scA ad δ) x2 ∨ nN (scA ad δ) x3) → hs (J_X11_between_26 N h.1 (Ad ad 0) x1 x2 x3 (Ad ad 0) δ) (fun r => OY (nN (scA ad δ) x2 ∨ nN (scA ad δ) x3) (fun v => aBt (cM ad δ (tH x1)) (cR ad δ (tH x1)) x2.toInt x3.toInt v) r.1) := fun z => by
    unfold J_X11_between_26 J_X11_between_27
    exact hc_C L ⟨fun _ => rfl, fun _ => z⟩ (fun nc => absurd z nc)
  rcases hr with ⟨a, v1, v2⟩ | ⟨a, v⟩
  rotate_left
  · rw [a]
    exact hs_ite (fun _ => no (Or.inl v)) (fun z => absurd rfl z)
  rw [a]
  refine hs_ite (fun z => absurd z (by decide)) (fun _ => hs_bind (hc_isNumber L (x1 := x3) I) (fun r hr => ?_))
  obtain ⟨e, hr⟩ := hr
  rw [e]
  rcases hr with ⟨a, u1, u2⟩ | ⟨a, v⟩
  rotate_left
  · rw [a]
    exact hs_ite (fun _ => no (Or.inr v)) (fun z => absurd rfl z)
  rw [a]
  refine hs_ite (fun z => absurd z (by decide)) (fun _ => ?_)
  unfold J_X11_between_27
  refine hc_C L ⟨fun z => by rcases z with z | z <;> rcases z with z | z <;> omega, fun z => absurd z (by decide)⟩ (fun nc => hc_row L hH hx ?_)
  unfold J_X11_between_65
  have t3 := te_addc (c := 1) (n := 1) rfl x3 (by omega) (by omega)
  have mb := cM_b L I hH
  rw [tH_e hx]
  refine hs_ite (fun c => ?_) (fun c => ?_)
  · have c1 := o_le c
    refine hs_bind (h3_first L hN (x := x3 + 1) (kk_3 L hH) (lk_r L hH) I (S H hH)) (fun q hq => ?_)
    obtain ⟨e1, p, hp, P⟩ := hq
    rw [e1]
    refine hs_bind (h3_first L hN (x := x2) (kk_3 L hH) (lk_r L hH) I (S H hH)) (fun q' hq => ?_)
    obtain ⟨e2, p', hp', P'⟩ := hq
    have b1 : (p : Int) ≤ cM ad δ H := P.1
    have b2 : (p' : Int) ≤ cM ad δ H := P'.1
    have t4 := te_sub q.1 q'.1 (by omega) (by omega)
    rw [t3.1] at P
    exact hs_some ⟨q.1 - q'.1, rfl, Or.inr ⟨c1, p, p', P, P', by omega⟩⟩
  · have c1 := o_nle c
    exact hs_some ⟨0, rfl, Or.inl ⟨by omega, rfl⟩⟩
theorem hL_of (L : Lay TLx ad h) {δ0 : dp} {N : Nat} (hN : 10000000 ≤ N) {x1 x2 : Int32} {o : Nat} {δ : dp} (I : CI ad h.1 δ0 δ) : hs (D_L_of N h.1 (Ad ad 0) x1 x2 o δ) (fun r => OL (nH x1) (x2.toInt < 0 ∨ 3 < x2.toInt) (fun v => (x2.toInt = 3 ∧ v = cN ad δ (tH x1)) ∨ (x2.toInt ≠ 3 ∧ aTe (cM ad δ (tH x1)) (cR ad δ (tH x1)) x2.toInt v)) o r.1 r.2) := by
  have z3 : (3 : Int32).toInt = 3 := rfl
  have z0 : (0 : Int32).toInt = 0 := rfl
  unfold D_L_of
  refine OX_L (Q := fun v => (x2.toInt = 3 ∧ v = cN ad δ (tH x1)) ∨ (x2.toInt ≠ 3 ∧ aTe (cM ad δ (tH x1)) (cR ad δ (tH x1)) x2.toInt v)) ?_ (fun v d hv => hs_gd (fun _ => hs_some rfl)) (fun d => hs_ite (fun _ => hs_some rfl) (fun z => absurd rfl z)) (fun _ d => hs_ite (fun z => absurd z (by decide)) (fun _ => hs_ite (fun z => absurd z (by decide)) (fun _ => hs_some rfl)))
  unfold D_X11_of
  refine hc_H L (fun H hH hx => ?_)
  have no : (x2.toInt < 0 ∨ 3 < x2.toInt) → hs (J_X11_of_19 N h.1 (Ad ad 0) x1 x2 (Ad ad 0) δ) (fun r => OY (x2.toInt < 0 ∨ 3 < x2.toInt) (fun v => (x2.toInt = 3 ∧ v = cN ad δ (tH x1)) ∨ (x2.toInt ≠ 3 ∧ aTe (cM ad δ (tH x1)) (cR ad δ (tH x1)) x2.toInt v)) r.1) := fun z => by
    unfold J_X11_of_19 J_X11_of_20
    exact hc_C L ⟨fun _ => rfl, fun _ => z⟩ (fun nc => absurd z nc)
  refine hs_ite (fun c => no (Or.inl (by have := o_lt c; omega))) (fun c => hs_ite (fun c' => no (Or.inr (by have := o_lt c'; omega))) (fun c' => ?_))
  have c1 := o_nlt c
  have c2 := o_nlt c'
  unfold J_X11_of_20
  refine hc_C L ⟨fun z => by omega, fun z => absurd z (by decide)⟩ (fun nc => ?_)
  unfold J_X11_of_53
  rw [tH_e hx]
  refine hs_ite (fun c3 => hc_house L hH hx (hs_some ⟨_, rfl, Or.inl ⟨by rw [c3]; rfl, rfl⟩⟩)) (fun c3 => hc_row L hH hx (hs_bind (h3_tell (x := x2) (kk_3 L hH) (lk_r L hH) I) (fun q hq => hs_some ⟨q.1, rfl, Or.inr ⟨fun z => c3 (i_eq z), hq.2⟩⟩)))
end
