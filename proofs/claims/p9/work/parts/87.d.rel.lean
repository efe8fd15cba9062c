/-! a house of the class and one of the reference: the same -/
/-- what a call does to a house of the class: its row, its CHANGES -/
def mka (call x M : Int) (R : Nat → Int) (n : Int) (C : Nat → Int) (M1 : Int) (R1 : Nat → Int) (n1 : Int) (C1 : Nat → Int) : Prop :=
  (call = 0 ∧ ME M R x ∧ RE M R M1 R1 ∧ n1 = n ∧ ∀ i : Nat, (i : Int) < n → C1 i = C i) ∨
  (call = 0 ∧ ¬ ME M R x ∧ (∃ p : Nat, PL M R x p ∧ IN M R x p M1 R1) ∧ n1 = n + 1 ∧ ∀ i : Nat, (i : Int) ≤ n → C1 i = if (i : Int) = n then 2 * x + call else C i) ∨
  (call = 1 ∧ ¬ ME M R x ∧ RE M R M1 R1 ∧ n1 = n ∧ ∀ i : Nat, (i : Int) < n → C1 i = C i) ∨
  (call = 1 ∧ ME M R x ∧ (∃ p : Nat, (p : Int) < M ∧ R p = x ∧ DE M R p M1 R1) ∧ n1 = n + 1 ∧ ∀ i : Nat, (i : Int) ≤ n → C1 i = if (i : Int) = n then 2 * x + call else C i)
/-- the same of the reference -/
def mra (call x M : Int) (R : Nat → Int) (n : Int) (T F : Nat → Int) (M1 : Int) (R1 : Nat → Int) (n1 : Int) (T1 F1 : Nat → Int) : Prop :=
  (call = 0 ∧ ME M R x ∧ RE M R M1 R1 ∧ n1 = n ∧ ∀ i : Nat, (i : Int) < n → T1 i = T i ∧ F1 i = F i) ∨
  (call = 0 ∧ ¬ ME M R x ∧ (∃ p : Nat, PL M R x p ∧ IN M R x p M1 R1) ∧ n1 = n + 1 ∧ ∀ i : Nat, (i : Int) ≤ n → (T1 i = if (i : Int) = n then x else T i) ∧ (F1 i = if (i : Int) = n then 1 - call else F i)) ∨
  (call = 1 ∧ ¬ ME M R x ∧ RE M R M1 R1 ∧ n1 = n ∧ ∀ i : Nat, (i : Int) < n → T1 i = T i ∧ F1 i = F i) ∨
  (call = 1 ∧ ME M R x ∧ (∃ p : Nat, (p : Int) < M ∧ R p = x ∧ DE M R p M1 R1) ∧ n1 = n + 1 ∧ ∀ i : Nat, (i : Int) ≤ n → (T1 i = if (i : Int) = n then x else T i) ∧ (F1 i = if (i : Int) = n then 1 - call else F i))
/-- alike: row, CHANGES, and the row is what its CHANGES make -/
def HEa (A M : Int) (R : Nat → Int) (n : Int) (C : Nat → Int) (M' : Int) (R' : Nat → Int) (n' : Int) (T F : Nat → Int) : Prop :=
  RE M' R' M R ∧ n = n' ∧ 0 ≤ n' ∧ SR M' R' ∧ 0 ≤ M' ∧ (∀ i : Nat, (i : Int) < n' → C i = 2 * T i + (1 - F i)) ∧ Vd A T F n'.toNat ∧ (∀ y, ME M' R' y ↔ St T F n'.toNat y) ∧ M' = Ct F n'.toNat
theorem HEa.c {A M M' n n' A1 M1 M1' n1 n1' : Int} {R R' C T F R1 R1' C1 T1 F1 : Nat → Int} (H : HEa A M R n C M' R' n' T F) (eA : A1 = A) (eM : RE M R M1 R1) (en : n1 = n) (eC : ∀ i : Nat, (i : Int) < n → C1 i = C i) (eM' : RE M' R' M1' R1') (en' : n1' = n') (eT : ∀ i : Nat, (i : Int) < n' → T1 i = T i ∧ F1 i = F i) : HEa A1 M1 R1 n1 C1 M1' R1' n1' T1 F1 := by
  obtain ⟨h1, h2, h3, h4, h5, h6, h7, h8, h9⟩ := H
  subst eA en en'
  have eT' : ∀ t, t < n1'.toNat → T1 t = T t ∧ F1 t = F t := fun t ht => eT t (by omega)
  refine ⟨(eM'.s.t h1).t eM, h2, h3, SR_c eM' h4, by rw [eM'.1]; exact h5, fun i hi => ?_, Vd_c eT' h7, fun y => ?_, ?_⟩
  · rw [eC i (by omega), (eT i hi).1, (eT i hi).2]; exact h6 i hi
  · rw [St_c _ eT' y, ← h8 y]; exact (ME_i eM').symm
  · rw [Ct_c _ (fun t ht => (eT' t ht).2), eM'.1]; exact h9
theorem HEa.m {A call x M M' n n' M1 M1' n1 n1' : Int} {R R' C T F R1 R1' C1 T1 F1 : Nat → Int} (H : HEa A M R n C M' R' n' T F) (x0 : 0 ≤ x) (xA : x < A) (c : mka call x M R n C M1 R1 n1 C1) (r : mra call x M' R' n' T F M1' R1' n1' T1 F1) : HEa A M1 R1 n1 C1 M1' R1' n1' T1 F1 := by
  obtain ⟨h1, h2, h3, h4, h5, h6, h7, h8, h9⟩ := id H
  have mi := ME_i (x := x) h1
  have old : ∀ i : Nat, i < n'.toNat → (i : Int) ≠ n' := fun i hi => by omega
  rcases c with ⟨k0, c1, c2, c3, c4⟩ | ⟨k0, c1, ⟨p, P, J⟩, c3, c4⟩ | ⟨k0, c1, c2, c3, c4⟩ | ⟨k0, c1, ⟨p, P, P2, J⟩, c3, c4⟩ <;> rcases r with ⟨l0, r1, r2, r3, r4⟩ | ⟨l0, r1, ⟨q, Q, Z⟩, r3, r4⟩ | ⟨l0, r1, r2, r3, r4⟩ | ⟨l0, r1, ⟨q, Q, Q2, Z⟩, r3, r4⟩ <;> first | (exfalso; omega) | skip
  · exact H.c rfl c2 c3 c4 r2 r3 r4
  · exact absurd (mi.mpr c1) r1
  · exact absurd (mi.mp r1) c1
  · obtain rfl : q = p := PL_u (PL_c h1 Q) P
    have en : n1'.toNat = n'.toNat + 1 := by omega
    have eo : ∀ t, t < n'.toNat → T1 t = T t ∧ F1 t = F t := fun t ht => by
      have := r4 t (by omega)
      rw [if_neg (old t ht), if_neg (old t ht)] at this
      exact this
    have last := r4 n'.toNat (by omega)
    rw [if_pos (by omega), if_pos (by omega)] at last
    have f1 : F1 n'.toNat = 1 := by omega
    have s0 : ∀ y, St T1 F1 n'.toNat y ↔ St T F n'.toNat y := St_c _ eo
    refine ⟨IN_e Q.1 h1 Z J, by omega, by omega, IN_s h4 Q r1 Z, by rw [Z.1]; omega, fun i hi => ?_, fun t ht => ?_, fun y => ?_, ?_⟩
    · rw [c4 i (by omega), (r4 i (by omega)).1, (r4 i (by omega)).2]
      by_cases z : (i : Int) = n'
      · rw [if_pos (by omega), if_pos z, if_pos z]; omega
      · rw [if_neg (by omega), if_neg z, if_neg z]; exact h6 i (by omega)
    · rw [en] at ht
      by_cases z : t = n'.toNat
      · subst z
        rw [s0, last.1, ← h8]
        exact ⟨x0, xA, Or.inl ⟨f1, r1⟩⟩
      · exact Vd_c eo h7 t (by omega)
    · rw [en, St_put f1, s0, last.1, ← h8]
      exact IN_m Q.1 Z y
    · rw [en, Ct_put f1, Ct_c _ (fun t ht => (eo t ht).2), Z.1, h9]
  · exact H.c rfl c2 c3 c4 r2 r3 r4
  · exact absurd (mi.mp r1) c1
  · exact absurd (mi.mpr c1) r1
  · obtain rfl : q = p := by
      have e1 := h1.2 q Q
      have e0 := h1.1
      rcases (show q < p ∨ q = p ∨ p < q by omega) with z | z | z
      · have := SR_c h1 h4 q p z P; omega
      · exact z
      · have := SR_c h1 h4 p q z (by omega); omega
    have en : n1'.toNat = n'.toNat + 1 := by omega
    have eo : ∀ t, t < n'.toNat → T1 t = T t ∧ F1 t = F t := fun t ht => by
      have := r4 t (by omega)
      rw [if_neg (old t ht), if_neg (old t ht)] at this
      exact this
    have last := r4 n'.toNat (by omega)
    rw [if_pos (by omega), if_pos (by omega)] at last
    have f1 : F1 n'.toNat = 0 := by omega
    have s0 : ∀ y, St T1 F1 n'.toNat y ↔ St T F n'.toNat y := St_c _ eo
    refine ⟨DE_e h1 Z J, by omega, by omega, DE_s h4 Z, by rw [Z.1]; omega, fun i hi => ?_, fun t ht => ?_, fun y => ?_, ?_⟩
    · rw [c4 i (by omega), (r4 i (by omega)).1, (r4 i (by omega)).2]
      by_cases z : (i : Int) = n'
      · rw [if_pos (by omega), if_pos z, if_pos z]; omega
      · rw [if_neg (by omega), if_neg z, if_neg z]; exact h6 i (by omega)
    · rw [en] at ht
      by_cases z : t = n'.toNat
      · subst z
        rw [s0, last.1, ← h8]
        exact ⟨x0, xA, Or.inr ⟨f1, r1⟩⟩
      · exact Vd_c eo h7 t (by omega)
    · rw [en, St_drop f1, s0, last.1, ← h8]
      exact DE_m h4 Q Q2 Z y
    · rw [en, Ct_drop f1, Ct_c _ (fun t ht => (eo t ht).2), Z.1, h9]
/-! the reference's house -/
def nT (ad : List Nat) (δ : dp) (K i : Nat) : Int := (q_R δ (Ad ad 104) (1000 * K + i)).toInt
def cF (ad : List Nat) (δ : dp) (K i : Nat) : Int := (q_R δ (Ad ad 105) (1000 * K + i)).toInt
/-- house K of both is the same -/
def HE (ad : List Nat) (A : Int) (δ : dp) (K : Nat) : Prop := HEa A (cM ad δ K) (cR ad δ K) (cN ad δ K) (cC ad δ K) (hM ad δ K) (hR ad δ K) (hN ad δ K) (nT ad δ K) (cF ad δ K)
theorem mk_a {ad : List Nat} {K : Nat} {call x t : Int} {δ δ1 : dp} (m : mk ad K call x t δ δ1) : mka call x (cM ad δ K) (cR ad δ K) (cN ad δ K) (cC ad δ K) (cM ad δ1 K) (cR ad δ1 K) (cN ad δ1 K) (cC ad δ1 K) := by
  rcases m with ⟨k0, m1, m2, n1, n2, _⟩ | ⟨k0, m1, m2, n1, n2, _⟩ | ⟨k0, m1, m2, n1, n2, _⟩ | ⟨k0, m1, m2, n1, n2, _⟩
  · exact Or.inl ⟨k0, m1, m2, n1, fun i _ => n2 i⟩
  · exact Or.inr (Or.inl ⟨k0, m1, m2, n1, fun i _ => n2 i⟩)
  · exact Or.inr (Or.inr (Or.inl ⟨k0, m1, m2, n1, fun i _ => n2 i⟩))
  · exact Or.inr (Or.inr (Or.inr ⟨k0, m1, m2, n1, fun i _ => n2 i⟩))
/-- what a change of house K leaves of the reference's houses -/
def mfr (ad : List Nat) (K : Nat) (δ δ1 : dp) : Prop := (∀ J, J ≠ K → hM ad δ1 J = hM ad δ J ∧ hN ad δ1 J = hN ad δ J ∧ (∀ i, i < 2000 → hR ad δ1 J i = hR ad δ J i) ∧ ∀ i, i < 1000 → nT ad δ1 J i = nT ad δ J i ∧ cF ad δ1 J i = cF ad δ J i)
theorem mfr.r {ad : List Nat} {K : Nat} {δ : dp} : mfr ad K δ δ := fun _ _ => ⟨rfl, rfl, fun _ _ => rfl, fun _ _ => ⟨rfl, rfl⟩⟩
theorem mfr.t {ad : List Nat} {K : Nat} {δ δ1 δ2 : dp} (h : mfr ad K δ δ1) (k : mfr ad K δ1 δ2) : mfr ad K δ δ2 := fun J n => by
  obtain ⟨h1, h2, h3, h4⟩ := h J n
  obtain ⟨k1, k2, k3, k4⟩ := k J n
  exact ⟨k1.trans h1, k2.trans h2, fun i hi => (k3 i hi).trans (h3 i hi), fun i hi => ⟨(k4 i hi).1.trans (h4 i hi).1, (k4 i hi).2.trans (h4 i hi).2⟩⟩
def mr (ad : List Nat) (K : Nat) (call x : Int) (δ δ1 : dp) : Prop := mra call x (hM ad δ K) (hR ad δ K) (hN ad δ K) (nT ad δ K) (cF ad δ K) (hM ad δ1 K) (hR ad δ1 K) (hN ad δ1 K) (nT ad δ1 K) (cF ad δ1 K)
theorem IN_h {ad : List Nat} {δ δ1 : dp} {H p M : Nat} {x : Int32} (hM1 : hM ad δ H = (M : Int)) (hp : p ≤ M) (D : hin ad δ δ1 H x p M) : IN (hM ad δ H) (hR ad δ H) x.toInt p (hM ad δ1 H) (hR ad δ1 H) := by
  obtain ⟨d1, d2⟩ := D
  refine ⟨?_, fun i hi => ?_⟩
  · rw [hM1]
    show (q_R δ1 (Ad ad 103) H).toInt = _
    rw [d2 H, if_pos rfl]
  · rw [hM1] at hi
    show (q_R δ1 (Ad ad 102) (2000 * H + i)).toInt = _
    rw [d1]
    by_cases c : i < p
    · rw [if_neg (by omega), if_neg (by omega), if_pos c]; rfl
    · rw [if_neg c]
      by_cases c2 : i = p
      · rw [if_pos (by omega), if_pos c2]
      · rw [if_neg (by omega), if_pos (by omega), if_neg c2, show 2000 * H + i - 1 = 2000 * H + (i - 1) by omega]; rfl
theorem DE_h {ad : List Nat} {δ δ1 : dp} {H p M : Nat} (hM1 : hM ad δ H = (M : Int)) (D : hde ad δ δ1 H p M) : DE (hM ad δ H) (hR ad δ H) p (hM ad δ1 H) (hR ad δ1 H) := by
  obtain ⟨d1, d2⟩ := D
  refine ⟨?_, fun i hi => ?_⟩
  · rw [hM1]
    show (q_R δ1 (Ad ad 103) H).toInt = _
    rw [d2 H, if_pos rfl]
  · rw [hM1] at hi
    show (q_R δ1 (Ad ad 102) (2000 * H + i)).toInt = _
    rw [d1]
    by_cases c : i < p
    · rw [if_neg (by omega), if_pos c]; rfl
    · rw [if_neg c, if_pos (by omega)]; rfl
theorem hr_notes {ad : List Nat} {h : hp} (L : Lay TLx ad h) {N a0 H T : Nat} {x1 x2 x3 : Int32} (ka : q_K h.1 a0 = 12) (hx : x1.toInt = (H : Int)) (hh : H < 4) {δ : dp} (hT : hN ad δ H = (T : Int)) (hn : T < 1000) : hs (D_X12_notesDown N h.1 a0 x1 x2 x3 δ) (fun r => (∀ i, q_R r (Ad ad 104) i = if i = 1000 * H + T then x2 else q_R δ (Ad ad 104) i) ∧ (∀ i, q_R r (Ad ad 105) i = if i = 1000 * H + T then x3 else q_R δ (Ad ad 105) i) ∧ (∀ j, (q_R r (Ad ad 106) j).toInt = if j = H then (T : Int) + 1 else (q_R δ (Ad ad 106) j).toInt) ∧ (∀ b, b ≠ Ad ad 104 → b ≠ Ad ad 105 → b ≠ Ad ad 106 → q_R r b = q_R δ b) ∧ q_I r = q_I δ) := by
  have n45 : Ad ad 105 ≠ Ad ad 104 := ad_ne L (by decide) (by decide) (by decide)
  have n46 : Ad ad 106 ≠ Ad ad 104 := ad_ne L (by decide) (by decide) (by decide)
  have n56 : Ad ad 106 ≠ Ad ad 105 := ad_ne L (by decide) (by decide) (by decide)
  obtain ⟨b15, o15, _⟩ := gO_12_15 L ka
  obtain rfl := gS_12_15 L ka o15
  obtain ⟨b16, o16, _⟩ := gO_12_16 L ka
  obtain rfl := gS_12_16 L ka o16
  obtain ⟨b17, o17, _⟩ := gO_12_17 L ka
  obtain rfl := gS_12_17 L ka o17
  have tn := tnH hx
  unfold hN at hT
  have ix := (ix1 hx hh hT hn).2
  unfold D_X12_notesDown
  refine hs_at o15 (hs_at o17 (hs_gd (fun _ => hs_gd (fun _ => ?_))))
  rw [tn, ix]
  refine hs_bdv (fun d1 e1 => hs_at o16 (hs_at o17 (hs_gd (fun _ => hs_gd (fun _ => ?_)))))
  have q1 : q_R d1 (Ad ad 106) = q_R δ (Ad ad 106) := by rw [e1]; exact rR_o n46
  rw [q1, ix]
  refine hs_bdv (fun d2 e2 => hs_at o17 (hs_gd (fun _ => hs_gd (fun _ => ?_))))
  have q2 : q_R d2 (Ad ad 106) = q_R δ (Ad ad 106) := by rw [e2, rR_o n56, q1]
  rw [q2]
  have t1 := te_addc (c := 1) (n := 1) rfl (q_R δ (Ad ad 106) H) (by omega) (by omega)
  refine hs_bdv (fun d3 e3 => hs_some ⟨fun i => ?_, fun i => ?_, fun j => ?_, fun b m1 m2 m3 => ?_, ?_⟩)
  · rw [e3, rR_o n46.symm, e2, rR_o n45.symm, e1, qR_sR]
    by_cases z : i = 1000 * H + T
    · rw [if_pos ⟨rfl, z⟩, if_pos z]
    · rw [if_neg (fun y => z y.2), if_neg z]
  · rw [e3, rR_o n56.symm, e2, qR_sR]
    by_cases z : i = 1000 * H + T
    · rw [if_pos ⟨rfl, z⟩, if_pos z]
    · rw [if_neg (fun y => z y.2), if_neg z, e1, rR_o n45]
  · rw [e3, qR_sR, q2]
    by_cases z : j = H
    · rw [if_pos ⟨rfl, z⟩, if_pos z]; omega
    · rw [if_neg (fun y => z y.2), if_neg z]
  · rw [e3, rR_o m3, e2, rR_o m2, e1, rR_o m1]
  · rw [e3, e2, e1]; rfl
