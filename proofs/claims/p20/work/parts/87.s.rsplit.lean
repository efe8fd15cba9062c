section
/-! joins of the reference, whole; split of the reference -/
theorem rJ3_q {ad : List Nat} {τ : TAU} {how : Int} {A B : Nat} {δ d1 d : dp} {b : Int32} (w : q_R d1 = q_R δ) (hh : rJ3 ad τ how A B d1 b d) : rJ3 ad τ how A B δ b d := by
  obtain ⟨eM, eR, eN, eT, eF⟩ := hr_same (ad := ad) (V := []) (δ := δ) (d := d1) (fun i _ _ _ => by rw [w]) (fun i _ z => by cases z)
  unfold rJ3 sRf at hh ⊢
  simp only [eM, eR, eN, eT, eF] at hh
  rcases hh with ⟨a, b, c, k⟩ | ⟨a, b, c, k⟩ | ⟨a, b, k, m, ts, c, e⟩
  · exact Or.inl ⟨a, b, c, fun i x y z => by rw [k i x y z, w]⟩
  · exact Or.inr (Or.inl ⟨a, b, c, fun i x y z => by rw [k i x y z, w]⟩)
  · exact Or.inr (Or.inr ⟨a, b, fun i x y z => by rw [k i x y z, w], mfr_eq eM eR eN eT eF m, ts, c, e⟩)
def hRJ (ad : List Nat) (τ : TAU) (x1 x2 x3 : Int32) (δ : dp) (b : Int32) (d : dp) : Prop :=
  ((x1.toInt < 0 ∨ 3 < x1.toInt ∨ x2.toInt < 0 ∨ 3 < x2.toInt) ∧ q_I d 12 0 (Ad ad 99) = 1 ∧ kr ad [100] δ d) ∨
  ∃ A B : Nat, A < 4 ∧ B < 4 ∧ x1.toInt = (A : Int) ∧ x2.toInt = (B : Int) ∧
    (((A = B ∨ x3.toInt < 0 ∨ 2 < x3.toInt) ∧ q_I d 12 0 (Ad ad 99) = 2 ∧ kr ad [100] δ d) ∨ (A ≠ B ∧ 0 ≤ x3.toInt ∧ x3.toInt ≤ 2 ∧ q_I d 12 0 (Ad ad 99) = 0 ∧ rJ3 ad τ x3.toInt A B δ b d))
theorem HTr_t {ad : List Nat} {N : Nat} {h : hp} {δ0 δ d1 : dp} {K : Nat} {τ : TAU} (H : HTr ad N h δ0 δ K τ) (r : r3s δ d1 (Ad ad 99)) : HTr ad N h δ0 d1 K τ := fun x1 c x d e t a b s q o => H x1 c x d e t a b s (r.t q) o
theorem hr_joins {ad : List Nat} {h : hp} (L : Lay TLx ad h) {δ0 : dp} {N : Nat} (hNN : 10000000 ≤ N) {τ : TAU} {x1 x2 x3 : Int32} {δ : dp} (HT : ∀ K, K < 4 → HTr ad N h δ0 δ K τ) (I : RI ad h.1 δ0 δ) (S : ∀ K, K < 4 → hsr ad δ K) : hs (D_X12_joins N h.1 (Ad ad 99) x1 x2 x3 δ) (fun r => hRJ ad τ x1 x2 x3 δ r.1 r.2) := by
  have ka : q_K h.1 (Ad ad 99) = 12 := (lay_knd L (by decide)).trans (by decide)
  have z0 : (0 : Int32).toInt = 0 := rfl
  have z2 : (2 : Int32).toInt = 2 := rfl
  unfold D_X12_joins
  refine hs_bdv (fun d1 e1 => ?_)
  have i1 : RI ad h.1 δ0 d1 := by rw [e1]; exact cs_12_0 L I
  have t0 : q_I d1 12 0 (Ad ad 99) = 0 := by rw [e1]; exact rI_s
  have w1 : q_R d1 = q_R δ := by rw [e1]; rfl
  have kr1 : ∀ {V d}, kr ad V d1 d → kr ad V δ d := fun k i a b c => by rw [k i a b c, w1]
  obtain ⟨eM, eR, eN, eT, eF⟩ := hr_same (ad := ad) (V := []) (δ := δ) (d := d1) (fun i _ _ _ => by rw [w1]) (fun i _ z => by cases z)
  have HT1 : ∀ K, K < 4 → HTr ad N h δ0 d1 K τ := fun K hK => HTr_t (HT K hK) ⟨by rw [e1, rI_o (by decide)], by rw [e1, rI_o (by decide)], by rw [e1, rI_o (by decide)]⟩
  have S1 : ∀ K, K < 4 → hsr ad d1 K := fun K hK => ⟨by rw [eM]; exact (S K hK).1, by rw [eM, eR]; exact (S K hK).2⟩
  refine hs_bind (hr_isHouse L hNN (x1 := x1) (x2 := 1) ka i1 t0 (by decide)) (fun r hr => ?_)
  rcases hr with ⟨q1, q2, A, hA, hx⟩ | ⟨q1, q2, q3, q4⟩
  rotate_left
  · rw [q1]
    refine hs_ite (fun _ => ?_) (fun z => absurd rfl z)
    unfold J_X12_joins_51
    exact hs_some (Or.inl ⟨by omega, q3, kr1 q4⟩)
  rw [q1, q2]
  refine hs_ite (fun z => absurd z (by decide)) (fun _ => ?_)
  refine hs_bind (hr_isHouse L hNN (x1 := x2) (x2 := 1) ka i1 t0 (by decide)) (fun r hr => ?_)
  rcases hr with ⟨q1, q2, B, hB, hy⟩ | ⟨q1, q2, q3, q4⟩
  rotate_left
  · rw [q1]
    refine hs_ite (fun _ => ?_) (fun z => absurd rfl z)
    unfold J_X12_joins_51
    exact hs_some (Or.inl ⟨by omega, q3, kr1 q4⟩)
  rw [q1, q2]
  refine hs_ite (fun z => absurd z (by decide)) (fun _ => ?_)
  have no : (A = B ∨ x3.toInt < 0 ∨ 2 < x3.toInt) → hs (J_X12_joins_42 N h.1 (Ad ad 99) x1 x2 x3 (Ad ad 99) d1) (fun r => hRJ ad τ x1 x2 x3 δ r.1 r.2) := fun hh => by
    unfold J_X12_joins_42 J_X12_joins_43
    refine hs_bind (hr_may L (x1 := 0) (x2 := 2) (x3 := 2) ka t0 (by decide)) (fun r4 h4 => ?_)
    rcases h4 with ⟨n4, _⟩ | ⟨_, g1, g2, g3⟩
    · exact absurd rfl n4
    · rw [g1]
      refine hs_ite (fun _ => ?_) (fun z => absurd rfl z)
      unfold J_X12_joins_51
      exact hs_some (Or.inr ⟨A, B, hA, hB, hx, hy, Or.inl ⟨hh, g2, kr1 g3⟩⟩)
  refine hs_ite (fun c => no (Or.inl ?_)) (fun c => ?_)
  · have := o_eq c; omega
  · have c1 := o_ne c
    refine hs_bind (hr_within L hNN (x0 := x3) (x1 := 0) (x2 := 2) i1) (fun r3 h3 => ?_)
    obtain ⟨e3, hq⟩ := h3
    rw [e3]
    rcases hq with ⟨v, v1, v2⟩ | ⟨v, v1⟩
    · rw [v]
      refine hs_ite (fun z => absurd z (by decide)) (fun _ => ?_)
      have run : ∀ x6, (x3.toInt = 1 ∧ x6 = x1 ∨ x3.toInt ≠ 1 ∧ x6 = x2) → hs (J_X12_joins_69 N h.1 (Ad ad 99) x1 x2 x3 x6 0 0 d1) (fun r => hRJ ad τ x1 x2 x3 δ r.1 r.2) := fun x6 h6 => by
        unfold J_X12_joins_69
        refine hs_mono (hr_74 L hNN hA hB (HT1 A hA) hx hy (by omega) (by omega) h6 (S1 A hA) (S1 B hB) N 0 0 0 0 0 d1 rfl rfl rfl (fun _ => (S1 A hA).1) (fun _ => (S1 B hB).1) i1 (fun _ _ _ _ => rfl) (fun _ _ _ _ => rfl) ?_) (fun r hr => ?_)
        · by_cases q : x3.toInt = 1
          · exact Or.inr ⟨q, rfl, Nat.le_refl _, rfl, fun i j a b => by omega, fun j hj => by omega⟩
          · exact Or.inl ⟨q, rfl, fun j hj => by omega⟩
        · exact Or.inr ⟨A, B, hA, hB, hx, hy, Or.inr ⟨fun z => by omega, by omega, by omega, (hr.1 12 0 _ (by decide)).trans t0, rJ3_q w1 hr.2⟩⟩
      unfold J_X12_joins_43
      refine hs_bind (hr_may L (x1 := 1) (x2 := 2) (x3 := 2) ka t0 (by decide)) (fun r4 h4 => ?_)
      rcases h4 with ⟨_, g1, g2⟩ | ⟨n4, _⟩
      · rw [g1, g2]
        refine hs_ite (fun z => absurd z (by decide)) (fun _ => ?_)
        refine hs_ite (fun c2 => run x1 (Or.inl ⟨by rw [c2]; rfl, rfl⟩)) (fun c2 => run x2 (Or.inr ⟨fun z => c2 (i_eq z), rfl⟩))
      · exact absurd n4 (by decide)
    · rw [v]
      exact hs_ite (fun _ => no (Or.inr (by omega))) (fun z => absurd rfl z)
/-! split -/
/-- one state is the other -/
def eqr (s s1 : RSt) : Prop := RE s.1 s.2.1 s1.1 s1.2.1 ∧ s1.2.2.1 = s.2.2.1 ∧ ∀ i : Nat, (i : Int) < s.2.2.1 → s1.2.2.2.1 i = s.2.2.2.1 i ∧ s1.2.2.2.2 i = s.2.2.2.2 i
theorem st_r {τ : TAU} {c x : Int} {t : Int32} {s s1 s2 : RSt} (h : stR τ c x t s s1) (e : eqr s1 s2) : stR τ c x t s s2 := by
  obtain ⟨M, R, n, T, F⟩ := s
  obtain ⟨M1, R1, n1, T1, F1⟩ := s1
  obtain ⟨M2, R2, n2, T2, F2⟩ := s2
  obtain ⟨h, ht⟩ := h
  obtain ⟨e1, e2, e3⟩ := e
  refine ⟨?_, ht⟩
  unfold mra at h ⊢
  dsimp only at h e1 e2 e3 ⊢
  rcases h with ⟨a, b, k, l, m⟩ | ⟨a, b, ⟨p, P, k1, k2⟩, l, m⟩ | ⟨a, b, k, l, m⟩ | ⟨a, b, ⟨p, P, P2, k1, k2⟩, l, m⟩
  · exact Or.inl ⟨a, b, k.t e1, by omega, fun i hi => by obtain ⟨u, v⟩ := e3 i (by omega); rw [u, v]; exact m i hi⟩
  · refine Or.inr (Or.inl ⟨a, b, ⟨p, P, by rw [e1.1]; exact k1, fun i hi => by rw [e1.2 i (by omega)]; exact k2 i hi⟩, by omega, fun i hi => by obtain ⟨u, v⟩ := e3 i (by omega); rw [u, v]; exact m i hi⟩)
  · exact Or.inr (Or.inr (Or.inl ⟨a, b, k.t e1, by omega, fun i hi => by obtain ⟨u, v⟩ := e3 i (by omega); rw [u, v]; exact m i hi⟩))
  · exact Or.inr (Or.inr (Or.inr ⟨a, b, ⟨p, P, P2, by rw [e1.1]; exact k1, fun i hi => by rw [e1.2 i (by omega)]; exact k2 i hi⟩, by omega, fun i hi => by obtain ⟨u, v⟩ := e3 i (by omega); rw [u, v]; exact m i hi⟩))
theorem st_l {τ : TAU} (hτ : ∀ (c x M M1 : Int) (R R1 : Nat → Int) (t : Int32), RE M R M1 R1 → τ c x M1 R1 t → τ c x M R t) {c x : Int} {t : Int32} {s s1 s2 : RSt} (h : stR τ c x t s s1) (e : eqr s2 s) : stR τ c x t s2 s1 := by
  obtain ⟨M, R, n, T, F⟩ := s
  obtain ⟨M1, R1, n1, T1, F1⟩ := s1
  obtain ⟨M2, R2, n2, T2, F2⟩ := s2
  obtain ⟨h, ht⟩ := h
  obtain ⟨e1, e2, e3⟩ := e
  refine ⟨?_, hτ _ _ _ _ _ _ _ e1 ht⟩
  unfold mra at h ⊢
  dsimp only at h e1 e2 e3 ⊢
  have me : ME M R x ↔ ME M2 R2 x := (ME_i e1).symm
  have eM := e1.1
  rcases h with ⟨a, b, k, l, m⟩ | ⟨a, b, ⟨p, P, k1, k2⟩, l, m⟩ | ⟨a, b, k, l, m⟩ | ⟨a, b, ⟨p, P, P2, k1, k2⟩, l, m⟩
  · exact Or.inl ⟨a, me.mp b, e1.t k, by omega, fun i hi => by obtain ⟨u, v⟩ := e3 i hi; rw [← u, ← v]; exact m i (by omega)⟩
  · have pm := P.1
    refine Or.inr (Or.inl ⟨a, fun z => b (me.mpr z), ⟨p, PL_c e1.s P, by omega, fun i hi => ?_⟩, by omega, fun i hi => ?_⟩)
    · rw [k2 i (by omega)]
      by_cases c1 : i < p
      · rw [if_pos c1, if_pos c1, e1.2 i (by omega)]
      · rw [if_neg c1, if_neg c1]
        by_cases c2 : i = p
        · rw [if_pos c2, if_pos c2]
        · rw [if_neg c2, if_neg c2, e1.2 (i - 1) (by omega)]
    · rw [(m i (by omega)).1, (m i (by omega)).2, e2]
      by_cases c1 : (i : Int) = n2
      · rw [if_pos c1, if_pos c1, if_pos c1, if_pos c1]; exact ⟨rfl, rfl⟩
      · rw [if_neg c1, if_neg c1, if_neg c1, if_neg c1]; exact e3 i (by omega)
  · exact Or.inr (Or.inr (Or.inl ⟨a, fun z => b (me.mpr z), e1.t k, by omega, fun i hi => by obtain ⟨u, v⟩ := e3 i hi; rw [← u, ← v]; exact m i (by omega)⟩))
  · refine Or.inr (Or.inr (Or.inr ⟨a, me.mp b, ⟨p, by omega, (e1.2 p (by omega)).symm.trans P2, by omega, fun i hi => ?_⟩, by omega, fun i hi => ?_⟩))
    · rw [k2 i (by omega)]
      by_cases c1 : i < p
      · rw [if_pos c1, if_pos c1, e1.2 i (by omega)]
      · rw [if_neg c1, if_neg c1, e1.2 (i + 1) (by omega)]
    · rw [(m i (by omega)).1, (m i (by omega)).2, e2]
      by_cases c1 : (i : Int) = n2
      · rw [if_pos c1, if_pos c1, if_pos c1, if_pos c1]; exact ⟨rfl, rfl⟩
      · rw [if_neg c1, if_neg c1, if_neg c1, if_neg c1]; exact e3 i (by omega)
theorem mfr_s {ad : List Nat} {h : hp} (L : Lay TLx ad h) {δ0 : dp} {K J : Nat} {δ d : dp} (I : RI ad h.1 δ0 δ) (m : mfr ad K δ d) (n : J ≠ K) : eqr (sRf ad δ J) (sRf ad d J) := by
  obtain ⟨m1, m2, m3, m4⟩ := m J n
  have b3 := rb_103 L I J
  have b6 := rb_106 L I J
  have v3 : (q_R δ (Ad ad 103) J).toInt = hM ad δ J := rfl
  have v6 : (q_R δ (Ad ad 106) J).toInt = hN ad δ J := rfl
  refine ⟨⟨m1, fun i hi => m3 i ?_⟩, m2, fun i hi => m4 i ?_⟩
  · have hi' : (i : Int) < hM ad δ J := hi
    omega
  · have hi' : (i : Int) < hN ad δ J := hi
    omega
/-- what changes of two houses leave -/
def mfr2 (ad : List Nat) (A B : Nat) (δ δ1 : dp) : Prop := ∀ J, J ≠ A → J ≠ B → hM ad δ1 J = hM ad δ J ∧ hN ad δ1 J = hN ad δ J ∧ (∀ i, i < 2000 → hR ad δ1 J i = hR ad δ J i) ∧ ∀ i, i < 1000 → nT ad δ1 J i = nT ad δ J i ∧ cF ad δ1 J i = cF ad δ J i
theorem mfr2.t {ad : List Nat} {A B : Nat} {δ δ1 δ2 : dp} (h : mfr2 ad A B δ δ1) (k : mfr2 ad A B δ1 δ2) : mfr2 ad A B δ δ2 := fun J n m => by
  obtain ⟨h1, h2, h3, h4⟩ := h J n m
  obtain ⟨k1, k2, k3, k4⟩ := k J n m
  exact ⟨k1.trans h1, k2.trans h2, fun i hi => (k3 i hi).trans (h3 i hi), fun i hi => ⟨(k4 i hi).1.trans (h4 i hi).1, (k4 i hi).2.trans (h4 i hi).2⟩⟩
theorem mfr2_eq {ad : List Nat} {δ δ1 d : dp} {A B : Nat} (eM : ∀ J, hM ad δ1 J = hM ad δ J) (eR : ∀ J, hR ad δ1 J = hR ad δ J) (eN : ∀ J, hN ad δ1 J = hN ad δ J) (eT : ∀ J, nT ad δ1 J = nT ad δ J) (eF : ∀ J, cF ad δ1 J = cF ad δ J) (m : mfr2 ad A B δ1 d) : mfr2 ad A B δ d := fun J n k => by
  have := m J n k
  rw [eM, eR, eN, eT, eF] at this; exact this
theorem hr_181 {ad : List Nat} {h : hp} (L : Lay TLx ad h) {δ0 δb : dp} {N : Nat} (hNN : 10000000 ≤ N) {A B n0 : Nat} (hA : A < 4) (hB : B < 4) (ne : A ≠ B) {τ : TAU} (hτ : ∀ (c x M M1 : Int) (R R1 : Nat → Int) (t : Int32), RE M R M1 R1 → τ c x M1 R1 t → τ c x M R t) (HA : HTr ad N h δ0 δb A τ) (HB : HTr ad N h δ0 δb B τ) {x1 x2 x3 x4 : Int32} (hx : x1.toInt = (A : Int)) (hy : x2.toInt = (B : Int)) (h4 : x4.toInt = (n0 : Int)) (hn : n0 ≤ 2000) {Y : Nat → Int} (sY : ∀ i j : Nat, i < j → j < n0 → Y i ≠ Y j) : ∀ (f i : Nat) (x6 x7 : Int32) (δ : dp), x7.toInt = (i : Int) → i ≤ n0 → RI ad h.1 δ0 δ → r3s δb δ (Ad ad 99) → hsr ad δ A → hsr ad δ B → (∀ j, j < n0 → tl ad δ j = Y j) → hN ad δ A + ((n0 - i : Nat) : Int) ≤ 1000 → hM ad δ B + (cn (fun j => chg 0 (hM ad δ B) (hR ad δ B) (Y j)) i (n0 - i) : Nat) ≤ 2000 → hN ad δ B + (cn (fun j => chg 0 (hM ad δ B) (hR ad δ B) (Y j)) i (n0 - i) : Nat) ≤ 1000 → hs (L_X12_split_181 N h.1 (Ad ad 99) x1 x2 x3 f x4 x6 x7 δ) (fun r => fJ ad δ r.2 ∧ mfr2 ad A B δ r.2 ∧ ∃ ts us, chn (stR τ) (lst 1 Y (n0 - i) i) (sRf ad δ A) (sRf ad r.2 A) ts ∧ chn (stR τ) (lst 0 Y (n0 - i) i) (sRf ad δ B) (sRf ad r.2 B) us ∧ r.1 = smt2 x6 ts us) := by
  have ka : q_K h.1 (Ad ad 99) = 12 := (lay_knd L (by decide)).trans (by decide)
  obtain ⟨b48, o48, _⟩ := gO_12_48 L ka
  obtain rfl := gS_12_48 L ka o48
  have z0 : (0 : Int32).toInt = 0 := rfl
  have z1 : (1 : Int32).toInt = 1 := rfl
  intro f
  induction f with
  | zero => intro i x6 x7 δ _ _ _ _ _ _ _ _ _ _; exact hs_none
  | succ f ih =>
    intro i x6 x7 δ h7 hi I B3 SA SB hT BA B1 B2
    unfold L_X12_split_181
    refine hs_ite (fun c => ?_) (fun c => ?_)
    · have c1 := o_le c
      rw [show n0 - i = 0 by omega]
      exact hs_some ⟨fJ.r, fun _ _ _ => ⟨rfl, rfl, fun _ _ => rfl, fun _ _ => ⟨rfl, rfl⟩⟩, [], [], ⟨rfl, rfl⟩, ⟨rfl, rfl⟩, rfl⟩
    · have c1 := o_nle c
      have t7 := ti_tn x7
      have yi : (q_R δ (Ad ad 125) i).toInt = Y i := hT i (by omega)
      rw [show n0 - i = (n0 - (i + 1)) + 1 by omega] at B1 B2 ⊢
      refine hs_at o48 (hs_gd (fun _ => ?_))
      rw [show x7.toNatClampNeg = i by omega]
      refine hs_bind (hr_calls L hNN (x := q_R δ (Ad ad 125) i) hx hA (Or.inr rfl) HA I SA B3 (fun z => absurd z (by decide)) (fun _ => by omega)) (fun r hr => ?_)
      obtain ⟨I1, u1, w1, S1, m1, g1, t1⟩ := hr
      rw [yi, z1] at g1 t1
      refine hs_biv (fun x6a e6a => ?_)
      refine hs_at o48 (hs_gd (fun _ => ?_))
      have w125 : q_R r.2 (Ad ad 125) = q_R δ (Ad ad 125) := w1 125 (by decide) (by decide) (by decide)
      have yi' : (q_R r.2 (Ad ad 125) i).toInt = Y i := by rw [w125]; exact yi
      obtain ⟨q1, q2, q3, q4⟩ := m1 B (fun z => ne z.symm)
      have eB := mfr_s L I m1 (J := B) (fun z => ne z.symm)
      have eB1 : RE (hM ad δ B) (hR ad δ B) (hM ad r.2 B) (hR ad r.2 B) := eB.1
      have SB1 : hsr ad r.2 B := ⟨by rw [q1]; exact SB.1, SR_c eB1 SB.2⟩
      have cc : ∀ k, cn (fun j => chg 0 (hM ad r.2 B) (hR ad r.2 B) (Y j)) i k = cn (fun j => chg 0 (hM ad δ B) (hR ad δ B) (Y j)) i k := fun k => cn_congr k i (fun j _ _ => by unfold chg; rw [ME_i (x := Y j) eB1])
      have B1' : (0 : Int) = 0 → hM ad r.2 B + (cn (fun j => chg 0 (hM ad r.2 B) (hR ad r.2 B) (Y j)) i ((n0 - (i + 1)) + 1) : Nat) ≤ 2000 := fun _ => by rw [cc, q1]; exact B1
      have B2' : hN ad r.2 B + (cn (fun j => chg 0 (hM ad r.2 B) (hR ad r.2 B) (Y j)) i ((n0 - (i + 1)) + 1) : Nat) ≤ 1000 := by rw [cc, q2]; exact B2
      obtain ⟨R1, R2⟩ := rroom_0 B1' B2'
      have B31 := B3.t (r3s_k u1 (by decide))
      refine hs_bind (hr_calls L hNN (x := q_R r.2 (Ad ad 125) i) hy hB (Or.inl rfl) HB I1 SB1 B31 (fun _ y => R1 rfl (by rw [← yi']; exact y)) (fun y => R2 (by rw [← yi']; exact y))) (fun r' hr' => ?_)
      obtain ⟨I2, u2, w2, S2, m2, g2, t2⟩ := hr'
      rw [yi', z0] at g2 t2
      refine hs_biv (fun x6b e6b => hs_biv (fun x7' e7 => ?_))
      have y7 := te_addc (c := 1) (n := 1) rfl x7 (by omega) (by omega)
      rw [← e7] at y7
      obtain ⟨N1, N2⟩ := rroom_s g2 SB1.2 (fun j a b => fun z => sY i j a (by omega) z.symm) B1' B2'
      have w125' : q_R r'.2 (Ad ad 125) = q_R r.2 (Ad ad 125) := w2 125 (by decide) (by decide) (by decide)
      obtain ⟨p1, p2, p3, p4⟩ := m2 A ne
      have eA := mfr_s L I1 m2 (J := A) ne
      have eA1 : RE (hM ad r.2 A) (hR ad r.2 A) (hM ad r'.2 A) (hR ad r'.2 A) := eA.1
      have SA2 : hsr ad r'.2 A := ⟨by rw [p1]; exact S1.1, SR_c eA1 S1.2⟩
      have nA : hN ad r'.2 A + ((n0 - (i + 1) : Nat) : Int) ≤ 1000 := by
        rcases (mr_n g1 SA.2).1 with ⟨_, e⟩ | ⟨_, e⟩ <;> omega
      refine hs_mono (ih (i + 1) x6b x7' r'.2 (by omega) (by omega) I2 (B31.t (r3s_k u2 (by decide))) SA2 S2 (fun j hj => by unfold tl; rw [w125', w125]; exact hT j hj) nA (N1 rfl) N2) (fun q hq => ?_)
      obtain ⟨k1, k2, ts, us, k3, k4, k5⟩ := hq
      refine ⟨fJ.t ⟨u1, w1⟩ (fJ.t ⟨u2, w2⟩ k1), mfr2.t (fun J a _ => m1 J a) (mfr2.t (fun J _ b => m2 J b) k2), r.1 :: ts, r'.1 :: us, ⟨_, _, _, st_r (s1 := sRf ad r.2 A) ⟨g1, t1⟩ eA, k3, rfl⟩, ⟨sRf ad r'.2 B, r'.1, us, st_l hτ (s := sRf ad r.2 B) (s1 := sRf ad r'.2 B) ⟨g2, t2⟩ eB, k4, rfl⟩, ?_⟩
      rw [k5, e6b, e6a, Int32.add_assoc]; rfl
/-- what split of the reference answers and leaves -/
def rS3 (ad : List Nat) (τ : TAU) (p A B : Nat) (δ : dp) (w : Int32) (d : dp) : Prop :=
  let n := (hM ad δ A).toNat - p
  let fr := cn (fun j => ¬ ME (hM ad δ B) (hR ad δ B) (hR ad δ A (p + j))) 0 n
  (2000 < hM ad δ B + (fr : Int) ∧ w = -1 ∧ kr ad [125] δ d) ∨
  (hM ad δ B + (fr : Int) ≤ 2000 ∧ (1000 < hN ad δ A + (n : Int) ∨ 1000 < hN ad δ B + (fr : Int)) ∧ w = -2 ∧ kr ad [125] δ d) ∨
  (hM ad δ B + (fr : Int) ≤ 2000 ∧ hN ad δ A + (n : Int) ≤ 1000 ∧ hN ad δ B + (fr : Int) ≤ 1000 ∧ kr ad [102, 103, 104, 105, 106, 119, 125] δ d ∧ mfr2 ad A B δ d ∧ ∃ ts us, chn (stR τ) (lst 1 (fun j => hR ad δ A (p + j)) n 0) (sRf ad δ A) (sRf ad d A) ts ∧ chn (stR τ) (lst 0 (fun j => hR ad δ A (p + j)) n 0) (sRf ad δ B) (sRf ad d B) us ∧ w = smt2 0 ts us)
theorem hr_66 {ad : List Nat} {h : hp} (L : Lay TLx ad h) {δ0 δb : dp} {N : Nat} (hNN : 10000000 ≤ N) {A B p : Nat} (hA : A < 4) (hB : B < 4) (ne : A ≠ B) {τ : TAU} (hτ : ∀ (c x M M1 : Int) (R R1 : Nat → Int) (t : Int32), RE M R M1 R1 → τ c x M1 R1 t → τ c x M R t) (HA : HTr ad N h δ0 δb A τ) (HB : HTr ad N h δ0 δb B τ) {x1 x2 x3 : Int32} (hx : x1.toInt = (A : Int)) (hy : x2.toInt = (B : Int)) (SA : hsr ad δb A) (SB : hsr ad δb B) : ∀ (f k : Nat) (x4 x5 x6 : Int32) (d : dp), x4.toInt = (k : Int) → x6.toInt = (p : Int) + (k : Int) → x5.toInt = (cn (fun j => ¬ ME (hM ad δb B) (hR ad δb B) (hR ad δb A (p + j))) 0 k : Int) → (p : Int) + (k : Int) ≤ hM ad δb A → RI ad h.1 δ0 d → kp [] δb d → kr ad [125] δb d → (∀ j, j < k → tl ad d j = hR ad δb A (p + j)) → hs (L_X12_split_66 N h.1 (Ad ad 99) x1 x2 x3 f x4 x5 x6 d) (fun r => kp [(12, 36)] δb r.2 ∧ rS3 ad τ p A B δb r.1 r.2) := by
  have ka : q_K h.1 (Ad ad 99) = 12 := (lay_knd L (by decide)).trans (by decide)
  obtain ⟨b48, o48, _⟩ := gO_12_48 L ka
  obtain rfl := gS_12_48 L ka o48
  obtain ⟨b14, o14, _⟩ := gO_12_14 L ka
  obtain rfl := gS_12_14 L ka o14
  obtain ⟨b17, o17, _⟩ := gO_12_17 L ka
  obtain rfl := gS_12_17 L ka o17
  have z0 : (0 : Int32).toInt = 0 := rfl
  have z1 : (1 : Int32).toInt = 1 := rfl
  have z1000 : (1000 : Int32).toInt = 1000 := rfl
  have z2000 : (2000 : Int32).toInt = 2000 := rfl
  have tx1 := tnH hx
  have tx2 := tnH hy
  intro f
  induction f with
  | zero => intro k x4 x5 x6 d _ _ _ _ _ _ _ _; exact hs_none
  | succ f ih =>
    intro k x4 x5 x6 d h4 h6 h5 hk I u w T
    obtain ⟨eM, eR, eN, eT, eF⟩ := hr_same w (by decide)
    have SAd : hsr ad d A := ⟨by rw [eM]; exact SA.1, by rw [eM, eR]; exact SA.2⟩
    have SBd : hsr ad d B := ⟨by rw [eM]; exact SB.1, by rw [eM, eR]; exact SB.2⟩
    have bA := rb_103 L I A
    have bB := rb_103 L I B
    have bNA := rb_106 L I A
    have bNB := rb_106 L I B
    have vA : (q_R d (Ad ad 103) A).toInt = hM ad δb A := eM A
    have vB : (q_R d (Ad ad 103) B).toInt = hM ad δb B := eM B
    have vNA : (q_R d (Ad ad 106) A).toInt = hN ad δb A := eN A
    have vNB : (q_R d (Ad ad 106) B).toInt = hN ad δb B := eN B
    have a0 := SA.1
    have b0 := SB.1
    have cl := cn_le (P := fun j => ¬ ME (hM ad δb B) (hR ad δb B) (hR ad δb A (p + j))) k 0
    unfold L_X12_split_66
    refine hs_at o14 (hs_gd (fun _ => ?_))
    rw [tx1]
    refine hs_ite (fun c => ?_) (fun c => ?_)
    · -- the end
      have c1 := o_le c
      have en : (hM ad δb A).toNat - p = k := by omega
      have t2 := te_add (q_R d (Ad ad 103) B) x5 (by omega) (by omega)
      have t3 := te_add (q_R d (Ad ad 106) A) x4 (by omega) (by omega)
      have t4 := te_add (q_R d (Ad ad 106) B) x5 (by omega) (by omega)
      refine hs_at o14 (hs_gd (fun _ => ?_))
      rw [tx2]
      refine hs_ite (fun c2 => ?_) (fun c2 => ?_)
      · have c3 := o_le c2
        refine hs_at o17 (hs_gd (fun _ => ?_))
        refine hs_ite (fun c4 => ?_) (fun c4 => ?_)
        · have c5 := o_lt c4
          unfold J_X12_split_172
          refine hs_some ⟨kp_w (by decide) u, ?_⟩
          unfold rS3
          rw [en]
          exact Or.inr (Or.inl ⟨by omega, Or.inl (by omega), rfl, w⟩)
        · have c5 := o_nlt c4
          refine hs_at o17 (hs_gd (fun _ => ?_))
          refine hs_ite (fun c6 => ?_) (fun c6 => ?_)
          · have c7 := o_le c6
            have ec : ∀ k, cn (fun j => chg 0 (hM ad d B) (hR ad d B) (hR ad δb A (p + j))) 0 k = cn (fun j => ¬ ME (hM ad δb B) (hR ad δb B) (hR ad δb A (p + j))) 0 k := fun k => cn_congr k 0 (fun j _ _ => by
              rw [eM, eR]; unfold chg
              exact ⟨fun z => z.mp rfl, fun z => ⟨fun _ => z, fun _ => rfl⟩⟩)
            refine hs_mono (hr_181 L hNN (n0 := k) (Y := fun j => hR ad δb A (p + j)) hA hB ne hτ HA HB hx hy h4 (by omega) (fun i j a b z => by have := SA.2 (p + i) (p + j) (by omega) (by omega); have z' : hR ad δb A (p + i) = hR ad δb A (p + j) := z; omega) N 0 0 0 d rfl (Nat.zero_le _) I (r3s_k u (by decide)) SAd SBd T (by rw [eN, Nat.sub_zero]; omega) (by rw [ec, eM, Nat.sub_zero]; omega) (by rw [ec, eN, Nat.sub_zero]; omega)) (fun r hr => ?_)
            obtain ⟨k1, k2, ts, us, k3, k4, k5⟩ := hr
            refine ⟨kp_w (by decide) (kp_t u k1.1), ?_⟩
            unfold rS3
            rw [en]
            have es : ∀ J, sRf ad d J = sRf ad δb J := fun J => by unfold sRf; rw [eM, eR, eN, eT, eF]
            rw [es, Nat.sub_zero] at k3 k4
            exact Or.inr (Or.inr ⟨by omega, by omega, by omega, kr_w (by decide) (kr_t w k1.2), mfr2_eq eM eR eN eT eF k2, ts, us, k3, k4, k5⟩)
          · have c7 := o_nle c6
            unfold J_X12_split_172
            refine hs_some ⟨kp_w (by decide) u, ?_⟩
            unfold rS3
            rw [en]
            exact Or.inr (Or.inl ⟨by omega, Or.inr (by omega), rfl, w⟩)
      · have c3 := o_nle c2
        refine hs_some ⟨kp_w (by decide) u, ?_⟩
        unfold rS3
        rw [en]
        exact Or.inl ⟨by omega, rfl, w⟩
    · -- one more
      have c1 := o_nle c
      have t4 := ti_tn x4
      have s4 := te_addc (c := 1) (n := 1) rfl x4 (by omega) (by omega)
      have s6 := te_addc (c := 1) (n := 1) rfl x6 (by omega) (by omega)
      refine hs_at o48 ?_
      refine hs_bind (hr_numberAt L hNN (x2 := x6) ka hx hA I) (fun r hr => ?_)
      obtain ⟨e, at1⟩ := hr
      rw [e]
      rw [eM, eR] at at1
      have vk : r.1.toInt = hR ad δb A (p + k) := by
        rcases at1 with ⟨i, a1, a2, a3⟩ | ⟨a1, _⟩
        · obtain rfl : i = p + k := by omega
          exact a3
        · exfalso; omega
      refine hs_gd (fun _ => ?_)
      rw [show x4.toNatClampNeg = k by omega]
      refine hs_bdv (fun d2 e2 => ?_)
      refine hs_at o48 (hs_gd (fun _ => ?_))
      have I2 : RI ad h.1 δ0 d2 := by rw [e2]; exact I.sR L ⟨125, by decide, by decide, by decide, rfl⟩
      have w2 : kr ad [125] δb d2 := fun i a b c => by rw [e2, rR_o (ad_ne L (by omega) (by decide) (fun z => c (by rw [z]; exact List.mem_cons_self)))]; exact w i a b c
      have u2 : kp [] δb d2 := fun c k a _ => by rw [e2]; exact u c k a (by simp)
      have T2 : ∀ j, j < k + 1 → tl ad d2 j = hR ad δb A (p + j) := fun j hj => by
        unfold tl
        rw [sR_at e2 j]
        by_cases z : j = k
        · rw [if_pos z, z, vk]
        · rw [if_neg z]; exact T j (by omega)
      obtain ⟨fM, fR, _, _, _⟩ := hr_same w2 (by decide)
      have SB2 : hsr ad d2 B := ⟨by rw [fM]; exact SB.1, by rw [fM, fR]; exact SB.2⟩
      have vx : (q_R d2 (Ad ad 125) k).toInt = hR ad δb A (p + k) := T2 k (by omega)
      refine hs_bind (hr_isThere L hNN (x := q_R d2 (Ad ad 125) k) ka hy hB I2 SB2) (fun r2 h2 => ?_)
      obtain ⟨e3, hm⟩ := h2
      rw [e3]
      rw [fM, fR, vx] at hm
      have cl1 := cn_last (P := fun j => ¬ ME (hM ad δb B) (hR ad δb B) (hR ad δb A (p + j))) k 0
      rw [Nat.zero_add] at cl1
      have go : ∀ (q : Int32) (dd : Nat), q.toInt = (dd : Int) → cn (fun j => ¬ ME (hM ad δb B) (hR ad δb B) (hR ad δb A (p + j))) 0 (k + 1) = cn (fun j => ¬ ME (hM ad δb B) (hR ad δb B) (hR ad δb A (p + j))) 0 k + dd → dd ≤ 1 → hs (J_X12_split_113 N h.1 (Ad ad 99) x1 x2 x3 (L_X12_split_66 N h.1 (Ad ad 99) x1 x2 x3 f) q x5 x4 x6 d2) (fun r => kp [(12, 36)] δb r.2 ∧ rS3 ad τ p A B δb r.1 r.2) := by
        intro q dd hq hc hd
        have t5 := te_add x5 q (by omega) (by omega)
        unfold J_X12_split_113
        refine hs_biv (fun x5' e5 => hs_biv (fun x4' e4 => hs_biv (fun x6' e6 => ?_)))
        rw [← e5] at t5
        rw [← e4] at s4
        rw [← e6] at s6
        exact ih (k + 1) x4' x5' x6' d2 (by omega) (by omega) (by omega) (by omega) I2 u2 w2 T2
      rcases hm with ⟨g, me⟩ | ⟨g, me⟩
      · rw [g]
        refine hs_ite (fun z => absurd z (by decide)) (fun _ => ?_)
        rw [if_neg (fun z => z me)] at cl1
        exact go 0 0 rfl (by omega) (by omega)
      · rw [g]
        refine hs_ite (fun _ => ?_) (fun z => absurd rfl z)
        rw [if_pos me] at cl1
        exact go 1 1 rfl (by omega) (by omega)
theorem rS3_q {ad : List Nat} {τ : TAU} {p A B : Nat} {δ d1 d : dp} {b : Int32} (w : q_R d1 = q_R δ) (hh : rS3 ad τ p A B d1 b d) : rS3 ad τ p A B δ b d := by
  obtain ⟨eM, eR, eN, eT, eF⟩ := hr_same (ad := ad) (V := []) (δ := δ) (d := d1) (fun i _ _ _ => by rw [w]) (fun i _ z => by cases z)
  unfold rS3 sRf at hh ⊢
  simp only [eM, eR, eN, eT, eF] at hh
  rcases hh with ⟨a, b, k⟩ | ⟨a, b, c, k⟩ | ⟨a, b, c, k, m, ts, us, e⟩
  · exact Or.inl ⟨a, b, fun i x y z => by rw [k i x y z, w]⟩
  · exact Or.inr (Or.inl ⟨a, b, c, fun i x y z => by rw [k i x y z, w]⟩)
  · exact Or.inr (Or.inr ⟨a, b, c, fun i x y z => by rw [k i x y z, w], mfr2_eq eM eR eN eT eF m, ts, us, e⟩)
def hRS (ad : List Nat) (τ : TAU) (x1 x2 x3 : Int32) (δ : dp) (b : Int32) (d : dp) : Prop :=
  ((x1.toInt < 0 ∨ 3 < x1.toInt ∨ x2.toInt < 0 ∨ 3 < x2.toInt) ∧ q_I d 12 0 (Ad ad 99) = 1 ∧ kr ad [100] δ d) ∨
  ∃ A B : Nat, A < 4 ∧ B < 4 ∧ x1.toInt = (A : Int) ∧ x2.toInt = (B : Int) ∧
    (((A = B ∨ x3.toInt < 0 ∨ shA (Ad ad 99) δ ≤ x3.toInt) ∧ q_I d 12 0 (Ad ad 99) = 2 ∧ kr ad [100] δ d) ∨ (A ≠ B ∧ 0 ≤ x3.toInt ∧ x3.toInt < shA (Ad ad 99) δ ∧ q_I d 12 0 (Ad ad 99) = 0 ∧ ∃ p : Nat, PL (hM ad δ A) (hR ad δ A) x3.toInt p ∧ rS3 ad τ p A B δ b d))
theorem hr_split {ad : List Nat} {h : hp} (L : Lay TLx ad h) {δ0 : dp} {N : Nat} (hNN : 10000000 ≤ N) {τ : TAU} (hτ : ∀ (c x M M1 : Int) (R R1 : Nat → Int) (t : Int32), RE M R M1 R1 → τ c x M1 R1 t → τ c x M R t) {x1 x2 x3 : Int32} {δ : dp} (HT : ∀ K, K < 4 → HTr ad N h δ0 δ K τ) (I : RI ad h.1 δ0 δ) (S : ∀ K, K < 4 → hsr ad δ K) : hs (D_X12_split N h.1 (Ad ad 99) x1 x2 x3 δ) (fun r => hRS ad τ x1 x2 x3 δ r.1 r.2) := by
  have ka : q_K h.1 (Ad ad 99) = 12 := (lay_knd L (by decide)).trans (by decide)
  have z0 : (0 : Int32).toInt = 0 := rfl
  unfold D_X12_split
  refine hs_bdv (fun d1 e1 => ?_)
  have i1 : RI ad h.1 δ0 d1 := by rw [e1]; exact cs_12_0 L I
  have t0 : q_I d1 12 0 (Ad ad 99) = 0 := by rw [e1]; exact rI_s
  have w1 : q_R d1 = q_R δ := by rw [e1]; rfl
  have A1 : shA (Ad ad 99) d1 = shA (Ad ad 99) δ := by unfold shA; rw [e1, rI_o (by decide)]
  have kr1 : ∀ {V d}, kr ad V d1 d → kr ad V δ d := fun k i a b c => by rw [k i a b c, w1]
  obtain ⟨eM, eR, eN, eT, eF⟩ := hr_same (ad := ad) (V := []) (δ := δ) (d := d1) (fun i _ _ _ => by rw [w1]) (fun i _ z => by cases z)
  have HT1 : ∀ K, K < 4 → HTr ad N h δ0 d1 K τ := fun K hK => HTr_t (HT K hK) ⟨by rw [e1, rI_o (by decide)], by rw [e1, rI_o (by decide)], by rw [e1, rI_o (by decide)]⟩
  have S1 : ∀ K, K < 4 → hsr ad d1 K := fun K hK => ⟨by rw [eM]; exact (S K hK).1, by rw [eM, eR]; exact (S K hK).2⟩
  refine hs_bind (hr_isHouse L hNN (x1 := x1) (x2 := 1) ka i1 t0 (by decide)) (fun r hr => ?_)
  rcases hr with ⟨q1, q2, A, hA, hx⟩ | ⟨q1, q2, q3, q4⟩
  rotate_left
  · rw [q1]
    refine hs_ite (fun _ => ?_) (fun z => absurd rfl z)
    unfold J_X12_split_50
    exact hs_some (Or.inl ⟨by omega, q3, kr1 q4⟩)
  rw [q1, q2]
  refine hs_ite (fun z => absurd z (by decide)) (fun _ => ?_)
  refine hs_bind (hr_isHouse L hNN (x1 := x2) (x2 := 1) ka i1 t0 (by decide)) (fun r hr => ?_)
  rcases hr with ⟨q1, q2, B, hB, hy⟩ | ⟨q1, q2, q3, q4⟩
  rotate_left
  · rw [q1]
    refine hs_ite (fun _ => ?_) (fun z => absurd rfl z)
    unfold J_X12_split_50
    exact hs_some (Or.inl ⟨by omega, q3, kr1 q4⟩)
  rw [q1, q2]
  refine hs_ite (fun z => absurd z (by decide)) (fun _ => ?_)
  have no : (A = B ∨ x3.toInt < 0 ∨ shA (Ad ad 99) δ ≤ x3.toInt) → hs (J_X12_split_41 N h.1 (Ad ad 99) x1 x2 x3 (Ad ad 99) d1) (fun r => hRS ad τ x1 x2 x3 δ r.1 r.2) := fun hh => by
    unfold J_X12_split_41 J_X12_split_42
    refine hs_bind (hr_may L (x1 := 0) (x2 := 2) (x3 := 2) ka t0 (by decide)) (fun r4 h4 => ?_)
    rcases h4 with ⟨n4, _⟩ | ⟨_, g1, g2, g3⟩
    · exact absurd rfl n4
    · rw [g1]
      refine hs_ite (fun _ => ?_) (fun z => absurd rfl z)
      unfold J_X12_split_50
      exact hs_some (Or.inr ⟨A, B, hA, hB, hx, hy, Or.inl ⟨hh, g2, kr1 g3⟩⟩)
  refine hs_ite (fun c => no (Or.inl ?_)) (fun c => ?_)
  · have := o_eq c; omega
  · have c1 := o_ne c
    refine hs_bind (hr_isNumber L hNN (x1 := x3) ka i1) (fun r3 h3 => ?_)
    obtain ⟨e3, hq⟩ := h3
    rw [e3]
    rw [A1] at hq
    rcases hq with ⟨v, v1, v2⟩ | ⟨v, v1⟩
    · rw [v]
      refine hs_ite (fun z => absurd z (by decide)) (fun _ => ?_)
      unfold J_X12_split_42
      refine hs_bind (hr_may L (x1 := 1) (x2 := 2) (x3 := 2) ka t0 (by decide)) (fun r4 h4 => ?_)
      rcases h4 with ⟨_, g1, g2⟩ | ⟨n4, _⟩
      · rw [g1, g2]
        refine hs_ite (fun z => absurd z (by decide)) (fun _ => ?_)
        refine hs_bind (hr_place L hNN (x := x3) ka hx hA i1 (S1 A hA)) (fun r5 h5 => ?_)
        obtain ⟨e5, p, hp, P⟩ := h5
        rw [e5]
        have pm := P.1
        refine hs_mono (hr_66 L hNN (p := p) hA hB (fun z => by omega) hτ (HT1 A hA) (HT1 B hB) hx hy (S1 A hA) (S1 B hB) N 0 0 0 r5.1 d1 rfl (by omega) rfl (by omega) i1 (fun _ _ _ _ => rfl) (fun _ _ _ _ => rfl) (fun j hj => by omega)) (fun r hr => ?_)
        rw [eM, eR] at P
        exact Or.inr ⟨A, B, hA, hB, hx, hy, Or.inr ⟨fun z => by omega, v1, v2, (hr.1 12 0 _ (by decide)).trans t0, p, P, rS3_q w1 hr.2⟩⟩
      · exact absurd n4 (by decide)
    · rw [v]
      exact hs_ite (fun _ => no (Or.inr (by omega))) (fun z => absurd rfl z)
end
section
/-! joins and split: alike -/
theorem hs_rg {ad : List Nat} {a0 : Nat} {δ : dp} {K : Nat} (H : hok ad a0 δ K) {i : Nat} (hi : (i : Int) < hM ad δ K) : 0 ≤ hR ad δ K i ∧ hR ad δ K i < shA a0 δ := H.2 (q_R δ (Ad ad 102) (2000 * K + i)) ⟨i, hi, rfl⟩
theorem IY_al {ad : List Nat} {δ : dp} (A : AL ad δ) : scA ad δ = shA (Ad ad 99) δ := by
  show ((1 : Int32) <<< (q_I δ 5 0 (Ad ad 3) &&& 31)).toInt = ((1 : Int32) <<< (q_I δ 12 10 (Ad ad 99) &&& 31)).toInt
  rw [A.2.2.2.1]
theorem IY_bd {ad : List Nat} {h : hp} (L : Lay TLx ad h) {δ : dp} (V : IY ad h.1 δ) : Bd ad δ := by
  obtain ⟨⟨V, A⟩, X⟩ := V
  have eA := IY_al A
  have sb := scA_b L V.1
  intro K hK i hi
  obtain ⟨h1, _⟩ := X.1 K hK
  have g := hs_rg (V.2.2.1.1 K hK) (i := i) (by rw [← h1.1]; exact hi)
  rw [h1.2 i (by rw [← h1.1]; exact hi)]
  omega
theorem JL_m {how M N A : Int} {R Q : Nat → Int} (hR : ∀ i : Nat, (i : Int) < M → 0 ≤ R i ∧ R i < A) (hQ : ∀ i : Nat, (i : Int) < N → 0 ≤ Q i ∧ Q i < A) : ∀ p ∈ JL how M R N Q, 0 ≤ p.2 ∧ p.2 < A := by
  unfold JL
  by_cases c : how = 0
  · rw [if_pos c]
    exact lst_m _ 0 (fun j a b => hQ j (by omega))
  · rw [if_neg c]
    by_cases d : how = 1
    · rw [if_pos d]
      exact lsf_m _ 0 (fun j a b => hR j (by omega))
    · rw [if_neg d]
      exact lst_m _ 0 (fun j a b => hQ j (by omega))
/-- what the law's helper says of joins of the class -/
def hLJ (ad : List Nat) (τ : TAU) (x1 x2 x3 : Int32) (o : Nat) (δ : dp) (kk : Int32) (d : dp) : Prop :=
  ((x1.toInt < 0 ∨ 3 < x1.toInt ∨ x2.toInt < 0 ∨ 3 < x2.toInt) ∧ kk = 1 ∧ csm ad δ d) ∨
  ∃ A B : Nat, A < 4 ∧ B < 4 ∧ x1.toInt = (A : Int) ∧ x2.toInt = (B : Int) ∧
    (((A = B ∨ x3.toInt < 0 ∨ 2 < x3.toInt) ∧ kk = 2 ∧ csm ad δ d) ∨ (A ≠ B ∧ 0 ≤ x3.toInt ∧ x3.toInt ≤ 2 ∧ kk = 0 ∧ ∃ w : Int32, q_J d o 0 = w.toInt64 ∧ hJ3 ad τ x3.toInt A B δ w d))
theorem hL_joins {ad : List Nat} {h : hp} (L : Lay TLx ad h) {δ0 : dp} {N : Nat} (hN : 10000000 ≤ N) {τ : TAU} {x1 x2 x3 : Int32} {o : Nat} {δ : dp} (HT : ∀ K, K < 4 → HTc ad N h δ0 δ K τ) (I : CI ad h.1 δ0 δ) (S : ∀ K, K < 4 → SR (cM ad δ K) (cR ad δ K)) (bd : Bd ad δ) : hs (D_L_joins N h.1 (Ad ad 0) x1 x2 x3 o δ) (fun r => hLJ ad τ x1 x2 x3 o δ r.1 r.2) := by
  unfold D_L_joins
  refine hs_bind (hc_joins L hN (x1 := x1) (x2 := x2) (x3 := x3) HT I S bd) (fun r hr => ?_)
  obtain ⟨v, d⟩ := r
  rcases hr with ⟨h1, h2, h3⟩ | ⟨A, B, hA, hB, hx, hy, ⟨h1, h2, h3⟩ | ⟨h1, h2, h3, w, h4, h5⟩⟩
  · dsimp only at h2 h3
    subst h2
    exact hs_ite (fun _ => hs_some (Or.inl ⟨h1, rfl, h3⟩)) (fun z => absurd rfl z)
  · dsimp only at h2 h3
    subst h2
    exact hs_ite (fun z => absurd z (by decide)) (fun _ => hs_ite (fun z => absurd z (by decide)) (fun _ => hs_some (Or.inr ⟨A, B, hA, hB, hx, hy, Or.inl ⟨h1, rfl, h3⟩⟩)))
  · dsimp only at h4 h5
    subst h4
    exact hs_gd (fun _ => hs_some (Or.inr ⟨A, B, hA, hB, hx, hy, Or.inr ⟨h1, h2, h3, rfl, w, jup, h5⟩⟩))
/-- the end of a call that changes houses -/
theorem IY_end {ad : List Nat} {h : hp} {δ δ1 d : dp} (V : IX ad h.1 δ) (m1 : CI ad h.1 δ δ1) (m2 : (q_I δ1 7 1 (Ad ad 1)).toInt = (q_I δ 7 1 (Ad ad 1)).toInt) (m3 : ∀ a, q_I δ1 5 0 a = q_I δ 5 0 a ∧ q_I δ1 5 1 a = q_I δ 5 1 a ∧ q_I δ1 5 2 a = q_I δ 5 2 a ∧ q_I δ1 11 12 a = q_I δ 11 12 a) (r : OR ad h.1 (Ad ad 99) δ1 δ1 d ∧ q_I d 12 18 (Ad ad 99) = q_I δ1 12 18 (Ad ad 99)) (X : HX ad d) : IY ad h.1 d := by
  obtain ⟨V, A⟩ := V
  obtain ⟨⟨r1, r2, r3, r4, r5, r6, r7⟩, r8⟩ := r
  have F := m1.2.2.2.1
  refine ⟨⟨IV_end V m1 r1 r2 ?_, ?_⟩, X⟩
  · rw [m2, r3, F 2 (Ad ad 99)]; exact V.2.2.2
  · obtain ⟨t1, t2⟩ := AL_t A m1 r1 r4
    have G := r1.2.2.1
    obtain ⟨a1, a2, a3, a4, a5, a6⟩ := A
    refine ⟨t1, t2, ?_, ?_, ?_, ?_⟩
    · rw [G 11 12 _ (by decide), (m3 _).2.2.2, r8, F 18]; exact a3
    · rw [G 5 0 _ (by decide), (m3 _).1, r5, F 10]; exact a4
    · rw [G 5 1 _ (by decide), (m3 _).2.1, r7, F 12]; exact a5
    · rw [G 5 2 _ (by decide), (m3 _).2.2.1, r6, F 11]; exact a6
theorem HEs_of {ad : List Nat} {A : Int} {δ d : dp} {K : Nat} (h : HE ad A δ K) (e : eqr (sRf ad δ K) (sRf ad d K)) : HEs A (sCl ad δ K) (sRf ad d K) := HEa.c h rfl RE.r rfl (fun _ _ => rfl) e.1 e.2.1 e.2.2
/-- two calls of a row that is changed, or not: alike -/
theorem stepJ {ad : List Nat} {h : hp} (L : Lay TLx ad h) (km : q_K h.1 (Ad ad 99) = 12) {δ : dp} (V : IY ad h.1 δ) {o1 : Option (Int32 × dp)} {f : dp → Option (Int32 × dp)} {τ : TAU} {x1 x2 x3 : Int32} {o : Nat} {Z : Prop}
    (fn : Z → ∀ (c x M N : Int) (R Q : Nat → Int) (t u : Int32), (c = 0 ∨ c = 1) → (∀ i : Nat, (i : Int) < M → 0 ≤ R i ∧ R i < shA (Ad ad 99) δ) → RE N Q M R → τ c x M R t → τ c x N Q u → t = u)
    (C : ok o1 (fun r => CI ad h.1 δ r.2 ∧ (q_I r.2 7 1 (Ad ad 1)).toInt = (q_I δ 7 1 (Ad ad 1)).toInt ∧ ∀ a, q_I r.2 5 0 a = q_I δ 5 0 a ∧ q_I r.2 5 1 a = q_I δ 5 1 a ∧ q_I r.2 5 2 a = q_I δ 5 2 a ∧ q_I r.2 11 12 a = q_I δ 11 12 a))
    (GL : hs o1 (fun r => hLJ ad τ x1 x2 x3 o δ r.1 r.2))
    (R : ∀ δ1, RI ad h.1 δ1 δ1 → OI ad (Ad ad 99) δ1 → ok (f δ1) (fun r => OR ad h.1 (Ad ad 99) δ1 δ1 r.2 ∧ q_I r.2 12 18 (Ad ad 99) = q_I δ1 12 18 (Ad ad 99)))
    (RS : ∀ δ1, RI ad h.1 δ1 δ1 → OI ad (Ad ad 99) δ1 → r3s δ δ1 (Ad ad 99) → hs (f δ1) (fun r => hRJ ad τ x1 x2 x3 δ1 r.1 r.2)) :
    ∃ d, (∃ (kk b : Int32) (δ1 : dp), o1 = some (kk, δ1) ∧ f δ1 = some (b, d) ∧ q_I d 12 0 (Ad ad 99) = kk ∧ (Z → kk = 0 → q_J d o 0 = b.toInt64)) ∧ IY ad h.1 d := by
  obtain ⟨V, X⟩ := V
  obtain ⟨⟨kk, δ1⟩, e1, ⟨m1, m2, m3⟩, m5⟩ := ok_hs C GL
  dsimp only at m1 m2 m3 m5
  have I1 := RI_re V.1.2.1 m1
  have O1 := OI_re V.1.2.2.1 m1
  obtain ⟨⟨b, d⟩, e2, rr, r9⟩ := ok_hs (R δ1 I1 O1) (RS δ1 I1 O1 ⟨m1.2.2.2.1 10 _, m1.2.2.2.1 11 _, m1.2.2.2.1 12 _⟩)
  dsimp only at rr r9
  obtain ⟨⟨r1, r2, r3, r4, r5, r6, r7⟩, r8⟩ := id rr
  have F := m1.2.2.2.1
  have FR := m1.2.2.2.2
  have i3 := IY.i3 (ad := ad) km V.1.2.1
  have eJ : q_J d = q_J δ1 := congrArg Prod.snd r1.2.2.2.2
  have K2 := csk_R r1
  obtain ⟨eM, eR, eN, eT, eF⟩ := hr_same (ad := ad) (V := []) (δ := δ) (d := δ1) (fun i a b _ => FR i (Or.inl a) b) (fun i _ z => by cases z)
  have same : csm ad δ δ1 → kr ad [100, 125] δ1 d → HX ad d := fun c k => by
    have X1 : HX ad δ1 := X.k i3 (csk_m L c) (rsk_C m1)
    exact X1.k (by rw [F 18]; exact i3) K2 ⟨fun q hq => by rcases hq with rfl | rfl; exact r5; exact r8, bak_k (k 102 (by decide) (by decide) (by decide)) (k 103 (by decide) (by decide) (by decide)), fun i a b => k i (by omega) (by omega) (by simp only [List.mem_cons, List.not_mem_nil, or_false]; omega)⟩
  have fin : (q_I d 12 0 (Ad ad 99) = kk ∧ (Z → kk = 0 → q_J d o 0 = b.toInt64)) ∧ HX ad d := by
    rcases m5 with ⟨g1, g2, g3⟩ | ⟨A, B, hA, hB, hx, hy, g⟩
    · rcases r9 with ⟨s1, s2, s3⟩ | ⟨A, B, hA, hB, hx, hy, _⟩
      · exact ⟨⟨by rw [s2, g2], fun _ z => by rw [g2] at z; exact absurd z (by decide)⟩, same g3 (kr_w (by decide) s3)⟩
      · exfalso; omega
    · rcases r9 with ⟨s1, _⟩ | ⟨A', B', hA', hB', hx', hy', s⟩
      · exfalso; omega
      · obtain rfl : A' = A := by omega
        obtain rfl : B' = B := by omega
        rcases g with ⟨g1, g2, g3⟩ | ⟨ne, g1, g1', g2, w, g4, g5⟩ <;> rcases s with ⟨s1, s2, s3⟩ | ⟨_, s1, s1', s2, s3⟩
        · exact ⟨⟨by rw [s2, g2], fun _ z => by rw [g2] at z; exact absurd z (by decide)⟩, same g3 (kr_w (by decide) s3)⟩
        · exfalso; omega
        · exfalso; omega
        · have HA := X.1 A' hA
          have HB := X.1 B' hB
          obtain ⟨qa1, qa2, _⟩ := HA
          obtain ⟨qb1, qb2, _⟩ := HB
          have jf := JF_c (how := x3.toInt) qa1 qb1
          have jl := JL_c (how := x3.toInt) qa1 qb1
          have mm := qa1.1
          unfold hJ3 at g5
          unfold rJ3 sRf at s3
          simp only [eM, eR, eN, eT, eF] at s3
          rw [jf, jl] at g5
          have ans : ∀ {w' : Int32}, w = w' → b = w' → q_I d 12 0 (Ad ad 99) = kk ∧ (Z → kk = 0 → q_J d o 0 = b.toInt64) := fun h1 h2 => ⟨by rw [s2, g2], fun _ _ => by rw [eJ, g4, h1, h2]⟩
          rcases g5 with ⟨a1, a2, a3, a4⟩ | ⟨a1, a2, a3, a4⟩ | ⟨a1, a2, a3, ts, a4, a5⟩ <;> rcases s3 with ⟨b1, b2, b3, b4⟩ | ⟨b1, b2, b3, b4⟩ | ⟨b1, b2, b3, b3', us, b4, b5⟩
          · exact ⟨ans a3 b3, same a4 (kr_w (by decide) b4)⟩
          · exfalso; omega
          · exfalso; omega
          · exfalso; omega
          · exact ⟨ans a3 b3, same a4 (kr_w (by decide) b4)⟩
          · exfalso; omega
          · exfalso; omega
          · exfalso; omega
          · -- the calls
            have mem := JL_m (how := x3.toInt) (A := shA (Ad ad 99) δ) (fun i hi => hs_rg (V.1.2.2.1.1 A' hA) hi) (fun i hi => hs_rg (V.1.2.2.1.1 B' hB) hi)
            have H0 : HEs (shA (Ad ad 99) δ) (sCl ad δ A') (hM ad δ A', hR ad δ A', hN ad δ A', nT ad δ A', cF ad δ A') := X.1 A' hA
            have H1 := ch_HE _ _ _ _ _ _ _ mem a4 b4 H0
            have gg := ch_g _ _ _ _ b4
            have eA : shA (Ad ad 99) d = shA (Ad ad 99) δ := by unfold shA; rw [r5, F 10]
            refine ⟨⟨by rw [s2, g2], fun hz _ => ?_⟩, fun K hK => ?_, X.2.g i3 (by rw [r8, F 18]) (fun j hj => ?_) (fun i a b => ?_) (fun K hK => ?_)⟩
            · rw [eJ, g4, a5, b5, ch_ts (fn hz) _ _ _ _ _ _ _ mem a4 b4 H0]
            · rw [eA]
              by_cases c : K = A'
              · subst c
                obtain ⟨y1, y2, y3, y4, _⟩ := K2.1 K hK
                unfold HE
                rw [y1, y2, y3, y4]
                exact H1
              · obtain ⟨y1, y2, y3, y4, _⟩ := K2.1 K hK
                obtain ⟨z1, z2, z3, z4, _⟩ := (mf_o L hA a3).1 K hK c
                have ee := mfr_s L I1 b3' (J := K) c
                have es : sRf ad δ1 K = sRf ad δ K := by unfold sRf; rw [eM, eR, eN, eT, eF]
                rw [es] at ee
                unfold HE
                rw [y1, y2, y3, y4, z1, z2, z3, z4]
                exact HEs_of (X.1 K hK) ee
            · rw [K2.2 j hj, (mf_o L hA a3).2 j hj]
            · rw [b3 i (by omega) (by omega) (by simp only [List.mem_cons, List.not_mem_nil, or_false]; omega), FR i (Or.inl (by omega)) (by omega)]
            · by_cases c : K = A'
              · subst c
                exact gg
              · obtain ⟨p1, p2, p3, p4⟩ := b3' K c
                rw [eN] at p2
                have bN := (rb_106 L V.1.2.1 K).2
                have vN : (q_R δ (Ad ad 106) K).toInt = hN ad δ K := rfl
                refine ⟨by rw [p2]; exact Int.le_refl _, fun i hi => ?_⟩
                have := p4 i (by omega)
                rw [eT, eF] at this
                exact this
  exact ⟨d, ⟨kk, b, δ1, e1, e2, fin.1.1, fin.1.2⟩, IY_end V m1 m2 m3 rr fin.2⟩
theorem mf2_o {ad : List Nat} {h : hp} (L : Lay TLx ad h) {A B : Nat} (hA : A < 4) (hB : B < 4) {δ d : dp} (m : mf2 ad A B δ d) : (∀ K, K < 4 → K ≠ A → K ≠ B → cM ad d K = cM ad δ K ∧ cR ad d K = cR ad δ K ∧ cN ad d K = cN ad δ K ∧ cC ad d K = cC ad δ K) ∧ ∀ j, j < 3 → q_R d (Ad ad (56 + j)) = q_R δ (Ad ad (56 + j)) := by
  obtain ⟨m1, m2⟩ := m
  have rw1 : ∀ j, j < 128 → j ≠ 59 → (∀ K, K = A ∨ K = B → j ≠ 77 + 6 * K ∧ j ≠ 78 + 6 * K ∧ j ≠ 79 + 6 * K) → q_R d (Ad ad j) = q_R δ (Ad ad j) := fun j hj n1 n2 => by
    obtain ⟨a1, a2, a3⟩ := n2 A (Or.inl rfl)
    obtain ⟨b1, b2, b3⟩ := n2 B (Or.inr rfl)
    exact m2 _ (ad_ne L hj (by decide) n1) (ad_ne L hj (by omega) a1) (ad_ne L hj (by omega) a2) (ad_ne L hj (by omega) a3) (ad_ne L hj (by omega) b1) (ad_ne L hj (by omega) b2) (ad_ne L hj (by omega) b3)
  have im1 : ∀ {c k j : Nat}, c ≠ 1 → c ≠ 4 → j < 128 → (∀ K, K = A ∨ K = B → j ≠ 76 + 6 * K ∧ j ≠ 75 + 6 * K) → q_I d c k (Ad ad j) = q_I δ c k (Ad ad j) := fun {c k j} n1 n4 hj n2 => by
    obtain ⟨a1, a2⟩ := n2 A (Or.inl rfl)
    obtain ⟨b1, b2⟩ := n2 B (Or.inr rfl)
    refine m1 c k _ n1 n4 (fun z => ?_) (fun z => ?_)
    · rcases z.2.2 with y | y
      · exact ad_ne L hj (by omega) a1 y
      · exact ad_ne L hj (by omega) b1 y
    · rcases z.2.2 with y | y
      · exact ad_ne L hj (by omega) a2 y
      · exact ad_ne L hj (by omega) b2 y
  refine ⟨fun K hK nA nB => ⟨?_, ?_, ?_, ?_⟩, fun j hj => rw1 _ (by omega) (by omega) (fun J hJ => by omega)⟩
  · unfold cM; rw [im1 (by decide) (by decide) (by omega) (fun J hJ => by omega)]
  · funext i; unfold cR; rw [rw1 _ (by omega) (by omega) (fun J hJ => by omega)]
  · unfold cN; rw [im1 (by decide) (by decide) (by omega) (fun J hJ => by omega)]
  · funext i; unfold cC; rw [rw1 _ (by omega) (by omega) (fun J hJ => by omega)]
/-- what the law's helper says of split of the class -/
def hLS (ad : List Nat) (τ : TAU) (x1 x2 x3 : Int32) (o : Nat) (δ : dp) (kk : Int32) (d : dp) : Prop :=
  ((x1.toInt < 0 ∨ 3 < x1.toInt ∨ x2.toInt < 0 ∨ 3 < x2.toInt) ∧ kk = 1 ∧ csm ad δ d) ∨
  ∃ A B : Nat, A < 4 ∧ B < 4 ∧ x1.toInt = (A : Int) ∧ x2.toInt = (B : Int) ∧
    (((A = B ∨ x3.toInt < 0 ∨ scA ad δ ≤ x3.toInt) ∧ kk = 2 ∧ csm ad δ d) ∨ (A ≠ B ∧ 0 ≤ x3.toInt ∧ x3.toInt < scA ad δ ∧ kk = 0 ∧ ∃ (w : Int32) (p : Nat), q_J d o 0 = w.toInt64 ∧ PL (cM ad δ A) (cR ad δ A) x3.toInt p ∧ hS3 ad τ p A B δ w d))
theorem hL_split {ad : List Nat} {h : hp} (L : Lay TLx ad h) {δ0 : dp} {N : Nat} (hN : 10000000 ≤ N) {τ : TAU} {x1 x2 x3 : Int32} {o : Nat} {δ : dp} (HT : ∀ K, K < 4 → HTc ad N h δ0 δ K τ) (I : CI ad h.1 δ0 δ) (S : ∀ K, K < 4 → SR (cM ad δ K) (cR ad δ K)) (bd : Bd ad δ) : hs (D_L_split N h.1 (Ad ad 0) x1 x2 x3 o δ) (fun r => hLS ad τ x1 x2 x3 o δ r.1 r.2) := by
  unfold D_L_split
  refine hs_bind (hc_split L hN (x1 := x1) (x2 := x2) (x3 := x3) HT I S bd) (fun r hr => ?_)
  obtain ⟨v, d⟩ := r
  rcases hr with ⟨h1, h2, h3⟩ | ⟨A, B, hA, hB, hx, hy, ⟨h1, h2, h3⟩ | ⟨h1, h2, h3, w, p, h4, h5, h6⟩⟩
  · dsimp only at h2 h3
    subst h2
    exact hs_ite (fun _ => hs_some (Or.inl ⟨h1, rfl, h3⟩)) (fun z => absurd rfl z)
  · dsimp only at h2 h3
    subst h2
    exact hs_ite (fun z => absurd z (by decide)) (fun _ => hs_ite (fun z => absurd z (by decide)) (fun _ => hs_some (Or.inr ⟨A, B, hA, hB, hx, hy, Or.inl ⟨h1, rfl, h3⟩⟩)))
  · dsimp only at h4 h6
    subst h4
    exact hs_gd (fun _ => hs_some (Or.inr ⟨A, B, hA, hB, hx, hy, Or.inr ⟨h1, h2, h3, rfl, w, p, jup, h5, h6⟩⟩))
/-- split: alike -/
theorem stepV {ad : List Nat} {h : hp} (L : Lay TLx ad h) (km : q_K h.1 (Ad ad 99) = 12) {δ : dp} (V : IY ad h.1 δ) {o1 : Option (Int32 × dp)} {f : dp → Option (Int32 × dp)} {τ : TAU} {x1 x2 x3 : Int32} {o : Nat} {Z : Prop}
    (fn : Z → ∀ (c x M N : Int) (R Q : Nat → Int) (t u : Int32), (c = 0 ∨ c = 1) → (∀ i : Nat, (i : Int) < M → 0 ≤ R i ∧ R i < shA (Ad ad 99) δ) → RE N Q M R → τ c x M R t → τ c x N Q u → t = u)
    (C : ok o1 (fun r => CI ad h.1 δ r.2 ∧ (q_I r.2 7 1 (Ad ad 1)).toInt = (q_I δ 7 1 (Ad ad 1)).toInt ∧ ∀ a, q_I r.2 5 0 a = q_I δ 5 0 a ∧ q_I r.2 5 1 a = q_I δ 5 1 a ∧ q_I r.2 5 2 a = q_I δ 5 2 a ∧ q_I r.2 11 12 a = q_I δ 11 12 a))
    (GL : hs o1 (fun r => hLS ad τ x1 x2 x3 o δ r.1 r.2))
    (R : ∀ δ1, RI ad h.1 δ1 δ1 → OI ad (Ad ad 99) δ1 → ok (f δ1) (fun r => OR ad h.1 (Ad ad 99) δ1 δ1 r.2 ∧ q_I r.2 12 18 (Ad ad 99) = q_I δ1 12 18 (Ad ad 99)))
    (RS : ∀ δ1, RI ad h.1 δ1 δ1 → OI ad (Ad ad 99) δ1 → r3s δ δ1 (Ad ad 99) → hs (f δ1) (fun r => hRS ad τ x1 x2 x3 δ1 r.1 r.2)) :
    ∃ d, (∃ (kk b : Int32) (δ1 : dp), o1 = some (kk, δ1) ∧ f δ1 = some (b, d) ∧ q_I d 12 0 (Ad ad 99) = kk ∧ (Z → kk = 0 → q_J d o 0 = b.toInt64)) ∧ IY ad h.1 d := by
  obtain ⟨V, X⟩ := V
  obtain ⟨⟨kk, δ1⟩, e1, ⟨m1, m2, m3⟩, m5⟩ := ok_hs C GL
  dsimp only at m1 m2 m3 m5
  have I1 := RI_re V.1.2.1 m1
  have O1 := OI_re V.1.2.2.1 m1
  obtain ⟨⟨b, d⟩, e2, rr, r9⟩ := ok_hs (R δ1 I1 O1) (RS δ1 I1 O1 ⟨m1.2.2.2.1 10 _, m1.2.2.2.1 11 _, m1.2.2.2.1 12 _⟩)
  dsimp only at rr r9
  obtain ⟨⟨r1, r2, r3, r4, r5, r6, r7⟩, r8⟩ := id rr
  have F := m1.2.2.2.1
  have FR := m1.2.2.2.2
  have i3 := IY.i3 (ad := ad) km V.1.2.1
  have eJ : q_J d = q_J δ1 := congrArg Prod.snd r1.2.2.2.2
  have K2 := csk_R r1
  have eAl := IY_al V.2
  have eA1 : shA (Ad ad 99) δ1 = shA (Ad ad 99) δ := by unfold shA; rw [F 10]
  obtain ⟨eM, eR, eN, eT, eF⟩ := hr_same (ad := ad) (V := []) (δ := δ) (d := δ1) (fun i a b _ => FR i (Or.inl a) b) (fun i _ z => by cases z)
  have same : csm ad δ δ1 → kr ad [100, 125] δ1 d → HX ad d := fun c k => by
    have X1 : HX ad δ1 := X.k i3 (csk_m L c) (rsk_C m1)
    exact X1.k (by rw [F 18]; exact i3) K2 ⟨fun q hq => by rcases hq with rfl | rfl; exact r5; exact r8, bak_k (k 102 (by decide) (by decide) (by decide)) (k 103 (by decide) (by decide) (by decide)), fun i a b => k i (by omega) (by omega) (by simp only [List.mem_cons, List.not_mem_nil, or_false]; omega)⟩
  have fin : (q_I d 12 0 (Ad ad 99) = kk ∧ (Z → kk = 0 → q_J d o 0 = b.toInt64)) ∧ HX ad d := by
    rcases m5 with ⟨g1, g2, g3⟩ | ⟨A, B, hA, hB, hx, hy, g⟩
    · rcases r9 with ⟨s1, s2, s3⟩ | ⟨A, B, hA, hB, hx, hy, _⟩
      · exact ⟨⟨by rw [s2, g2], fun _ z => by rw [g2] at z; exact absurd z (by decide)⟩, same g3 (kr_w (by decide) s3)⟩
      · exfalso; omega
    · rcases r9 with ⟨s1, _⟩ | ⟨A', B', hA', hB', hx', hy', s⟩
      · exfalso; omega
      · obtain rfl : A' = A := by omega
        obtain rfl : B' = B := by omega
        rw [eA1, ← eAl] at s
        rcases g with ⟨g1, g2, g3⟩ | ⟨ne, g1, g1', g2, w, p, g4, gp, g5⟩ <;> rcases s with ⟨s1, s2, s3⟩ | ⟨_, s1, s1', s2, p', sp, s3⟩
        · exact ⟨⟨by rw [s2, g2], fun _ z => by rw [g2] at z; exact absurd z (by decide)⟩, same g3 (kr_w (by decide) s3)⟩
        · exfalso; omega
        · exfalso; omega
        · obtain ⟨qa1, qa2, _⟩ := X.1 A' hA
          obtain ⟨qb1, qb2, _⟩ := X.1 B' hB
          have pm := gp.1
          have mm := qa1.1
          have mb := qb1.1
          rw [eM, eR] at sp
          obtain rfl : p' = p := PL_u sp (PL_c qa1.s gp)
          have en : (cM ad δ A').toNat - p' = (hM ad δ A').toNat - p' := by rw [mm]
          have ef : cn (fun j => ¬ ME (cM ad δ B') (cR ad δ B') (cR ad δ A' (p' + j))) 0 ((hM ad δ A').toNat - p') = cn (fun j => ¬ ME (hM ad δ B') (hR ad δ B') (hR ad δ A' (p' + j))) 0 ((hM ad δ A').toNat - p') := cn_congr _ 0 (fun j _ _ => by rw [qa1.2 (p' + j) (by omega), ← ME_i qb1])
          have el : ∀ c, lst c (fun j => cR ad δ A' (p' + j)) ((hM ad δ A').toNat - p') 0 = lst c (fun j => hR ad δ A' (p' + j)) ((hM ad δ A').toNat - p') 0 := fun c => lst_c _ 0 (fun j _ _ => qa1.2 (p' + j) (by omega))
          unfold hS3 at g5
          dsimp only at g5
          rw [en, ef, el, el] at g5
          unfold rS3 sRf at s3
          simp only [eM, eR, eN, eT, eF] at s3
          have ans : ∀ {w' : Int32}, w = w' → b = w' → q_I d 12 0 (Ad ad 99) = kk ∧ (Z → kk = 0 → q_J d o 0 = b.toInt64) := fun h1 h2 => ⟨by rw [s2, g2], fun _ _ => by rw [eJ, g4, h1, h2]⟩
          rcases g5 with ⟨a1, a3, a4⟩ | ⟨a1, a2, a3, a4⟩ | ⟨a1, a2, a2', a3, ts, us, a4, a4', a5⟩ <;> rcases s3 with ⟨b1, b3, b4⟩ | ⟨b1, b2, b3, b4⟩ | ⟨b1, b2, b2', b3, b3', ts', us', b4, b4', b5⟩
          · exact ⟨ans a3 b3, same a4 (kr_w (by decide) b4)⟩
          · exfalso; omega
          · exfalso; omega
          · exfalso; omega
          · exact ⟨ans a3 b3, same a4 (kr_w (by decide) b4)⟩
          · exfalso; omega
          · exfalso; omega
          · exfalso; omega
          · -- the calls
            have rgA : ∀ j, 0 ≤ j → j < 0 + ((hM ad δ A').toNat - p') → 0 ≤ hR ad δ A' (p' + j) ∧ hR ad δ A' (p' + j) < shA (Ad ad 99) δ := fun j _ hj => hs_rg (V.1.2.2.1.1 A' hA) (by omega)
            have mem1 := lst_m (call := 1) (Y := fun j => hR ad δ A' (p' + j)) _ 0 rgA
            have mem0 := lst_m (call := 0) (Y := fun j => hR ad δ A' (p' + j)) _ 0 rgA
            have HA0 : HEs (shA (Ad ad 99) δ) (sCl ad δ A') (hM ad δ A', hR ad δ A', hN ad δ A', nT ad δ A', cF ad δ A') := X.1 A' hA
            have HB0 : HEs (shA (Ad ad 99) δ) (sCl ad δ B') (hM ad δ B', hR ad δ B', hN ad δ B', nT ad δ B', cF ad δ B') := X.1 B' hB
            have HA1 := ch_HE _ _ _ _ _ _ _ mem1 a4 b4 HA0
            have HB1 := ch_HE _ _ _ _ _ _ _ mem0 a4' b4' HB0
            have ggA := ch_g _ _ _ _ b4
            have ggB := ch_g _ _ _ _ b4'
            have eA : shA (Ad ad 99) d = shA (Ad ad 99) δ := by unfold shA; rw [r5, F 10]
            refine ⟨⟨by rw [s2, g2], fun hz _ => ?_⟩, fun K hK => ?_, X.2.g i3 (by rw [r8, F 18]) (fun j hj => ?_) (fun i a b => ?_) (fun K hK => ?_)⟩
            · rw [eJ, g4, a5, b5, ch_ts (fn hz) _ _ _ _ _ _ _ mem1 a4 b4 HA0, ch_ts (fn hz) _ _ _ _ _ _ _ mem0 a4' b4' HB0]
            · rw [eA]
              obtain ⟨y1, y2, y3, y4, _⟩ := K2.1 K hK
              unfold HE
              rw [y1, y2, y3, y4]
              by_cases c : K = A'
              · subst c
                exact HA1
              · by_cases c' : K = B'
                · subst c'
                  exact HB1
                · obtain ⟨z1, z2, z3, z4⟩ := (mf2_o L hA hB a3).1 K hK c c'
                  obtain ⟨p1, p2, p3, p4⟩ := b3' K c c'
                  rw [eM] at p1
                  rw [eN] at p2
                  rw [eR] at p3
                  rw [eT, eF] at p4
                  have bN := (rb_106 L V.1.2.1 K).2
                  have vN : (q_R δ (Ad ad 106) K).toInt = hN ad δ K := rfl
                  have bM := (rb_103 L V.1.2.1 K).2
                  have vM : (q_R δ (Ad ad 103) K).toInt = hM ad δ K := rfl
                  rw [z1, z2, z3, z4]
                  exact (X.1 K hK).c rfl RE.r rfl (fun _ _ => rfl) ⟨p1, fun i hi => p3 i (by omega)⟩ p2 (fun i hi => p4 i (by omega))
            · rw [K2.2 j hj, (mf2_o L hA hB a3).2 j hj]
            · rw [b3 i (by omega) (by omega) (by simp only [List.mem_cons, List.not_mem_nil, or_false]; omega), FR i (Or.inl (by omega)) (by omega)]
            · by_cases c : K = A'
              · subst c
                exact ggA
              · by_cases c' : K = B'
                · subst c'
                  exact ggB
                · obtain ⟨p1, p2, p3, p4⟩ := b3' K c c'
                  rw [eN] at p2
                  rw [eT, eF] at p4
                  have bN := (rb_106 L V.1.2.1 K).2
                  have vN : (q_R δ (Ad ad 106) K).toInt = hN ad δ K := rfl
                  exact ⟨by rw [p2]; exact Int.le_refl _, fun i hi => p4 i (by omega)⟩
  exact ⟨d, ⟨kk, b, δ1, e1, e2, fin.1.1, fin.1.2⟩, IY_end V m1 m2 m3 rr fin.2⟩
end
section
/-! calls that only read: what each side says -/
abbrev nH (x : Int32) : Prop := x.toInt < 0 ∨ 3 < x.toInt
abbrev nN (A : Int) (x : Int32) : Prop := x.toInt < 0 ∨ A ≤ x.toInt
abbrev tH (x : Int32) : Nat := x.toInt.toNat
theorem tH_e {x : Int32} {H : Nat} (h : x.toInt = (H : Int)) : tH x = H := by show x.toInt.toNat = H; omega
/-- what a read of the class says -/
def OX (c1 c2 : Prop) (Q : Int → Prop) (v : Int32 ⊕ Nat) : Prop := (c1 ∧ v = .inr 0) ∨ (¬ c1 ∧ c2 ∧ v = .inr 2) ∨ (¬ c1 ∧ ¬ c2 ∧ ∃ w : Int32, v = .inl w ∧ Q w.toInt)
def OY (c2 : Prop) (Q : Int → Prop) (v : Int32 ⊕ Nat) : Prop := (c2 ∧ v = .inr 2) ∨ (¬ c2 ∧ ∃ w : Int32, v = .inl w ∧ Q w.toInt)
theorem OX_L {c1 c2 : Prop} {Q : Int → Prop} {o : Nat} {X : Option ((Int32 ⊕ Nat) × dp)} (H : hs X (fun r => OX c1 c2 Q r.1)) {f : (Int32 ⊕ Nat) × dp → Option (Int32 × dp)} (hf1 : ∀ v d, Q v.toInt → hs (f (.inl v, d)) (fun r => r = (0, s_J d o 0 v.toInt64))) (hf2 : ∀ d, hs (f (.inr 0, d)) (fun r => r = (1, d))) (hf3 : c2 → ∀ d, hs (f (.inr 2, d)) (fun r => r = (2, d))) : hs (X.bind f) (fun r => OL c1 c2 Q o r.1 r.2) := by
  refine hs_bind H (fun r hr => ?_)
  obtain ⟨v, d⟩ := r
  rcases hr with ⟨h1, h2⟩ | ⟨h1, h3, h2⟩ | ⟨h1, h3, w, h2, h4⟩
  · dsimp only at h2
    subst h2
    exact hs_mono (hf2 d) (fun r e => by rw [e]; exact Or.inl ⟨h1, rfl⟩)
  · dsimp only at h2
    subst h2
    exact hs_mono (hf3 h3 d) (fun r e => by rw [e]; exact Or.inr (Or.inl ⟨h1, h3, rfl⟩))
  · dsimp only at h2
    subst h2
    exact hs_mono (hf1 w d h4) (fun r e => by rw [e]; exact Or.inr (Or.inr ⟨h1, h3, rfl, w, jup, h4⟩))
section
variable {ad : List Nat} {h : hp}
theorem hc_H (L : Lay TLx ad h) {N : Nat} {x1 : Int32} {δ : dp} {K : dp → Option ((Int32 ⊕ Nat) × dp)} {c2 : Prop} {Q : Int → Prop} (k : ∀ H : Nat, H < 4 → x1.toInt = (H : Int) → hs (K δ) (fun r => OY c2 Q r.1)) : hs (bxv (D_X11_needHouse N h.1 (Ad ad 0) x1 δ) (fun n δ => (.inr n, δ)) K) (fun r => OX (nH x1) c2 Q r.1) := by
  refine hs_bxv (hc_needHouse L (x1 := x1)) (fun n d hn => ?_) (fun d hn => ?_)
  · rcases hn with ⟨z, _⟩ | ⟨z1, z2, z3⟩
    · cases z
    · exact Or.inl ⟨z3, inrc z1⟩
  rcases hn with ⟨_, e, H, hH, hx⟩ | ⟨z, _⟩
  rotate_left
  · cases z
  dsimp only at e
  subst e
  refine hs_mono (k H hH hx) (fun r hr => ?_)
  rcases hr with ⟨h1, h2⟩ | ⟨h1, h2⟩
  · exact Or.inr (Or.inl ⟨fun z => by omega, h1, h2⟩)
  · exact Or.inr (Or.inr ⟨fun z => by omega, h1, h2⟩)
theorem hc_N (L : Lay TLx ad h) {N : Nat} {x2 : Int32} {δ0 δ : dp} (I : CI ad h.1 δ0 δ) {K : dp → Option ((Int32 ⊕ Nat) × dp)} {Q : Int → Prop} (k : 0 ≤ x2.toInt → x2.toInt < scA ad δ → hs (K δ) (fun r => ∃ w : Int32, r.1 = .inl w ∧ Q w.toInt)) : hs (bxv (D_X11_needNumber N h.1 (Ad ad 0) x2 δ) (fun n δ => (.inr n, δ)) K) (fun r => OY (nN (scA ad δ) x2) Q r.1) := by
  refine hs_bxv (hc_needNumber L (x1 := x2) I) (fun n d1 hn => ?_) (fun d1 hn => ?_)
  · rcases hn with ⟨z, _⟩ | ⟨z1, z2, z3⟩
    · cases z
    · exact Or.inl ⟨z3, inrc z1⟩
  rcases hn with ⟨_, e, v1, v2⟩ | ⟨z, _⟩
  rotate_left
  · cases z
  dsimp only at e
  subst e
  exact hs_mono (k v1 v2) (fun r hr => Or.inr ⟨fun z => by omega, hr⟩)
theorem hc_C (L : Lay TLx ad h) {N : Nat} {c : Int32} {c2 : Prop} (hc : c2 ↔ c = 0) {δ : dp} {K : dp → Option ((Int32 ⊕ Nat) × dp)} {Q : Int → Prop} (k : ¬ c2 → hs (K δ) (fun r => ∃ w : Int32, r.1 = .inl w ∧ Q w.toInt)) : hs (bxv (D_X11_need N h.1 (Ad ad 0) c δ) (fun n δ => (.inr n, δ)) K) (fun r => OY c2 Q r.1) := by
  refine hs_bxv (hc_need L (x1 := c)) (fun n d1 hn => ?_) (fun d1 hn => ?_)
  · rcases hn with ⟨z, _⟩ | ⟨z1, z2, z3⟩
    · cases z
    · exact Or.inl ⟨hc.mpr z3, inrc z1⟩
  rcases hn with ⟨_, e, v1⟩ | ⟨z, _⟩
  rotate_left
  · cases z
  dsimp only at e
  subst e
  have nc : ¬ c2 := fun z => v1 (hc.mp z)
  exact hs_mono (k nc) (fun r hr => Or.inr ⟨nc, hr⟩)
/-- to the row of a house -/
theorem hc_row (L : Lay TLx ad h) {x1 : Int32} {H : Nat} (hH : H < 4) (hx : x1.toInt = (H : Int)) {β : Type} {K : Nat → Option β} {Q : β → Prop} (k : hs (K (Ad ad (76 + 6 * H))) Q) : hs ((q_O h.1 11 6 (Ad ad 0)).bind fun b_7 => if x1 < 0 ∨ q_N h.1 b_7 ≤ x1.toNatClampNeg then none else (q_E h.1 b_7 x1.toNatClampNeg).bind fun b_9 => (q_O h.1 2 0 b_9).bind K) Q := by
  have tx : x1.toNatClampNeg = H := tnH hx
  refine hs_at (fO_0_6 L) (hs_gd (fun _ => ?_))
  rw [tx]
  exact hs_at (lk_e L hH) (hs_at (lk_0 L hH) k)
theorem hc_house (L : Lay TLx ad h) {x1 : Int32} {H : Nat} (hH : H < 4) (hx : x1.toInt = (H : Int)) {β : Type} {K : Nat → Option β} {Q : β → Prop} (k : hs (K (Ad ad (75 + 6 * H))) Q) : hs ((q_O h.1 11 6 (Ad ad 0)).bind fun b_7 => if x1 < 0 ∨ q_N h.1 b_7 ≤ x1.toNatClampNeg then none else (q_E h.1 b_7 x1.toNatClampNeg).bind K) Q := by
  have tx : x1.toNatClampNeg = H := tnH hx
  refine hs_at (fO_0_6 L) (hs_gd (fun _ => ?_))
  rw [tx]
  exact hs_at (lk_e L hH) k
theorem hL_has (L : Lay TLx ad h) {δ0 : dp} {N : Nat} (hN : 10000000 ≤ N) {x1 x2 : Int32} {o : Nat} {δ : dp} (I : CI ad h.1 δ0 δ) (S : ∀ K, K < 4 → SR (cM ad δ K) (cR ad δ K)) : hs (D_L_has N h.1 (Ad ad 0) x1 x2 o δ) (fun r => OL (nH x1) (nN (scA ad δ) x2) (fun v => aHo (cM ad δ (tH x1)) (cR ad δ (tH x1)) x2.toInt v) o r.1 r.2) := by
  unfold D_L_has
  refine OX_L (Q := fun v => aHo (cM ad δ (tH x1)) (cR ad δ (tH x1)) x2.toInt v) ?_ (fun v d hv => hs_gd (fun _ => hs_some ?_)) (fun d => hs_ite (fun _ => hs_some rfl) (fun z => absurd rfl z)) (fun _ d => hs_ite (fun z => absurd z (by decide)) (fun _ => hs_ite (fun z => absurd z (by decide)) (fun _ => hs_some rfl)))
  · unfold D_X11_has
    refine hc_H L (fun H hH hx => hc_N L I (fun v1 v2 => hc_row L hH hx (hs_bind (h3_holds L hN (x := x2) (kk_3 L hH) (lk_r L hH) I (S H hH)) (fun r hr => hs_gp (fun _ => hs_some ⟨r.1, rfl, ?_⟩)))))
    rw [tH_e hx]
    rcases hr.2 with ⟨e, m⟩ | ⟨e, m⟩
    · exact Or.inl ⟨by rw [e]; rfl, m⟩
    · exact Or.inr ⟨by rw [e]; rfl, m⟩
  · rcases hv with ⟨e, _⟩ | ⟨e, _⟩
    · have : v = 1 := i_eq e
      subst this; rfl
    · have : v = 0 := i_eq e
      subst this; rfl
theorem hL_next (L : Lay TLx ad h) {δ0 : dp} {N : Nat} (hN : 10000000 ≤ N) {x1 x2 : Int32} {o : Nat} {δ : dp} (I : CI ad h.1 δ0 δ) (S : ∀ K, K < 4 → SR (cM ad δ K) (cR ad δ K)) : hs (D_L_next N h.1 (Ad ad 0) x1 x2 o δ) (fun r => OL (nH x1) (¬ okA (scA ad δ) 3 x2.toInt) (fun v => aAb (cM ad δ (tH x1)) (cR ad δ (tH x1)) x2.toInt v) o r.1 r.2) := by
  have ab := scA_b L I
  unfold D_L_next
  refine OX_L (Q := fun v => aAb (cM ad δ (tH x1)) (cR ad δ (tH x1)) x2.toInt v) ?_ (fun v d hv => hs_gd (fun _ => hs_some rfl)) (fun d => hs_ite (fun _ => hs_some rfl) (fun z => absurd rfl z)) (fun _ d => hs_ite (fun z => absurd z (by decide)) (fun _ => hs_ite (fun z => absurd z (by decide)) (fun _ => hs_some rfl)))
  unfold D_X11_next
  refine hc_H L (fun H hH hx => hs_bind (hc_mayAsk L (x1 := 3) (x2 := x2) I) (fun r hr => ?_))
  obtain ⟨e, hr⟩ := hr
  rw [e]
  refine hc_C L (by rcases hr with ⟨a, b⟩ | ⟨a, b⟩ <;> rw [a]; exact ⟨fun z => absurd b z, fun z => absurd z (by decide)⟩; exact ⟨fun _ => rfl, fun _ => b⟩) (fun nc => hc_row L hH hx ?_)
  have ok3 : okA (scA ad δ) 3 x2.toInt := Classical.byContradiction nc
  have b3 : x2.toInt < 2147483647 := by rcases ok3 with z | z | z <;> omega
  refine hs_bind (h3_above L hN (x := x2) (kk_3 L hH) (lk_r L hH) I (S H hH) b3) (fun q hq => hs_some ⟨q.1, rfl, ?_⟩)
  rw [tH_e hx]
  exact hq.2
theorem hL_before (L : Lay TLx ad h) {δ0 : dp} {N : Nat} (hN : 10000000 ≤ N) {x1 x2 : Int32} {o : Nat} {δ : dp} (I : CI ad h.1 δ0 δ) (S : ∀ K, K < 4 → SR (cM ad δ K) (cR ad δ K)) : hs (D_L_before N h.1 (Ad ad 0) x1 x2 o δ) (fun r => OL (nH x1) (¬ okA (scA ad δ) 4 x2.toInt) (fun v => aBe (cM ad δ (tH x1)) (cR ad δ (tH x1)) x2.toInt v) o r.1 r.2) := by
  unfold D_L_before
  refine OX_L (Q := fun v => aBe (cM ad δ (tH x1)) (cR ad δ (tH x1)) x2.toInt v) ?_ (fun v d hv => hs_gd (fun _ => hs_some rfl)) (fun d => hs_ite (fun _ => hs_some rfl) (fun z => absurd rfl z)) (fun _ d => hs_ite (fun z => absurd z (by decide)) (fun _ => hs_ite (fun z => absurd z (by decide)) (fun _ => hs_some rfl)))
  unfold D_X11_before
  refine hc_H L (fun H hH hx => hs_bind (hc_mayAsk L (x1 := 4) (x2 := x2) I) (fun r hr => ?_))
  obtain ⟨e, hr⟩ := hr
  rw [e]
  refine hc_C L (by rcases hr with ⟨a, b⟩ | ⟨a, b⟩ <;> rw [a]; exact ⟨fun z => absurd b z, fun z => absurd z (by decide)⟩; exact ⟨fun _ => rfl, fun _ => b⟩) (fun nc => hc_row L hH hx ?_)
  refine hs_bind (h3_below L hN (x := x2) (kk_3 L hH) (lk_r L hH) I (S H hH)) (fun q hq => hs_some ⟨q.1, rfl, ?_⟩)
  rw [tH_e hx]
  exact hq.2
theorem hL_kth (L : Lay TLx ad h) {N : Nat} {x1 x2 : Int32} {o : Nat} {δ : dp} : hs (D_L_kth N h.1 (Ad ad 0) x1 x2 o δ) (fun r => OL (nH x1) False (fun v => AT (cM ad δ (tH x1)) (cR ad δ (tH x1)) x2.toInt v) o r.1 r.2) := by
  unfold D_L_kth
  refine OX_L (Q := fun v => AT (cM ad δ (tH x1)) (cR ad δ (tH x1)) x2.toInt v) ?_ (fun v d hv => hs_gd (fun _ => hs_some rfl)) (fun d => hs_ite (fun _ => hs_some rfl) (fun z => absurd rfl z)) (fun z => z.elim)
  unfold D_X11_kth
  refine hc_H L (fun H hH hx => hc_row L hH hx (hs_bind (h3_at (x := x2) (lk_r L hH)) (fun q hq => hs_some (Or.inr ⟨fun z => z, q.1, rfl, ?_⟩))))
  rw [tH_e hx]
  exact hq.2
/-- how many lie between -/
def aBt (M : Int) (R : Nat → Int) (x y v : Int) : Prop := (y < x ∧ v = 0) ∨ (x ≤ y ∧ ∃ p q : Nat, PL M R (y + 1) p ∧ PL M R x q ∧ v = (p : Int) - (q : Int))
theorem hL_between (L : Lay TLx ad h) {δ0 : dp} {N : Nat} (hN : 10000000 ≤ N) {x1 x2 x3 : Int32} {o : Nat} {δ : dp} (I : CI ad h.1 δ0 δ) (S : ∀ K, K < 4 → SR (cM ad δ K) (cR ad δ K)) : hs (D_L_between N h.1 (Ad ad 0) x1 x2 x3 o δ) (fun r => OL (nH x1) (nN (scA ad δ) x2 ∨ nN (scA ad δ) x3) (fun v => aBt (cM ad δ (tH x1)) (cR ad δ (tH x1)) x2.toInt x3.toInt v) o r.1 r.2) := by
  have ab := scA_b L I
  unfold D_L_between
  refine OX_L (Q := fun v => aBt (cM ad δ (tH x1)) (cR ad δ (tH x1)) x2.toInt x3.toInt v) ?_ (fun v d hv => hs_gd (fun _ => hs_some rfl)) (fun d => hs_ite (fun _ => hs_some rfl) (fun z => absurd rfl z)) (fun _ d => hs_ite (fun z => absurd z (by decide)) (fun _ => hs_ite (fun z => absurd z (by decide)) (fun _ => hs_some rfl)))
  unfold D_X11_between
  refine hc_H L (fun H hH hx => hs_bind (hc_isNumber L (x1 := x2) I) (fun r hr => ?_))
  obtain ⟨e, hr⟩ := hr
  rw [e]
  have no : (nN (scA ad δ) x2 ∨ nN (scA ad δ) x3) → hs (J_X11_between_26 N h.1 (Ad ad 0) x1 x2 x3 (Ad ad 0) δ) (fun r => OY (nN (scA ad δ) x2 ∨ nN (scA ad δ) x3) (fun v => aBt (cM ad δ (tH x1)) (cR ad δ (tH x1)) x2.toInt x3.toInt v) r.1) := fun z => by
    unfold J_X11_between_26 J_X11_between_27
    exact hc_C L ⟨fun _ => rfl, fun _ => z⟩ (fun nc => absurd z nc)
  rcases hr with ⟨a, v1, v2⟩ | ⟨a, v⟩
  rotate_left
  · rw [a]
    exact hs_ite (fun _ => no (Or.inl v)) (fun z => absurd rfl z)
  rw [a]
  refine hs_ite (fun z => absurd z (by decide)) (fun _ => hs_bind (hc_isNumber L (x1 := x3) I) (fun r hr => ?_))
  obtain ⟨e, hr⟩ := hr
  rw [e]
  rcases hr with ⟨a, u1, u2⟩ | ⟨a, v⟩
  rotate_left
  · rw [a]
    exact hs_ite (fun _ => no (Or.inr v)) (fun z => absurd rfl z)
  rw [a]
  refine hs_ite (fun z => absurd z (by decide)) (fun _ => ?_)
  unfold J_X11_between_27
  refine hc_C L ⟨fun z => by rcases z with z | z <;> rcases z with z | z <;> omega, fun z => absurd z (by decide)⟩ (fun nc => hc_row L hH hx ?_)
  unfold J_X11_between_65
  have t3 := te_addc (c := 1) (n := 1) rfl x3 (by omega) (by omega)
  have mb := cM_b L I hH
  rw [tH_e hx]
  refine hs_ite (fun c => ?_) (fun c => ?_)
  · have c1 := o_le c
    refine hs_bind (h3_first L hN (x := x3 + 1) (kk_3 L hH) (lk_r L hH) I (S H hH)) (fun q hq => ?_)
    obtain ⟨e1, p, hp, P⟩ := hq
    rw [e1]
    refine hs_bind (h3_first L hN (x := x2) (kk_3 L hH) (lk_r L hH) I (S H hH)) (fun q' hq => ?_)
    obtain ⟨e2, p', hp', P'⟩ := hq
    have b1 : (p : Int) ≤ cM ad δ H := P.1
    have b2 : (p' : Int) ≤ cM ad δ H := P'.1
    have t4 := te_sub q.1 q'.1 (by omega) (by omega)
    rw [t3.1] at P
    exact hs_some ⟨q.1 - q'.1, rfl, Or.inr ⟨c1, p, p', P, P', by omega⟩⟩
  · have c1 := o_nle c
    exact hs_some ⟨0, rfl, Or.inl ⟨by omega, rfl⟩⟩
theorem hL_of (L : Lay TLx ad h) {δ0 : dp} {N : Nat} (hN : 10000000 ≤ N) {x1 x2 : Int32} {o : Nat} {δ : dp} (I : CI ad h.1 δ0 δ) : hs (D_L_of N h.1 (Ad ad 0) x1 x2 o δ) (fun r => OL (nH x1) (x2.toInt < 0 ∨ 3 < x2.toInt) (fun v => (x2.toInt = 3 ∧ v = cN ad δ (tH x1)) ∨ (x2.toInt ≠ 3 ∧ aTe (cM ad δ (tH x1)) (cR ad δ (tH x1)) x2.toInt v)) o r.1 r.2) := by
  have z3 : (3 : Int32).toInt = 3 := rfl
  have z0 : (0 : Int32).toInt = 0 := rfl
  unfold D_L_of
  refine OX_L (Q := fun v => (x2.toInt = 3 ∧ v = cN ad δ (tH x1)) ∨ (x2.toInt ≠ 3 ∧ aTe (cM ad δ (tH x1)) (cR ad δ (tH x1)) x2.toInt v)) ?_ (fun v d hv => hs_gd (fun _ => hs_some rfl)) (fun d => hs_ite (fun _ => hs_some rfl) (fun z => absurd rfl z)) (fun _ d => hs_ite (fun z => absurd z (by decide)) (fun _ => hs_ite (fun z => absurd z (by decide)) (fun _ => hs_some rfl)))
  unfold D_X11_of
  refine hc_H L (fun H hH hx => ?_)
  have no : (x2.toInt < 0 ∨ 3 < x2.toInt) → hs (J_X11_of_19 N h.1 (Ad ad 0) x1 x2 (Ad ad 0) δ) (fun r => OY (x2.toInt < 0 ∨ 3 < x2.toInt) (fun v => (x2.toInt = 3 ∧ v = cN ad δ (tH x1)) ∨ (x2.toInt ≠ 3 ∧ aTe (cM ad δ (tH x1)) (cR ad δ (tH x1)) x2.toInt v)) r.1) := fun z => by
    unfold J_X11_of_19 J_X11_of_20
    exact hc_C L ⟨fun _ => rfl, fun _ => z⟩ (fun nc => absurd z nc)
  refine hs_ite (fun c => no (Or.inl (by have := o_lt c; omega))) (fun c => hs_ite (fun c' => no (Or.inr (by have := o_lt c'; omega))) (fun c' => ?_))
  have c1 := o_nlt c
  have c2 := o_nlt c'
  unfold J_X11_of_20
  refine hc_C L ⟨fun z => by omega, fun z => absurd z (by decide)⟩ (fun nc => ?_)
  unfold J_X11_of_53
  rw [tH_e hx]
  refine hs_ite (fun c3 => hc_house L hH hx (hs_some ⟨_, rfl, Or.inl ⟨by rw [c3]; rfl, rfl⟩⟩)) (fun c3 => hc_row L hH hx (hs_bind (h3_tell (x := x2) (kk_3 L hH) (lk_r L hH) I) (fun q hq => hs_some ⟨q.1, rfl, Or.inr ⟨fun z => c3 (i_eq z), hq.2⟩⟩)))
end
end
section
/-! calls that only read: the reference -/
def OZ (c2 : Prop) (Q : Int → Prop) (a0 : Nat) (b : Int32) (d : dp) : Prop := (c2 ∧ q_I d 12 0 a0 = 2) ∨ (¬ c2 ∧ q_I d 12 0 a0 = 0 ∧ Q b.toInt)
section
variable {ad : List Nat} {h : hp}
theorem hr_H (L : Lay TLx ad h) {δ0 : dp} {N : Nat} (hNN : 10000000 ≤ N) {a0 : Nat} {x1 : Int32} (ka : q_K h.1 a0 = 12) {δ : dp} (I : RI ad h.1 δ0 δ) {J K : Int32 × dp → Option (Int32 × dp)} {c2 : Prop} {Q : Int → Prop} (hJ : ∀ p, hs (J p) (fun r => r.2 = p.2)) (k : ∀ (b : Int32) (d1 : dp) (H : Nat), RI ad h.1 δ0 d1 → q_I d1 12 0 a0 = 0 → q_R d1 = q_R δ → (∀ c k a, ¬ (c = 12 ∧ k = 0) → q_I d1 c k a = q_I δ c k a) → H < 4 → x1.toInt = (H : Int) → hs (K (b, d1)) (fun r => OZ c2 Q a0 r.1 r.2)) : hs (bd (s_I δ 12 0 a0 0) fun δ1 => (D_X12_isHouse N h.1 a0 x1 1 δ1).bind fun r => if r.1 = 0 then J r else K r) (fun r => OM (nH x1) c2 Q a0 r.1 r.2) := by
  refine hs_bdv (fun d1 e1 => ?_)
  have i1 : RI ad h.1 δ0 d1 := by rw [e1]; exact cs_12_0 L I
  have t0 : q_I d1 12 0 a0 = 0 := by rw [e1]; exact rI_s
  have w1 : q_R d1 = q_R δ := by rw [e1]; rfl
  refine hs_bind (hr_isHouse L hNN (x1 := x1) (x2 := 1) ka i1 t0 (by decide)) (fun r hr => ?_)
  obtain ⟨b, d⟩ := r
  rcases hr with ⟨q1, q2, H, hH, hx⟩ | ⟨q1, q2, q3, q4⟩
  · dsimp only at q1 q2
    subst q2
    refine hs_ite (fun z => by dsimp only at z; rw [q1] at z; exact absurd z (by decide)) (fun _ => hs_mono (k b d H i1 t0 w1 (fun c k a n => by rw [e1, rI_o n]) hH hx) (fun r hr => ?_))
    rcases hr with ⟨h1, h2⟩ | ⟨h1, h2, h3⟩
    · exact Or.inr (Or.inl ⟨fun z => by omega, h1, h2⟩)
    · exact Or.inr (Or.inr ⟨fun z => by omega, h1, h2, h3⟩)
  · exact hs_ite (fun _ => hs_mono (hJ (b, d)) (fun r' e => Or.inl ⟨q2, by rw [e]; exact q3⟩)) (fun z => absurd q1 z)
theorem hr_C (L : Lay TLx ad h) {N : Nat} {a0 : Nat} (ka : q_K h.1 a0 = 12) {c : Int32} {c2 : Prop} (hc : c2 ↔ c = 0) {d : dp} (t0 : q_I d 12 0 a0 = 0) {J K : Int32 × dp → Option (Int32 × dp)} {Q : Int → Prop} (hJ : ∀ p, hs (J p) (fun r => r.2 = p.2)) (k : ¬ c2 → ∀ b : Int32, hs (K (b, d)) (fun r => r.2 = d ∧ Q r.1.toInt)) : hs ((D_X12_may N h.1 a0 c 2 2 d).bind fun r => if r.1 = 0 then J r else K r) (fun r => OZ c2 Q a0 r.1 r.2) := by
  refine hs_bind (hr_may L (x1 := c) (x2 := 2) (x3 := 2) ka t0 (by decide)) (fun r4 h4 => ?_)
  obtain ⟨b, d'⟩ := r4
  rcases h4 with ⟨n4, g1, g2⟩ | ⟨n4, g1, g2, g3⟩
  · have nc : ¬ c2 := fun z => n4 (hc.mp z)
    dsimp only at g1 g2
    subst g2
    exact hs_ite (fun z => by dsimp only at z; rw [g1] at z; exact absurd z (by decide)) (fun _ => hs_mono (k nc b) (fun r hr => Or.inr ⟨nc, by rw [hr.1]; exact t0, hr.2⟩))
  · exact hs_ite (fun _ => hs_mono (hJ (b, d')) (fun r' e => Or.inl ⟨hc.mpr n4, by rw [e]; exact g2⟩)) (fun z => absurd g1 z)
/-- what stays after the first line -/
theorem shA_1 {a0 : Nat} {δ d1 : dp} (e : ∀ c k a, ¬ (c = 12 ∧ k = 0) → q_I d1 c k a = q_I δ c k a) : shA a0 d1 = shA a0 δ := by unfold shA; rw [e 12 10 a0 (by decide)]
theorem hsr_1 {δ d1 : dp} {K : Nat} (w : q_R d1 = q_R δ) (S : hsr ad δ K) : hM ad d1 K = hM ad δ K ∧ hR ad d1 K = hR ad δ K ∧ hN ad d1 K = hN ad δ K ∧ hsr ad d1 K := by
  have eM : hM ad d1 K = hM ad δ K := by unfold hM; rw [w]
  have eR : hR ad d1 K = hR ad δ K := by funext i; unfold hR; rw [w]
  exact ⟨eM, eR, by unfold hN; rw [w], by rw [eM]; exact S.1, by rw [eM, eR]; exact S.2⟩
theorem hr_has (L : Lay TLx ad h) {δ0 : dp} {N : Nat} (hNN : 10000000 ≤ N) {a0 : Nat} {x1 x2 : Int32} (ka : q_K h.1 a0 = 12) {δ : dp} (I : RI ad h.1 δ0 δ) (S : ∀ K, K < 4 → hsr ad δ K) : hs (D_X12_has N h.1 a0 x1 x2 δ) (fun r => OM (nH x1) (nN (shA a0 δ) x2) (fun v => aHo (hM ad δ (tH x1)) (hR ad δ (tH x1)) x2.toInt v) a0 r.1 r.2) := by
  unfold D_X12_has
  have J0 : ∀ p : Int32 × dp, hs (J_X12_has_28 N h.1 a0 x1 x2 p.2) (fun r => r.2 = p.2) := fun p => by
    unfold J_X12_has_28
    exact hs_gp (fun _ => hs_some rfl)
  refine hr_H L hNN ka I J0 (fun b d1 H i1 t0 w e hH hx => ?_)
  dsimp only
  refine hs_bind (hr_isNumber L hNN (x1 := x2) ka i1) (fun r hr => ?_)
  obtain ⟨e5, hr⟩ := hr
  rw [e5]
  rw [shA_1 e] at hr
  obtain ⟨eM, eR, _, S1⟩ := hsr_1 w (S H hH)
  refine hr_C L ka (by rcases hr with ⟨a, b1, b2⟩ | ⟨a, b⟩ <;> rw [a]; exact ⟨fun z => by omega, fun z => absurd z (by decide)⟩; exact ⟨fun _ => rfl, fun _ => b⟩) t0 J0 (fun nc _ => ?_)
  dsimp only
  refine hs_bind (hr_isThere L hNN (x := x2) ka hx hH i1 S1) (fun q hq => hs_gp (fun _ => hs_some ⟨hq.1, ?_⟩))
  rw [tH_e hx]
  rw [eM, eR] at hq
  rcases hq.2 with ⟨e, m⟩ | ⟨e, m⟩
  · exact Or.inl ⟨by show q.1.toInt = 1; rw [e]; rfl, m⟩
  · exact Or.inr ⟨by show q.1.toInt = 0; rw [e]; rfl, m⟩
theorem hr_next (L : Lay TLx ad h) {δ0 : dp} {N : Nat} (hNN : 10000000 ≤ N) {a0 : Nat} {x1 x2 : Int32} (ka : q_K h.1 a0 = 12) {δ : dp} (sb : shA a0 δ ≤ 65536) (I : RI ad h.1 δ0 δ) (S : ∀ K, K < 4 → hsr ad δ K) : hs (D_X12_next N h.1 a0 x1 x2 δ) (fun r => OM (nH x1) (¬ okA (shA a0 δ) 3 x2.toInt) (fun v => aAb (hM ad δ (tH x1)) (hR ad δ (tH x1)) x2.toInt v) a0 r.1 r.2) := by
  unfold D_X12_next
  have J0 : ∀ p : Int32 × dp, hs (J_X12_next_29 N h.1 a0 x1 x2 p.2) (fun r => r.2 = p.2) := fun p => hs_some rfl
  refine hr_H L hNN ka I J0 (fun b d1 H i1 t0 w e hH hx => ?_)
  dsimp only
  refine hs_bind (hr_mayAsk L hNN (x1 := 3) (x2 := x2) ka i1) (fun r hr => ?_)
  obtain ⟨e5, hr⟩ := hr
  rw [e5]
  rw [shA_1 e] at hr
  obtain ⟨eM, eR, _, S1⟩ := hsr_1 w (S H hH)
  refine hr_C L ka (by rcases hr with ⟨a, b⟩ | ⟨a, b⟩ <;> rw [a]; exact ⟨fun z => absurd b z, fun z => absurd z (by decide)⟩; exact ⟨fun _ => rfl, fun _ => b⟩) t0 J0 (fun nc _ => ?_)
  dsimp only
  have ok3 : okA (shA a0 δ) 3 x2.toInt := Classical.byContradiction nc
  have b3 : x2.toInt < 2147483647 := by rcases ok3 with z | z | z <;> omega
  refine hs_bind (hr_answer L hNN (c := 3) (x := x2) ka hx hH i1 S1 b3) (fun q hq => hs_some ⟨hq.1, ?_⟩)
  rw [tH_e hx]
  rw [eM, eR] at hq
  rcases hq.2 with ⟨_, z⟩ | ⟨z, _⟩ | ⟨z, _⟩
  · exact z
  · exact absurd z (by decide)
  · exact absurd rfl z
theorem hr_before (L : Lay TLx ad h) {δ0 : dp} {N : Nat} (hNN : 10000000 ≤ N) {a0 : Nat} {x1 x2 : Int32} (ka : q_K h.1 a0 = 12) {δ : dp} (sb : shA a0 δ ≤ 65536) (I : RI ad h.1 δ0 δ) (S : ∀ K, K < 4 → hsr ad δ K) : hs (D_X12_before N h.1 a0 x1 x2 δ) (fun r => OM (nH x1) (¬ okA (shA a0 δ) 4 x2.toInt) (fun v => aBe (hM ad δ (tH x1)) (hR ad δ (tH x1)) x2.toInt v) a0 r.1 r.2) := by
  unfold D_X12_before
  have J0 : ∀ p : Int32 × dp, hs (J_X12_before_29 N h.1 a0 x1 x2 p.2) (fun r => r.2 = p.2) := fun p => hs_some rfl
  refine hr_H L hNN ka I J0 (fun b d1 H i1 t0 w e hH hx => ?_)
  dsimp only
  refine hs_bind (hr_mayAsk L hNN (x1 := 4) (x2 := x2) ka i1) (fun r hr => ?_)
  obtain ⟨e5, hr⟩ := hr
  rw [e5]
  rw [shA_1 e] at hr
  obtain ⟨eM, eR, _, S1⟩ := hsr_1 w (S H hH)
  refine hr_C L ka (by rcases hr with ⟨a, b⟩ | ⟨a, b⟩ <;> rw [a]; exact ⟨fun z => absurd b z, fun z => absurd z (by decide)⟩; exact ⟨fun _ => rfl, fun _ => b⟩) t0 J0 (fun nc _ => ?_)
  dsimp only
  have ok3 : okA (shA a0 δ) 4 x2.toInt := Classical.byContradiction nc
  have b3 : x2.toInt < 2147483647 := by rcases ok3 with z | z | z <;> omega
  refine hs_bind (hr_answer L hNN (c := 4) (x := x2) ka hx hH i1 S1 b3) (fun q hq => hs_some ⟨hq.1, ?_⟩)
  rw [tH_e hx]
  rw [eM, eR] at hq
  rcases hq.2 with ⟨z, _⟩ | ⟨_, z⟩ | ⟨_, z, _⟩
  · exact absurd z (by decide)
  · exact z
  · exact absurd rfl z
theorem hr_kth (L : Lay TLx ad h) {δ0 : dp} {N : Nat} (hNN : 10000000 ≤ N) {a0 : Nat} {x1 x2 : Int32} (ka : q_K h.1 a0 = 12) {δ : dp} (I : RI ad h.1 δ0 δ) : hs (D_X12_kth N h.1 a0 x1 x2 δ) (fun r => OM (nH x1) False (fun v => AT (hM ad δ (tH x1)) (hR ad δ (tH x1)) x2.toInt v) a0 r.1 r.2) := by
  unfold D_X12_kth
  refine hr_H L hNN ka I (J := fun p => some (0, p.2)) (fun p => hs_some rfl) (fun b d1 H i1 t0 w e hH hx => ?_)
  dsimp only
  have eM : hM ad d1 H = hM ad δ H := by unfold hM; rw [w]
  have eR : hR ad d1 H = hR ad δ H := by funext i; unfold hR; rw [w]
  refine hs_bind (hr_numberAt L hNN (x2 := x2) ka hx hH i1) (fun q hq => hs_some (Or.inr ⟨fun z => z, by rw [hq.1]; exact t0, ?_⟩))
  rw [tH_e hx]
  rw [eM, eR] at hq
  exact hq.2
theorem hr_between (L : Lay TLx ad h) {δ0 : dp} {N : Nat} (hNN : 10000000 ≤ N) {a0 : Nat} {x1 x2 x3 : Int32} (ka : q_K h.1 a0 = 12) {δ : dp} (sb : shA a0 δ ≤ 65536) (I : RI ad h.1 δ0 δ) (S : ∀ K, K < 4 → hsr ad δ K) : hs (D_X12_between N h.1 a0 x1 x2 x3 δ) (fun r => OM (nH x1) (nN (shA a0 δ) x2 ∨ nN (shA a0 δ) x3) (fun v => aBt (hM ad δ (tH x1)) (hR ad δ (tH x1)) x2.toInt x3.toInt v) a0 r.1 r.2) := by
  unfold D_X12_between
  have J0 : ∀ p : Int32 × dp, hs (J_X12_between_44 N h.1 a0 x1 x2 x3 p.2) (fun r => r.2 = p.2) := fun p => hs_some rfl
  refine hr_H L hNN ka I J0 (fun b d1 H i1 t0 w e hH hx => ?_)
  dsimp only
  obtain ⟨eM, eR, _, S1⟩ := hsr_1 w (S H hH)
  have no : (nN (shA a0 δ) x2 ∨ nN (shA a0 δ) x3) → hs (J_X12_between_35 N h.1 a0 x1 x2 x3 a0 d1) (fun r => OZ (nN (shA a0 δ) x2 ∨ nN (shA a0 δ) x3) (fun v => aBt (hM ad δ (tH x1)) (hR ad δ (tH x1)) x2.toInt x3.toInt v) a0 r.1 r.2) := fun z => by
    unfold J_X12_between_35 J_X12_between_36
    exact hr_C L ka ⟨fun _ => rfl, fun _ => z⟩ t0 J0 (fun nc _ => absurd z nc)
  refine hs_bind (hr_isNumber L hNN (x1 := x2) ka i1) (fun r hr => ?_)
  obtain ⟨e5, hr⟩ := hr
  rw [e5]
  rw [shA_1 e] at hr
  rcases hr with ⟨a, v1, v2⟩ | ⟨a, v⟩
  rotate_left
  · rw [a]
    exact hs_ite (fun _ => no (Or.inl v)) (fun z => absurd rfl z)
  rw [a]
  refine hs_ite (fun z => absurd z (by decide)) (fun _ => hs_bind (hr_isNumber L hNN (x1 := x3) ka i1) (fun r hr => ?_))
  obtain ⟨e5, hr⟩ := hr
  rw [e5]
  rw [shA_1 e] at hr
  rcases hr with ⟨a, u1, u2⟩ | ⟨a, v⟩
  rotate_left
  · rw [a]
    exact hs_ite (fun _ => no (Or.inr v)) (fun z => absurd rfl z)
  rw [a]
  refine hs_ite (fun z => absurd z (by decide)) (fun _ => ?_)
  unfold J_X12_between_36
  refine hr_C L ka ⟨fun z => by rcases z with z | z <;> rcases z with z | z <;> omega, fun z => absurd z (by decide)⟩ t0 J0 (fun nc _ => ?_)
  dsimp only
  unfold J_X12_between_70
  have t3 := te_addc (c := 1) (n := 1) rfl x3 (by omega) (by omega)
  have mb := rb_103 L I H
  have vM : (q_R δ (Ad ad 103) H).toInt = hM ad δ H := rfl
  rw [tH_e hx]
  refine hs_ite (fun c => ?_) (fun c => ?_)
  · have c1 := o_le c
    refine hs_bind (hr_place L hNN (x := x3 + 1) ka hx hH i1 S1) (fun q hq => ?_)
    obtain ⟨e1, p, hp, P⟩ := hq
    rw [e1]
    refine hs_bind (hr_place L hNN (x := x2) ka hx hH i1 S1) (fun q' hq => ?_)
    obtain ⟨e2, p', hp', P'⟩ := hq
    rw [eM, eR] at P P'
    have b1 : (p : Int) ≤ hM ad δ H := P.1
    have b2 : (p' : Int) ≤ hM ad δ H := P'.1
    have t4 := te_sub q.1 q'.1 (by omega) (by omega)
    rw [t3.1] at P
    exact hs_some ⟨e2, Or.inr ⟨c1, p, p', P, P', by show (q.1 - q'.1).toInt = _; omega⟩⟩
  · have c1 := o_nle c
    exact hs_some ⟨rfl, Or.inl ⟨by omega, rfl⟩⟩
theorem hr_of (L : Lay TLx ad h) {δ0 : dp} {N : Nat} (hNN : 10000000 ≤ N) {a0 : Nat} {x1 x2 : Int32} (ka : q_K h.1 a0 = 12) {δ : dp} (I : RI ad h.1 δ0 δ) (S : ∀ K, K < 4 → hsr ad δ K) : hs (D_X12_of_ N h.1 a0 x1 x2 δ) (fun r => OM (nH x1) (x2.toInt < 0 ∨ 3 < x2.toInt) (fun v => (x2.toInt = 3 ∧ v = hN ad δ (tH x1)) ∨ (x2.toInt ≠ 3 ∧ aTe (hM ad δ (tH x1)) (hR ad δ (tH x1)) x2.toInt v)) a0 r.1 r.2) := by
  have z3 : (3 : Int32).toInt = 3 := rfl
  have z0 : (0 : Int32).toInt = 0 := rfl
  have z1 : (1 : Int32).toInt = 1 := rfl
  have z2 : (2 : Int32).toInt = 2 := rfl
  obtain ⟨bm, om, _⟩ := gO_12_14 L ka
  obtain rfl := gS_12_14 L ka om
  obtain ⟨bt, ot, _⟩ := gO_12_17 L ka
  obtain rfl := gS_12_17 L ka ot
  unfold D_X12_of_
  have J0 : ∀ p : Int32 × dp, hs (J_X12_of__29 N h.1 a0 x1 x2 p.2) (fun r => r.2 = p.2) := fun p => hs_some rfl
  refine hr_H L hNN ka I J0 (fun b d1 H i1 t0 w e hH hx => ?_)
  dsimp only
  obtain ⟨eM, eR, eN, S1⟩ := hsr_1 w (S H hH)
  have tx := tnH hx
  refine hs_bind (hr_within L hNN (x0 := x2) (x1 := 0) (x2 := 3) i1) (fun r hr => ?_)
  obtain ⟨e5, hr⟩ := hr
  rw [e5]
  refine hr_C L ka (by rcases hr with ⟨a, b1, b2⟩ | ⟨a, b⟩ <;> rw [a]; exact ⟨fun z => by omega, fun z => absurd z (by decide)⟩; exact ⟨fun _ => rfl, fun _ => by omega⟩) t0 J0 (fun nc _ => ?_)
  dsimp only
  rw [tH_e hx]
  unfold J_X12_of__85
  have mb := rb_103 L i1 H
  have vM : (q_R d1 (Ad ad 103) H).toInt = hM ad δ H := eM
  refine hs_ite (fun c => ?_) (fun c => hs_ite (fun c' => ?_) (fun c' => hs_ite (fun c'' => ?_) (fun c'' => ?_)))
  · have c1 := o_eq c
    refine hs_at om (hs_gd (fun _ => hs_some ⟨rfl, Or.inr ⟨by omega, Or.inl ⟨by omega, ?_⟩⟩⟩))
    show (q_R d1 (Ad ad 103) x1.toNatClampNeg).toInt = _
    rw [tx]; exact vM
  · have c1 := o_eq c'
    refine hs_bind (hr_numberAt L hNN (x2 := 0) ka hx hH i1) (fun q hq => hs_some ⟨hq.1, Or.inr ⟨by omega, Or.inr (Or.inl ⟨by omega, ?_⟩)⟩⟩)
    rw [eM, eR] at hq
    exact hq.2
  · have c1 := o_eq c''
    refine hs_at om (hs_gd (fun _ => ?_))
    rw [tx]
    have t4 := te_subc (c := 1) (n := 1) rfl (q_R d1 (Ad ad 103) H) (by omega) (by omega)
    refine hs_bind (hr_numberAt L hNN (x2 := q_R d1 (Ad ad 103) H - 1) ka hx hH i1) (fun q hq => hs_some ⟨hq.1, Or.inr ⟨by omega, Or.inr (Or.inr ⟨by omega, by omega, ?_⟩)⟩⟩)
    rw [eM, eR, t4.1, vM] at hq
    exact hq.2
  · have c1 := o_ne c
    have c2 := o_ne c'
    have c3 := o_ne c''
    refine hs_at ot (hs_gd (fun _ => hs_some ⟨rfl, Or.inl ⟨by omega, ?_⟩⟩))
    show (q_R d1 (Ad ad 106) x1.toNatClampNeg).toInt = _
    rw [tx]; exact eN
end
end
section
/-! each call's step: frames -/
theorem G_L {v s : Bool} {ad : List Nat} {δ : dp} {X : Option ((Int32 ⊕ Nat) × dp)} (H : hs X (fun r => HG v s ad δ r.2)) {f : (Int32 ⊕ Nat) × dp → Option (Int32 × dp)} {o : Nat} (hf1 : ∀ v d, hs (f (.inl v, d)) (fun r => ∃ j, r.2 = s_J d o 0 j)) (hf2 : ∀ n d, hs (f (.inr n, d)) (fun r => r.2 = d)) : hs (X.bind f) (fun r => HG v s ad δ r.2) := by
  refine hs_bind H (fun r hr => ?_)
  obtain ⟨w, d⟩ := r
  cases w with
  | inl w =>
    refine hs_mono (hf1 w d) (fun r e => ?_)
    obtain ⟨j, e⟩ := e
    rw [e]; exact hr
  | inr n => exact hs_mono (hf2 n d) (fun r e => by rw [e]; exact hr)
theorem g_inr {n : Nat} {d : dp} {a b c : Option (Int32 × dp)} (h1 : hs a (fun r => r.2 = d)) (h2 : hs b (fun r => r.2 = d)) (h3 : hs c (fun r => r.2 = d)) : hs (if n = 0 then a else if n = 1 then b else c) (fun r => r.2 = d) := hs_ite (fun _ => h1) (fun _ => hs_ite (fun _ => h2) (fun _ => h3))
theorem rsk_q {ad : List Nat} {W : List (Nat × Nat)} {δ d : dp} (u : kp W δ d) (w : q_R d = q_R δ) (h0 : (12, 10) ∉ W ∧ (12, 18) ∉ W) : rsk ad δ d := ⟨fun k hk => by
  rcases hk with rfl | rfl
  · exact u 12 10 _ h0.1
  · exact u 12 18 _ h0.2, bak_k (by rw [w]) (by rw [w]), fun i _ _ => by rw [w]⟩
theorem gL_told {ad : List Nat} {h : hp} (L : Lay TLx ad h) {N : Nat} {x1 : Int32} (kx : q_K h.1 (Ad ad 0) = 11) {δ : dp} : hs (D_L_told N h.1 (Ad ad 0) x1 (Ad ad 127) δ) (fun r => HG true false ad δ r.2) := by
  unfold D_L_told
  exact G_L (hf_X11_told L (x1 := x1) kx) (fun v d => hs_gd (fun _ => hs_some ⟨_, rfl⟩)) (fun n d => g_inr (by first | exact hs_none | exact hs_some rfl) (by first | exact hs_none | exact hs_some rfl) (by first | exact hs_none | exact hs_some rfl))
theorem gL_has {ad : List Nat} {h : hp} (L : Lay TLx ad h) {N : Nat} {x1 x2 : Int32} (kx : q_K h.1 (Ad ad 0) = 11) {δ : dp} : hs (D_L_has N h.1 (Ad ad 0) x1 x2 (Ad ad 127) δ) (fun r => HG true false ad δ r.2) := by
  unfold D_L_has
  exact G_L (hf_X11_has L (x1 := x1) (x2 := x2) kx) (fun v d => hs_gd (fun _ => hs_some ⟨_, rfl⟩)) (fun n d => g_inr (by first | exact hs_none | exact hs_some rfl) (by first | exact hs_none | exact hs_some rfl) (by first | exact hs_none | exact hs_some rfl))
theorem gL_of_ {ad : List Nat} {h : hp} (L : Lay TLx ad h) {N : Nat} {x1 x2 : Int32} (kx : q_K h.1 (Ad ad 0) = 11) {δ : dp} : hs (D_L_of N h.1 (Ad ad 0) x1 x2 (Ad ad 127) δ) (fun r => HG true false ad δ r.2) := by
  unfold D_L_of
  exact G_L (hf_X11_of L (x1 := x1) (x2 := x2) kx) (fun v d => hs_gd (fun _ => hs_some ⟨_, rfl⟩)) (fun n d => g_inr (by first | exact hs_none | exact hs_some rfl) (by first | exact hs_none | exact hs_some rfl) (by first | exact hs_none | exact hs_some rfl))
theorem gL_next {ad : List Nat} {h : hp} (L : Lay TLx ad h) {N : Nat} {x1 x2 : Int32} (kx : q_K h.1 (Ad ad 0) = 11) {δ : dp} : hs (D_L_next N h.1 (Ad ad 0) x1 x2 (Ad ad 127) δ) (fun r => HG true false ad δ r.2) := by
  unfold D_L_next
  exact G_L (hf_X11_next L (x1 := x1) (x2 := x2) kx) (fun v d => hs_gd (fun _ => hs_some ⟨_, rfl⟩)) (fun n d => g_inr (by first | exact hs_none | exact hs_some rfl) (by first | exact hs_none | exact hs_some rfl) (by first | exact hs_none | exact hs_some rfl))
theorem gL_before {ad : List Nat} {h : hp} (L : Lay TLx ad h) {N : Nat} {x1 x2 : Int32} (kx : q_K h.1 (Ad ad 0) = 11) {δ : dp} : hs (D_L_before N h.1 (Ad ad 0) x1 x2 (Ad ad 127) δ) (fun r => HG true false ad δ r.2) := by
  unfold D_L_before
  exact G_L (hf_X11_before L (x1 := x1) (x2 := x2) kx) (fun v d => hs_gd (fun _ => hs_some ⟨_, rfl⟩)) (fun n d => g_inr (by first | exact hs_none | exact hs_some rfl) (by first | exact hs_none | exact hs_some rfl) (by first | exact hs_none | exact hs_some rfl))
theorem gL_kth {ad : List Nat} {h : hp} (L : Lay TLx ad h) {N : Nat} {x1 x2 : Int32} (kx : q_K h.1 (Ad ad 0) = 11) {δ : dp} : hs (D_L_kth N h.1 (Ad ad 0) x1 x2 (Ad ad 127) δ) (fun r => HG true false ad δ r.2) := by
  unfold D_L_kth
  exact G_L (hf_X11_kth L (x1 := x1) (x2 := x2) kx) (fun v d => hs_gd (fun _ => hs_some ⟨_, rfl⟩)) (fun n d => g_inr (by first | exact hs_none | exact hs_some rfl) (by first | exact hs_none | exact hs_some rfl) (by first | exact hs_none | exact hs_some rfl))
theorem gL_between {ad : List Nat} {h : hp} (L : Lay TLx ad h) {N : Nat} {x1 x2 x3 : Int32} (kx : q_K h.1 (Ad ad 0) = 11) {δ : dp} : hs (D_L_between N h.1 (Ad ad 0) x1 x2 x3 (Ad ad 127) δ) (fun r => HG true false ad δ r.2) := by
  unfold D_L_between
  exact G_L (hf_X11_between L (x1 := x1) (x2 := x2) (x3 := x3) kx) (fun v d => hs_gd (fun _ => hs_some ⟨_, rfl⟩)) (fun n d => g_inr (by first | exact hs_none | exact hs_some rfl) (by first | exact hs_none | exact hs_some rfl) (by first | exact hs_none | exact hs_some rfl))
theorem gL_touches {ad : List Nat} {h : hp} (L : Lay TLx ad h) {N : Nat} {x1 x2 x3 x4 : Int32} (kx : q_K h.1 (Ad ad 0) = 11) {δ : dp} : hs (D_L_touches N h.1 (Ad ad 0) x1 x2 x3 x4 (Ad ad 127) δ) (fun r => HG true false ad δ r.2) := by
  unfold D_L_touches
  exact G_L (hf_X11_touches L (x1 := x1) (x2 := x2) (x3 := x3) (x4 := x4) kx) (fun v d => hs_gd (fun _ => hs_some ⟨_, rfl⟩)) (fun n d => g_inr (by first | exact hs_none | exact hs_some rfl) (by first | exact hs_none | exact hs_some rfl) (by first | exact hs_none | exact hs_some rfl))
theorem gL_size {ad : List Nat} {h : hp} (L : Lay TLx ad h) {N : Nat} {x1 x2 : Int32} (kx : q_K h.1 (Ad ad 0) = 11) {δ : dp} : hs (D_L_size N h.1 (Ad ad 0) x1 x2 (Ad ad 127) δ) (fun r => HG true false ad δ r.2) := by
  unfold D_L_size
  exact G_L (hf_X11_size L (x1 := x1) (x2 := x2) kx) (fun v d => hs_gd (fun _ => hs_some ⟨_, rfl⟩)) (fun n d => g_inr (by first | exact hs_none | exact hs_some rfl) (by first | exact hs_none | exact hs_some rfl) (by first | exact hs_none | exact hs_some rfl))
theorem gL_bound {ad : List Nat} {h : hp} (L : Lay TLx ad h) {N : Nat} {x1 : Int32} (kx : q_K h.1 (Ad ad 0) = 11) {δ : dp} : hs (D_L_bound N h.1 (Ad ad 0) x1 (Ad ad 127) δ) (fun r => HG true false ad δ r.2) := by
  unfold D_L_bound
  exact G_L (hf_X11_bound L (x1 := x1) kx) (fun v d => hs_gd (fun _ => hs_some ⟨_, rfl⟩)) (fun n d => g_inr (by first | exact hs_none | exact hs_some rfl) (by first | exact hs_none | exact hs_some rfl) (by first | exact hs_none | exact hs_some rfl))
theorem gL_worst {ad : List Nat} {h : hp} (L : Lay TLx ad h) {N : Nat} {x1 x2 x3 : Int32} (kx : q_K h.1 (Ad ad 0) = 11) {δ : dp} : hs (D_L_worst N h.1 (Ad ad 0) x1 x2 x3 (Ad ad 127) δ) (fun r => HG true false ad δ r.2) := by
  unfold D_L_worst
  exact G_L (hf_X11_worst L (x1 := x1) (x2 := x2) (x3 := x3) kx) (fun v d => hs_gd (fun _ => hs_some ⟨_, rfl⟩)) (fun n d => g_inr (by first | exact hs_none | exact hs_some rfl) (by first | exact hs_none | exact hs_some rfl) (by first | exact hs_none | exact hs_some rfl))
theorem gL_bad {ad : List Nat} {h : hp} (L : Lay TLx ad h) {N : Nat} {x1 x2 x3 : Int32} (kx : q_K h.1 (Ad ad 0) = 11) {δ : dp} : hs (D_L_bad N h.1 (Ad ad 0) x1 x2 x3 (Ad ad 127) δ) (fun r => HG true false ad δ r.2) := by
  unfold D_L_bad
  exact G_L (hf_X11_bad L (x1 := x1) (x2 := x2) (x3 := x3) kx) (fun v d => hs_gd (fun _ => hs_some ⟨_, rfl⟩)) (fun n d => g_inr (by first | exact hs_none | exact hs_some rfl) (by first | exact hs_none | exact hs_some rfl) (by first | exact hs_none | exact hs_some rfl))
theorem gL_since {ad : List Nat} {h : hp} (L : Lay TLx ad h) {N : Nat} {x1 x2 x3 : Int32} (kx : q_K h.1 (Ad ad 0) = 11) {δ : dp} : hs (D_L_since N h.1 (Ad ad 0) x1 x2 x3 (Ad ad 127) δ) (fun r => HG true false ad δ r.2) := by
  unfold D_L_since
  exact G_L (hf_X11_since L (x1 := x1) (x2 := x2) (x3 := x3) kx) (fun v d => hs_gd (fun _ => hs_some ⟨_, rfl⟩)) (fun n d => g_inr (by first | exact hs_none | exact hs_some rfl) (by first | exact hs_none | exact hs_some rfl) (by first | exact hs_none | exact hs_some rfl))
theorem gL_reached {ad : List Nat} {h : hp} (L : Lay TLx ad h) {N : Nat} {x1 : Int32} (kx : q_K h.1 (Ad ad 0) = 11) {δ : dp} : hs (D_L_reached N h.1 (Ad ad 0) x1 (Ad ad 127) δ) (fun r => HG true false ad δ r.2) := by
  unfold D_L_reached
  exact G_L (hf_X11_reached L (x1 := x1) kx) (fun v d => hs_gd (fun _ => hs_some ⟨_, rfl⟩)) (fun n d => g_inr (by first | exact hs_none | exact hs_some rfl) (by first | exact hs_none | exact hs_some rfl) (by first | exact hs_none | exact hs_some rfl))
theorem gL_row {ad : List Nat} {h : hp} (L : Lay TLx ad h) {N : Nat} {x1 : Int32} (kx : q_K h.1 (Ad ad 0) = 11) {δ : dp} : hs (D_L_row N h.1 (Ad ad 0) x1 (Ad ad 127) δ) (fun r => HG true false ad δ r.2) := by
  unfold D_L_row
  exact G_L (hf_X11_row L (x1 := x1) kx) (fun v d => hs_gd (fun _ => hs_some ⟨_, rfl⟩)) (fun n d => g_inr (by first | exact hs_none | exact hs_some rfl) (by first | exact hs_none | exact hs_some rfl) (by first | exact hs_none | exact hs_some rfl))
theorem gL_rowCall {ad : List Nat} {h : hp} (L : Lay TLx ad h) {N : Nat} {x1 x2 : Int32} (kx : q_K h.1 (Ad ad 0) = 11) {δ : dp} : hs (D_L_rowCall N h.1 (Ad ad 0) x1 x2 (Ad ad 127) δ) (fun r => HG true false ad δ r.2) := by
  unfold D_L_rowCall
  exact G_L (hf_X11_rowCall L (x1 := x1) (x2 := x2) kx) (fun v d => hs_gd (fun _ => hs_some ⟨_, rfl⟩)) (fun n d => g_inr (by first | exact hs_none | exact hs_some rfl) (by first | exact hs_none | exact hs_some rfl) (by first | exact hs_none | exact hs_some rfl))
theorem gL_gap {ad : List Nat} {h : hp} (L : Lay TLx ad h) {N : Nat} {x1 x2 : Int32} (kx : q_K h.1 (Ad ad 0) = 11) {δ : dp} : hs (D_L_gap N h.1 (Ad ad 0) x1 x2 (Ad ad 127) δ) (fun r => HG true false ad δ r.2) := by
  unfold D_L_gap
  exact G_L (hf_X11_gap L (x1 := x1) (x2 := x2) kx) (fun v d => hs_gd (fun _ => hs_some ⟨_, rfl⟩)) (fun n d => g_inr (by first | exact hs_none | exact hs_some rfl) (by first | exact hs_none | exact hs_some rfl) (by first | exact hs_none | exact hs_some rfl))
theorem gL_was {ad : List Nat} {h : hp} (L : Lay TLx ad h) {N : Nat} {x1 x2 x3 : Int32} (kx : q_K h.1 (Ad ad 0) = 11) {δ : dp} : hs (D_L_was N h.1 (Ad ad 0) x1 x2 x3 (Ad ad 127) δ) (fun r => HG true false ad δ r.2) := by
  unfold D_L_was
  exact G_L (hf_X11_was L (x1 := x1) (x2 := x2) (x3 := x3) kx) (fun v d => hs_gd (fun _ => hs_some ⟨_, rfl⟩)) (fun n d => g_inr (by first | exact hs_none | exact hs_some rfl) (by first | exact hs_none | exact hs_some rfl) (by first | exact hs_none | exact hs_some rfl))
theorem gL_asked {ad : List Nat} {h : hp} (L : Lay TLx ad h) {N : Nat} {x1 x2 x3 x4 : Int32} (kx : q_K h.1 (Ad ad 0) = 11) {δ : dp} : hs (D_L_asked N h.1 (Ad ad 0) x1 x2 x3 x4 (Ad ad 127) δ) (fun r => HG true false ad δ r.2) := by
  unfold D_L_asked
  exact G_L (hf_X11_asked L (x1 := x1) (x2 := x2) (x3 := x3) (x4 := x4) kx) (fun v d => hs_gd (fun _ => hs_some ⟨_, rfl⟩)) (fun n d => g_inr (by first | exact hs_none | exact hs_some rfl) (by first | exact hs_none | exact hs_some rfl) (by first | exact hs_none | exact hs_some rfl))
theorem gL_room {ad : List Nat} {h : hp} (L : Lay TLx ad h) {N : Nat} {x1 x2 : Int32} (kx : q_K h.1 (Ad ad 0) = 11) {δ : dp} : hs (D_L_room N h.1 (Ad ad 0) x1 x2 (Ad ad 127) δ) (fun r => HG true false ad δ r.2) := by
  unfold D_L_room
  exact G_L (hf_X11_room L (x1 := x1) (x2 := x2) kx) (fun v d => hs_gd (fun _ => hs_some ⟨_, rfl⟩)) (fun n d => g_inr (by first | exact hs_none | exact hs_some rfl) (by first | exact hs_none | exact hs_some rfl) (by first | exact hs_none | exact hs_some rfl))
theorem gL_steals {ad : List Nat} {h : hp} (L : Lay TLx ad h) {N : Nat} {x1 x2 x3 x4 : Int32} (kx : q_K h.1 (Ad ad 0) = 11) {δ : dp} : hs (D_L_steals N h.1 (Ad ad 0) x1 x2 x3 x4 (Ad ad 127) δ) (fun r => HG false false ad δ r.2) := by
  unfold D_L_steals
  exact G_L (hf_X11_steals L (x1 := x1) (x2 := x2) (x3 := x3) (x4 := x4) kx) (fun v d => hs_gd (fun _ => hs_some ⟨_, rfl⟩)) (fun n d => g_inr (by first | exact hs_none | exact hs_some rfl) (by first | exact hs_none | exact hs_some rfl) (by first | exact hs_none | exact hs_some rfl))
theorem gL_seeds {ad : List Nat} {h : hp} (L : Lay TLx ad h) {N : Nat} {x1 x2 x3 x4 x5 : Int32} (kx : q_K h.1 (Ad ad 0) = 11) {δ : dp} : hs (D_L_seeds N h.1 (Ad ad 0) x1 x2 x3 x4 x5 (Ad ad 127) δ) (fun r => HG false false ad δ r.2) := by
  unfold D_L_seeds
  exact G_L (hf_X11_seeds L (x1 := x1) (x2 := x2) (x3 := x3) (x4 := x4) (x5 := x5) kx) (fun v d => hs_gd (fun _ => hs_some ⟨_, rfl⟩)) (fun n d => g_inr (by first | exact hs_none | exact hs_some rfl) (by first | exact hs_none | exact hs_some rfl) (by first | exact hs_none | exact hs_some rfl))
theorem gL_runs {ad : List Nat} {h : hp} (L : Lay TLx ad h) {N : Nat} {x1 x2 : Int32} (kx : q_K h.1 (Ad ad 0) = 11) {δ : dp} : hs (D_L_runs N h.1 (Ad ad 0) x1 x2 (Ad ad 127) δ) (fun r => HG true false ad δ r.2) := by
  unfold D_L_runs
  exact G_L (hf_X11_runs L (x1 := x1) (x2 := x2) kx) (fun v d => hs_gd (fun _ => hs_some ⟨_, rfl⟩)) (fun n d => g_inr (by first | exact hs_none | exact hs_some rfl) (by first | exact hs_none | exact hs_some rfl) (by first | exact hs_none | exact hs_some rfl))
theorem gL_thief {ad : List Nat} {h : hp} (L : Lay TLx ad h) {N : Nat} {x1 : Int32} (kx : q_K h.1 (Ad ad 0) = 11) {δ : dp} : hs (D_L_thief N h.1 (Ad ad 0) x1 (Ad ad 127) δ) (fun r => HG false false ad δ r.2) := by
  unfold D_L_thief
  exact G_L (hf_X11_thief L (x1 := x1) kx) (fun v d => hs_gd (fun _ => hs_some ⟨_, rfl⟩)) (fun n d => g_inr (by first | exact hs_none | exact hs_some rfl) (by first | exact hs_none | exact hs_some rfl) (by first | exact hs_none | exact hs_some rfl))
theorem rs_told {ad : List Nat} {h : hp} (L : Lay TLx ad h) {N : Nat} (hN : 10000000 ≤ N) (km : q_K h.1 (Ad ad 99) = 12) {x1 : Int32} {δ : dp} (I : RI ad h.1 δ δ) (O : OI ad (Ad ad 99) δ) : hs (D_X12_told N h.1 (Ad ad 99) x1 δ) (fun r => rsk ad δ r.2) := hs_mono (ok_h (k_X12_told L hN (x1 := x1) km I)) (fun r hr => rsk_k hr.2.1 hr.2.2.2 (by decide) (by decide) (bak_k (hr.2.2.2 102 (by decide) (by decide) (by decide)) (hr.2.2.2 103 (by decide) (by decide) (by decide))))
theorem rs_has {ad : List Nat} {h : hp} (L : Lay TLx ad h) {N : Nat} (hN : 10000000 ≤ N) (km : q_K h.1 (Ad ad 99) = 12) {x1 x2 : Int32} {δ : dp} (I : RI ad h.1 δ δ) (O : OI ad (Ad ad 99) δ) : hs (D_X12_has N h.1 (Ad ad 99) x1 x2 δ) (fun r => rsk ad δ r.2) := hs_mono (ok_h (k_X12_has L hN (x1 := x1) (x2 := x2) km I)) (fun r hr => rsk_k hr.2.1 hr.2.2.2 (by decide) (by decide) (bak_k (hr.2.2.2 102 (by decide) (by decide) (by decide)) (hr.2.2.2 103 (by decide) (by decide) (by decide))))
theorem rs_of_ {ad : List Nat} {h : hp} (L : Lay TLx ad h) {N : Nat} (hN : 10000000 ≤ N) (km : q_K h.1 (Ad ad 99) = 12) {x1 x2 : Int32} {δ : dp} (I : RI ad h.1 δ δ) (O : OI ad (Ad ad 99) δ) : hs (D_X12_of_ N h.1 (Ad ad 99) x1 x2 δ) (fun r => rsk ad δ r.2) := hs_mono (ok_h (k_X12_of_ L hN (x1 := x1) (x2 := x2) km I)) (fun r hr => rsk_k hr.2.1 hr.2.2.2 (by decide) (by decide) (bak_k (hr.2.2.2 102 (by decide) (by decide) (by decide)) (hr.2.2.2 103 (by decide) (by decide) (by decide))))
theorem rs_next {ad : List Nat} {h : hp} (L : Lay TLx ad h) {N : Nat} (hN : 10000000 ≤ N) (km : q_K h.1 (Ad ad 99) = 12) {x1 x2 : Int32} {δ : dp} (I : RI ad h.1 δ δ) (O : OI ad (Ad ad 99) δ) : hs (D_X12_next N h.1 (Ad ad 99) x1 x2 δ) (fun r => rsk ad δ r.2) := hs_mono (ok_h (k_X12_next L hN (x1 := x1) (x2 := x2) km I)) (fun r hr => rsk_k hr.2.1 hr.2.2.2 (by decide) (by decide) (bak_k (hr.2.2.2 102 (by decide) (by decide) (by decide)) (hr.2.2.2 103 (by decide) (by decide) (by decide))))
theorem rs_before {ad : List Nat} {h : hp} (L : Lay TLx ad h) {N : Nat} (hN : 10000000 ≤ N) (km : q_K h.1 (Ad ad 99) = 12) {x1 x2 : Int32} {δ : dp} (I : RI ad h.1 δ δ) (O : OI ad (Ad ad 99) δ) : hs (D_X12_before N h.1 (Ad ad 99) x1 x2 δ) (fun r => rsk ad δ r.2) := hs_mono (ok_h (k_X12_before L hN (x1 := x1) (x2 := x2) km I)) (fun r hr => rsk_k hr.2.1 hr.2.2.2 (by decide) (by decide) (bak_k (hr.2.2.2 102 (by decide) (by decide) (by decide)) (hr.2.2.2 103 (by decide) (by decide) (by decide))))
theorem rs_kth {ad : List Nat} {h : hp} (L : Lay TLx ad h) {N : Nat} (hN : 10000000 ≤ N) (km : q_K h.1 (Ad ad 99) = 12) {x1 x2 : Int32} {δ : dp} (I : RI ad h.1 δ δ) (O : OI ad (Ad ad 99) δ) : hs (D_X12_kth N h.1 (Ad ad 99) x1 x2 δ) (fun r => rsk ad δ r.2) := hs_mono (ok_h (k_X12_kth L hN (x1 := x1) (x2 := x2) km I)) (fun r hr => rsk_k hr.2.1 hr.2.2.2 (by decide) (by decide) (bak_k (hr.2.2.2 102 (by decide) (by decide) (by decide)) (hr.2.2.2 103 (by decide) (by decide) (by decide))))
theorem rs_between {ad : List Nat} {h : hp} (L : Lay TLx ad h) {N : Nat} (hN : 10000000 ≤ N) (km : q_K h.1 (Ad ad 99) = 12) {x1 x2 x3 : Int32} {δ : dp} (I : RI ad h.1 δ δ) (O : OI ad (Ad ad 99) δ) : hs (D_X12_between N h.1 (Ad ad 99) x1 x2 x3 δ) (fun r => rsk ad δ r.2) := hs_mono (ok_h (k_X12_between L hN (x1 := x1) (x2 := x2) (x3 := x3) km I)) (fun r hr => rsk_k hr.2.1 hr.2.2.2 (by decide) (by decide) (bak_k (hr.2.2.2 102 (by decide) (by decide) (by decide)) (hr.2.2.2 103 (by decide) (by decide) (by decide))))
theorem rs_touches {ad : List Nat} {h : hp} (L : Lay TLx ad h) {N : Nat} (hN : 10000000 ≤ N) (km : q_K h.1 (Ad ad 99) = 12) {x1 x2 x3 x4 : Int32} {δ : dp} (I : RI ad h.1 δ δ) (O : OI ad (Ad ad 99) δ) : hs (D_X12_touches N h.1 (Ad ad 99) x1 x2 x3 x4 δ) (fun r => rsk ad δ r.2) := hs_mono (ok_h (k_X12_touches L hN (x1 := x1) (x2 := x2) (x3 := x3) (x4 := x4) km I)) (fun r hr => rsk_k hr.2.1 hr.2.2.2 (by decide) (by decide) (bak_k (hr.2.2.2 102 (by decide) (by decide) (by decide)) (hr.2.2.2 103 (by decide) (by decide) (by decide))))
theorem rs_size {ad : List Nat} {h : hp} (L : Lay TLx ad h) {N : Nat} (hN : 10000000 ≤ N) (km : q_K h.1 (Ad ad 99) = 12) {x1 x2 : Int32} {δ : dp} (I : RI ad h.1 δ δ) (O : OI ad (Ad ad 99) δ) : hs (D_X12_size N h.1 (Ad ad 99) x1 x2 δ) (fun r => rsk ad δ r.2) := hs_mono (ok_h (k_X12_size L hN (x1 := x1) (x2 := x2) km I)) (fun r hr => rsk_k hr.2.1 hr.2.2.2 (by decide) (by decide) (bak_k (hr.2.2.2 102 (by decide) (by decide) (by decide)) (hr.2.2.2 103 (by decide) (by decide) (by decide))))
theorem rs_bound {ad : List Nat} {h : hp} (L : Lay TLx ad h) {N : Nat} (hN : 10000000 ≤ N) (km : q_K h.1 (Ad ad 99) = 12) {x1 : Int32} {δ : dp} (I : RI ad h.1 δ δ) (O : OI ad (Ad ad 99) δ) : hs (D_X12_bound N h.1 (Ad ad 99) x1 δ) (fun r => rsk ad δ r.2) := hs_mono (ok_h (k_X12_bound L hN (x1 := x1) km I)) (fun r hr => rsk_k hr.2.1 hr.2.2.2 (by decide) (by decide) (bak_k (hr.2.2.2 102 (by decide) (by decide) (by decide)) (hr.2.2.2 103 (by decide) (by decide) (by decide))))
theorem rs_worst {ad : List Nat} {h : hp} (L : Lay TLx ad h) {N : Nat} (hN : 10000000 ≤ N) (km : q_K h.1 (Ad ad 99) = 12) {x1 x2 x3 : Int32} {δ : dp} (I : RI ad h.1 δ δ) (O : OI ad (Ad ad 99) δ) : hs (D_X12_worst N h.1 (Ad ad 99) x1 x2 x3 δ) (fun r => rsk ad δ r.2) := hs_mono (ok_h (k_X12_worst L hN (x1 := x1) (x2 := x2) (x3 := x3) km I)) (fun r hr => rsk_k hr.2.1 hr.2.2.2 (by decide) (by decide) (bak_k (hr.2.2.2 102 (by decide) (by decide) (by decide)) (hr.2.2.2 103 (by decide) (by decide) (by decide))))
theorem rs_bad {ad : List Nat} {h : hp} (L : Lay TLx ad h) {N : Nat} (hN : 10000000 ≤ N) (km : q_K h.1 (Ad ad 99) = 12) {x1 x2 x3 : Int32} {δ : dp} (I : RI ad h.1 δ δ) (O : OI ad (Ad ad 99) δ) : hs (D_X12_bad N h.1 (Ad ad 99) x1 x2 x3 δ) (fun r => rsk ad δ r.2) := hs_mono (ok_h (k_X12_bad L hN (x1 := x1) (x2 := x2) (x3 := x3) km I)) (fun r hr => rsk_k hr.2.1 hr.2.2.2 (by decide) (by decide) (bak_k (hr.2.2.2 102 (by decide) (by decide) (by decide)) (hr.2.2.2 103 (by decide) (by decide) (by decide))))
theorem rs_since {ad : List Nat} {h : hp} (L : Lay TLx ad h) {N : Nat} (hN : 10000000 ≤ N) (km : q_K h.1 (Ad ad 99) = 12) {x1 x2 x3 : Int32} {δ : dp} (I : RI ad h.1 δ δ) (O : OI ad (Ad ad 99) δ) : hs (D_X12_since N h.1 (Ad ad 99) x1 x2 x3 δ) (fun r => rsk ad δ r.2) := hs_mono (ok_h (k_X12_since L hN (x1 := x1) (x2 := x2) (x3 := x3) km I)) (fun r hr => rsk_k hr.2.1 hr.2.2.2 (by decide) (by decide) (bak_k (hr.2.2.2 102 (by decide) (by decide) (by decide)) (hr.2.2.2 103 (by decide) (by decide) (by decide))))
theorem rs_reached {ad : List Nat} {h : hp} (L : Lay TLx ad h) {N : Nat} (hN : 10000000 ≤ N) (km : q_K h.1 (Ad ad 99) = 12) {x1 : Int32} {δ : dp} (I : RI ad h.1 δ δ) (O : OI ad (Ad ad 99) δ) : hs (D_X12_reached N h.1 (Ad ad 99) x1 δ) (fun r => rsk ad δ r.2) := hs_mono (ok_h (k_X12_reached L hN (x1 := x1) km I)) (fun r hr => rsk_k hr.2.1 hr.2.2.2 (by decide) (by decide) (bak_k (hr.2.2.2 102 (by decide) (by decide) (by decide)) (hr.2.2.2 103 (by decide) (by decide) (by decide))))
theorem rs_row {ad : List Nat} {h : hp} (L : Lay TLx ad h) {N : Nat} (hN : 10000000 ≤ N) (km : q_K h.1 (Ad ad 99) = 12) {x1 : Int32} {δ : dp} (I : RI ad h.1 δ δ) (O : OI ad (Ad ad 99) δ) : hs (D_X12_row N h.1 (Ad ad 99) x1 δ) (fun r => rsk ad δ r.2) := hs_mono (ok_h (k_X12_row L hN (x1 := x1) km I)) (fun r hr => rsk_k hr.2.1 hr.2.2.2 (by decide) (by decide) (bak_k (hr.2.2.2 102 (by decide) (by decide) (by decide)) (hr.2.2.2 103 (by decide) (by decide) (by decide))))
theorem rs_rowCall {ad : List Nat} {h : hp} (L : Lay TLx ad h) {N : Nat} (hN : 10000000 ≤ N) (km : q_K h.1 (Ad ad 99) = 12) {x1 x2 : Int32} {δ : dp} (I : RI ad h.1 δ δ) (O : OI ad (Ad ad 99) δ) : hs (D_X12_rowCall N h.1 (Ad ad 99) x1 x2 δ) (fun r => rsk ad δ r.2) := hs_mono (ok_h (k_X12_rowCall L hN (x1 := x1) (x2 := x2) km I)) (fun r hr => rsk_k hr.2.1 hr.2.2.2 (by decide) (by decide) (bak_k (hr.2.2.2 102 (by decide) (by decide) (by decide)) (hr.2.2.2 103 (by decide) (by decide) (by decide))))
theorem rs_gap {ad : List Nat} {h : hp} (L : Lay TLx ad h) {N : Nat} (hN : 10000000 ≤ N) (km : q_K h.1 (Ad ad 99) = 12) {x1 x2 : Int32} {δ : dp} (I : RI ad h.1 δ δ) (O : OI ad (Ad ad 99) δ) : hs (D_X12_gap N h.1 (Ad ad 99) x1 x2 δ) (fun r => rsk ad δ r.2) := hs_mono (ok_h (k_X12_gap L hN (x1 := x1) (x2 := x2) km I)) (fun r hr => rsk_k hr.2.1 hr.2.2.2 (by decide) (by decide) (bak_k (hr.2.2.2 102 (by decide) (by decide) (by decide)) (hr.2.2.2 103 (by decide) (by decide) (by decide))))
theorem rs_fault {ad : List Nat} {h : hp} (L : Lay TLx ad h) {N : Nat} (hN : 10000000 ≤ N) (km : q_K h.1 (Ad ad 99) = 12) {δ : dp} (I : RI ad h.1 δ δ) (O : OI ad (Ad ad 99) δ) : hs (D_X12_fault N h.1 (Ad ad 99)  δ) (fun r => rsk ad δ r.2) := hs_mono (ok_h (k_X12_fault L hN  km I)) (fun r hr => rsk_q hr.2.1 hr.2.2.2.1 (by decide))
theorem rs_status {ad : List Nat} {h : hp} (L : Lay TLx ad h) {N : Nat} (hN : 10000000 ≤ N) (km : q_K h.1 (Ad ad 99) = 12) {x1 : Int32} {δ : dp} (I : RI ad h.1 δ δ) (O : OI ad (Ad ad 99) δ) : hs (D_X12_status N h.1 (Ad ad 99) x1 δ) (fun r => rsk ad δ r.2) := hs_mono (ok_h (k_X12_status L hN (x1 := x1) km I)) (fun r hr => rsk_q hr.2.1 hr.2.2.2.1 (by decide))
theorem rs_count {ad : List Nat} {h : hp} (L : Lay TLx ad h) {N : Nat} (hN : 10000000 ≤ N) (km : q_K h.1 (Ad ad 99) = 12) {x1 : Int32} {δ : dp} (I : RI ad h.1 δ δ) (O : OI ad (Ad ad 99) δ) : hs (D_X12_count N h.1 (Ad ad 99) x1 δ) (fun r => rsk ad δ r.2) := hs_mono (ok_h (k_X12_count L hN (x1 := x1) km I)) (fun r hr => rsk_q hr.2.1 hr.2.2.2.1 (by decide))
theorem rs_was {ad : List Nat} {h : hp} (L : Lay TLx ad h) {N : Nat} (hN : 10000000 ≤ N) (km : q_K h.1 (Ad ad 99) = 12) {x1 x2 x3 : Int32} {δ : dp} (I : RI ad h.1 δ δ) (O : OI ad (Ad ad 99) δ) : hs (D_X12_was N h.1 (Ad ad 99) x1 x2 x3 δ) (fun r => rsk ad δ r.2) := hs_mono (ok_h (ok_and (k_X12_was L hN (x1 := x1) (x2 := x2) (x3 := x3) km I) (f_was L hN (x1 := x1) (x2 := x2) (x3 := x3) km I (fun K hK => O.h hK)))) (fun r hr => rsk_k hr.1.2.1 hr.1.2.2.2 (by decide) (by decide) hr.2)
theorem rs_asked {ad : List Nat} {h : hp} (L : Lay TLx ad h) {N : Nat} (hN : 10000000 ≤ N) (km : q_K h.1 (Ad ad 99) = 12) {x1 x2 x3 x4 : Int32} {δ : dp} (I : RI ad h.1 δ δ) (O : OI ad (Ad ad 99) δ) : hs (D_X12_asked N h.1 (Ad ad 99) x1 x2 x3 x4 δ) (fun r => rsk ad δ r.2) := hs_mono (ok_h (ok_and (k_X12_asked L hN (x1 := x1) (x2 := x2) (x3 := x3) (x4 := x4) km I) (f_asked L hN (x1 := x1) (x2 := x2) (x3 := x3) (x4 := x4) km I (fun K hK => O.h hK)))) (fun r hr => rsk_k hr.1.2.1 hr.1.2.2.2 (by decide) (by decide) hr.2)
theorem rs_room {ad : List Nat} {h : hp} (L : Lay TLx ad h) {N : Nat} (hN : 10000000 ≤ N) (km : q_K h.1 (Ad ad 99) = 12) {x1 x2 : Int32} {δ : dp} (I : RI ad h.1 δ δ) (O : OI ad (Ad ad 99) δ) : hs (D_X12_room N h.1 (Ad ad 99) x1 x2 δ) (fun r => rsk ad δ r.2) := hs_mono (ok_h (ok_and (k_X12_room L hN (x1 := x1) (x2 := x2) km I) (f_room L hN (x1 := x1) (x2 := x2) km I (fun K hK => O.h hK)))) (fun r hr => rsk_k hr.1.2.1 hr.1.2.2.2 (by decide) (by decide) hr.2)
theorem rs_steals {ad : List Nat} {h : hp} (L : Lay TLx ad h) {N : Nat} (hN : 10000000 ≤ N) (km : q_K h.1 (Ad ad 99) = 12) {x1 x2 x3 x4 : Int32} {δ : dp} (I : RI ad h.1 δ δ) (O : OI ad (Ad ad 99) δ) : hs (D_X12_steals N h.1 (Ad ad 99) x1 x2 x3 x4 δ) (fun r => rsk ad δ r.2) := hs_mono (ok_h (f_steals L hN (x1 := x1) (x2 := x2) (x3 := x3) (x4 := x4) km I O.2.1 (fun K hK => O.h hK))) (fun r hr => rsk_k hr.2.1 hr.2.2.1 (by decide) (by decide) hr.2.2.2)
theorem rs_seeds {ad : List Nat} {h : hp} (L : Lay TLx ad h) {N : Nat} (hN : 10000000 ≤ N) (km : q_K h.1 (Ad ad 99) = 12) {x1 x2 x3 x4 x5 : Int32} {δ : dp} (I : RI ad h.1 δ δ) (O : OI ad (Ad ad 99) δ) : hs (D_X12_seeds N h.1 (Ad ad 99) x1 x2 x3 x4 x5 δ) (fun r => rsk ad δ r.2) := hs_mono (ok_h (f_seeds L hN (x1 := x1) (x2 := x2) (x3 := x3) (x4 := x4) (x5 := x5) km I O.2.1 (fun K hK => O.h hK))) (fun r hr => rsk_k hr.2.1 hr.2.2.1 (by decide) (by decide) hr.2.2.2)
theorem n_told {ad : List Nat} {h : hp} (L : Lay TLx ad h) {N : Nat} (hN : 10000000 ≤ N) (kx : q_K h.1 (Ad ad 0) = 11) (km : q_K h.1 (Ad ad 99) = 12) (no : q_N h.1 (Ad ad 127) = 1) {x1 : Int32} {δ : dp} (V : IY ad h.1 δ) : ∃ d, (∃ (kk b : Int32) (δ1 : dp), D_L_told N h.1 (Ad ad 0) x1 (Ad ad 127) δ = some (kk, δ1) ∧ D_X12_told N h.1 (Ad ad 99) x1 δ1 = some (b, d)) ∧ IY ad h.1 d := stepN (f := fun δ1 => D_X12_told N h.1 (Ad ad 99) x1 δ1) km V (k_L_told L hN (x1 := x1) kx no V.1.1.1) (gL_told L (x1 := x1) kx) (fun δ1 I1 O1 => o_told L hN (x1 := x1) km I1 O1) (fun δ1 I1 O1 => rs_told L hN km (x1 := x1) I1 O1)
theorem n_has {ad : List Nat} {h : hp} (L : Lay TLx ad h) {N : Nat} (hN : 10000000 ≤ N) (kx : q_K h.1 (Ad ad 0) = 11) (km : q_K h.1 (Ad ad 99) = 12) (no : q_N h.1 (Ad ad 127) = 1) {x1 x2 : Int32} {δ : dp} (V : IY ad h.1 δ) : ∃ d, (∃ (kk b : Int32) (δ1 : dp), D_L_has N h.1 (Ad ad 0) x1 x2 (Ad ad 127) δ = some (kk, δ1) ∧ D_X12_has N h.1 (Ad ad 99) x1 x2 δ1 = some (b, d)) ∧ IY ad h.1 d := stepN (f := fun δ1 => D_X12_has N h.1 (Ad ad 99) x1 x2 δ1) km V (k_L_has L hN (x1 := x1) (x2 := x2) kx no V.1.1.1) (gL_has L (x1 := x1) (x2 := x2) kx) (fun δ1 I1 O1 => o_has L hN (x1 := x1) (x2 := x2) km I1 O1) (fun δ1 I1 O1 => rs_has L hN km (x1 := x1) (x2 := x2) I1 O1)
theorem n_of_ {ad : List Nat} {h : hp} (L : Lay TLx ad h) {N : Nat} (hN : 10000000 ≤ N) (kx : q_K h.1 (Ad ad 0) = 11) (km : q_K h.1 (Ad ad 99) = 12) (no : q_N h.1 (Ad ad 127) = 1) {x1 x2 : Int32} {δ : dp} (V : IY ad h.1 δ) : ∃ d, (∃ (kk b : Int32) (δ1 : dp), D_L_of N h.1 (Ad ad 0) x1 x2 (Ad ad 127) δ = some (kk, δ1) ∧ D_X12_of_ N h.1 (Ad ad 99) x1 x2 δ1 = some (b, d)) ∧ IY ad h.1 d := stepN (f := fun δ1 => D_X12_of_ N h.1 (Ad ad 99) x1 x2 δ1) km V (k_L_of L hN (x1 := x1) (x2 := x2) kx no V.1.1.1) (gL_of_ L (x1 := x1) (x2 := x2) kx) (fun δ1 I1 O1 => o_of_ L hN (x1 := x1) (x2 := x2) km I1 O1) (fun δ1 I1 O1 => rs_of_ L hN km (x1 := x1) (x2 := x2) I1 O1)
theorem n_next {ad : List Nat} {h : hp} (L : Lay TLx ad h) {N : Nat} (hN : 10000000 ≤ N) (kx : q_K h.1 (Ad ad 0) = 11) (km : q_K h.1 (Ad ad 99) = 12) (no : q_N h.1 (Ad ad 127) = 1) {x1 x2 : Int32} {δ : dp} (V : IY ad h.1 δ) : ∃ d, (∃ (kk b : Int32) (δ1 : dp), D_L_next N h.1 (Ad ad 0) x1 x2 (Ad ad 127) δ = some (kk, δ1) ∧ D_X12_next N h.1 (Ad ad 99) x1 x2 δ1 = some (b, d)) ∧ IY ad h.1 d := stepN (f := fun δ1 => D_X12_next N h.1 (Ad ad 99) x1 x2 δ1) km V (k_L_next L hN (x1 := x1) (x2 := x2) kx no V.1.1.1) (gL_next L (x1 := x1) (x2 := x2) kx) (fun δ1 I1 O1 => o_next L hN (x1 := x1) (x2 := x2) km I1 O1) (fun δ1 I1 O1 => rs_next L hN km (x1 := x1) (x2 := x2) I1 O1)
theorem n_before {ad : List Nat} {h : hp} (L : Lay TLx ad h) {N : Nat} (hN : 10000000 ≤ N) (kx : q_K h.1 (Ad ad 0) = 11) (km : q_K h.1 (Ad ad 99) = 12) (no : q_N h.1 (Ad ad 127) = 1) {x1 x2 : Int32} {δ : dp} (V : IY ad h.1 δ) : ∃ d, (∃ (kk b : Int32) (δ1 : dp), D_L_before N h.1 (Ad ad 0) x1 x2 (Ad ad 127) δ = some (kk, δ1) ∧ D_X12_before N h.1 (Ad ad 99) x1 x2 δ1 = some (b, d)) ∧ IY ad h.1 d := stepN (f := fun δ1 => D_X12_before N h.1 (Ad ad 99) x1 x2 δ1) km V (k_L_before L hN (x1 := x1) (x2 := x2) kx no V.1.1.1) (gL_before L (x1 := x1) (x2 := x2) kx) (fun δ1 I1 O1 => o_before L hN (x1 := x1) (x2 := x2) km I1 O1) (fun δ1 I1 O1 => rs_before L hN km (x1 := x1) (x2 := x2) I1 O1)
theorem n_kth {ad : List Nat} {h : hp} (L : Lay TLx ad h) {N : Nat} (hN : 10000000 ≤ N) (kx : q_K h.1 (Ad ad 0) = 11) (km : q_K h.1 (Ad ad 99) = 12) (no : q_N h.1 (Ad ad 127) = 1) {x1 x2 : Int32} {δ : dp} (V : IY ad h.1 δ) : ∃ d, (∃ (kk b : Int32) (δ1 : dp), D_L_kth N h.1 (Ad ad 0) x1 x2 (Ad ad 127) δ = some (kk, δ1) ∧ D_X12_kth N h.1 (Ad ad 99) x1 x2 δ1 = some (b, d)) ∧ IY ad h.1 d := stepN (f := fun δ1 => D_X12_kth N h.1 (Ad ad 99) x1 x2 δ1) km V (k_L_kth L hN (x1 := x1) (x2 := x2) kx no V.1.1.1) (gL_kth L (x1 := x1) (x2 := x2) kx) (fun δ1 I1 O1 => o_kth L hN (x1 := x1) (x2 := x2) km I1 O1) (fun δ1 I1 O1 => rs_kth L hN km (x1 := x1) (x2 := x2) I1 O1)
theorem n_between {ad : List Nat} {h : hp} (L : Lay TLx ad h) {N : Nat} (hN : 10000000 ≤ N) (kx : q_K h.1 (Ad ad 0) = 11) (km : q_K h.1 (Ad ad 99) = 12) (no : q_N h.1 (Ad ad 127) = 1) {x1 x2 x3 : Int32} {δ : dp} (V : IY ad h.1 δ) : ∃ d, (∃ (kk b : Int32) (δ1 : dp), D_L_between N h.1 (Ad ad 0) x1 x2 x3 (Ad ad 127) δ = some (kk, δ1) ∧ D_X12_between N h.1 (Ad ad 99) x1 x2 x3 δ1 = some (b, d)) ∧ IY ad h.1 d := stepN (f := fun δ1 => D_X12_between N h.1 (Ad ad 99) x1 x2 x3 δ1) km V (k_L_between L hN (x1 := x1) (x2 := x2) (x3 := x3) kx no V.1.1.1) (gL_between L (x1 := x1) (x2 := x2) (x3 := x3) kx) (fun δ1 I1 O1 => o_between L hN (x1 := x1) (x2 := x2) (x3 := x3) km I1 O1) (fun δ1 I1 O1 => rs_between L hN km (x1 := x1) (x2 := x2) (x3 := x3) I1 O1)
theorem n_touches {ad : List Nat} {h : hp} (L : Lay TLx ad h) {N : Nat} (hN : 10000000 ≤ N) (kx : q_K h.1 (Ad ad 0) = 11) (km : q_K h.1 (Ad ad 99) = 12) (no : q_N h.1 (Ad ad 127) = 1) {x1 x2 x3 x4 : Int32} {δ : dp} (V : IY ad h.1 δ) : ∃ d, (∃ (kk b : Int32) (δ1 : dp), D_L_touches N h.1 (Ad ad 0) x1 x2 x3 x4 (Ad ad 127) δ = some (kk, δ1) ∧ D_X12_touches N h.1 (Ad ad 99) x1 x2 x3 x4 δ1 = some (b, d)) ∧ IY ad h.1 d := stepN (f := fun δ1 => D_X12_touches N h.1 (Ad ad 99) x1 x2 x3 x4 δ1) km V (k_L_touches L hN (x1 := x1) (x2 := x2) (x3 := x3) (x4 := x4) kx no V.1.1.1) (gL_touches L (x1 := x1) (x2 := x2) (x3 := x3) (x4 := x4) kx) (fun δ1 I1 O1 => o_touches L hN (x1 := x1) (x2 := x2) (x3 := x3) (x4 := x4) km I1 O1) (fun δ1 I1 O1 => rs_touches L hN km (x1 := x1) (x2 := x2) (x3 := x3) (x4 := x4) I1 O1)
theorem n_size {ad : List Nat} {h : hp} (L : Lay TLx ad h) {N : Nat} (hN : 10000000 ≤ N) (kx : q_K h.1 (Ad ad 0) = 11) (km : q_K h.1 (Ad ad 99) = 12) (no : q_N h.1 (Ad ad 127) = 1) {x1 x2 : Int32} {δ : dp} (V : IY ad h.1 δ) : ∃ d, (∃ (kk b : Int32) (δ1 : dp), D_L_size N h.1 (Ad ad 0) x1 x2 (Ad ad 127) δ = some (kk, δ1) ∧ D_X12_size N h.1 (Ad ad 99) x1 x2 δ1 = some (b, d)) ∧ IY ad h.1 d := stepN (f := fun δ1 => D_X12_size N h.1 (Ad ad 99) x1 x2 δ1) km V (k_L_size L hN (x1 := x1) (x2 := x2) kx no V.1.1.1) (gL_size L (x1 := x1) (x2 := x2) kx) (fun δ1 I1 O1 => o_size L hN (x1 := x1) (x2 := x2) km I1 O1) (fun δ1 I1 O1 => rs_size L hN km (x1 := x1) (x2 := x2) I1 O1)
theorem n_bound {ad : List Nat} {h : hp} (L : Lay TLx ad h) {N : Nat} (hN : 10000000 ≤ N) (kx : q_K h.1 (Ad ad 0) = 11) (km : q_K h.1 (Ad ad 99) = 12) (no : q_N h.1 (Ad ad 127) = 1) {x1 : Int32} {δ : dp} (V : IY ad h.1 δ) : ∃ d, (∃ (kk b : Int32) (δ1 : dp), D_L_bound N h.1 (Ad ad 0) x1 (Ad ad 127) δ = some (kk, δ1) ∧ D_X12_bound N h.1 (Ad ad 99) x1 δ1 = some (b, d)) ∧ IY ad h.1 d := stepN (f := fun δ1 => D_X12_bound N h.1 (Ad ad 99) x1 δ1) km V (k_L_bound L hN (x1 := x1) kx no V.1.1.1) (gL_bound L (x1 := x1) kx) (fun δ1 I1 O1 => o_bound L hN (x1 := x1) km I1 O1) (fun δ1 I1 O1 => rs_bound L hN km (x1 := x1) I1 O1)
theorem n_worst {ad : List Nat} {h : hp} (L : Lay TLx ad h) {N : Nat} (hN : 10000000 ≤ N) (kx : q_K h.1 (Ad ad 0) = 11) (km : q_K h.1 (Ad ad 99) = 12) (no : q_N h.1 (Ad ad 127) = 1) {x1 x2 x3 : Int32} {δ : dp} (V : IY ad h.1 δ) : ∃ d, (∃ (kk b : Int32) (δ1 : dp), D_L_worst N h.1 (Ad ad 0) x1 x2 x3 (Ad ad 127) δ = some (kk, δ1) ∧ D_X12_worst N h.1 (Ad ad 99) x1 x2 x3 δ1 = some (b, d)) ∧ IY ad h.1 d := stepN (f := fun δ1 => D_X12_worst N h.1 (Ad ad 99) x1 x2 x3 δ1) km V (k_L_worst L hN (x1 := x1) (x2 := x2) (x3 := x3) kx no V.1.1.1) (gL_worst L (x1 := x1) (x2 := x2) (x3 := x3) kx) (fun δ1 I1 O1 => o_worst L hN (x1 := x1) (x2 := x2) (x3 := x3) km I1 O1) (fun δ1 I1 O1 => rs_worst L hN km (x1 := x1) (x2 := x2) (x3 := x3) I1 O1)
theorem n_bad {ad : List Nat} {h : hp} (L : Lay TLx ad h) {N : Nat} (hN : 10000000 ≤ N) (kx : q_K h.1 (Ad ad 0) = 11) (km : q_K h.1 (Ad ad 99) = 12) (no : q_N h.1 (Ad ad 127) = 1) {x1 x2 x3 : Int32} {δ : dp} (V : IY ad h.1 δ) : ∃ d, (∃ (kk b : Int32) (δ1 : dp), D_L_bad N h.1 (Ad ad 0) x1 x2 x3 (Ad ad 127) δ = some (kk, δ1) ∧ D_X12_bad N h.1 (Ad ad 99) x1 x2 x3 δ1 = some (b, d)) ∧ IY ad h.1 d := stepN (f := fun δ1 => D_X12_bad N h.1 (Ad ad 99) x1 x2 x3 δ1) km V (k_L_bad L hN (x1 := x1) (x2 := x2) (x3 := x3) kx no V.1.1.1) (gL_bad L (x1 := x1) (x2 := x2) (x3 := x3) kx) (fun δ1 I1 O1 => o_bad L hN (x1 := x1) (x2 := x2) (x3 := x3) km I1 O1) (fun δ1 I1 O1 => rs_bad L hN km (x1 := x1) (x2 := x2) (x3 := x3) I1 O1)
theorem n_since {ad : List Nat} {h : hp} (L : Lay TLx ad h) {N : Nat} (hN : 10000000 ≤ N) (kx : q_K h.1 (Ad ad 0) = 11) (km : q_K h.1 (Ad ad 99) = 12) (no : q_N h.1 (Ad ad 127) = 1) {x1 x2 x3 : Int32} {δ : dp} (V : IY ad h.1 δ) : ∃ d, (∃ (kk b : Int32) (δ1 : dp), D_L_since N h.1 (Ad ad 0) x1 x2 x3 (Ad ad 127) δ = some (kk, δ1) ∧ D_X12_since N h.1 (Ad ad 99) x1 x2 x3 δ1 = some (b, d)) ∧ IY ad h.1 d := stepN (f := fun δ1 => D_X12_since N h.1 (Ad ad 99) x1 x2 x3 δ1) km V (k_L_since L hN (x1 := x1) (x2 := x2) (x3 := x3) kx no V.1.1.1) (gL_since L (x1 := x1) (x2 := x2) (x3 := x3) kx) (fun δ1 I1 O1 => o_since L hN (x1 := x1) (x2 := x2) (x3 := x3) km I1 O1) (fun δ1 I1 O1 => rs_since L hN km (x1 := x1) (x2 := x2) (x3 := x3) I1 O1)
theorem n_reached {ad : List Nat} {h : hp} (L : Lay TLx ad h) {N : Nat} (hN : 10000000 ≤ N) (kx : q_K h.1 (Ad ad 0) = 11) (km : q_K h.1 (Ad ad 99) = 12) (no : q_N h.1 (Ad ad 127) = 1) {x1 : Int32} {δ : dp} (V : IY ad h.1 δ) : ∃ d, (∃ (kk b : Int32) (δ1 : dp), D_L_reached N h.1 (Ad ad 0) x1 (Ad ad 127) δ = some (kk, δ1) ∧ D_X12_reached N h.1 (Ad ad 99) x1 δ1 = some (b, d)) ∧ IY ad h.1 d := stepN (f := fun δ1 => D_X12_reached N h.1 (Ad ad 99) x1 δ1) km V (k_L_reached L hN (x1 := x1) kx no V.1.1.1) (gL_reached L (x1 := x1) kx) (fun δ1 I1 O1 => o_reached L hN (x1 := x1) km I1 O1) (fun δ1 I1 O1 => rs_reached L hN km (x1 := x1) I1 O1)
theorem n_row {ad : List Nat} {h : hp} (L : Lay TLx ad h) {N : Nat} (hN : 10000000 ≤ N) (kx : q_K h.1 (Ad ad 0) = 11) (km : q_K h.1 (Ad ad 99) = 12) (no : q_N h.1 (Ad ad 127) = 1) {x1 : Int32} {δ : dp} (V : IY ad h.1 δ) : ∃ d, (∃ (kk b : Int32) (δ1 : dp), D_L_row N h.1 (Ad ad 0) x1 (Ad ad 127) δ = some (kk, δ1) ∧ D_X12_row N h.1 (Ad ad 99) x1 δ1 = some (b, d)) ∧ IY ad h.1 d := stepN (f := fun δ1 => D_X12_row N h.1 (Ad ad 99) x1 δ1) km V (k_L_row L hN (x1 := x1) kx no V.1.1.1) (gL_row L (x1 := x1) kx) (fun δ1 I1 O1 => o_row L hN (x1 := x1) km I1 O1) (fun δ1 I1 O1 => rs_row L hN km (x1 := x1) I1 O1)
theorem n_rowCall {ad : List Nat} {h : hp} (L : Lay TLx ad h) {N : Nat} (hN : 10000000 ≤ N) (kx : q_K h.1 (Ad ad 0) = 11) (km : q_K h.1 (Ad ad 99) = 12) (no : q_N h.1 (Ad ad 127) = 1) {x1 x2 : Int32} {δ : dp} (V : IY ad h.1 δ) : ∃ d, (∃ (kk b : Int32) (δ1 : dp), D_L_rowCall N h.1 (Ad ad 0) x1 x2 (Ad ad 127) δ = some (kk, δ1) ∧ D_X12_rowCall N h.1 (Ad ad 99) x1 x2 δ1 = some (b, d)) ∧ IY ad h.1 d := stepN (f := fun δ1 => D_X12_rowCall N h.1 (Ad ad 99) x1 x2 δ1) km V (k_L_rowCall L hN (x1 := x1) (x2 := x2) kx no V.1.1.1) (gL_rowCall L (x1 := x1) (x2 := x2) kx) (fun δ1 I1 O1 => o_rowCall L hN (x1 := x1) (x2 := x2) km I1 O1) (fun δ1 I1 O1 => rs_rowCall L hN km (x1 := x1) (x2 := x2) I1 O1)
theorem n_gap {ad : List Nat} {h : hp} (L : Lay TLx ad h) {N : Nat} (hN : 10000000 ≤ N) (kx : q_K h.1 (Ad ad 0) = 11) (km : q_K h.1 (Ad ad 99) = 12) (no : q_N h.1 (Ad ad 127) = 1) {x1 x2 : Int32} {δ : dp} (V : IY ad h.1 δ) : ∃ d, (∃ (kk b : Int32) (δ1 : dp), D_L_gap N h.1 (Ad ad 0) x1 x2 (Ad ad 127) δ = some (kk, δ1) ∧ D_X12_gap N h.1 (Ad ad 99) x1 x2 δ1 = some (b, d)) ∧ IY ad h.1 d := stepN (f := fun δ1 => D_X12_gap N h.1 (Ad ad 99) x1 x2 δ1) km V (k_L_gap L hN (x1 := x1) (x2 := x2) kx no V.1.1.1) (gL_gap L (x1 := x1) (x2 := x2) kx) (fun δ1 I1 O1 => o_gap L hN (x1 := x1) (x2 := x2) km I1 O1) (fun δ1 I1 O1 => rs_gap L hN km (x1 := x1) (x2 := x2) I1 O1)
theorem n_was {ad : List Nat} {h : hp} (L : Lay TLx ad h) {N : Nat} (hN : 10000000 ≤ N) (kx : q_K h.1 (Ad ad 0) = 11) (km : q_K h.1 (Ad ad 99) = 12) (no : q_N h.1 (Ad ad 127) = 1) {x1 x2 x3 : Int32} {δ : dp} (V : IY ad h.1 δ) : ∃ d, (∃ (kk b : Int32) (δ1 : dp), D_L_was N h.1 (Ad ad 0) x1 x2 x3 (Ad ad 127) δ = some (kk, δ1) ∧ D_X12_was N h.1 (Ad ad 99) x1 x2 x3 δ1 = some (b, d)) ∧ IY ad h.1 d := stepN (f := fun δ1 => D_X12_was N h.1 (Ad ad 99) x1 x2 x3 δ1) km V (k_L_was L hN (x1 := x1) (x2 := x2) (x3 := x3) kx no V.1.1.1) (gL_was L (x1 := x1) (x2 := x2) (x3 := x3) kx) (fun δ1 I1 O1 => o_was L hN (x1 := x1) (x2 := x2) (x3 := x3) km I1 O1) (fun δ1 I1 O1 => rs_was L hN km (x1 := x1) (x2 := x2) (x3 := x3) I1 O1)
theorem n_asked {ad : List Nat} {h : hp} (L : Lay TLx ad h) {N : Nat} (hN : 10000000 ≤ N) (kx : q_K h.1 (Ad ad 0) = 11) (km : q_K h.1 (Ad ad 99) = 12) (no : q_N h.1 (Ad ad 127) = 1) {x1 x2 x3 x4 : Int32} {δ : dp} (V : IY ad h.1 δ) : ∃ d, (∃ (kk b : Int32) (δ1 : dp), D_L_asked N h.1 (Ad ad 0) x1 x2 x3 x4 (Ad ad 127) δ = some (kk, δ1) ∧ D_X12_asked N h.1 (Ad ad 99) x1 x2 x3 x4 δ1 = some (b, d)) ∧ IY ad h.1 d := stepN (f := fun δ1 => D_X12_asked N h.1 (Ad ad 99) x1 x2 x3 x4 δ1) km V (k_L_asked L hN (x1 := x1) (x2 := x2) (x3 := x3) (x4 := x4) kx no V.1.1.1) (gL_asked L (x1 := x1) (x2 := x2) (x3 := x3) (x4 := x4) kx) (fun δ1 I1 O1 => o_asked L hN (x1 := x1) (x2 := x2) (x3 := x3) (x4 := x4) km I1 O1) (fun δ1 I1 O1 => rs_asked L hN km (x1 := x1) (x2 := x2) (x3 := x3) (x4 := x4) I1 O1)
theorem n_room {ad : List Nat} {h : hp} (L : Lay TLx ad h) {N : Nat} (hN : 10000000 ≤ N) (kx : q_K h.1 (Ad ad 0) = 11) (km : q_K h.1 (Ad ad 99) = 12) (no : q_N h.1 (Ad ad 127) = 1) {x1 x2 : Int32} {δ : dp} (V : IY ad h.1 δ) : ∃ d, (∃ (kk b : Int32) (δ1 : dp), D_L_room N h.1 (Ad ad 0) x1 x2 (Ad ad 127) δ = some (kk, δ1) ∧ D_X12_room N h.1 (Ad ad 99) x1 x2 δ1 = some (b, d)) ∧ IY ad h.1 d := stepN (f := fun δ1 => D_X12_room N h.1 (Ad ad 99) x1 x2 δ1) km V (k_L_room L hN (x1 := x1) (x2 := x2) kx no V.1.1.1) (gL_room L (x1 := x1) (x2 := x2) kx) (fun δ1 I1 O1 => o_room L hN (x1 := x1) (x2 := x2) km I1 O1) (fun δ1 I1 O1 => rs_room L hN km (x1 := x1) (x2 := x2) I1 O1)
theorem n_steals {ad : List Nat} {h : hp} (L : Lay TLx ad h) {N : Nat} (hN : 10000000 ≤ N) (kx : q_K h.1 (Ad ad 0) = 11) (km : q_K h.1 (Ad ad 99) = 12) (no : q_N h.1 (Ad ad 127) = 1) {x1 x2 x3 x4 : Int32} {δ : dp} (V : IY ad h.1 δ) : ∃ d, (∃ (kk b : Int32) (δ1 : dp), D_L_steals N h.1 (Ad ad 0) x1 x2 x3 x4 (Ad ad 127) δ = some (kk, δ1) ∧ D_X12_steals N h.1 (Ad ad 99) x1 x2 x3 x4 δ1 = some (b, d)) ∧ IY ad h.1 d := stepN (f := fun δ1 => D_X12_steals N h.1 (Ad ad 99) x1 x2 x3 x4 δ1) km V (k_L_steals L hN (x1 := x1) (x2 := x2) (x3 := x3) (x4 := x4) kx no V.1.1.1) (gL_steals L (x1 := x1) (x2 := x2) (x3 := x3) (x4 := x4) kx) (fun δ1 I1 O1 => o_steals L hN (x1 := x1) (x2 := x2) (x3 := x3) (x4 := x4) km I1 O1) (fun δ1 I1 O1 => rs_steals L hN km (x1 := x1) (x2 := x2) (x3 := x3) (x4 := x4) I1 O1)
theorem n_seeds {ad : List Nat} {h : hp} (L : Lay TLx ad h) {N : Nat} (hN : 10000000 ≤ N) (kx : q_K h.1 (Ad ad 0) = 11) (km : q_K h.1 (Ad ad 99) = 12) (no : q_N h.1 (Ad ad 127) = 1) {x1 x2 x3 x4 x5 : Int32} {δ : dp} (V : IY ad h.1 δ) : ∃ d, (∃ (kk b : Int32) (δ1 : dp), D_L_seeds N h.1 (Ad ad 0) x1 x2 x3 x4 x5 (Ad ad 127) δ = some (kk, δ1) ∧ D_X12_seeds N h.1 (Ad ad 99) x1 x2 x3 x4 x5 δ1 = some (b, d)) ∧ IY ad h.1 d := stepN (f := fun δ1 => D_X12_seeds N h.1 (Ad ad 99) x1 x2 x3 x4 x5 δ1) km V (k_L_seeds L hN (x1 := x1) (x2 := x2) (x3 := x3) (x4 := x4) (x5 := x5) kx no V.1.1.1) (gL_seeds L (x1 := x1) (x2 := x2) (x3 := x3) (x4 := x4) (x5 := x5) kx) (fun δ1 I1 O1 => o_seeds L hN (x1 := x1) (x2 := x2) (x3 := x3) (x4 := x4) (x5 := x5) km I1 O1) (fun δ1 I1 O1 => rs_seeds L hN km (x1 := x1) (x2 := x2) (x3 := x3) (x4 := x4) (x5 := x5) I1 O1)
theorem n_fault {ad : List Nat} {h : hp} (L : Lay TLx ad h) {N : Nat} (hN : 10000000 ≤ N) (kx : q_K h.1 (Ad ad 0) = 11) (km : q_K h.1 (Ad ad 99) = 12) (no : q_N h.1 (Ad ad 127) = 1) {δ : dp} (V : IY ad h.1 δ) : ∃ d, (∃ (kk b : Int32) (δ1 : dp), D_X11_fault N h.1 (Ad ad 0)  δ = some (kk, δ1) ∧ D_X12_fault N h.1 (Ad ad 99)  δ1 = some (b, d)) ∧ IY ad h.1 d := stepN (v := true) (s := true) (f := fun δ1 => D_X12_fault N h.1 (Ad ad 99)  δ1) km V (ok_mono (k_X11_fault L hN  kx V.1.1.1) (fun r e => by rw [e]; exact ⟨V.1.1.1, rfl, fun a => ⟨rfl, rfl, rfl, rfl⟩⟩)) (hs_mono (ok_h (k_X11_fault L hN  kx V.1.1.1)) (fun r e => by rw [e]; exact HG_r)) (fun δ1 I1 O1 => o_fault L hN  km I1 O1) (fun δ1 I1 O1 => rs_fault L hN km  I1 O1)
theorem n_status {ad : List Nat} {h : hp} (L : Lay TLx ad h) {N : Nat} (hN : 10000000 ≤ N) (kx : q_K h.1 (Ad ad 0) = 11) (km : q_K h.1 (Ad ad 99) = 12) (no : q_N h.1 (Ad ad 127) = 1) {x1 : Int32} {δ : dp} (V : IY ad h.1 δ) : ∃ d, (∃ (kk b : Int32) (δ1 : dp), D_X11_status N h.1 (Ad ad 0) x1 δ = some (kk, δ1) ∧ D_X12_status N h.1 (Ad ad 99) x1 δ1 = some (b, d)) ∧ IY ad h.1 d := stepN (v := true) (s := true) (f := fun δ1 => D_X12_status N h.1 (Ad ad 99) x1 δ1) km V (ok_mono (k_X11_status L hN (x1 := x1) kx V.1.1.1) (fun r e => by rw [e]; exact ⟨V.1.1.1, rfl, fun a => ⟨rfl, rfl, rfl, rfl⟩⟩)) (hs_mono (ok_h (k_X11_status L hN (x1 := x1) kx V.1.1.1)) (fun r e => by rw [e]; exact HG_r)) (fun δ1 I1 O1 => o_status L hN (x1 := x1) km I1 O1) (fun δ1 I1 O1 => rs_status L hN km (x1 := x1) I1 O1)
theorem n_count {ad : List Nat} {h : hp} (L : Lay TLx ad h) {N : Nat} (hN : 10000000 ≤ N) (kx : q_K h.1 (Ad ad 0) = 11) (km : q_K h.1 (Ad ad 99) = 12) (no : q_N h.1 (Ad ad 127) = 1) {x1 : Int32} {δ : dp} (V : IY ad h.1 δ) : ∃ d, (∃ (kk b : Int32) (δ1 : dp), D_X11_count N h.1 (Ad ad 0) x1 δ = some (kk, δ1) ∧ D_X12_count N h.1 (Ad ad 99) x1 δ1 = some (b, d)) ∧ IY ad h.1 d := stepN (v := true) (s := true) (f := fun δ1 => D_X12_count N h.1 (Ad ad 99) x1 δ1) km V (ok_mono (k_X11_count L hN (x1 := x1) kx V.1.1.1) (fun r e => by rw [e]; exact ⟨V.1.1.1, rfl, fun a => ⟨rfl, rfl, rfl, rfl⟩⟩)) (hs_mono (ok_h (k_X11_count L hN (x1 := x1) kx V.1.1.1)) (fun r e => by rw [e]; exact HG_r)) (fun δ1 I1 O1 => o_count L hN (x1 := x1) km I1 O1) (fun δ1 I1 O1 => rs_count L hN km (x1 := x1) I1 O1)
theorem HX_go {ad : List Nat} {h : hp} (km : q_K h.1 (Ad ad 99) = 12) {v s : Bool} {δ δ1 d : dp} (V : IY ad h.1 δ) (c : CI ad h.1 δ δ1) (g : HG v s ad δ δ1) (r : RI ad h.1 δ1 d) (k : rsk ad δ1 d) : HX ad d := by
  have X1 : HX ad δ1 := V.2.k (IY.i3 km V.1.1.2.1) (csk_G g) (rsk_C c)
  exact X1.k (IY.i3 km (RI_re V.1.1.2.1 c)) (csk_R r) k
theorem n_thief {ad : List Nat} {h : hp} (L : Lay TLx ad h) {N : Nat} (hN : 10000000 ≤ N) (kx : q_K h.1 (Ad ad 0) = 11) (km : q_K h.1 (Ad ad 99) = 12) (no : q_N h.1 (Ad ad 127) = 1) {x1 : Int32} {δ : dp} (V : IY ad h.1 δ) : ∃ d, (∃ (kk b : Int32) (δ1 : dp), D_L_thief N h.1 (Ad ad 0) x1 (Ad ad 127) δ = some (kk, δ1) ∧ D_X12_thief N h.1 (Ad ad 99) x1 δ1 = some (b, d)) ∧ IY ad h.1 d := by
  obtain ⟨d, ⟨kk, b, δ1, e1, e2⟩, W⟩ := stepT L hN kx km no V.1 (x := x1)
  have c := (ok_h (k_L_thief L hN (x1 := x1) kx no V.1.1.1) _ e1).1
  have I1 := RI_re V.1.1.2.1 c
  obtain ⟨r, ⟨u, _, w⟩, _⟩ := ok_h (k_X12_thief L hN (x1 := x1) km I1) _ e2
  exact ⟨d, ⟨kk, b, δ1, e1, e2⟩, W, HX_go km V c (gL_thief L (x1 := x1) kx _ e1) r (rsk_k u w (by decide) (by decide) (bak_k (w 102 (by decide) (by decide) (by decide)) (w 103 (by decide) (by decide) (by decide))))⟩
theorem n_feed {ad : List Nat} {h : hp} (L : Lay TLx ad h) {N : Nat} (hN : 10000000 ≤ N) (kx : q_K h.1 (Ad ad 0) = 11) (km : q_K h.1 (Ad ad 99) = 12) (no : q_N h.1 (Ad ad 127) = 1) {x1 x2 x3 x4 x5 : Int32} {δ : dp} (V : IY ad h.1 δ) : ∃ d, (∃ (b : Int32) (δ1 : dp), D_X11_feed N h.1 (Ad ad 0) x1 x2 x3 x4 x5 δ = some (b, δ1) ∧ D_X12_feed N h.1 (Ad ad 99) x1 x2 x3 x4 x5 δ1 = some (b, d)) ∧ IY ad h.1 d := by
  obtain ⟨d, ⟨b, δ1, e1, e2⟩, W⟩ := stepF L hN km V.1 (x1 := x1) (x2 := x2) (x3 := x3) (x4 := x4) (x5 := x5)
  obtain ⟨c1, c2, c3, _⟩ := ok_h (fc_feed L hN (x1 := x1) (x2 := x2) (x3 := x3) (x4 := x4) (x5 := x5) V.1.1.1) _ e1
  dsimp only at c1 c2 c3
  have ne : ∀ i, i < 128 → i ≠ 2 → Ad ad i ≠ Ad ad 2 := fun i h1 h2 => ad_ne L h1 (by decide) h2
  have g : HG true true ad δ δ1 := ⟨⟨fun i _ => c1 3 1 _ (by simp), fun a => c1 2 4 a (by simp), fun i hi => by
    have := (by decide : ∀ i ∈ PRS, i < 128 ∧ i ≠ 2) i hi
    exact c3 _ (ne i this.1 this.2)⟩, fun _ => c2, fun _ => c3 _ (ne 59 (by decide) (by decide))⟩
  have k1 : rsk ad δ δ1 := ⟨fun k _ => c1 12 k _ (by simp), bak_k (c3 _ (ne 102 (by decide) (by decide))) (c3 _ (ne 103 (by decide) (by decide))), fun i a b => c3 _ (ne i (by omega) (by omega))⟩
  have I1 : RI ad h.1 δ1 δ1 := RI_rf V.1.1.2.1 (fun k a => c1 12 k a (by simp)) (fun i h1 h2 => c3 _ (ne i (by omega) (by omega)))
  obtain ⟨r, ⟨u, _, w⟩, _⟩ := ok_h (k_X12_feed L hN (x1 := x1) (x2 := x2) (x3 := x3) (x4 := x4) (x5 := x5) km I1) _ e2
  have X1 : HX ad δ1 := V.2.k (IY.i3 km V.1.1.2.1) (csk_G g) k1
  exact ⟨d, ⟨b, δ1, e1, e2⟩, W, X1.k (IY.i3 km I1) (csk_R r) (rsk_k u w (by decide) (by decide) (bak_k (w 102 (by decide) (by decide) (by decide)) (w 103 (by decide) (by decide) (by decide))))⟩
end
section
/-! reads compared -/
theorem aBt_u {M N x y v w : Int} {R Q : Nat → Int} (e : RE M R N Q) (h : aBt M R x y v) (g : aBt N Q x y w) : v = w := by
  rcases h with ⟨h1, h2⟩ | ⟨h1, p, q, p1, q1, h2⟩ <;> rcases g with ⟨g1, g2⟩ | ⟨g1, p', q', p1', q1', g2⟩
  · omega
  · omega
  · omega
  · have := PL_u (PL_c e p1) p1'
    have := PL_u (PL_c e q1) q1'
    omega
theorem U_re {ad : List Nat} {δ δ1 : dp} (X : HX ad δ1) (c : csk ad δ δ1) {x1 : Int32} (n : ¬ nH x1) : RE (cM ad δ (tH x1)) (cR ad δ (tH x1)) (hM ad δ1 (tH x1)) (hR ad δ1 (tH x1)) ∧ cN ad δ (tH x1) = hN ad δ1 (tH x1) := by
  have h4 : tH x1 < 4 := by show x1.toInt.toNat < 4; omega
  obtain ⟨h1, h2, _⟩ := X.1 (tH x1) h4
  obtain ⟨c1, c2, c3, _⟩ := c.1 (tH x1) h4
  rw [c1, c2] at h1
  rw [c3] at h2
  exact ⟨h1.s, h2⟩
theorem shA_b {ad : List Nat} {h : hp} {δ0 δ : dp} (I : RI ad h.1 δ0 δ) (km : q_K h.1 (Ad ad 99) = 12) : shA (Ad ad 99) δ ≤ 65536 := (sh_b _ (cb_12_10 I km)).2.1
section
variable {ad : List Nat} {h : hp}
theorem y_has (L : Lay TLx ad h) {N : Nat} (hN : 10000000 ≤ N) (kx : q_K h.1 (Ad ad 0) = 11) (km : q_K h.1 (Ad ad 99) = 12) (no : q_N h.1 (Ad ad 127) = 1) {x1 x2 : Int32} {δ : dp} (V : IY ad h.1 δ) : ∃ d, (∃ (kk b : Int32) (δ1 : dp), D_L_has N h.1 (Ad ad 0) x1 x2 (Ad ad 127) δ = some (kk, δ1) ∧ D_X12_has N h.1 (Ad ad 99) x1 x2 δ1 = some (b, d) ∧ q_I d 12 0 (Ad ad 99) = kk ∧ (kk = 0 → q_J d (Ad ad 127) 0 = b.toInt64)) ∧ IY ad h.1 d :=
  stepR (d1 := fun _ => nH x1) (d2 := fun δ1 => nN (shA (Ad ad 99) δ1) x2) (P := fun δ1 v => aHo (hM ad δ1 (tH x1)) (hR ad δ1 (tH x1)) x2.toInt v) (f := fun δ1 => D_X12_has N h.1 (Ad ad 99) x1 x2 δ1) km V (k_L_has L hN (x1 := x1) (x2 := x2) kx no V.1.1.1) (gL_has L kx) (hL_has L hN V.1.1.1 (fun K hK => V.2.S hK)) (fun δ1 I1 O1 => o_has L hN km I1 O1) (fun δ1 I1 O1 X1 => hs_and (rs_has L hN km I1 O1) (hr_has L hN km I1 (fun K hK => X1.T hK))) (fun δ1 X1 c eA e4 => ⟨Iff.rfl, fun _ => by show nN (scA ad δ) x2 ↔ nN (shA (Ad ad 99) δ1) x2; rw [eA], fun n1 _ v w hq hp => aHo_u (U_re X1 c n1).1 hq hp⟩)
theorem y_next (L : Lay TLx ad h) {N : Nat} (hN : 10000000 ≤ N) (kx : q_K h.1 (Ad ad 0) = 11) (km : q_K h.1 (Ad ad 99) = 12) (no : q_N h.1 (Ad ad 127) = 1) {x1 x2 : Int32} {δ : dp} (V : IY ad h.1 δ) : ∃ d, (∃ (kk b : Int32) (δ1 : dp), D_L_next N h.1 (Ad ad 0) x1 x2 (Ad ad 127) δ = some (kk, δ1) ∧ D_X12_next N h.1 (Ad ad 99) x1 x2 δ1 = some (b, d) ∧ q_I d 12 0 (Ad ad 99) = kk ∧ (kk = 0 → q_J d (Ad ad 127) 0 = b.toInt64)) ∧ IY ad h.1 d :=
  stepR (d1 := fun _ => nH x1) (d2 := fun δ1 => ¬ okA (shA (Ad ad 99) δ1) 3 x2.toInt) (P := fun δ1 v => aAb (hM ad δ1 (tH x1)) (hR ad δ1 (tH x1)) x2.toInt v) (f := fun δ1 => D_X12_next N h.1 (Ad ad 99) x1 x2 δ1) km V (k_L_next L hN (x1 := x1) (x2 := x2) kx no V.1.1.1) (gL_next L kx) (hL_next L hN V.1.1.1 (fun K hK => V.2.S hK)) (fun δ1 I1 O1 => o_next L hN km I1 O1) (fun δ1 I1 O1 X1 => hs_and (rs_next L hN km I1 O1) (hr_next L hN km (shA_b I1 km) I1 (fun K hK => X1.T hK))) (fun δ1 X1 c eA e4 => ⟨Iff.rfl, fun _ => by show (¬ okA (scA ad δ) 3 x2.toInt) ↔ ¬ okA (shA (Ad ad 99) δ1) 3 x2.toInt; rw [eA], fun n1 _ v w hq hp => aAb_u (U_re X1 c n1).1 hq hp⟩)
theorem y_before (L : Lay TLx ad h) {N : Nat} (hN : 10000000 ≤ N) (kx : q_K h.1 (Ad ad 0) = 11) (km : q_K h.1 (Ad ad 99) = 12) (no : q_N h.1 (Ad ad 127) = 1) {x1 x2 : Int32} {δ : dp} (V : IY ad h.1 δ) : ∃ d, (∃ (kk b : Int32) (δ1 : dp), D_L_before N h.1 (Ad ad 0) x1 x2 (Ad ad 127) δ = some (kk, δ1) ∧ D_X12_before N h.1 (Ad ad 99) x1 x2 δ1 = some (b, d) ∧ q_I d 12 0 (Ad ad 99) = kk ∧ (kk = 0 → q_J d (Ad ad 127) 0 = b.toInt64)) ∧ IY ad h.1 d :=
  stepR (d1 := fun _ => nH x1) (d2 := fun δ1 => ¬ okA (shA (Ad ad 99) δ1) 4 x2.toInt) (P := fun δ1 v => aBe (hM ad δ1 (tH x1)) (hR ad δ1 (tH x1)) x2.toInt v) (f := fun δ1 => D_X12_before N h.1 (Ad ad 99) x1 x2 δ1) km V (k_L_before L hN (x1 := x1) (x2 := x2) kx no V.1.1.1) (gL_before L kx) (hL_before L hN V.1.1.1 (fun K hK => V.2.S hK)) (fun δ1 I1 O1 => o_before L hN km I1 O1) (fun δ1 I1 O1 X1 => hs_and (rs_before L hN km I1 O1) (hr_before L hN km (shA_b I1 km) I1 (fun K hK => X1.T hK))) (fun δ1 X1 c eA e4 => ⟨Iff.rfl, fun _ => by show (¬ okA (scA ad δ) 4 x2.toInt) ↔ ¬ okA (shA (Ad ad 99) δ1) 4 x2.toInt; rw [eA], fun n1 _ v w hq hp => aBe_u (U_re X1 c n1).1 hq hp⟩)
theorem y_kth (L : Lay TLx ad h) {N : Nat} (hN : 10000000 ≤ N) (kx : q_K h.1 (Ad ad 0) = 11) (km : q_K h.1 (Ad ad 99) = 12) (no : q_N h.1 (Ad ad 127) = 1) {x1 x2 : Int32} {δ : dp} (V : IY ad h.1 δ) : ∃ d, (∃ (kk b : Int32) (δ1 : dp), D_L_kth N h.1 (Ad ad 0) x1 x2 (Ad ad 127) δ = some (kk, δ1) ∧ D_X12_kth N h.1 (Ad ad 99) x1 x2 δ1 = some (b, d) ∧ q_I d 12 0 (Ad ad 99) = kk ∧ (kk = 0 → q_J d (Ad ad 127) 0 = b.toInt64)) ∧ IY ad h.1 d :=
  stepR (d1 := fun _ => nH x1) (d2 := fun _ => False) (P := fun δ1 v => AT (hM ad δ1 (tH x1)) (hR ad δ1 (tH x1)) x2.toInt v) (f := fun δ1 => D_X12_kth N h.1 (Ad ad 99) x1 x2 δ1) km V (k_L_kth L hN (x1 := x1) (x2 := x2) kx no V.1.1.1) (gL_kth L kx) (hL_kth L) (fun δ1 I1 O1 => o_kth L hN km I1 O1) (fun δ1 I1 O1 X1 => hs_and (rs_kth L hN km I1 O1) (hr_kth L hN km I1)) (fun δ1 X1 c eA e4 => ⟨Iff.rfl, fun _ => Iff.rfl, fun n1 _ v w hq hp => AT_u (AT_c (U_re X1 c n1).1 hq) hp⟩)
theorem y_between (L : Lay TLx ad h) {N : Nat} (hN : 10000000 ≤ N) (kx : q_K h.1 (Ad ad 0) = 11) (km : q_K h.1 (Ad ad 99) = 12) (no : q_N h.1 (Ad ad 127) = 1) {x1 x2 x3 : Int32} {δ : dp} (V : IY ad h.1 δ) : ∃ d, (∃ (kk b : Int32) (δ1 : dp), D_L_between N h.1 (Ad ad 0) x1 x2 x3 (Ad ad 127) δ = some (kk, δ1) ∧ D_X12_between N h.1 (Ad ad 99) x1 x2 x3 δ1 = some (b, d) ∧ q_I d 12 0 (Ad ad 99) = kk ∧ (kk = 0 → q_J d (Ad ad 127) 0 = b.toInt64)) ∧ IY ad h.1 d :=
  stepR (d1 := fun _ => nH x1) (d2 := fun δ1 => nN (shA (Ad ad 99) δ1) x2 ∨ nN (shA (Ad ad 99) δ1) x3) (P := fun δ1 v => aBt (hM ad δ1 (tH x1)) (hR ad δ1 (tH x1)) x2.toInt x3.toInt v) (f := fun δ1 => D_X12_between N h.1 (Ad ad 99) x1 x2 x3 δ1) km V (k_L_between L hN (x1 := x1) (x2 := x2) (x3 := x3) kx no V.1.1.1) (gL_between L kx) (hL_between L hN V.1.1.1 (fun K hK => V.2.S hK)) (fun δ1 I1 O1 => o_between L hN km I1 O1) (fun δ1 I1 O1 X1 => hs_and (rs_between L hN km I1 O1) (hr_between L hN km (shA_b I1 km) I1 (fun K hK => X1.T hK))) (fun δ1 X1 c eA e4 => ⟨Iff.rfl, fun _ => by show (nN (scA ad δ) x2 ∨ nN (scA ad δ) x3) ↔ (nN (shA (Ad ad 99) δ1) x2 ∨ nN (shA (Ad ad 99) δ1) x3); rw [eA], fun n1 _ v w hq hp => aBt_u (U_re X1 c n1).1 hq hp⟩)
theorem y_of (L : Lay TLx ad h) {N : Nat} (hNN : 10000000 ≤ N) (kx : q_K h.1 (Ad ad 0) = 11) (km : q_K h.1 (Ad ad 99) = 12) (no : q_N h.1 (Ad ad 127) = 1) {x1 x2 : Int32} {δ : dp} (V : IY ad h.1 δ) : ∃ d, (∃ (kk b : Int32) (δ1 : dp), D_L_of N h.1 (Ad ad 0) x1 x2 (Ad ad 127) δ = some (kk, δ1) ∧ D_X12_of_ N h.1 (Ad ad 99) x1 x2 δ1 = some (b, d) ∧ q_I d 12 0 (Ad ad 99) = kk ∧ (kk = 0 → q_J d (Ad ad 127) 0 = b.toInt64)) ∧ IY ad h.1 d :=
  stepR (d1 := fun _ => nH x1) (d2 := fun _ => x2.toInt < 0 ∨ 3 < x2.toInt) (P := fun δ1 v => (x2.toInt = 3 ∧ v = hN ad δ1 (tH x1)) ∨ (x2.toInt ≠ 3 ∧ aTe (hM ad δ1 (tH x1)) (hR ad δ1 (tH x1)) x2.toInt v)) (f := fun δ1 => D_X12_of_ N h.1 (Ad ad 99) x1 x2 δ1) km V (k_L_of L hNN (x1 := x1) (x2 := x2) kx no V.1.1.1) (gL_of_ L kx) (hL_of L hNN V.1.1.1) (fun δ1 I1 O1 => o_of_ L hNN km I1 O1) (fun δ1 I1 O1 X1 => hs_and (rs_of_ L hNN km I1 O1) (hr_of L hNN km I1 (fun K hK => X1.T hK))) (fun δ1 X1 c eA e4 => ⟨Iff.rfl, fun _ => Iff.rfl, fun n1 _ v w hq hp => by
    obtain ⟨u1, u2⟩ := U_re X1 c n1
    rcases hq with ⟨a, b⟩ | ⟨a, b⟩ <;> rcases hp with ⟨a', b'⟩ | ⟨a', b'⟩
    · rw [b, b', u2]
    · exact absurd a a'
    · exact absurd a' a
    · exact aTe_u u1 b b'⟩)
/-- put, drop -/
theorem y_put (L : Lay TLx ad h) {N : Nat} (hN : 10000000 ≤ N) (kx : q_K h.1 (Ad ad 0) = 11) (km : q_K h.1 (Ad ad 99) = 12) (no : q_N h.1 (Ad ad 127) = 1) {x1 x2 : Int32} {δ : dp} (V : IY ad h.1 δ) : ∃ d, (∃ (kk b : Int32) (δ1 : dp), D_L_put N h.1 (Ad ad 0) x1 x2 (Ad ad 127) δ = some (kk, δ1) ∧ D_X12_put N h.1 (Ad ad 99) x1 x2 δ1 = some (b, d) ∧ q_I d 12 0 (Ad ad 99) = kk ∧ (kk = 0 → q_J d (Ad ad 127) 0 = b.toInt64)) ∧ IY ad h.1 d :=
  stepP L (N := N) (f := fun δ1 => D_X12_put N h.1 (Ad ad 99) x1 x2 δ1) km V (V12 := [100, 102, 103, 104, 105, 106, 119, 125]) (by decide) (k_L_put L hN (x1 := x1) (x2 := x2) kx no V.1.1.1) (hL_put L hN V.1.1.1 (fun K hK => V.2.S hK)) (fun δ1 I1 O1 => o_put L hN km I1 O1) (fun δ1 I1 O1 => hs_and (hr_put L hN km I1 (fun K hK => (O1.1 K hK).1)) (hs_mono (ok_h (f12_put L hN (x1 := x1) (x2 := x2) km I1 O1.1)) (fun r hr => hr.2.2.1)))
theorem y_drop (L : Lay TLx ad h) {N : Nat} (hN : 10000000 ≤ N) (kx : q_K h.1 (Ad ad 0) = 11) (km : q_K h.1 (Ad ad 99) = 12) (no : q_N h.1 (Ad ad 127) = 1) {x1 x2 : Int32} {δ : dp} (V : IY ad h.1 δ) : ∃ d, (∃ (kk b : Int32) (δ1 : dp), D_L_drop N h.1 (Ad ad 0) x1 x2 (Ad ad 127) δ = some (kk, δ1) ∧ D_X12_drop N h.1 (Ad ad 99) x1 x2 δ1 = some (b, d) ∧ q_I d 12 0 (Ad ad 99) = kk ∧ (kk = 0 → q_J d (Ad ad 127) 0 = b.toInt64)) ∧ IY ad h.1 d :=
  stepP L (N := N) (f := fun δ1 => D_X12_drop N h.1 (Ad ad 99) x1 x2 δ1) km V (V12 := [100, 102, 103, 104, 105, 106, 119, 125]) (by decide) (k_L_drop L hN (x1 := x1) (x2 := x2) kx no V.1.1.1) (hL_drop L hN V.1.1.1 (fun K hK => V.2.S hK)) (fun δ1 I1 O1 => o_drop L hN km I1 O1) (fun δ1 I1 O1 => hs_and (hr_drop L hN km I1 (fun K hK => (O1.1 K hK).1)) (hs_mono (ok_h (f12_drop L hN (x1 := x1) (x2 := x2) km I1 O1.1)) (fun r hr => hr.2.2.1)))
/-- joins and split; their TOUCHES not compared -/
theorem y_joins (L : Lay TLx ad h) {N : Nat} (hN : 10000000 ≤ N) (kx : q_K h.1 (Ad ad 0) = 11) (km : q_K h.1 (Ad ad 99) = 12) (no : q_N h.1 (Ad ad 127) = 1) {x1 x2 x3 : Int32} {δ : dp} (V : IY ad h.1 δ) : ∃ d, (∃ (kk b : Int32) (δ1 : dp), D_L_joins N h.1 (Ad ad 0) x1 x2 x3 (Ad ad 127) δ = some (kk, δ1) ∧ D_X12_joins N h.1 (Ad ad 99) x1 x2 x3 δ1 = some (b, d) ∧ q_I d 12 0 (Ad ad 99) = kk ∧ (False → kk = 0 → q_J d (Ad ad 127) 0 = b.toInt64)) ∧ IY ad h.1 d :=
  stepJ L (τ := fun _ _ _ _ _ => True) (Z := False) (f := fun δ1 => D_X12_joins N h.1 (Ad ad 99) x1 x2 x3 δ1) km V (fun z => z.elim) (k_L_joins L hN (x1 := x1) (x2 := x2) (x3 := x3) kx no V.1.1.1) (hL_joins L hN (fun _ _ _ _ _ _ _ _ _ _ _ => trivial) V.1.1.1 (fun K hK => V.2.S hK) (IY_bd L V)) (fun δ1 I1 O1 => o_joins L hN km I1 O1) (fun δ1 I1 O1 _ => hr_joins L hN (fun _ _ _ _ _ _ _ _ _ _ _ _ _ => trivial) I1 (fun K hK => (O1.1 K hK).1))
theorem y_split (L : Lay TLx ad h) {N : Nat} (hN : 10000000 ≤ N) (kx : q_K h.1 (Ad ad 0) = 11) (km : q_K h.1 (Ad ad 99) = 12) (no : q_N h.1 (Ad ad 127) = 1) {x1 x2 x3 : Int32} {δ : dp} (V : IY ad h.1 δ) : ∃ d, (∃ (kk b : Int32) (δ1 : dp), D_L_split N h.1 (Ad ad 0) x1 x2 x3 (Ad ad 127) δ = some (kk, δ1) ∧ D_X12_split N h.1 (Ad ad 99) x1 x2 x3 δ1 = some (b, d) ∧ q_I d 12 0 (Ad ad 99) = kk ∧ (False → kk = 0 → q_J d (Ad ad 127) 0 = b.toInt64)) ∧ IY ad h.1 d :=
  stepV L (τ := fun _ _ _ _ _ => True) (Z := False) (f := fun δ1 => D_X12_split N h.1 (Ad ad 99) x1 x2 x3 δ1) km V (fun z => z.elim) (k_L_split L hN (x1 := x1) (x2 := x2) (x3 := x3) kx no V.1.1.1) (hL_split L hN (fun _ _ _ _ _ _ _ _ _ _ _ => trivial) V.1.1.1 (fun K hK => V.2.S hK) (IY_bd L V)) (fun δ1 I1 O1 => o_split L hN km I1 O1) (fun δ1 I1 O1 _ => hr_split L hN (fun _ _ _ _ _ _ _ _ _ => trivial) (fun _ _ _ _ _ _ _ _ _ _ _ _ _ => trivial) I1 (fun K hK => (O1.1 K hK).1))
end
/-- has, as the law compares it -/
theorem y_has2 {ad : List Nat} {h : hp} (L : Lay TLx ad h) {N : Nat} (hN : 10000000 ≤ N) (kx : q_K h.1 (Ad ad 0) = 11) (km : q_K h.1 (Ad ad 99) = 12) (no : q_N h.1 (Ad ad 127) = 1) {x1 x2 : Int32} {δ : dp} (V : IY ad h.1 δ) : ∃ d, (∃ (kk b : Int32) (δ1 : dp), D_L_has N h.1 (Ad ad 0) x1 x2 (Ad ad 127) δ = some (kk, δ1) ∧ D_X12_has N h.1 (Ad ad 99) x1 x2 δ1 = some (b, d) ∧ q_I d 12 0 (Ad ad 99) = kk ∧ (kk = 0 → q_J d (Ad ad 127) 0 = (if b = 0 then 0 else 1))) ∧ IY ad h.1 d := by
  obtain ⟨d, ⟨kk, b, δ1, e1, e2, e3, e4⟩, W⟩ := y_has L hN kx km no V (x1 := x1) (x2 := x2)
  refine ⟨d, ⟨kk, b, δ1, e1, e2, e3, fun z => ?_⟩, W⟩
  have hb : b = 0 ∨ b = 1 := by
    have : hs (D_X12_has N h.1 (Ad ad 99) x1 x2 δ1) (fun r => r.1 = 0 ∨ r.1 = 1) := by
      unfold D_X12_has J_X12_has_28
      exact hs_bdv (fun _ _ => hs_bind (P := fun _ => True) (fun _ _ => trivial) (fun _ _ => hs_ite (fun _ => hs_gp (fun _ => hs_some (Or.inl rfl))) (fun _ => hs_bind (P := fun _ => True) (fun _ _ => trivial) (fun _ _ => hs_bind (P := fun _ => True) (fun _ _ => trivial) (fun _ _ => hs_ite (fun _ => hs_gp (fun _ => hs_some (Or.inl rfl))) (fun _ => hs_bind (P := fun _ => True) (fun _ _ => trivial) (fun _ _ => hs_gp (fun c => hs_some c))))))))
    exact this _ e2
  rw [e4 z]
  rcases hb with rfl | rfl <;> rfl
end
