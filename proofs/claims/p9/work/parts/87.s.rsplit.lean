/-! joins of the reference, whole; split of the reference -/
theorem rJ3_q {ad : List Nat} {τ : TAU} {how : Int} {A B : Nat} {δ d1 d : dp} {b : Int32} (w : q_R d1 = q_R δ) (hh : rJ3 ad τ how A B d1 b d) : rJ3 ad τ how A B δ b d := by
  obtain ⟨eM, eR, eN, eT, eF⟩ := hr_same (ad := ad) (V := []) (δ := δ) (d := d1) (fun i _ _ _ => by rw [w]) (fun i _ z => by cases z)
  unfold rJ3 sRf at hh ⊢
  simp only [eM, eR, eN, eT, eF] at hh
  rcases hh with ⟨a, b, c, k⟩ | ⟨a, b, c, k⟩ | ⟨a, b, k, m, ts, c, e⟩
  · exact Or.inl ⟨a, b, c, fun i x y z => by rw [k i x y z, w]⟩
  · exact Or.inr (Or.inl ⟨a, b, c, fun i x y z => by rw [k i x y z, w]⟩)
  · exact Or.inr (Or.inr ⟨a, b, fun i x y z => by rw [k i x y z, w], mfr_eq eM eR eN eT eF m, ts, c, e⟩)
def hRJ (ad : List Nat) (τ : TAU) (x1 x2 x3 : Int32) (δ : dp) (b : Int32) (d : dp) : Prop :=
  ((x1.toInt < 0 ∨ 3 < x1.toInt ∨ x2.toInt < 0 ∨ 3 < x2.toInt) ∧ q_I d 12 0 (Ad ad 99) = 1 ∧ kr ad [100] δ d) ∨
  ∃ A B : Nat, A < 4 ∧ B < 4 ∧ x1.toInt = (A : Int) ∧ x2.toInt = (B : Int) ∧
    (((A = B ∨ x3.toInt < 0 ∨ 2 < x3.toInt) ∧ q_I d 12 0 (Ad ad 99) = 2 ∧ kr ad [100] δ d) ∨ (A ≠ B ∧ 0 ≤ x3.toInt ∧ x3.toInt ≤ 2 ∧ q_I d 12 0 (Ad ad 99) = 0 ∧ rJ3 ad τ x3.toInt A B δ b d))
theorem HTr_t {ad : List Nat} {N : Nat} {h : hp} {δ0 δ d1 : dp} {K : Nat} {τ : TAU} (H : HTr ad N h δ0 δ K τ) (r : r3s δ d1 (Ad ad 99)) : HTr ad N h δ0 d1 K τ := fun x1 c x d e t a b s q o => H x1 c x d e t a b s (r.t q) o
theorem hr_joins {ad : List Nat} {h : hp} (L : Lay TLx ad h) {δ0 : dp} {N : Nat} (hNN : 10000000 ≤ N) {τ : TAU} {x1 x2 x3 : Int32} {δ : dp} (HT : ∀ K, K < 4 → HTr ad N h δ0 δ K τ) (I : RI ad h.1 δ0 δ) (S : ∀ K, K < 4 → hsr ad δ K) : hs (D_X12_joins N h.1 (Ad ad 99) x1 x2 x3 δ) (fun r => hRJ ad τ x1 x2 x3 δ r.1 r.2) := by
  have ka : q_K h.1 (Ad ad 99) = 12 := (lay_knd L (by decide)).trans (by decide)
  have z0 : (0 : Int32).toInt = 0 := rfl
  have z2 : (2 : Int32).toInt = 2 := rfl
  unfold D_X12_joins
  refine hs_bdv (fun d1 e1 => ?_)
  have i1 : RI ad h.1 δ0 d1 := by rw [e1]; exact cs_12_0 L I
  have t0 : q_I d1 12 0 (Ad ad 99) = 0 := by rw [e1]; exact rI_s
  have w1 : q_R d1 = q_R δ := by rw [e1]; rfl
  have kr1 : ∀ {V d}, kr ad V d1 d → kr ad V δ d := fun k i a b c => by rw [k i a b c, w1]
  obtain ⟨eM, eR, eN, eT, eF⟩ := hr_same (ad := ad) (V := []) (δ := δ) (d := d1) (fun i _ _ _ => by rw [w1]) (fun i _ z => by cases z)
  have HT1 : ∀ K, K < 4 → HTr ad N h δ0 d1 K τ := fun K hK => HTr_t (HT K hK) ⟨by rw [e1, rI_o (by decide)], by rw [e1, rI_o (by decide)], by rw [e1, rI_o (by decide)]⟩
  have S1 : ∀ K, K < 4 → hsr ad d1 K := fun K hK => ⟨by rw [eM]; exact (S K hK).1, by rw [eM, eR]; exact (S K hK).2⟩
  refine hs_bind (hr_isHouse L hNN (x1 := x1) (x2 := 1) ka i1 t0 (by decide)) (fun r hr => ?_)
  rcases hr with ⟨q1, q2, A, hA, hx⟩ | ⟨q1, q2, q3, q4⟩
  rotate_left
  · rw [q1]
    refine hs_ite (fun _ => ?_) (fun z => absurd rfl z)
    unfold J_X12_joins_51
    exact hs_some (Or.inl ⟨by omega, q3, kr1 q4⟩)
  rw [q1, q2]
  refine hs_ite (fun z => absurd z (by decide)) (fun _ => ?_)
  refine hs_bind (hr_isHouse L hNN (x1 := x2) (x2 := 1) ka i1 t0 (by decide)) (fun r hr => ?_)
  rcases hr with ⟨q1, q2, B, hB, hy⟩ | ⟨q1, q2, q3, q4⟩
  rotate_left
  · rw [q1]
    refine hs_ite (fun _ => ?_) (fun z => absurd rfl z)
    unfold J_X12_joins_51
    exact hs_some (Or.inl ⟨by omega, q3, kr1 q4⟩)
  rw [q1, q2]
  refine hs_ite (fun z => absurd z (by decide)) (fun _ => ?_)
  have no : (A = B ∨ x3.toInt < 0 ∨ 2 < x3.toInt) → hs (J_X12_joins_42 N h.1 (Ad ad 99) x1 x2 x3 (Ad ad 99) d1) (fun r => hRJ ad τ x1 x2 x3 δ r.1 r.2) := fun hh => by
    unfold J_X12_joins_42 J_X12_joins_43
    refine hs_bind (hr_may L (x1 := 0) (x2 := 2) (x3 := 2) ka t0 (by decide)) (fun r4 h4 => ?_)
    rcases h4 with ⟨n4, _⟩ | ⟨_, g1, g2, g3⟩
    · exact absurd rfl n4
    · rw [g1]
      refine hs_ite (fun _ => ?_) (fun z => absurd rfl z)
      unfold J_X12_joins_51
      exact hs_some (Or.inr ⟨A, B, hA, hB, hx, hy, Or.inl ⟨hh, g2, kr1 g3⟩⟩)
  refine hs_ite (fun c => no (Or.inl ?_)) (fun c => ?_)
  · have := o_eq c; omega
  · have c1 := o_ne c
    refine hs_bind (hr_within L hNN (x0 := x3) (x1 := 0) (x2 := 2) i1) (fun r3 h3 => ?_)
    obtain ⟨e3, hq⟩ := h3
    rw [e3]
    rcases hq with ⟨v, v1, v2⟩ | ⟨v, v1⟩
    · rw [v]
      refine hs_ite (fun z => absurd z (by decide)) (fun _ => ?_)
      have run : ∀ x6, (x3.toInt = 1 ∧ x6 = x1 ∨ x3.toInt ≠ 1 ∧ x6 = x2) → hs (J_X12_joins_69 N h.1 (Ad ad 99) x1 x2 x3 x6 0 0 d1) (fun r => hRJ ad τ x1 x2 x3 δ r.1 r.2) := fun x6 h6 => by
        unfold J_X12_joins_69
        refine hs_mono (hr_74 L hNN hA hB (HT1 A hA) hx hy (by omega) (by omega) h6 (S1 A hA) (S1 B hB) N 0 0 0 0 0 d1 rfl rfl rfl (fun _ => (S1 A hA).1) (fun _ => (S1 B hB).1) i1 (fun _ _ _ _ => rfl) (fun _ _ _ _ => rfl) ?_) (fun r hr => ?_)
        · by_cases q : x3.toInt = 1
          · exact Or.inr ⟨q, rfl, Nat.le_refl _, rfl, fun i j a b => by omega, fun j hj => by omega⟩
          · exact Or.inl ⟨q, rfl, fun j hj => by omega⟩
        · exact Or.inr ⟨A, B, hA, hB, hx, hy, Or.inr ⟨fun z => by omega, by omega, by omega, (hr.1 12 0 _ (by decide)).trans t0, rJ3_q w1 hr.2⟩⟩
      unfold J_X12_joins_43
      refine hs_bind (hr_may L (x1 := 1) (x2 := 2) (x3 := 2) ka t0 (by decide)) (fun r4 h4 => ?_)
      rcases h4 with ⟨_, g1, g2⟩ | ⟨n4, _⟩
      · rw [g1, g2]
        refine hs_ite (fun z => absurd z (by decide)) (fun _ => ?_)
        refine hs_ite (fun c2 => run x1 (Or.inl ⟨by rw [c2]; rfl, rfl⟩)) (fun c2 => run x2 (Or.inr ⟨fun z => c2 (i_eq z), rfl⟩))
      · exact absurd n4 (by decide)
    · rw [v]
      exact hs_ite (fun _ => no (Or.inr (by omega))) (fun z => absurd rfl z)
/-! split -/
/-- one state is the other -/
def eqr (s s1 : RSt) : Prop := RE s.1 s.2.1 s1.1 s1.2.1 ∧ s1.2.2.1 = s.2.2.1 ∧ ∀ i : Nat, (i : Int) < s.2.2.1 → s1.2.2.2.1 i = s.2.2.2.1 i ∧ s1.2.2.2.2 i = s.2.2.2.2 i
theorem st_r {τ : TAU} {c x : Int} {t : Int32} {s s1 s2 : RSt} (h : stR τ c x t s s1) (e : eqr s1 s2) : stR τ c x t s s2 := by
  obtain ⟨M, R, n, T, F⟩ := s
  obtain ⟨M1, R1, n1, T1, F1⟩ := s1
  obtain ⟨M2, R2, n2, T2, F2⟩ := s2
  obtain ⟨h, ht⟩ := h
  obtain ⟨e1, e2, e3⟩ := e
  refine ⟨?_, ht⟩
  unfold mra at h ⊢
  dsimp only at h e1 e2 e3 ⊢
  rcases h with ⟨a, b, k, l, m⟩ | ⟨a, b, ⟨p, P, k1, k2⟩, l, m⟩ | ⟨a, b, k, l, m⟩ | ⟨a, b, ⟨p, P, P2, k1, k2⟩, l, m⟩
  · exact Or.inl ⟨a, b, k.t e1, by omega, fun i hi => by obtain ⟨u, v⟩ := e3 i (by omega); rw [u, v]; exact m i hi⟩
  · refine Or.inr (Or.inl ⟨a, b, ⟨p, P, by rw [e1.1]; exact k1, fun i hi => by rw [e1.2 i (by omega)]; exact k2 i hi⟩, by omega, fun i hi => by obtain ⟨u, v⟩ := e3 i (by omega); rw [u, v]; exact m i hi⟩)
  · exact Or.inr (Or.inr (Or.inl ⟨a, b, k.t e1, by omega, fun i hi => by obtain ⟨u, v⟩ := e3 i (by omega); rw [u, v]; exact m i hi⟩))
  · exact Or.inr (Or.inr (Or.inr ⟨a, b, ⟨p, P, P2, by rw [e1.1]; exact k1, fun i hi => by rw [e1.2 i (by omega)]; exact k2 i hi⟩, by omega, fun i hi => by obtain ⟨u, v⟩ := e3 i (by omega); rw [u, v]; exact m i hi⟩))
theorem st_l {τ : TAU} (hτ : ∀ (c x M M1 : Int) (R R1 : Nat → Int) (t : Int32), RE M R M1 R1 → τ c x M1 R1 t → τ c x M R t) {c x : Int} {t : Int32} {s s1 s2 : RSt} (h : stR τ c x t s s1) (e : eqr s2 s) : stR τ c x t s2 s1 := by
  obtain ⟨M, R, n, T, F⟩ := s
  obtain ⟨M1, R1, n1, T1, F1⟩ := s1
  obtain ⟨M2, R2, n2, T2, F2⟩ := s2
  obtain ⟨h, ht⟩ := h
  obtain ⟨e1, e2, e3⟩ := e
  refine ⟨?_, hτ _ _ _ _ _ _ _ e1 ht⟩
  unfold mra at h ⊢
  dsimp only at h e1 e2 e3 ⊢
  have me : ME M R x ↔ ME M2 R2 x := (ME_i e1).symm
  have eM := e1.1
  rcases h with ⟨a, b, k, l, m⟩ | ⟨a, b, ⟨p, P, k1, k2⟩, l, m⟩ | ⟨a, b, k, l, m⟩ | ⟨a, b, ⟨p, P, P2, k1, k2⟩, l, m⟩
  · exact Or.inl ⟨a, me.mp b, e1.t k, by omega, fun i hi => by obtain ⟨u, v⟩ := e3 i hi; rw [← u, ← v]; exact m i (by omega)⟩
  · have pm := P.1
    refine Or.inr (Or.inl ⟨a, fun z => b (me.mpr z), ⟨p, PL_c e1.s P, by omega, fun i hi => ?_⟩, by omega, fun i hi => ?_⟩)
    · rw [k2 i (by omega)]
      by_cases c1 : i < p
      · rw [if_pos c1, if_pos c1, e1.2 i (by omega)]
      · rw [if_neg c1, if_neg c1]
        by_cases c2 : i = p
        · rw [if_pos c2, if_pos c2]
        · rw [if_neg c2, if_neg c2, e1.2 (i - 1) (by omega)]
    · rw [(m i (by omega)).1, (m i (by omega)).2, e2]
      by_cases c1 : (i : Int) = n2
      · rw [if_pos c1, if_pos c1, if_pos c1, if_pos c1]; exact ⟨rfl, rfl⟩
      · rw [if_neg c1, if_neg c1, if_neg c1, if_neg c1]; exact e3 i (by omega)
  · exact Or.inr (Or.inr (Or.inl ⟨a, fun z => b (me.mpr z), e1.t k, by omega, fun i hi => by obtain ⟨u, v⟩ := e3 i hi; rw [← u, ← v]; exact m i (by omega)⟩))
  · refine Or.inr (Or.inr (Or.inr ⟨a, me.mp b, ⟨p, by omega, (e1.2 p (by omega)).symm.trans P2, by omega, fun i hi => ?_⟩, by omega, fun i hi => ?_⟩))
    · rw [k2 i (by omega)]
      by_cases c1 : i < p
      · rw [if_pos c1, if_pos c1, e1.2 i (by omega)]
      · rw [if_neg c1, if_neg c1, e1.2 (i + 1) (by omega)]
    · rw [(m i (by omega)).1, (m i (by omega)).2, e2]
      by_cases c1 : (i : Int) = n2
      · rw [if_pos c1, if_pos c1, if_pos c1, if_pos c1]; exact ⟨rfl, rfl⟩
      · rw [if_neg c1, if_neg c1, if_neg c1, if_neg c1]; exact e3 i (by omega)
theorem mfr_s {ad : List Nat} {h : hp} (L : Lay TLx ad h) {δ0 : dp} {K J : Nat} {δ d : dp} (I : RI ad h.1 δ0 δ) (m : mfr ad K δ d) (n : J ≠ K) : eqr (sRf ad δ J) (sRf ad d J) := by
  obtain ⟨m1, m2, m3, m4⟩ := m J n
  have b3 := rb_103 L I J
  have b6 := rb_106 L I J
  have v3 : (q_R δ (Ad ad 103) J).toInt = hM ad δ J := rfl
  have v6 : (q_R δ (Ad ad 106) J).toInt = hN ad δ J := rfl
  refine ⟨⟨m1, fun i hi => m3 i ?_⟩, m2, fun i hi => m4 i ?_⟩
  · have hi' : (i : Int) < hM ad δ J := hi
    omega
  · have hi' : (i : Int) < hN ad δ J := hi
    omega
/-- what changes of two houses leave -/
def mfr2 (ad : List Nat) (A B : Nat) (δ δ1 : dp) : Prop := ∀ J, J ≠ A → J ≠ B → hM ad δ1 J = hM ad δ J ∧ hN ad δ1 J = hN ad δ J ∧ (∀ i, i < 2000 → hR ad δ1 J i = hR ad δ J i) ∧ ∀ i, i < 1000 → nT ad δ1 J i = nT ad δ J i ∧ cF ad δ1 J i = cF ad δ J i
theorem mfr2.t {ad : List Nat} {A B : Nat} {δ δ1 δ2 : dp} (h : mfr2 ad A B δ δ1) (k : mfr2 ad A B δ1 δ2) : mfr2 ad A B δ δ2 := fun J n m => by
  obtain ⟨h1, h2, h3, h4⟩ := h J n m
  obtain ⟨k1, k2, k3, k4⟩ := k J n m
  exact ⟨k1.trans h1, k2.trans h2, fun i hi => (k3 i hi).trans (h3 i hi), fun i hi => ⟨(k4 i hi).1.trans (h4 i hi).1, (k4 i hi).2.trans (h4 i hi).2⟩⟩
theorem mfr2_eq {ad : List Nat} {δ δ1 d : dp} {A B : Nat} (eM : ∀ J, hM ad δ1 J = hM ad δ J) (eR : ∀ J, hR ad δ1 J = hR ad δ J) (eN : ∀ J, hN ad δ1 J = hN ad δ J) (eT : ∀ J, nT ad δ1 J = nT ad δ J) (eF : ∀ J, cF ad δ1 J = cF ad δ J) (m : mfr2 ad A B δ1 d) : mfr2 ad A B δ d := fun J n k => by
  have := m J n k
  rw [eM, eR, eN, eT, eF] at this; exact this
theorem hr_181 {ad : List Nat} {h : hp} (L : Lay TLx ad h) {δ0 δb : dp} {N : Nat} (hNN : 10000000 ≤ N) {A B n0 : Nat} (hA : A < 4) (hB : B < 4) (ne : A ≠ B) {τ : TAU} (hτ : ∀ (c x M M1 : Int) (R R1 : Nat → Int) (t : Int32), RE M R M1 R1 → τ c x M1 R1 t → τ c x M R t) (HA : HTr ad N h δ0 δb A τ) (HB : HTr ad N h δ0 δb B τ) {x1 x2 x3 x4 : Int32} (hx : x1.toInt = (A : Int)) (hy : x2.toInt = (B : Int)) (h4 : x4.toInt = (n0 : Int)) (hn : n0 ≤ 2000) {Y : Nat → Int} (sY : ∀ i j : Nat, i < j → j < n0 → Y i ≠ Y j) : ∀ (f i : Nat) (x6 x7 : Int32) (δ : dp), x7.toInt = (i : Int) → i ≤ n0 → RI ad h.1 δ0 δ → r3s δb δ (Ad ad 99) → hsr ad δ A → hsr ad δ B → (∀ j, j < n0 → tl ad δ j = Y j) → hN ad δ A + ((n0 - i : Nat) : Int) ≤ 1000 → hM ad δ B + (cn (fun j => chg 0 (hM ad δ B) (hR ad δ B) (Y j)) i (n0 - i) : Nat) ≤ 2000 → hN ad δ B + (cn (fun j => chg 0 (hM ad δ B) (hR ad δ B) (Y j)) i (n0 - i) : Nat) ≤ 1000 → hs (L_X12_split_181 N h.1 (Ad ad 99) x1 x2 x3 f x4 x6 x7 δ) (fun r => fJ ad δ r.2 ∧ mfr2 ad A B δ r.2 ∧ ∃ ts us, chn (stR τ) (lst 1 Y (n0 - i) i) (sRf ad δ A) (sRf ad r.2 A) ts ∧ chn (stR τ) (lst 0 Y (n0 - i) i) (sRf ad δ B) (sRf ad r.2 B) us ∧ r.1 = smt2 x6 ts us) := by
  have ka : q_K h.1 (Ad ad 99) = 12 := (lay_knd L (by decide)).trans (by decide)
  obtain ⟨b48, o48, _⟩ := gO_12_48 L ka
  obtain rfl := gS_12_48 L ka o48
  have z0 : (0 : Int32).toInt = 0 := rfl
  have z1 : (1 : Int32).toInt = 1 := rfl
  intro f
  induction f with
  | zero => intro i x6 x7 δ _ _ _ _ _ _ _ _ _ _; exact hs_none
  | succ f ih =>
    intro i x6 x7 δ h7 hi I B3 SA SB hT BA B1 B2
    unfold L_X12_split_181
    refine hs_ite (fun c => ?_) (fun c => ?_)
    · have c1 := o_le c
      rw [show n0 - i = 0 by omega]
      exact hs_some ⟨fJ.r, fun _ _ _ => ⟨rfl, rfl, fun _ _ => rfl, fun _ _ => ⟨rfl, rfl⟩⟩, [], [], ⟨rfl, rfl⟩, ⟨rfl, rfl⟩, rfl⟩
    · have c1 := o_nle c
      have t7 := ti_tn x7
      have yi : (q_R δ (Ad ad 125) i).toInt = Y i := hT i (by omega)
      rw [show n0 - i = (n0 - (i + 1)) + 1 by omega] at B1 B2 ⊢
      refine hs_at o48 (hs_gd (fun _ => ?_))
      rw [show x7.toNatClampNeg = i by omega]
      refine hs_bind (hr_calls L hNN (x := q_R δ (Ad ad 125) i) hx hA (Or.inr rfl) HA I SA B3 (fun z => absurd z (by decide)) (fun _ => by omega)) (fun r hr => ?_)
      obtain ⟨I1, u1, w1, S1, m1, g1, t1⟩ := hr
      rw [yi, z1] at g1 t1
      refine hs_biv (fun x6a e6a => ?_)
      refine hs_at o48 (hs_gd (fun _ => ?_))
      have w125 : q_R r.2 (Ad ad 125) = q_R δ (Ad ad 125) := w1 125 (by decide) (by decide) (by decide)
      have yi' : (q_R r.2 (Ad ad 125) i).toInt = Y i := by rw [w125]; exact yi
      obtain ⟨q1, q2, q3, q4⟩ := m1 B (fun z => ne z.symm)
      have eB := mfr_s L I m1 (J := B) (fun z => ne z.symm)
      have eB1 : RE (hM ad δ B) (hR ad δ B) (hM ad r.2 B) (hR ad r.2 B) := eB.1
      have SB1 : hsr ad r.2 B := ⟨by rw [q1]; exact SB.1, SR_c eB1 SB.2⟩
      have cc : ∀ k, cn (fun j => chg 0 (hM ad r.2 B) (hR ad r.2 B) (Y j)) i k = cn (fun j => chg 0 (hM ad δ B) (hR ad δ B) (Y j)) i k := fun k => cn_congr k i (fun j _ _ => by unfold chg; rw [ME_i (x := Y j) eB1])
      have B1' : (0 : Int) = 0 → hM ad r.2 B + (cn (fun j => chg 0 (hM ad r.2 B) (hR ad r.2 B) (Y j)) i ((n0 - (i + 1)) + 1) : Nat) ≤ 2000 := fun _ => by rw [cc, q1]; exact B1
      have B2' : hN ad r.2 B + (cn (fun j => chg 0 (hM ad r.2 B) (hR ad r.2 B) (Y j)) i ((n0 - (i + 1)) + 1) : Nat) ≤ 1000 := by rw [cc, q2]; exact B2
      obtain ⟨R1, R2⟩ := rroom_0 B1' B2'
      have B31 := B3.t (r3s_k u1 (by decide))
      refine hs_bind (hr_calls L hNN (x := q_R r.2 (Ad ad 125) i) hy hB (Or.inl rfl) HB I1 SB1 B31 (fun _ y => R1 rfl (by rw [← yi']; exact y)) (fun y => R2 (by rw [← yi']; exact y))) (fun r' hr' => ?_)
      obtain ⟨I2, u2, w2, S2, m2, g2, t2⟩ := hr'
      rw [yi', z0] at g2 t2
      refine hs_biv (fun x6b e6b => hs_biv (fun x7' e7 => ?_))
      have y7 := te_addc (c := 1) (n := 1) rfl x7 (by omega) (by omega)
      rw [← e7] at y7
      obtain ⟨N1, N2⟩ := rroom_s g2 SB1.2 (fun j a b => fun z => sY i j a (by omega) z.symm) B1' B2'
      have w125' : q_R r'.2 (Ad ad 125) = q_R r.2 (Ad ad 125) := w2 125 (by decide) (by decide) (by decide)
      obtain ⟨p1, p2, p3, p4⟩ := m2 A ne
      have eA := mfr_s L I1 m2 (J := A) ne
      have eA1 : RE (hM ad r.2 A) (hR ad r.2 A) (hM ad r'.2 A) (hR ad r'.2 A) := eA.1
      have SA2 : hsr ad r'.2 A := ⟨by rw [p1]; exact S1.1, SR_c eA1 S1.2⟩
      have nA : hN ad r'.2 A + ((n0 - (i + 1) : Nat) : Int) ≤ 1000 := by
        rcases (mr_n g1 SA.2).1 with ⟨_, e⟩ | ⟨_, e⟩ <;> omega
      refine hs_mono (ih (i + 1) x6b x7' r'.2 (by omega) (by omega) I2 (B31.t (r3s_k u2 (by decide))) SA2 S2 (fun j hj => by unfold tl; rw [w125', w125]; exact hT j hj) nA (N1 rfl) N2) (fun q hq => ?_)
      obtain ⟨k1, k2, ts, us, k3, k4, k5⟩ := hq
      refine ⟨fJ.t ⟨u1, w1⟩ (fJ.t ⟨u2, w2⟩ k1), mfr2.t (fun J a _ => m1 J a) (mfr2.t (fun J _ b => m2 J b) k2), r.1 :: ts, r'.1 :: us, ⟨_, _, _, st_r (s1 := sRf ad r.2 A) ⟨g1, t1⟩ eA, k3, rfl⟩, ⟨sRf ad r'.2 B, r'.1, us, st_l hτ (s := sRf ad r.2 B) (s1 := sRf ad r'.2 B) ⟨g2, t2⟩ eB, k4, rfl⟩, ?_⟩
      rw [k5, e6b, e6a, Int32.add_assoc]; rfl
/-- what split of the reference answers and leaves -/
def rS3 (ad : List Nat) (τ : TAU) (p A B : Nat) (δ : dp) (w : Int32) (d : dp) : Prop :=
  let n := (hM ad δ A).toNat - p
  let fr := cn (fun j => ¬ ME (hM ad δ B) (hR ad δ B) (hR ad δ A (p + j))) 0 n
  (2000 < hM ad δ B + (fr : Int) ∧ w = -1 ∧ kr ad [125] δ d) ∨
  (hM ad δ B + (fr : Int) ≤ 2000 ∧ (1000 < hN ad δ A + (n : Int) ∨ 1000 < hN ad δ B + (fr : Int)) ∧ w = -2 ∧ kr ad [125] δ d) ∨
  (hM ad δ B + (fr : Int) ≤ 2000 ∧ hN ad δ A + (n : Int) ≤ 1000 ∧ hN ad δ B + (fr : Int) ≤ 1000 ∧ kr ad [102, 103, 104, 105, 106, 119, 125] δ d ∧ mfr2 ad A B δ d ∧ ∃ ts us, chn (stR τ) (lst 1 (fun j => hR ad δ A (p + j)) n 0) (sRf ad δ A) (sRf ad d A) ts ∧ chn (stR τ) (lst 0 (fun j => hR ad δ A (p + j)) n 0) (sRf ad δ B) (sRf ad d B) us ∧ w = smt2 0 ts us)
theorem hr_66 {ad : List Nat} {h : hp} (L : Lay TLx ad h) {δ0 δb : dp} {N : Nat} (hNN : 10000000 ≤ N) {A B p : Nat} (hA : A < 4) (hB : B < 4) (ne : A ≠ B) {τ : TAU} (hτ : ∀ (c x M M1 : Int) (R R1 : Nat → Int) (t : Int32), RE M R M1 R1 → τ c x M1 R1 t → τ c x M R t) (HA : HTr ad N h δ0 δb A τ) (HB : HTr ad N h δ0 δb B τ) {x1 x2 x3 : Int32} (hx : x1.toInt = (A : Int)) (hy : x2.toInt = (B : Int)) (SA : hsr ad δb A) (SB : hsr ad δb B) : ∀ (f k : Nat) (x4 x5 x6 : Int32) (d : dp), x4.toInt = (k : Int) → x6.toInt = (p : Int) + (k : Int) → x5.toInt = (cn (fun j => ¬ ME (hM ad δb B) (hR ad δb B) (hR ad δb A (p + j))) 0 k : Int) → (p : Int) + (k : Int) ≤ hM ad δb A → RI ad h.1 δ0 d → kp [] δb d → kr ad [125] δb d → (∀ j, j < k → tl ad d j = hR ad δb A (p + j)) → hs (L_X12_split_66 N h.1 (Ad ad 99) x1 x2 x3 f x4 x5 x6 d) (fun r => kp [(12, 36)] δb r.2 ∧ rS3 ad τ p A B δb r.1 r.2) := by
  have ka : q_K h.1 (Ad ad 99) = 12 := (lay_knd L (by decide)).trans (by decide)
  obtain ⟨b48, o48, _⟩ := gO_12_48 L ka
  obtain rfl := gS_12_48 L ka o48
  obtain ⟨b14, o14, _⟩ := gO_12_14 L ka
  obtain rfl := gS_12_14 L ka o14
  obtain ⟨b17, o17, _⟩ := gO_12_17 L ka
  obtain rfl := gS_12_17 L ka o17
  have z0 : (0 : Int32).toInt = 0 := rfl
  have z1 : (1 : Int32).toInt = 1 := rfl
  have z1000 : (1000 : Int32).toInt = 1000 := rfl
  have z2000 : (2000 : Int32).toInt = 2000 := rfl
  have tx1 := tnH hx
  have tx2 := tnH hy
  intro f
  induction f with
  | zero => intro k x4 x5 x6 d _ _ _ _ _ _ _ _; exact hs_none
  | succ f ih =>
    intro k x4 x5 x6 d h4 h6 h5 hk I u w T
    obtain ⟨eM, eR, eN, eT, eF⟩ := hr_same w (by decide)
    have SAd : hsr ad d A := ⟨by rw [eM]; exact SA.1, by rw [eM, eR]; exact SA.2⟩
    have SBd : hsr ad d B := ⟨by rw [eM]; exact SB.1, by rw [eM, eR]; exact SB.2⟩
    have bA := rb_103 L I A
    have bB := rb_103 L I B
    have bNA := rb_106 L I A
    have bNB := rb_106 L I B
    have vA : (q_R d (Ad ad 103) A).toInt = hM ad δb A := eM A
    have vB : (q_R d (Ad ad 103) B).toInt = hM ad δb B := eM B
    have vNA : (q_R d (Ad ad 106) A).toInt = hN ad δb A := eN A
    have vNB : (q_R d (Ad ad 106) B).toInt = hN ad δb B := eN B
    have a0 := SA.1
    have b0 := SB.1
    have cl := cn_le (P := fun j => ¬ ME (hM ad δb B) (hR ad δb B) (hR ad δb A (p + j))) k 0
    unfold L_X12_split_66
    refine hs_at o14 (hs_gd (fun _ => ?_))
    rw [tx1]
    refine hs_ite (fun c => ?_) (fun c => ?_)
    · -- the end
      have c1 := o_le c
      have en : (hM ad δb A).toNat - p = k := by omega
      have t2 := te_add (q_R d (Ad ad 103) B) x5 (by omega) (by omega)
      have t3 := te_add (q_R d (Ad ad 106) A) x4 (by omega) (by omega)
      have t4 := te_add (q_R d (Ad ad 106) B) x5 (by omega) (by omega)
      refine hs_at o14 (hs_gd (fun _ => ?_))
      rw [tx2]
      refine hs_ite (fun c2 => ?_) (fun c2 => ?_)
      · have c3 := o_le c2
        refine hs_at o17 (hs_gd (fun _ => ?_))
        refine hs_ite (fun c4 => ?_) (fun c4 => ?_)
        · have c5 := o_lt c4
          unfold J_X12_split_172
          refine hs_some ⟨kp_w (by decide) u, ?_⟩
          unfold rS3
          rw [en]
          exact Or.inr (Or.inl ⟨by omega, Or.inl (by omega), rfl, w⟩)
        · have c5 := o_nlt c4
          refine hs_at o17 (hs_gd (fun _ => ?_))
          refine hs_ite (fun c6 => ?_) (fun c6 => ?_)
          · have c7 := o_le c6
            have ec : ∀ k, cn (fun j => chg 0 (hM ad d B) (hR ad d B) (hR ad δb A (p + j))) 0 k = cn (fun j => ¬ ME (hM ad δb B) (hR ad δb B) (hR ad δb A (p + j))) 0 k := fun k => cn_congr k 0 (fun j _ _ => by
              rw [eM, eR]; unfold chg
              exact ⟨fun z => z.mp rfl, fun z => ⟨fun _ => z, fun _ => rfl⟩⟩)
            refine hs_mono (hr_181 L hNN (n0 := k) (Y := fun j => hR ad δb A (p + j)) hA hB ne hτ HA HB hx hy h4 (by omega) (fun i j a b z => by have := SA.2 (p + i) (p + j) (by omega) (by omega); have z' : hR ad δb A (p + i) = hR ad δb A (p + j) := z; omega) N 0 0 0 d rfl (Nat.zero_le _) I (r3s_k u (by decide)) SAd SBd T (by rw [eN, Nat.sub_zero]; omega) (by rw [ec, eM, Nat.sub_zero]; omega) (by rw [ec, eN, Nat.sub_zero]; omega)) (fun r hr => ?_)
            obtain ⟨k1, k2, ts, us, k3, k4, k5⟩ := hr
            refine ⟨kp_w (by decide) (kp_t u k1.1), ?_⟩
            unfold rS3
            rw [en]
            have es : ∀ J, sRf ad d J = sRf ad δb J := fun J => by unfold sRf; rw [eM, eR, eN, eT, eF]
            rw [es, Nat.sub_zero] at k3 k4
            exact Or.inr (Or.inr ⟨by omega, by omega, by omega, kr_w (by decide) (kr_t w k1.2), mfr2_eq eM eR eN eT eF k2, ts, us, k3, k4, k5⟩)
          · have c7 := o_nle c6
            unfold J_X12_split_172
            refine hs_some ⟨kp_w (by decide) u, ?_⟩
            unfold rS3
            rw [en]
            exact Or.inr (Or.inl ⟨by omega, Or.inr (by omega), rfl, w⟩)
      · have c3 := o_nle c2
        refine hs_some ⟨kp_w (by decide) u, ?_⟩
        unfold rS3
        rw [en]
        exact Or.inl ⟨by omega, rfl, w⟩
    · -- one more
      have c1 := o_nle c
      have t4 := ti_tn x4
      have s4 := te_addc (c := 1) (n := 1) rfl x4 (by omega) (by omega)
      have s6 := te_addc (c := 1) (n := 1) rfl x6 (by omega) (by omega)
      refine hs_at o48 ?_
      refine hs_bind (hr_numberAt L hNN (x2 := x6) ka hx hA I) (fun r hr => ?_)
      obtain ⟨e, at1⟩ := hr
      rw [e]
      rw [eM, eR] at at1
      have vk : r.1.toInt = hR ad δb A (p + k) := by
        rcases at1 with ⟨i, a1, a2, a3⟩ | ⟨a1, _⟩
        · obtain rfl : i = p + k := by omega
          exact a3
        · exfalso; omega
      refine hs_gd (fun _ => ?_)
      rw [show x4.toNatClampNeg = k by omega]
      refine hs_bdv (fun d2 e2 => ?_)
      refine hs_at o48 (hs_gd (fun _ => ?_))
      have I2 : RI ad h.1 δ0 d2 := by rw [e2]; exact I.sR L ⟨125, by decide, by decide, by decide, rfl⟩
      have w2 : kr ad [125] δb d2 := fun i a b c => by rw [e2, rR_o (ad_ne L (by omega) (by decide) (fun z => c (by rw [z]; exact List.mem_cons_self)))]; exact w i a b c
      have u2 : kp [] δb d2 := fun c k a _ => by rw [e2]; exact u c k a (by simp)
      have T2 : ∀ j, j < k + 1 → tl ad d2 j = hR ad δb A (p + j) := fun j hj => by
        unfold tl
        rw [sR_at e2 j]
        by_cases z : j = k
        · rw [if_pos z, z, vk]
        · rw [if_neg z]; exact T j (by omega)
      obtain ⟨fM, fR, _, _, _⟩ := hr_same w2 (by decide)
      have SB2 : hsr ad d2 B := ⟨by rw [fM]; exact SB.1, by rw [fM, fR]; exact SB.2⟩
      have vx : (q_R d2 (Ad ad 125) k).toInt = hR ad δb A (p + k) := T2 k (by omega)
      refine hs_bind (hr_isThere L hNN (x := q_R d2 (Ad ad 125) k) ka hy hB I2 SB2) (fun r2 h2 => ?_)
      obtain ⟨e3, hm⟩ := h2
      rw [e3]
      rw [fM, fR, vx] at hm
      have cl1 := cn_last (P := fun j => ¬ ME (hM ad δb B) (hR ad δb B) (hR ad δb A (p + j))) k 0
      rw [Nat.zero_add] at cl1
      have go : ∀ (q : Int32) (dd : Nat), q.toInt = (dd : Int) → cn (fun j => ¬ ME (hM ad δb B) (hR ad δb B) (hR ad δb A (p + j))) 0 (k + 1) = cn (fun j => ¬ ME (hM ad δb B) (hR ad δb B) (hR ad δb A (p + j))) 0 k + dd → dd ≤ 1 → hs (J_X12_split_113 N h.1 (Ad ad 99) x1 x2 x3 (L_X12_split_66 N h.1 (Ad ad 99) x1 x2 x3 f) q x5 x4 x6 d2) (fun r => kp [(12, 36)] δb r.2 ∧ rS3 ad τ p A B δb r.1 r.2) := by
        intro q dd hq hc hd
        have t5 := te_add x5 q (by omega) (by omega)
        unfold J_X12_split_113
        refine hs_biv (fun x5' e5 => hs_biv (fun x4' e4 => hs_biv (fun x6' e6 => ?_)))
        rw [← e5] at t5
        rw [← e4] at s4
        rw [← e6] at s6
        exact ih (k + 1) x4' x5' x6' d2 (by omega) (by omega) (by omega) (by omega) I2 u2 w2 T2
      rcases hm with ⟨g, me⟩ | ⟨g, me⟩
      · rw [g]
        refine hs_ite (fun z => absurd z (by decide)) (fun _ => ?_)
        rw [if_neg (fun z => z me)] at cl1
        exact go 0 0 rfl (by omega) (by omega)
      · rw [g]
        refine hs_ite (fun _ => ?_) (fun z => absurd rfl z)
        rw [if_pos me] at cl1
        exact go 1 1 rfl (by omega) (by omega)
theorem rS3_q {ad : List Nat} {τ : TAU} {p A B : Nat} {δ d1 d : dp} {b : Int32} (w : q_R d1 = q_R δ) (hh : rS3 ad τ p A B d1 b d) : rS3 ad τ p A B δ b d := by
  obtain ⟨eM, eR, eN, eT, eF⟩ := hr_same (ad := ad) (V := []) (δ := δ) (d := d1) (fun i _ _ _ => by rw [w]) (fun i _ z => by cases z)
  unfold rS3 sRf at hh ⊢
  simp only [eM, eR, eN, eT, eF] at hh
  rcases hh with ⟨a, b, k⟩ | ⟨a, b, c, k⟩ | ⟨a, b, c, k, m, ts, us, e⟩
  · exact Or.inl ⟨a, b, fun i x y z => by rw [k i x y z, w]⟩
  · exact Or.inr (Or.inl ⟨a, b, c, fun i x y z => by rw [k i x y z, w]⟩)
  · exact Or.inr (Or.inr ⟨a, b, c, fun i x y z => by rw [k i x y z, w], mfr2_eq eM eR eN eT eF m, ts, us, e⟩)
def hRS (ad : List Nat) (τ : TAU) (x1 x2 x3 : Int32) (δ : dp) (b : Int32) (d : dp) : Prop :=
  ((x1.toInt < 0 ∨ 3 < x1.toInt ∨ x2.toInt < 0 ∨ 3 < x2.toInt) ∧ q_I d 12 0 (Ad ad 99) = 1 ∧ kr ad [100] δ d) ∨
  ∃ A B : Nat, A < 4 ∧ B < 4 ∧ x1.toInt = (A : Int) ∧ x2.toInt = (B : Int) ∧
    (((A = B ∨ x3.toInt < 0 ∨ shA (Ad ad 99) δ ≤ x3.toInt) ∧ q_I d 12 0 (Ad ad 99) = 2 ∧ kr ad [100] δ d) ∨ (A ≠ B ∧ 0 ≤ x3.toInt ∧ x3.toInt < shA (Ad ad 99) δ ∧ q_I d 12 0 (Ad ad 99) = 0 ∧ ∃ p : Nat, PL (hM ad δ A) (hR ad δ A) x3.toInt p ∧ rS3 ad τ p A B δ b d))
theorem hr_split {ad : List Nat} {h : hp} (L : Lay TLx ad h) {δ0 : dp} {N : Nat} (hNN : 10000000 ≤ N) {τ : TAU} (hτ : ∀ (c x M M1 : Int) (R R1 : Nat → Int) (t : Int32), RE M R M1 R1 → τ c x M1 R1 t → τ c x M R t) {x1 x2 x3 : Int32} {δ : dp} (HT : ∀ K, K < 4 → HTr ad N h δ0 δ K τ) (I : RI ad h.1 δ0 δ) (S : ∀ K, K < 4 → hsr ad δ K) : hs (D_X12_split N h.1 (Ad ad 99) x1 x2 x3 δ) (fun r => hRS ad τ x1 x2 x3 δ r.1 r.2) := by
  have ka : q_K h.1 (Ad ad 99) = 12 := (lay_knd L (by decide)).trans (by decide)
  have z0 : (0 : Int32).toInt = 0 := rfl
  unfold D_X12_split
  refine hs_bdv (fun d1 e1 => ?_)
  have i1 : RI ad h.1 δ0 d1 := by rw [e1]; exact cs_12_0 L I
  have t0 : q_I d1 12 0 (Ad ad 99) = 0 := by rw [e1]; exact rI_s
  have w1 : q_R d1 = q_R δ := by rw [e1]; rfl
  have A1 : shA (Ad ad 99) d1 = shA (Ad ad 99) δ := by unfold shA; rw [e1, rI_o (by decide)]
  have kr1 : ∀ {V d}, kr ad V d1 d → kr ad V δ d := fun k i a b c => by rw [k i a b c, w1]
  obtain ⟨eM, eR, eN, eT, eF⟩ := hr_same (ad := ad) (V := []) (δ := δ) (d := d1) (fun i _ _ _ => by rw [w1]) (fun i _ z => by cases z)
  have HT1 : ∀ K, K < 4 → HTr ad N h δ0 d1 K τ := fun K hK => HTr_t (HT K hK) ⟨by rw [e1, rI_o (by decide)], by rw [e1, rI_o (by decide)], by rw [e1, rI_o (by decide)]⟩
  have S1 : ∀ K, K < 4 → hsr ad d1 K := fun K hK => ⟨by rw [eM]; exact (S K hK).1, by rw [eM, eR]; exact (S K hK).2⟩
  refine hs_bind (hr_isHouse L hNN (x1 := x1) (x2 := 1) ka i1 t0 (by decide)) (fun r hr => ?_)
  rcases hr with ⟨q1, q2, A, hA, hx⟩ | ⟨q1, q2, q3, q4⟩
  rotate_left
  · rw [q1]
    refine hs_ite (fun _ => ?_) (fun z => absurd rfl z)
    unfold J_X12_split_50
    exact hs_some (Or.inl ⟨by omega, q3, kr1 q4⟩)
  rw [q1, q2]
  refine hs_ite (fun z => absurd z (by decide)) (fun _ => ?_)
  refine hs_bind (hr_isHouse L hNN (x1 := x2) (x2 := 1) ka i1 t0 (by decide)) (fun r hr => ?_)
  rcases hr with ⟨q1, q2, B, hB, hy⟩ | ⟨q1, q2, q3, q4⟩
  rotate_left
  · rw [q1]
    refine hs_ite (fun _ => ?_) (fun z => absurd rfl z)
    unfold J_X12_split_50
    exact hs_some (Or.inl ⟨by omega, q3, kr1 q4⟩)
  rw [q1, q2]
  refine hs_ite (fun z => absurd z (by decide)) (fun _ => ?_)
  have no : (A = B ∨ x3.toInt < 0 ∨ shA (Ad ad 99) δ ≤ x3.toInt) → hs (J_X12_split_41 N h.1 (Ad ad 99) x1 x2 x3 (Ad ad 99) d1) (fun r => hRS ad τ x1 x2 x3 δ r.1 r.2) := fun hh => by
    unfold J_X12_split_41 J_X12_split_42
    refine hs_bind (hr_may L (x1 := 0) (x2 := 2) (x3 := 2) ka t0 (by decide)) (fun r4 h4 => ?_)
    rcases h4 with ⟨n4, _⟩ | ⟨_, g1, g2, g3⟩
    · exact absurd rfl n4
    · rw [g1]
      refine hs_ite (fun _ => ?_) (fun z => absurd rfl z)
      unfold J_X12_split_50
      exact hs_some (Or.inr ⟨A, B, hA, hB, hx, hy, Or.inl ⟨hh, g2, kr1 g3⟩⟩)
  refine hs_ite (fun c => no (Or.inl ?_)) (fun c => ?_)
  · have := o_eq c; omega
  · have c1 := o_ne c
    refine hs_bind (hr_isNumber L hNN (x1 := x3) ka i1) (fun r3 h3 => ?_)
    obtain ⟨e3, hq⟩ := h3
    rw [e3]
    rw [A1] at hq
    rcases hq with ⟨v, v1, v2⟩ | ⟨v, v1⟩
    · rw [v]
      refine hs_ite (fun z => absurd z (by decide)) (fun _ => ?_)
      unfold J_X12_split_42
      refine hs_bind (hr_may L (x1 := 1) (x2 := 2) (x3 := 2) ka t0 (by decide)) (fun r4 h4 => ?_)
      rcases h4 with ⟨_, g1, g2⟩ | ⟨n4, _⟩
      · rw [g1, g2]
        refine hs_ite (fun z => absurd z (by decide)) (fun _ => ?_)
        refine hs_bind (hr_place L hNN (x := x3) ka hx hA i1 (S1 A hA)) (fun r5 h5 => ?_)
        obtain ⟨e5, p, hp, P⟩ := h5
        rw [e5]
        have pm := P.1
        refine hs_mono (hr_66 L hNN (p := p) hA hB (fun z => by omega) hτ (HT1 A hA) (HT1 B hB) hx hy (S1 A hA) (S1 B hB) N 0 0 0 r5.1 d1 rfl (by omega) rfl (by omega) i1 (fun _ _ _ _ => rfl) (fun _ _ _ _ => rfl) (fun j hj => by omega)) (fun r hr => ?_)
        rw [eM, eR] at P
        exact Or.inr ⟨A, B, hA, hB, hx, hy, Or.inr ⟨fun z => by omega, v1, v2, (hr.1 12 0 _ (by decide)).trans t0, p, P, rS3_q w1 hr.2⟩⟩
      · exact absurd n4 (by decide)
    · rw [v]
      exact hs_ite (fun _ => no (Or.inr (by omega))) (fun z => absurd rfl z)
