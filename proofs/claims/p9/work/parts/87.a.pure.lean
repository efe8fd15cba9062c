/-! rows that rise, and what CHANGES make of them -/
def PL (M : Int) (R : Nat → Int) (x : Int) (p : Nat) : Prop := (p : Int) ≤ M ∧ (∀ i : Nat, i < p → R i < x) ∧ ∀ i : Nat, p ≤ i → (i : Int) < M → x ≤ R i
def AT (M : Int) (R : Nat → Int) (k v : Int) : Prop := (∃ i : Nat, k = (i : Int) ∧ (i : Int) < M ∧ v = R i) ∨ ((k < 0 ∨ M ≤ k) ∧ v = -1)
def ME (M : Int) (R : Nat → Int) (x : Int) : Prop := ∃ i : Nat, (i : Int) < M ∧ R i = x
def SR (M : Int) (R : Nat → Int) : Prop := ∀ i j : Nat, i < j → (j : Int) < M → R i < R j
/-- the same row -/
def RE (M : Int) (R : Nat → Int) (M1 : Int) (R1 : Nat → Int) : Prop := M1 = M ∧ ∀ i : Nat, (i : Int) < M → R1 i = R i
theorem RE.r {M : Int} {R : Nat → Int} : RE M R M R := ⟨rfl, fun _ _ => rfl⟩
theorem RE.s {M M1 : Int} {R R1 : Nat → Int} (e : RE M R M1 R1) : RE M1 R1 M R := ⟨e.1.symm, fun i hi => (e.2 i (by rw [← e.1]; exact hi)).symm⟩
theorem RE.t {M M1 M2 : Int} {R R1 R2 : Nat → Int} (e : RE M R M1 R1) (f : RE M1 R1 M2 R2) : RE M R M2 R2 := ⟨f.1.trans e.1, fun i hi => (f.2 i (by rw [e.1]; exact hi)).trans (e.2 i hi)⟩
theorem PL_u {M : Int} {R : Nat → Int} {x : Int} {p q : Nat} (P : PL M R x p) (Q : PL M R x q) : p = q := by
  obtain ⟨p1, p2, p3⟩ := P
  obtain ⟨q1, q2, q3⟩ := Q
  rcases (show p < q ∨ p = q ∨ q < p by omega) with h | h | h
  · have := q2 p h
    have := p3 p (Nat.le_refl _) (by omega)
    omega
  · exact h
  · have := p2 q h
    have := q3 q (Nat.le_refl _) (by omega)
    omega
theorem PL_c {M M1 : Int} {R R1 : Nat → Int} {x : Int} {p : Nat} (e : RE M R M1 R1) (P : PL M R x p) : PL M1 R1 x p := by
  obtain ⟨p1, p2, p3⟩ := P
  refine ⟨by rw [e.1]; exact p1, fun i hi => ?_, fun i h1 h2 => ?_⟩
  · rw [e.2 i (by omega)]; exact p2 i hi
  · rw [e.1] at h2
    rw [e.2 i h2]; exact p3 i h1 h2
theorem AT_u {M : Int} {R : Nat → Int} {k v w : Int} (h : AT M R k v) (g : AT M R k w) : v = w := by
  rcases h with ⟨i, h1, h2, h3⟩ | ⟨h1, h2⟩
  · rcases g with ⟨j, g1, g2, g3⟩ | ⟨g1, g2⟩
    · obtain rfl : i = j := by omega
      rw [h3, g3]
    · exfalso; omega
  · rcases g with ⟨j, g1, g2, g3⟩ | ⟨g1, g2⟩
    · exfalso; omega
    · rw [h2, g2]
theorem AT_c {M M1 : Int} {R R1 : Nat → Int} {k v : Int} (e : RE M R M1 R1) (h : AT M R k v) : AT M1 R1 k v := by
  rcases h with ⟨i, h1, h2, h3⟩ | ⟨h1, h2⟩
  · exact Or.inl ⟨i, h1, by rw [e.1]; exact h2, by rw [e.2 i h2]; exact h3⟩
  · exact Or.inr ⟨by rw [e.1]; exact h1, h2⟩
theorem ME_c {M M1 : Int} {R R1 : Nat → Int} {x : Int} (e : RE M R M1 R1) (h : ME M R x) : ME M1 R1 x := by
  obtain ⟨i, h1, h2⟩ := h
  exact ⟨i, by rw [e.1]; exact h1, by rw [e.2 i h1]; exact h2⟩
theorem ME_i {M M1 : Int} {R R1 : Nat → Int} {x : Int} (e : RE M R M1 R1) : ME M R x ↔ ME M1 R1 x := ⟨ME_c e, ME_c e.s⟩
theorem SR_c {M M1 : Int} {R R1 : Nat → Int} (e : RE M R M1 R1) (S : SR M R) : SR M1 R1 := fun i j hij hj => by
  rw [e.1] at hj
  rw [e.2 i (by omega), e.2 j hj]
  exact S i j hij hj
theorem PL_m {M : Int} {R : Nat → Int} {x : Int} {p : Nat} (S : SR M R) (P : PL M R x p) : ME M R x ↔ (p : Int) < M ∧ R p = x := by
  obtain ⟨p1, p2, p3⟩ := P
  constructor
  · rintro ⟨i, h1, h2⟩
    rcases (show i < p ∨ i = p ∨ p < i by omega) with c | c | c
    · have := p2 i c; omega
    · subst c; exact ⟨h1, h2⟩
    · have := S p i c h1
      have := p3 p (Nat.le_refl _) (by omega)
      omega
  · rintro ⟨h1, h2⟩; exact ⟨p, h1, h2⟩
/-- x comes at p -/
def IN (M : Int) (R : Nat → Int) (x : Int) (p : Nat) (M1 : Int) (R1 : Nat → Int) : Prop := M1 = M + 1 ∧ ∀ i : Nat, (i : Int) ≤ M → R1 i = if i < p then R i else if i = p then x else R (i - 1)
/-- what is at p goes -/
def DE (M : Int) (R : Nat → Int) (p : Nat) (M1 : Int) (R1 : Nat → Int) : Prop := M1 = M - 1 ∧ ∀ i : Nat, (i : Int) + 1 < M → R1 i = if i < p then R i else R (i + 1)
theorem IN_m {M M1 : Int} {R R1 : Nat → Int} {x : Int} {p : Nat} (hp : (p : Int) ≤ M) (I : IN M R x p M1 R1) (y : Int) : ME M1 R1 y ↔ y = x ∨ ME M R y := by
  obtain ⟨i1, i2⟩ := I
  constructor
  · rintro ⟨i, h1, h2⟩
    rw [i1] at h1
    rw [i2 i (by omega)] at h2
    by_cases c : i < p
    · rw [if_pos c] at h2; exact Or.inr ⟨i, by omega, h2⟩
    · rw [if_neg c] at h2
      by_cases c2 : i = p
      · rw [if_pos c2] at h2; exact Or.inl h2.symm
      · rw [if_neg c2] at h2; exact Or.inr ⟨i - 1, by omega, h2⟩
  · rintro (h | ⟨i, h1, h2⟩)
    · refine ⟨p, by omega, ?_⟩
      rw [i2 p hp, if_neg (by omega), if_pos rfl]; exact h.symm
    · by_cases c : i < p
      · refine ⟨i, by omega, ?_⟩
        rw [i2 i (by omega), if_pos c]; exact h2
      · refine ⟨i + 1, by omega, ?_⟩
        rw [i2 (i + 1) (by omega), if_neg (by omega), if_neg (by omega)]; exact h2
theorem IN_s {M M1 : Int} {R R1 : Nat → Int} {x : Int} {p : Nat} (S : SR M R) (P : PL M R x p) (nm : ¬ ME M R x) (I : IN M R x p M1 R1) : SR M1 R1 := by
  obtain ⟨i1, i2⟩ := I
  obtain ⟨p1, p2, p3⟩ := P
  have gt : ∀ i : Nat, p ≤ i → (i : Int) < M → x < R i := fun i h1 h2 => by
    have h3 := p3 i h1 h2
    have h4 : R i ≠ x := fun z => nm ⟨i, h2, z⟩
    omega
  intro i j hij hj
  rw [i1] at hj
  rw [i2 i (by omega), i2 j (by omega)]
  by_cases c1 : j < p
  · rw [if_pos c1, if_pos (by omega)]; exact S i j hij (by omega)
  · rw [if_neg c1]
    by_cases c2 : j = p
    · rw [if_pos c2, if_pos (by omega)]; exact p2 i (by omega)
    · rw [if_neg c2]
      by_cases c4 : i < p
      · rw [if_pos c4]
        have h1 := p2 i c4
        have h2 := gt (j - 1) (by omega) (by omega)
        omega
      · rw [if_neg c4]
        by_cases c5 : i = p
        · rw [if_pos c5]; exact gt (j - 1) (by omega) (by omega)
        · rw [if_neg c5]; exact S (i - 1) (j - 1) (by omega) (by omega)
theorem DE_m {M M1 : Int} {R R1 : Nat → Int} {x : Int} {p : Nat} (S : SR M R) (hp : (p : Int) < M) (hx : R p = x) (D : DE M R p M1 R1) (y : Int) : ME M1 R1 y ↔ y ≠ x ∧ ME M R y := by
  obtain ⟨d1, d2⟩ := D
  constructor
  · rintro ⟨i, h1, h2⟩
    rw [d1] at h1
    rw [d2 i (by omega)] at h2
    by_cases c : i < p
    · rw [if_pos c] at h2
      have := S i p c hp
      exact ⟨by omega, i, by omega, h2⟩
    · rw [if_neg c] at h2
      have := S p (i + 1) (by omega) (by omega)
      exact ⟨by omega, i + 1, by omega, h2⟩
  · rintro ⟨h0, i, h1, h2⟩
    rcases (show i < p ∨ i = p ∨ p < i by omega) with c | c | c
    · refine ⟨i, by omega, ?_⟩
      rw [d2 i (by omega), if_pos c]; exact h2
    · subst c; omega
    · refine ⟨i - 1, by omega, ?_⟩
      rw [d2 (i - 1) (by omega), if_neg (by omega), show i - 1 + 1 = i by omega]; exact h2
theorem DE_s {M M1 : Int} {R R1 : Nat → Int} {p : Nat} (S : SR M R) (D : DE M R p M1 R1) : SR M1 R1 := by
  obtain ⟨d1, d2⟩ := D
  intro i j hij hj
  rw [d1] at hj
  rw [d2 i (by omega), d2 j (by omega)]
  by_cases c1 : j < p
  · rw [if_pos c1, if_pos (by omega)]; exact S i j hij (by omega)
  · rw [if_neg c1]
    by_cases c2 : i < p
    · rw [if_pos c2]; exact S i (j + 1) (by omega) (by omega)
    · rw [if_neg c2]; exact S (i + 1) (j + 1) (by omega) (by omega)
theorem IN_e {M M1 N N1 : Int} {R R1 Q Q1 : Nat → Int} {x : Int} {p : Nat} (hp : (p : Int) ≤ M) (e : RE M R N Q) (I : IN M R x p M1 R1) (J : IN N Q x p N1 Q1) : RE M1 R1 N1 Q1 := by
  obtain ⟨i1, i2⟩ := I
  obtain ⟨j1, j2⟩ := J
  obtain ⟨e1, e2⟩ := e
  refine ⟨by rw [i1, j1, e1], fun i hi => ?_⟩
  rw [i1] at hi
  rw [i2 i (by omega), j2 i (by omega)]
  by_cases c : i < p
  · rw [if_pos c, if_pos c]; exact e2 i (by omega)
  · rw [if_neg c, if_neg c]
    by_cases c2 : i = p
    · rw [if_pos c2, if_pos c2]
    · rw [if_neg c2, if_neg c2]; exact e2 (i - 1) (by omega)
theorem DE_e {M M1 N N1 : Int} {R R1 Q Q1 : Nat → Int} {p : Nat} (e : RE M R N Q) (I : DE M R p M1 R1) (J : DE N Q p N1 Q1) : RE M1 R1 N1 Q1 := by
  obtain ⟨i1, i2⟩ := I
  obtain ⟨j1, j2⟩ := J
  obtain ⟨e1, e2⟩ := e
  refine ⟨by rw [i1, j1, e1], fun i hi => ?_⟩
  rw [i1] at hi
  rw [i2 i (by omega), j2 i (by omega)]
  by_cases c : i < p
  · rw [if_pos c, if_pos c]; exact e2 i (by omega)
  · rw [if_neg c, if_neg c]; exact e2 (i + 1) (by omega)
/-- rows that rise and hold the same are the same -/
theorem rows_u {M N : Int} {R Q : Nat → Int} (S : SR M R) (T : SR N Q) (hM : 0 ≤ M) (hN : 0 ≤ N) (h : ∀ y, ME M R y ↔ ME N Q y) : RE M R N Q := by
  have key : ∀ n i : Nat, i < n → ((i : Int) < M ∨ (i : Int) < N) → (i : Int) < M ∧ (i : Int) < N ∧ Q i = R i := by
    intro n
    induction n with
    | zero => intro i hi; omega
    | succ n ih =>
      intro i hi hc
      have prev : ∀ j, j < i → (j : Int) < M ∧ (j : Int) < N ∧ Q j = R j := fun j hj => ih j (by omega) (by omega)
      have A : (i : Int) < M → (i : Int) < N ∧ Q i ≤ R i := fun hm => by
        obtain ⟨k, k1, k2⟩ := (h (R i)).mp ⟨i, hm, rfl⟩
        have ki : i ≤ k := Nat.not_lt.mp (fun c => by
          have := (prev k c).2.2
          have := S k i c hm
          omega)
        refine ⟨by omega, ?_⟩
        by_cases e : k = i
        · rw [← k2, e]; exact Int.le_refl _
        · have := T i k (by omega) k1; omega
      have B : (i : Int) < N → (i : Int) < M ∧ R i ≤ Q i := fun hm => by
        obtain ⟨k, k1, k2⟩ := (h (Q i)).mpr ⟨i, hm, rfl⟩
        have ki : i ≤ k := Nat.not_lt.mp (fun c => by
          have := (prev k c).2.2
          have := T k i c hm
          omega)
        refine ⟨by omega, ?_⟩
        by_cases e : k = i
        · rw [← k2, e]; exact Int.le_refl _
        · have := S i k (by omega) k1; omega
      rcases hc with c | c
      · have a := A c
        have b := B a.1
        exact ⟨c, a.1, by omega⟩
      · have b := B c
        have a := A b.1
        exact ⟨b.1, c, by omega⟩
  refine ⟨?_, fun i hi => (key (i + 1) i (by omega) (Or.inl hi)).2.2⟩
  rcases (show M < N ∨ N = M ∨ N < M by omega) with c | c | c
  · have := (key (M.toNat + 1) M.toNat (by omega) (Or.inr (by omega))).1; omega
  · exact c
  · have := (key (N.toNat + 1) N.toNat (by omega) (Or.inl (by omega))).2.1; omega
/-- the NUMBERS behind the first t CHANGES, and how many -/
def St (nt cm : Nat → Int) : Nat → Int → Prop
  | 0, _ => False
  | t + 1, y => (cm t = 1 ∧ (y = nt t ∨ St nt cm t y)) ∨ (cm t ≠ 1 ∧ y ≠ nt t ∧ St nt cm t y)
def Ct (cm : Nat → Int) : Nat → Int
  | 0 => 0
  | t + 1 => Ct cm t + (if cm t = 1 then 1 else -1)
def Vd (A : Int) (nt cm : Nat → Int) (n : Nat) : Prop := ∀ t, t < n → 0 ≤ nt t ∧ nt t < A ∧ ((cm t = 1 ∧ ¬ St nt cm t (nt t)) ∨ (cm t = 0 ∧ St nt cm t (nt t)))
theorem St_c {nt cm nt' cm' : Nat → Int} : ∀ n, (∀ t, t < n → nt' t = nt t ∧ cm' t = cm t) → ∀ y, St nt' cm' n y ↔ St nt cm n y := by
  intro n
  induction n with
  | zero => intro _ y; exact Iff.rfl
  | succ n ih =>
    intro h y
    have i := ih (fun t ht => h t (by omega)) y
    obtain ⟨e1, e2⟩ := h n (by omega)
    unfold St
    rw [e1, e2, i]
theorem Ct_c {cm cm' : Nat → Int} : ∀ n, (∀ t, t < n → cm' t = cm t) → Ct cm' n = Ct cm n := by
  intro n
  induction n with
  | zero => intro _; rfl
  | succ n ih =>
    intro h
    unfold Ct
    rw [ih (fun t ht => h t (by omega)), h n (by omega)]
theorem Ct_le {cm : Nat → Int} : ∀ n : Nat, Ct cm n ≤ (n : Int) := by
  intro n
  induction n with
  | zero => exact Int.le_refl _
  | succ n ih => unfold Ct; split <;> omega
theorem Vd_c {A : Int} {nt cm nt' cm' : Nat → Int} {n : Nat} (h : ∀ t, t < n → nt' t = nt t ∧ cm' t = cm t) (V : Vd A nt cm n) : Vd A nt' cm' n := by
  intro t ht
  obtain ⟨e1, e2⟩ := h t ht
  have s := St_c t (fun u hu => h u (by omega)) (nt t)
  obtain ⟨v1, v2, v3⟩ := V t ht
  rw [e1, e2, s]
  exact ⟨v1, v2, v3⟩
theorem Vd_w {A : Int} {nt cm : Nat → Int} {n m : Nat} (h : m ≤ n) (V : Vd A nt cm n) : Vd A nt cm m := fun t ht => V t (by omega)
theorem St_put {nt cm : Nat → Int} {t : Nat} (h : cm t = 1) (y : Int) : St nt cm (t + 1) y ↔ y = nt t ∨ St nt cm t y := by
  show (cm t = 1 ∧ (y = nt t ∨ St nt cm t y)) ∨ (cm t ≠ 1 ∧ y ≠ nt t ∧ St nt cm t y) ↔ _
  constructor
  · rintro (⟨_, z⟩ | ⟨z, _⟩)
    · exact z
    · exact absurd h z
  · intro z; exact Or.inl ⟨h, z⟩
theorem St_drop {nt cm : Nat → Int} {t : Nat} (h : cm t = 0) (y : Int) : St nt cm (t + 1) y ↔ y ≠ nt t ∧ St nt cm t y := by
  show (cm t = 1 ∧ (y = nt t ∨ St nt cm t y)) ∨ (cm t ≠ 1 ∧ y ≠ nt t ∧ St nt cm t y) ↔ _
  constructor
  · rintro (⟨z, _⟩ | ⟨_, z⟩)
    · omega
    · exact z
  · intro z; exact Or.inr ⟨by omega, z⟩
theorem Ct_put {cm : Nat → Int} {t : Nat} (h : cm t = 1) : Ct cm (t + 1) = Ct cm t + 1 := by
  show Ct cm t + (if cm t = 1 then 1 else -1) = _
  rw [if_pos h]
theorem Ct_drop {cm : Nat → Int} {t : Nat} (h : cm t = 0) : Ct cm (t + 1) = Ct cm t - 1 := by
  show Ct cm t + (if cm t = 1 then 1 else -1) = _
  rw [if_neg (by omega)]
  omega
/-! answers -/
def aAb (M : Int) (R : Nat → Int) (x v : Int) : Prop := ∃ p : Nat, PL M R (x + 1) p ∧ AT M R p v
def aBe (M : Int) (R : Nat → Int) (x v : Int) : Prop := ∃ p : Nat, PL M R x p ∧ AT M R ((p : Int) - 1) v
def aTe (M : Int) (R : Nat → Int) (w v : Int) : Prop := (w = 0 ∧ v = M) ∨ (w = 1 ∧ AT M R 0 v) ∨ (w ≠ 0 ∧ w ≠ 1 ∧ AT M R (M - 1) v)
def aHo (M : Int) (R : Nat → Int) (x v : Int) : Prop := (v = 1 ∧ ME M R x) ∨ (v = 0 ∧ ¬ ME M R x)
def aAn (M : Int) (R : Nat → Int) (call x v : Int) : Prop := (call = 3 ∧ aAb M R x v) ∨ (call = 4 ∧ aBe M R x v) ∨ (call ≠ 3 ∧ call ≠ 4 ∧ aHo M R x v)
theorem aAb_u {M N : Int} {R Q : Nat → Int} {x v w : Int} (e : RE M R N Q) (h : aAb M R x v) (g : aAb N Q x w) : v = w := by
  obtain ⟨p, p1, p2⟩ := h
  obtain ⟨q, q1, q2⟩ := g
  obtain rfl := PL_u (PL_c e p1) q1
  exact AT_u (AT_c e p2) q2
theorem aBe_u {M N : Int} {R Q : Nat → Int} {x v w : Int} (e : RE M R N Q) (h : aBe M R x v) (g : aBe N Q x w) : v = w := by
  obtain ⟨p, p1, p2⟩ := h
  obtain ⟨q, q1, q2⟩ := g
  obtain rfl := PL_u (PL_c e p1) q1
  exact AT_u (AT_c e p2) q2
theorem aTe_u {M N : Int} {R Q : Nat → Int} {x v w : Int} (e : RE M R N Q) (h : aTe M R x v) (g : aTe N Q x w) : v = w := by
  rcases h with ⟨h1, h2⟩ | ⟨h1, h2⟩ | ⟨h1, h3, h2⟩ <;> rcases g with ⟨g1, g2⟩ | ⟨g1, g2⟩ | ⟨g1, g3, g2⟩ <;> first | (exfalso; omega) | skip
  · rw [h2, g2, e.1]
  · exact AT_u (AT_c e h2) g2
  · exact AT_u (AT_c e h2) (by rw [← e.1]; exact g2)
theorem aHo_u {M N : Int} {R Q : Nat → Int} {x v w : Int} (e : RE M R N Q) (h : aHo M R x v) (g : aHo N Q x w) : v = w := by
  rcases h with ⟨h1, h2⟩ | ⟨h1, h2⟩ <;> rcases g with ⟨g1, g2⟩ | ⟨g1, g2⟩
  · rw [h1, g1]
  · exact absurd (ME_c e h2) g2
  · exact absurd (ME_c e.s g2) h2
  · rw [h1, g1]
theorem aAn_u {M N : Int} {R Q : Nat → Int} {c x v w : Int} (e : RE M R N Q) (h : aAn M R c x v) (g : aAn N Q c x w) : v = w := by
  rcases h with ⟨h1, h2⟩ | ⟨h1, h2⟩ | ⟨h1, h3, h2⟩ <;> rcases g with ⟨g1, g2⟩ | ⟨g1, g2⟩ | ⟨g1, g3, g2⟩ <;> first | (exfalso; omega) | skip
  · exact aAb_u e h2 g2
  · exact aBe_u e h2 g2
  · exact aHo_u e h2 g2
/-- what a refused or answered call says: 1, 2 what it throws, else its answer -/
def OC (c1 c2 : Prop) (Q : Int → Prop) (k v : Int) : Prop := (c1 ∧ k = 1) ∨ (¬ c1 ∧ c2 ∧ k = 2) ∨ (¬ c1 ∧ ¬ c2 ∧ k = 0 ∧ Q v)
theorem OC_u {c1 c2 d1 d2 : Prop} {Q P : Int → Prop} {k v l w : Int} (e1 : c1 ↔ d1) (e2 : ¬ c1 → (c2 ↔ d2)) (hq : ¬ c1 → ¬ c2 → ∀ v w, Q v → P w → v = w) (h : OC c1 c2 Q k v) (g : OC d1 d2 P l w) : l = k ∧ (k = 0 → v = w) := by
  rcases h with ⟨h1, h2⟩ | ⟨h1, h3, h2⟩ | ⟨h1, h3, h2, h4⟩ <;> rcases g with ⟨g1, g2⟩ | ⟨g1, g3, g2⟩ | ⟨g1, g3, g2, g4⟩
  · exact ⟨by omega, fun z => by omega⟩
  · exact absurd (e1.mp h1) g1
  · exact absurd (e1.mp h1) g1
  · exact absurd (e1.mpr g1) h1
  · exact ⟨by omega, fun z => by omega⟩
  · exact absurd ((e2 h1).mp h3) g3
  · exact absurd (e1.mpr g1) h1
  · exact absurd ((e2 h1).mpr g3) h3
  · exact ⟨by omega, fun _ => hq h1 h3 _ _ h4 g4⟩
