/-! a THIEF's steps, as they were read -/
/-- steps s0 .. s1 of THIEF t, read at depth d at least; their codes lie below c1 -/
def stp (κ φ τ ρ : Nat → Int32) (t s0 s1 d c1 : Nat) : Prop := ∃ dl : Nat → Nat, ∀ i, s0 ≤ i → i < s1 → d ≤ dl i ∧ dl i ≤ 3 ∧ ((κ (60 * t + i)).toInt = 5 → dl i ≤ 2 ∧ (φ (60 * t + i)).toInt ≤ 1000000 ∧ ∃ k : Nat, (τ (60 * t + i)).toInt = (k : Int) ∧ i < k ∧ k ≤ s1 ∧ ∀ j, i < j → j < k → dl i < dl j) ∧ ((κ (60 * t + i)).toInt ≠ 5 → 0 ≤ (κ (60 * t + i)).toInt ∧ (κ (60 * t + i)).toInt ≤ 4 ∧ ∃ f e : Nat, (φ (60 * t + i)).toInt = (f : Int) ∧ (τ (60 * t + i)).toInt = (e : Int) ∧ 500 * t ≤ f ∧ f ≤ e ∧ e ≤ c1 ∧ rn ρ (e - f) f 0 = some 1)
theorem stp_0 {κ φ τ ρ : Nat → Int32} {t s0 d c1 : Nat} : stp κ φ τ ρ t s0 s0 d c1 := ⟨fun _ => 0, fun i h1 h2 => by omega⟩
theorem stp_c {κ φ τ ρ κ' φ' τ' ρ' : Nat → Int32} {t s0 s1 d c1 c2 : Nat} (hk : ∀ i, s0 ≤ i → i < s1 → κ' (60 * t + i) = κ (60 * t + i)) (hf : ∀ i, s0 ≤ i → i < s1 → φ' (60 * t + i) = φ (60 * t + i)) (ht : ∀ i, s0 ≤ i → i < s1 → τ' (60 * t + i) = τ (60 * t + i)) (hr : ∀ i, i < c1 → ρ' i = ρ i) (hc : c1 ≤ c2) (S : stp κ φ τ ρ t s0 s1 d c1) : stp κ' φ' τ' ρ' t s0 s1 d c2 := by
  obtain ⟨dl, h⟩ := S
  refine ⟨dl, fun i h1 h2 => ?_⟩
  obtain ⟨a, b, c, e⟩ := h i h1 h2
  rw [hk i h1 h2, hf i h1 h2, ht i h1 h2]
  refine ⟨a, b, c, fun z => ?_⟩
  obtain ⟨e1, e2, f, g, e3, e4, e5, e6, e7, e8⟩ := e z
  exact ⟨e1, e2, f, g, e3, e4, e5, e6, by omega, (rn_c _ _ _ (fun j j1 j2 => hr j (by omega))).trans e8⟩
theorem stp_app {κ φ τ ρ : Nat → Int32} {t s0 s1 s2 d c1 : Nat} (h01 : s0 ≤ s1) (h12 : s1 ≤ s2) (S : stp κ φ τ ρ t s0 s1 d c1) (S2 : stp κ φ τ ρ t s1 s2 d c1) : stp κ φ τ ρ t s0 s2 d c1 := by
  obtain ⟨dl, h⟩ := S
  obtain ⟨dl2, h2⟩ := S2
  obtain ⟨D, hD1, hD2⟩ : ∃ D : Nat → Nat, (∀ i, i < s1 → D i = dl i) ∧ ∀ i, ¬ i < s1 → D i = dl2 i := ⟨fun i => if i < s1 then dl i else dl2 i, fun i h => if_pos h, fun i h => if_neg h⟩
  refine ⟨D, fun i i1 i2 => ?_⟩
  by_cases c : i < s1
  · obtain ⟨a, b, e, f⟩ := h i i1 c
    rw [hD1 i c]
    refine ⟨a, b, fun z => ?_, f⟩
    obtain ⟨e1, e9, k, e2, e3, e4, e5⟩ := e z
    exact ⟨e1, e9, k, e2, e3, by omega, fun j j1 j2 => by rw [hD1 j (by omega)]; exact e5 j j1 j2⟩
  · obtain ⟨a, b, e, f⟩ := h2 i (by omega) i2
    rw [hD2 i c]
    refine ⟨a, b, fun z => ?_, f⟩
    obtain ⟨e1, e9, k, e2, e3, e4, e5⟩ := e z
    exact ⟨e1, e9, k, e2, e3, e4, fun j j1 j2 => by rw [hD2 j (by omega)]; exact e5 j j1 j2⟩
theorem stp_call {κ φ τ ρ : Nat → Int32} {t s0 d c1 f e : Nat} (hd : d ≤ 3) (k1 : 0 ≤ (κ (60 * t + s0)).toInt) (k2 : (κ (60 * t + s0)).toInt ≤ 4) (hf : (φ (60 * t + s0)).toInt = (f : Int)) (he : (τ (60 * t + s0)).toInt = (e : Int)) (h1 : 500 * t ≤ f) (h2 : f ≤ e) (h3 : e ≤ c1) (hr : rn ρ (e - f) f 0 = some 1) : stp κ φ τ ρ t s0 (s0 + 1) d c1 := by
  refine ⟨fun _ => d, fun i i1 i2 => ?_⟩
  obtain rfl : i = s0 := by omega
  exact ⟨Nat.le_refl _, hd, fun z => by omega, fun _ => ⟨k1, k2, f, e, hf, he, h1, h2, h3, hr⟩⟩
theorem stp_times {κ φ τ ρ : Nat → Int32} {t s0 s1 d c1 : Nat} (hd : d ≤ 2) (h01 : s0 < s1) (hk : (κ (60 * t + s0)).toInt = 5) (hq : (φ (60 * t + s0)).toInt ≤ 1000000) (ht : (τ (60 * t + s0)).toInt = (s1 : Int)) (S : stp κ φ τ ρ t (s0 + 1) s1 (d + 1) c1) : stp κ φ τ ρ t s0 s1 d c1 := by
  obtain ⟨dl, h⟩ := S
  obtain ⟨D, hD1, hD2⟩ : ∃ D : Nat → Nat, D s0 = d ∧ ∀ i, i ≠ s0 → D i = dl i := ⟨fun i => if i = s0 then d else dl i, if_pos rfl, fun i h => if_neg h⟩
  refine ⟨D, fun i i1 i2 => ?_⟩
  by_cases c : i = s0
  · subst c
    rw [hD1]
    refine ⟨Nat.le_refl _, by omega, fun _ => ⟨hd, hq, s1, ht, h01, Nat.le_refl _, fun j j1 j2 => ?_⟩, fun z => absurd hk z⟩
    rw [hD2 j (by omega)]
    have := (h j (by omega) j2).1
    omega
  · obtain ⟨a, b, e, f⟩ := h i (by omega) i2
    rw [hD2 i c]
    refine ⟨by omega, b, fun z => ?_, f⟩
    obtain ⟨e1, e9, k, e2, e3, e4, e5⟩ := e z
    exact ⟨e1, e9, k, e2, e3, e4, fun j j1 j2 => by rw [hD2 j (by omega)]; exact e5 j j1 j2⟩
theorem stp_d {κ φ τ ρ : Nat → Int32} {t s0 s1 d d1 c1 : Nat} (h : d1 ≤ d) (S : stp κ φ τ ρ t s0 s1 d c1) : stp κ φ τ ρ t s0 s1 d1 c1 := by
  obtain ⟨dl, g⟩ := S
  exact ⟨dl, fun i a b => ⟨Nat.le_trans h (g i a b).1, (g i a b).2⟩⟩
