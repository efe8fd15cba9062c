/-! what holds of a value, if there is one -/
def hs {α : Type} (o : Option α) (Q : α → Prop) : Prop := ∀ r, o = some r → Q r
theorem hs_some {α : Type} {r : α} {Q : α → Prop} (h : Q r) : hs (some r) Q := fun _ e => by cases e; exact h
theorem hs_none {α : Type} {Q : α → Prop} : hs (none : Option α) Q := fun _ e => by cases e
theorem hs_bind {α β : Type} {o : Option α} {f : α → Option β} {P : α → Prop} {Q : β → Prop} (h : hs o P) (k : ∀ r, P r → hs (f r) Q) : hs (o.bind f) Q := by
  intro r e
  cases o with
  | none => cases e
  | some a => exact k a (h a rfl) r e
theorem hs_at {α β : Type} {o : Option α} {b : α} {f : α → Option β} {Q : β → Prop} (e : o = some b) (k : hs (f b) Q) : hs (o.bind f) Q := by
  subst e
  exact k
theorem hs_ite {α : Type} {c : Prop} [Decidable c] {a b : Option α} {Q : α → Prop} (h1 : c → hs a Q) (h2 : ¬ c → hs b Q) : hs (if c then a else b) Q := by
  by_cases h : c
  · rw [if_pos h]; exact h1 h
  · rw [if_neg h]; exact h2 h
theorem hs_gd {α : Type} {c : Prop} [Decidable c] {b : Option α} {Q : α → Prop} (k : ¬ c → hs b Q) : hs (if c then none else b) Q := hs_ite (fun _ => hs_none) k
theorem hs_gp {α : Type} {c : Prop} [Decidable c] {b : Option α} {Q : α → Prop} (k : c → hs b Q) : hs (if c then b else none) Q := hs_ite k (fun _ => hs_none)
theorem hs_bdv {ρ : Type} {v : dp} {f : dp → Option ρ} {Q : ρ → Prop} (k : ∀ δ1, δ1 = v → hs (f δ1) Q) : hs (bd v f) Q := k v rfl
theorem hs_biv {ρ : Type} {v : Int32} {f : Int32 → Option ρ} {Q : ρ → Prop} (k : ∀ x, x = v → hs (f x) Q) : hs (bi v f) Q := k v rfl
theorem hs_mono {α : Type} {o : Option α} {P Q : α → Prop} (h : hs o P) (k : ∀ r, P r → Q r) : hs o Q := fun r e => k r (h r e)
theorem ok_hs {α : Type} {o : Option α} {P Q : α → Prop} (h : ok o P) (k : hs o Q) : ok o (fun r => P r ∧ Q r) := by
  obtain ⟨r, e, hr⟩ := h
  exact ⟨r, e, hr, k r e⟩
theorem ok_h {α : Type} {o : Option α} {P : α → Prop} (h : ok o P) : hs o P := by
  obtain ⟨r, e, hr⟩ := h
  intro q eq
  rw [e] at eq
  cases eq
  exact hr
theorem hs_and {α : Type} {o : Option α} {P Q : α → Prop} (h : hs o P) (k : hs o Q) : hs o (fun r => P r ∧ Q r) := fun r e => ⟨h r e, k r e⟩
def mM (δ : dp) (a : Nat) : Int := (q_I δ 3 1 a).toInt
def mR (δ : dp) (b : Nat) (i : Nat) : Int := (q_R δ b i).toInt
