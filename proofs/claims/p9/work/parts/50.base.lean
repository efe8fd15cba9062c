/-! values that are there, and numbers as Nats -/
def ok {α : Type} (o : Option α) (Q : α → Prop) : Prop := ∃ r, o = some r ∧ Q r
theorem ok_some {α : Type} {r : α} {Q : α → Prop} (h : Q r) : ok (some r) Q := ⟨r, rfl, h⟩
theorem ok_eq {α : Type} {o : Option α} {r : α} {Q : α → Prop} (e : o = some r) (h : Q r) : ok o Q := ⟨r, e, h⟩
theorem ok_bind {α β : Type} {o : Option α} {f : α → Option β} {P : α → Prop} {Q : β → Prop} (h : ok o P) (k : ∀ r, P r → ok (f r) Q) : ok (o.bind f) Q := by
  obtain ⟨r, rfl, hr⟩ := h
  exact k r hr
theorem ok_mono {α : Type} {o : Option α} {P Q : α → Prop} (h : ok o P) (k : ∀ r, P r → Q r) : ok o Q := by
  obtain ⟨r, e, hr⟩ := h
  exact ⟨r, e, k r hr⟩
theorem ok_at {α β : Type} {o : Option α} {b : α} {f : α → Option β} {Q : β → Prop} (e : o = some b) (k : ok (f b) Q) : ok (o.bind f) Q := by
  subst e
  exact k
theorem ok_ite {α : Type} {c : Prop} [Decidable c] {a b : Option α} {Q : α → Prop} (h1 : c → ok a Q) (h2 : ¬ c → ok b Q) : ok (if c then a else b) Q := by
  by_cases h : c
  · rw [if_pos h]; exact h1 h
  · rw [if_neg h]; exact h2 h
theorem ok_gd {α : Type} {c : Prop} [Decidable c] {b : Option α} {Q : α → Prop} (h : ¬ c) (k : ok b Q) : ok (if c then none else b) Q := by
  rw [if_neg h]; exact k
theorem ok_gp {α : Type} {c : Prop} [Decidable c] {a : Option α} {Q : α → Prop} (h : c) (k : ok a Q) : ok (if c then a else none) Q := by
  rw [if_pos h]; exact k
theorem ok_bd {ρ : Type} {v : dp} {f : dp → Option ρ} {Q : ρ → Prop} (k : ok (f v) Q) : ok (bd v f) Q := k
theorem ok_bi {ρ : Type} {v : Int32} {f : Int32 → Option ρ} {Q : ρ → Prop} (k : ok (f v) Q) : ok (bi v f) Q := k
theorem ok_bl {ρ : Type} {v : Int64} {f : Int64 → Option ρ} {Q : ρ → Prop} (k : ok (f v) Q) : ok (bl v f) Q := k
/-! numbers -/
theorem n_lit (n : Nat) : (no_index (OfNat.ofNat n) : Int32) = Int32.ofNat n := rfl
theorem n_add (a b : Nat) : Int32.ofNat a + Int32.ofNat b = Int32.ofNat (a + b) := (Int32.ofNat_add a b).symm
theorem n_addl (a n : Nat) : Int32.ofNat a + (no_index (OfNat.ofNat n)) = Int32.ofNat (a + n) := (Int32.ofNat_add a n).symm
theorem n_ladd (n a : Nat) : (no_index (OfNat.ofNat n)) + Int32.ofNat a = Int32.ofNat (n + a) := (Int32.ofNat_add n a).symm
theorem n_mul (a b : Nat) : Int32.ofNat a * Int32.ofNat b = Int32.ofNat (a * b) := (Int32.ofNat_mul a b).symm
theorem n_lmul (n a : Nat) : (no_index (OfNat.ofNat n)) * Int32.ofNat a = Int32.ofNat (n * a) := (Int32.ofNat_mul n a).symm
theorem n_mull (a n : Nat) : Int32.ofNat a * (no_index (OfNat.ofNat n)) = Int32.ofNat (a * n) := (Int32.ofNat_mul a n).symm
theorem n_sub (a b : Nat) (h : b ≤ a) : Int32.ofNat a - Int32.ofNat b = Int32.ofNat (a - b) := (Int32.ofNat_sub a b h).symm
theorem n_subl (a n : Nat) (h : n ≤ a) : Int32.ofNat a - (no_index (OfNat.ofNat n)) = Int32.ofNat (a - n) := (Int32.ofNat_sub a n h).symm
theorem n_dec (a : Nat) (h : 1 ≤ a) : Int32.ofNat a + (-1) = Int32.ofNat (a - 1) := by
  rw [Int32.ofNat_sub a 1 h, Int32.sub_eq_add_neg]; rfl
theorem n_divl (a n : Nat) (ha : a < 2147483648) (hn : n < 2147483648) : Int32.ofNat a / (no_index (OfNat.ofNat n)) = Int32.ofNat (a / n) := (Int32.ofNat_div (by omega) (by omega)).symm
theorem n_cl (a : Nat) (h : a < 2147483648) : (Int32.ofNat a).toNatClampNeg = a := Int32.toNatClampNeg_ofNat_of_lt (by omega)
theorem n_cll (n : Nat) (h : n < 2147483648) : (no_index (OfNat.ofNat n) : Int32).toNatClampNeg = n := Int32.toNatClampNeg_ofNat_of_lt (by omega)
theorem n_ti (a : Nat) (h : a < 2147483648) : (Int32.ofNat a).toInt = a := Int32.toInt_ofNat_of_lt (by omega)
theorem n_lt (a b : Nat) (ha : a < 2147483648) (hb : b < 2147483648) : (Int32.ofNat a < Int32.ofNat b) = (a < b) := propext (Int32.ofNat_lt_iff_lt (by omega) (by omega))
theorem n_le (a b : Nat) (ha : a < 2147483648) (hb : b < 2147483648) : (Int32.ofNat a ≤ Int32.ofNat b) = (a ≤ b) := propext (Int32.ofNat_le_iff_le (by omega) (by omega))
theorem n_ltl (a n : Nat) (ha : a < 2147483648) (hn : n < 2147483648) : (Int32.ofNat a < (no_index (OfNat.ofNat n))) = (a < n) := n_lt a n ha hn
theorem n_llt (n a : Nat) (ha : a < 2147483648) (hn : n < 2147483648) : ((no_index (OfNat.ofNat n)) < Int32.ofNat a) = (n < a) := n_lt n a hn ha
theorem n_lel (a n : Nat) (ha : a < 2147483648) (hn : n < 2147483648) : (Int32.ofNat a ≤ (no_index (OfNat.ofNat n))) = (a ≤ n) := n_le a n ha hn
theorem n_lle (n a : Nat) (ha : a < 2147483648) (hn : n < 2147483648) : ((no_index (OfNat.ofNat n)) ≤ Int32.ofNat a) = (n ≤ a) := n_le n a hn ha
theorem n_inj (a b : Nat) (ha : a < 2147483648) (hb : b < 2147483648) : (Int32.ofNat a = Int32.ofNat b) = (a = b) := propext ⟨fun h => by
  have := congrArg Int32.toNatClampNeg h
  rwa [n_cl a ha, n_cl b hb] at this, fun h => by rw [h]⟩
theorem n_eql (a n : Nat) (ha : a < 2147483648) (hn : n < 2147483648) : (Int32.ofNat a = (no_index (OfNat.ofNat n))) = (a = n) := n_inj a n ha hn
theorem n_leq (n a : Nat) (ha : a < 2147483648) (hn : n < 2147483648) : ((no_index (OfNat.ofNat n)) = Int32.ofNat a) = (n = a) := n_inj n a hn ha
/-- a number that is not below 0 -/
theorem n_of {x : Int32} (h : ¬ x < 0) : ∃ k : Nat, k < 2147483648 ∧ x = Int32.ofNat k := by
  have h0 : 0 ≤ x.toInt := Int.not_lt.mp (fun c => h (Int32.lt_iff_toInt_lt.mpr c))
  refine ⟨x.toInt.toNat, ?_, ?_⟩
  · have := x.toInt_lt
    omega
  · have h4 : x.toInt = ((x.toInt.toNat : Nat) : Int) := by omega
    exact (Int32.ofInt_toInt x).symm.trans ((congrArg Int32.ofInt h4).trans Int32.ofInt_eq_ofNat)
theorem n_ofle {x : Int32} {m : Nat} (hm : m < 2147483648) (h0 : ¬ x < 0) (h1 : ¬ Int32.ofNat m < x) : ∃ k : Nat, k ≤ m ∧ x = Int32.ofNat k := by
  obtain ⟨k, hk, rfl⟩ := n_of h0
  rw [n_lt m k hm hk] at h1
  exact ⟨k, by omega, rfl⟩
/-- a number of at most m -/
def nb (m : Nat) (v : Int32) : Prop := ∃ n : Nat, n ≤ m ∧ v = Int32.ofNat n
/-- an index in its row -/
theorem ix_ok {k len : Nat} (h : k < len) (hl : len < 2147483648) : ¬ (Int32.ofNat k < 0 ∨ len ≤ (Int32.ofNat k).toNatClampNeg) := by
  rw [n_cl k (by omega), n_ltl k 0 (by omega) (by omega)]
  omega
