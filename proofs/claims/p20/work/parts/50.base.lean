section
/-! values that are there, and numbers as Nats -/
def ok {α : Type} (o : Option α) (Q : α → Prop) : Prop := ∃ r, o = some r ∧ Q r
theorem ok_some {α : Type} {r : α} {Q : α → Prop} (h : Q r) : ok (some r) Q := ⟨r, rfl, h⟩
theorem ok_eq {α : Type} {o : Option α} {r : α} {Q : α → Prop} (e : o = some r) (h : Q r) : ok o Q := ⟨r, e, h⟩
theorem ok_bind {α β : Type} {o : Option α} {f : α → Option β} {P : α → Prop} {Q : β → Prop} (h : ok o P) (k : ∀ r, P r → ok (f r) Q) : ok (o.bind f) Q := by
  obtain ⟨r, rfl, hr⟩ := h
  exact k r hr
theorem ok_mono {α : Type} {o : Option α} {P Q : α → Prop} (h : ok o P) (k : ∀ r, P r → Q r) : ok o Q := by
  obtain ⟨r, e, hr⟩ := h
  exact ⟨r, e, k r hr⟩
theorem ok_at {α β : Type} {o : Option α} {b : α} {f : α → Option β} {Q : β → Prop} (e : o = some b) (k : ok (f b) Q) : ok (o.bind f) Q := by
  subst e
  exact k
theorem ok_ite {α : Type} {c : Prop} [Decidable c] {a b : Option α} {Q : α → Prop} (h1 : c → ok a Q) (h2 : ¬ c → ok b Q) : ok (if c then a else b) Q := by
  by_cases h : c
  · rw [if_pos h]; exact h1 h
  · rw [if_neg h]; exact h2 h
theorem ok_gd {α : Type} {c : Prop} [Decidable c] {b : Option α} {Q : α → Prop} (h : ¬ c) (k : ok b Q) : ok (if c then none else b) Q := by
  rw [if_neg h]; exact k
theorem ok_gp {α : Type} {c : Prop} [Decidable c] {a : Option α} {Q : α → Prop} (h : c) (k : ok a Q) : ok (if c then a else none) Q := by
  rw [if_pos h]; exact k
theorem ok_bd {ρ : Type} {v : dp} {f : dp → Option ρ} {Q : ρ → Prop} (k : ok (f v) Q) : ok (bd v f) Q := k
theorem ok_bi {ρ : Type} {v : Int32} {f : Int32 → Option ρ} {Q : ρ → Prop} (k : ok (f v) Q) : ok (bi v f) Q := k
theorem ok_bl {ρ : Type} {v : Int64} {f : Int64 → Option ρ} {Q : ρ → Prop} (k : ok (f v) Q) : ok (bl v f) Q := k
/-! numbers -/
theorem n_lit (n : Nat) : (no_index (OfNat.ofNat n) : Int32) = Int32.ofNat n := rfl
theorem n_add (a b : Nat) : Int32.ofNat a + Int32.ofNat b = Int32.ofNat (a + b) := (Int32.ofNat_add a b).symm
theorem n_addl (a n : Nat) : Int32.ofNat a + (no_index (OfNat.ofNat n)) = Int32.ofNat (a + n) := (Int32.ofNat_add a n).symm
theorem n_ladd (n a : Nat) : (no_index (OfNat.ofNat n)) + Int32.ofNat a = Int32.ofNat (n + a) := (Int32.ofNat_add n a).symm
theorem n_mul (a b : Nat) : Int32.ofNat a * Int32.ofNat b = Int32.ofNat (a * b) := (Int32.ofNat_mul a b).symm
theorem n_lmul (n a : Nat) : (no_index (OfNat.ofNat n)) * Int32.ofNat a = Int32.ofNat (n * a) := (Int32.ofNat_mul n a).symm
theorem n_mull (a n : Nat) : Int32.ofNat a * (no_index (OfNat.ofNat n)) = Int32.ofNat (a * n) := (Int32.ofNat_mul a n).symm
theorem n_sub (a b : Nat) (h : b ≤ a) : Int32.ofNat a - Int32.ofNat b = Int32.ofNat (a - b) := (Int32.ofNat_sub a b h).symm
theorem n_subl (a n : Nat) (h : n ≤ a) : Int32.ofNat a - (no_index (OfNat.ofNat n)) = Int32.ofNat (a - n) := (Int32.ofNat_sub a n h).symm
theorem n_dec (a : Nat) (h : 1 ≤ a) : Int32.ofNat a + (-1) = Int32.ofNat (a - 1) := by
  rw [Int32.ofNat_sub a 1 h, Int32.sub_eq_add_neg]; rfl
theorem n_divl (a n : Nat) (ha : a < 2147483648) (hn : n < 2147483648) : Int32.ofNat a / (no_index (OfNat.ofNat n)) = Int32.ofNat (a / n) := (Int32.ofNat_div (by omega) (by omega)).symm
theorem n_cl (a : Nat) (h : a < 2147483648) : (Int32.ofNat a).toNatClampNeg = a := Int32.toNatClampNeg_ofNat_of_lt (by omega)
theorem n_cll (n : Nat) (h : n < 2147483648) : (no_index (OfNat.ofNat n) : Int32).toNatClampNeg = n := Int32.toNatClampNeg_ofNat_of_lt (by omega)
theorem n_ti (a : Nat) (h : a < 2147483648) : (Int32.ofNat a).toInt = a := Int32.toInt_ofNat_of_lt (by omega)
theorem n_lt (a b : Nat) (ha : a < 2147483648) (hb : b < 2147483648) : (Int32.ofNat a < Int32.ofNat b) = (a < b) := propext (Int32.ofNat_lt_iff_lt (by omega) (by omega))
theorem n_le (a b : Nat) (ha : a < 2147483648) (hb : b < 2147483648) : (Int32.ofNat a ≤ Int32.ofNat b) = (a ≤ b) := propext (Int32.ofNat_le_iff_le (by omega) (by omega))
theorem n_ltl (a n : Nat) (ha : a < 2147483648) (hn : n < 2147483648) : (Int32.ofNat a < (no_index (OfNat.ofNat n))) = (a < n) := n_lt a n ha hn
theorem n_llt (n a : Nat) (ha : a < 2147483648) (hn : n < 2147483648) : ((no_index (OfNat.ofNat n)) < Int32.ofNat a) = (n < a) := n_lt n a hn ha
theorem n_lel (a n : Nat) (ha : a < 2147483648) (hn : n < 2147483648) : (Int32.ofNat a ≤ (no_index (OfNat.ofNat n))) = (a ≤ n) := n_le a n ha hn
theorem n_lle (n a : Nat) (ha : a < 2147483648) (hn : n < 2147483648) : ((no_index (OfNat.ofNat n)) ≤ Int32.ofNat a) = (n ≤ a) := n_le n a hn ha
theorem n_inj (a b : Nat) (ha : a < 2147483648) (hb : b < 2147483648) : (Int32.ofNat a = Int32.ofNat b) = (a = b) := propext ⟨fun h => by
  have := congrArg Int32.toNatClampNeg h
  rwa [n_cl a ha, n_cl b hb] at this, fun h => by rw [h]⟩
theorem n_eql (a n : Nat) (ha : a < 2147483648) (hn : n < 2147483648) : (Int32.ofNat a = (no_index (OfNat.ofNat n))) = (a = n) := n_inj a n ha hn
theorem n_leq (n a : Nat) (ha : a < 2147483648) (hn : n < 2147483648) : ((no_index (OfNat.ofNat n)) = Int32.ofNat a) = (n = a) := n_inj n a hn ha
/-- a number that is not below 0 -/
theorem n_of {x : Int32} (h : ¬ x < 0) : ∃ k : Nat, k < 2147483648 ∧ x = Int32.ofNat k := by
  have h0 : 0 ≤ x.toInt := Int.not_lt.mp (fun c => h (Int32.lt_iff_toInt_lt.mpr c))
  refine ⟨x.toInt.toNat, ?_, ?_⟩
  · have := x.toInt_lt
    omega
  · have h4 : x.toInt = ((x.toInt.toNat : Nat) : Int) := by omega
    exact (Int32.ofInt_toInt x).symm.trans ((congrArg Int32.ofInt h4).trans Int32.ofInt_eq_ofNat)
theorem n_ofle {x : Int32} {m : Nat} (hm : m < 2147483648) (h0 : ¬ x < 0) (h1 : ¬ Int32.ofNat m < x) : ∃ k : Nat, k ≤ m ∧ x = Int32.ofNat k := by
  obtain ⟨k, hk, rfl⟩ := n_of h0
  rw [n_lt m k hm hk] at h1
  exact ⟨k, by omega, rfl⟩
/-- a number of at most m -/
def nb (m : Nat) (v : Int32) : Prop := ∃ n : Nat, n ≤ m ∧ v = Int32.ofNat n
/-- an index in its row -/
theorem ix_ok {k len : Nat} (h : k < len) (hl : len < 2147483648) : ¬ (Int32.ofNat k < 0 ∨ len ≤ (Int32.ofNat k).toNatClampNeg) := by
  rw [n_cl k (by omega), n_ltl k 0 (by omega) (by omega)]
  omega
end
section
/-! facts of numbers for omega -/
theorem ti_b (a : Int32) : -2147483648 ≤ a.toInt ∧ a.toInt ≤ 2147483647 := by
  have h1 := a.le_toInt
  have h2 := a.toInt_lt
  omega
theorem bm_q (x : Int) : ∃ q : Int, x.bmod (2 ^ 32) = x + 4294967296 * q := ⟨-(x.bdiv (2 ^ 32)), by
  have := Int.bmod_add_bdiv x (2 ^ 32)
  rw [show (((2 : Nat) ^ 32 : Nat) : Int) = 4294967296 from rfl] at this
  omega⟩
theorem ti_add (a b : Int32) : ∃ q : Int, (a + b).toInt = a.toInt + b.toInt + 4294967296 * q ∧ -2147483648 ≤ (a + b).toInt ∧ (a + b).toInt ≤ 2147483647 := by
  obtain ⟨q, hq⟩ := bm_q (a.toInt + b.toInt)
  exact ⟨q, by rw [Int32.toInt_add]; exact hq, (ti_b _).1, (ti_b _).2⟩
theorem ti_sub (a b : Int32) : ∃ q : Int, (a - b).toInt = a.toInt - b.toInt + 4294967296 * q ∧ -2147483648 ≤ (a - b).toInt ∧ (a - b).toInt ≤ 2147483647 := by
  obtain ⟨q, hq⟩ := bm_q (a.toInt - b.toInt)
  exact ⟨q, by rw [Int32.toInt_sub]; exact hq, (ti_b _).1, (ti_b _).2⟩
theorem ti_addc {c : Int32} {n : Int} (hc : c.toInt = n) (a : Int32) : ∃ q : Int, (a + c).toInt = a.toInt + n + 4294967296 * q ∧ -2147483648 ≤ (a + c).toInt ∧ (a + c).toInt ≤ 2147483647 := by
  rw [← hc]; exact ti_add a c
theorem ti_cadd {c : Int32} {n : Int} (hc : c.toInt = n) (a : Int32) : ∃ q : Int, (c + a).toInt = n + a.toInt + 4294967296 * q ∧ -2147483648 ≤ (c + a).toInt ∧ (c + a).toInt ≤ 2147483647 := by
  rw [← hc]; exact ti_add c a
theorem ti_subc {c : Int32} {n : Int} (hc : c.toInt = n) (a : Int32) : ∃ q : Int, (a - c).toInt = a.toInt - n + 4294967296 * q ∧ -2147483648 ≤ (a - c).toInt ∧ (a - c).toInt ≤ 2147483647 := by
  rw [← hc]; exact ti_sub a c
theorem ti_csub {c : Int32} {n : Int} (hc : c.toInt = n) (a : Int32) : ∃ q : Int, (c - a).toInt = n - a.toInt + 4294967296 * q ∧ -2147483648 ≤ (c - a).toInt ∧ (c - a).toInt ≤ 2147483647 := by
  rw [← hc]; exact ti_sub c a
theorem ti_mulc {c : Int32} {n : Int} (hc : c.toInt = n) (a : Int32) : ∃ q : Int, (c * a).toInt = n * a.toInt + 4294967296 * q ∧ -2147483648 ≤ (c * a).toInt ∧ (c * a).toInt ≤ 2147483647 := by
  obtain ⟨q, hq⟩ := bm_q (c.toInt * a.toInt)
  exact ⟨q, by rw [Int32.toInt_mul, hq, hc], (ti_b _).1, (ti_b _).2⟩
theorem ti_mulr {c : Int32} {n : Int} (hc : c.toInt = n) (a : Int32) : ∃ q : Int, (a * c).toInt = n * a.toInt + 4294967296 * q ∧ -2147483648 ≤ (a * c).toInt ∧ (a * c).toInt ≤ 2147483647 := by
  obtain ⟨q, hq⟩ := bm_q (a.toInt * c.toInt)
  exact ⟨q, by rw [Int32.toInt_mul, hq, hc, Int.mul_comm], (ti_b _).1, (ti_b _).2⟩
theorem ti_div {c : Int32} {n : Nat} (hc : c.toInt = n) (hn : 0 < n) (a : Int32) : 0 ≤ a.toInt → (a / c).toInt = a.toInt / n := by
  intro h
  rw [Int32.toInt_div_of_ne_right a c (fun e => by rw [e] at hc; rw [show (-1 : Int32).toInt = -1 from rfl] at hc; omega), hc]
  exact Int.tdiv_eq_ediv_of_nonneg h
theorem q_0 {x y q : Int} (e : x = y + 4294967296 * q) (h1 : -2147483648 ≤ x) (h2 : x ≤ 2147483647) (h3 : -2147483648 ≤ y) (h4 : y ≤ 2147483647) : x = y ∧ -2147483648 ≤ x ∧ x ≤ 2147483647 := by omega
theorem te_add (a b : Int32) (h1 : -2147483648 ≤ a.toInt + b.toInt) (h2 : a.toInt + b.toInt ≤ 2147483647) : (a + b).toInt = a.toInt + b.toInt ∧ -2147483648 ≤ (a + b).toInt ∧ (a + b).toInt ≤ 2147483647 := by
  obtain ⟨q, e, l, u⟩ := ti_add a b
  exact q_0 e l u h1 h2
theorem te_sub (a b : Int32) (h1 : -2147483648 ≤ a.toInt - b.toInt) (h2 : a.toInt - b.toInt ≤ 2147483647) : (a - b).toInt = a.toInt - b.toInt ∧ -2147483648 ≤ (a - b).toInt ∧ (a - b).toInt ≤ 2147483647 := by
  obtain ⟨q, e, l, u⟩ := ti_sub a b
  exact q_0 e l u h1 h2
theorem te_addc {c : Int32} {n : Int} (hc : c.toInt = n) (a : Int32) (h1 : -2147483648 ≤ a.toInt + n) (h2 : a.toInt + n ≤ 2147483647) : (a + c).toInt = a.toInt + n ∧ -2147483648 ≤ (a + c).toInt ∧ (a + c).toInt ≤ 2147483647 := by
  obtain ⟨q, e, l, u⟩ := ti_addc hc a
  exact q_0 e l u h1 h2
theorem te_cadd {c : Int32} {n : Int} (hc : c.toInt = n) (a : Int32) (h1 : -2147483648 ≤ n + a.toInt) (h2 : n + a.toInt ≤ 2147483647) : (c + a).toInt = n + a.toInt ∧ -2147483648 ≤ (c + a).toInt ∧ (c + a).toInt ≤ 2147483647 := by
  obtain ⟨q, e, l, u⟩ := ti_cadd hc a
  exact q_0 e l u h1 h2
theorem te_subc {c : Int32} {n : Int} (hc : c.toInt = n) (a : Int32) (h1 : -2147483648 ≤ a.toInt - n) (h2 : a.toInt - n ≤ 2147483647) : (a - c).toInt = a.toInt - n ∧ -2147483648 ≤ (a - c).toInt ∧ (a - c).toInt ≤ 2147483647 := by
  obtain ⟨q, e, l, u⟩ := ti_subc hc a
  exact q_0 e l u h1 h2
theorem te_csub {c : Int32} {n : Int} (hc : c.toInt = n) (a : Int32) (h1 : -2147483648 ≤ n - a.toInt) (h2 : n - a.toInt ≤ 2147483647) : (c - a).toInt = n - a.toInt ∧ -2147483648 ≤ (c - a).toInt ∧ (c - a).toInt ≤ 2147483647 := by
  obtain ⟨q, e, l, u⟩ := ti_csub hc a
  exact q_0 e l u h1 h2
theorem te_mulc {c : Int32} {n : Int} (hc : c.toInt = n) (a : Int32) (h1 : -2147483648 ≤ n * a.toInt) (h2 : n * a.toInt ≤ 2147483647) : (c * a).toInt = n * a.toInt ∧ -2147483648 ≤ (c * a).toInt ∧ (c * a).toInt ≤ 2147483647 := by
  obtain ⟨q, e, l, u⟩ := ti_mulc hc a
  exact q_0 e l u h1 h2
theorem te_mulr {c : Int32} {n : Int} (hc : c.toInt = n) (a : Int32) (h1 : -2147483648 ≤ n * a.toInt) (h2 : n * a.toInt ≤ 2147483647) : (a * c).toInt = n * a.toInt ∧ -2147483648 ≤ (a * c).toInt ∧ (a * c).toInt ≤ 2147483647 := by
  obtain ⟨q, e, l, u⟩ := ti_mulr hc a
  exact q_0 e l u h1 h2
theorem ti_tn (a : Int32) : a.toInt.toNat = a.toNatClampNeg := Int32.toNat_toInt a
theorem o_lt {a b : Int32} (h : a < b) : a.toInt < b.toInt := Int32.lt_iff_toInt_lt.mp h
theorem o_nlt {a b : Int32} (h : ¬ a < b) : b.toInt ≤ a.toInt := Int.not_lt.mp (fun c => h (Int32.lt_iff_toInt_lt.mpr c))
theorem o_le {a b : Int32} (h : a ≤ b) : a.toInt ≤ b.toInt := Int32.le_iff_toInt_le.mp h
theorem o_nle {a b : Int32} (h : ¬ a ≤ b) : b.toInt < a.toInt := Int.not_le.mp (fun c => h (Int32.le_iff_toInt_le.mpr c))
theorem o_eq {a b : Int32} (h : a = b) : a.toInt = b.toInt := congrArg Int32.toInt h
theorem o_ne {a b : Int32} (h : ¬ a = b) : a.toInt ≠ b.toInt := fun c => h (Int32.toInt_inj.mp c)
theorem i_lt {a b : Int32} (h : a.toInt < b.toInt) : a < b := Int32.lt_iff_toInt_lt.mpr h
theorem i_le {a b : Int32} (h : a.toInt ≤ b.toInt) : a ≤ b := Int32.le_iff_toInt_le.mpr h
theorem i_eq {a b : Int32} (h : a.toInt = b.toInt) : a = b := Int32.toInt_inj.mp h
theorem ok_bdv {ρ : Type} {v : dp} {f : dp → Option ρ} {Q : ρ → Prop} (k : ∀ δ1, δ1 = v → ok (f δ1) Q) : ok (bd v f) Q := k v rfl
theorem ok_biv {ρ : Type} {v : Int32} {f : Int32 → Option ρ} {Q : ρ → Prop} (k : ∀ x, x = v → ok (f x) Q) : ok (bi v f) Q := k v rfl
theorem ok_blv {ρ : Type} {v : Int64} {f : Int64 → Option ρ} {Q : ρ → Prop} (k : ∀ x, x = v → ok (f x) Q) : ok (bl v f) Q := k v rfl
theorem rI_s {δ : dp} {c k a : Nat} {v : Int32} : q_I (s_I δ c k a v) c k a = v := by rw [qI_sI, if_pos ⟨rfl, rfl, rfl⟩]
theorem rI_o {δ : dp} {c k a c' k' a' : Nat} {v : Int32} (h : ¬ (c' = c ∧ k' = k)) : q_I (s_I δ c k a v) c' k' a' = q_I δ c' k' a' := by rw [qI_sI, if_neg (fun z => h ⟨z.1, z.2.1⟩)]
/-- a throwing call: it goes on, or it throws one of the three -/
theorem ok_bxv {ρ : Type} {F : Option ((Unit ⊕ Nat) × dp)} {tw : Nat → dp → ρ} {o : dp → Option ρ} {P : (Unit ⊕ Nat) × dp → Prop} {Q : ρ → Prop} (h : ok F P) (k1 : ∀ n δ, P (.inr n, δ) → Q (tw n δ)) (k2 : ∀ δ, P (.inl (), δ) → ok (o δ) Q) : ok (bxv F tw o) Q := by
  obtain ⟨⟨v, δ⟩, e, hp⟩ := h
  subst e
  rcases v with ⟨⟩ | n
  · exact k2 δ hp
  · exact ⟨_, rfl, k1 n δ hp⟩
def bo (v : Int32) : Prop := v = 0 ∨ v = 1
theorem bo_0 : bo 0 := Or.inl rfl
theorem bo_1 : bo 1 := Or.inr rfl
theorem bo_t {v : Int32} (h : bo v) : v.toInt = 0 ∨ v.toInt = 1 := h.elim (fun e => Or.inl (by rw [e]; rfl)) (fun e => Or.inr (by rw [e]; rfl))
/-- which fields may have changed -/
def kp (W : List (Nat × Nat)) (δ δ1 : dp) : Prop := ∀ c k a, (c, k) ∉ W → q_I δ1 c k a = q_I δ c k a
theorem kp_r {δ : dp} : kp [] δ δ := fun _ _ _ _ => rfl
theorem kp_w {W W1 : List (Nat × Nat)} {δ δ1 : dp} (h : ∀ x ∈ W1, x ∈ W) (H : kp W1 δ δ1) : kp W δ δ1 := fun c k a n => H c k a (fun m => n (h _ m))
theorem kp_I {W : List (Nat × Nat)} {δ δ1 δ2 : dp} {c k a : Nat} {v : Int32} (H : kp W δ δ1) (e : δ2 = s_I δ1 c k a v) : kp ((c, k) :: W) δ δ2 := fun c' k' a' n => by
  rw [e, rI_o (fun z => n (by rw [z.1, z.2]; exact List.mem_cons_self))]
  exact H c' k' a' (fun m => n (List.mem_cons_of_mem _ m))
theorem kp_N {W : List (Nat × Nat)} {δ δ1 δ2 : dp} (H : kp W δ δ1) (e : q_I δ2 = q_I δ1) : kp W δ δ2 := fun c' k' a' n => by rw [e]; exact H c' k' a' n
theorem kp_t {W W1 : List (Nat × Nat)} {δ δ1 δ2 : dp} (H : kp W δ δ1) (K : kp W1 δ1 δ2) : kp (W1 ++ W) δ δ2 := fun c' k' a' n => (K c' k' a' (fun m => n (List.mem_append_left _ m))).trans (H c' k' a' (fun m => n (List.mem_append_right _ m)))
/-- 2 to the w -/
theorem sh_b (w : Int32) : 2 ≤ w.toInt ∧ w.toInt ≤ 16 → 4 ≤ ((1 : Int32) <<< (w &&& 31)).toInt ∧ ((1 : Int32) <<< (w &&& 31)).toInt ≤ 65536 ∧ (w.toInt ≤ 6 → ((1 : Int32) <<< (w &&& 31)).toInt ≤ 64) ∧ (w.toInt ≤ 4 → ((1 : Int32) <<< (w &&& 31)).toInt ≤ 16) := by
  rintro ⟨h1, h2⟩
  have H : ∀ k : Fin 17, 2 ≤ k.val → 4 ≤ ((1 : Int32) <<< (Int32.ofNat k.val &&& 31)).toInt ∧ ((1 : Int32) <<< (Int32.ofNat k.val &&& 31)).toInt ≤ 65536 ∧ ((Int32.ofNat k.val).toInt ≤ 6 → ((1 : Int32) <<< (Int32.ofNat k.val &&& 31)).toInt ≤ 64) ∧ ((Int32.ofNat k.val).toInt ≤ 4 → ((1 : Int32) <<< (Int32.ofNat k.val &&& 31)).toInt ≤ 16) := by decide +kernel
  have e : w = Int32.ofNat w.toInt.toNat := by
    have h4 : w.toInt = ((w.toInt.toNat : Nat) : Int) := by omega
    exact (Int32.ofInt_toInt w).symm.trans ((congrArg Int32.ofInt h4).trans Int32.ofInt_eq_ofNat)
  have := H ⟨w.toInt.toNat, by omega⟩ (by show 2 ≤ w.toInt.toNat; omega)
  dsimp only at this
  rw [← e] at this
  exact this
end
section
/-! what the class keeps (by gen_ci.py) -/
/-- a row of the class that may hold anything -/
def wb (ad : List Nat) (b : Nat) : Prop := ∃ i : Nat, i < 99 ∧ i ∉ [2, 7, 22, 46, 47, 48, 49, 50, 51, 52, 56, 57, 58, 61, 62, 64, 65, 67, 68, 70, 71, 73, 74] ∧ b = Ad ad i
def b_I (g : gp) (c k a : Nat) : Int × Int := if c = 3 ∧ k = 1 then (0, match q_O g 3 0 a with | some b => (q_N g b : Int) | none => 0) else if c = 2 ∧ k = 4 then (0, 1000) else if c = 4 ∧ k = 5 then (0, 32) else if c = 5 ∧ k = 0 then (2, 16) else if c = 5 ∧ k = 1 then (0, 1) else if c = 5 ∧ k = 2 then (1, 5) else if c = 7 ∧ k = 1 then (0, 500) else if c = 7 ∧ k = 2 then (0, 500) else if c = 7 ∧ k = 3 then (0, 500) else if c = 7 ∧ k = 4 then (0, 500) else if c = 8 ∧ k = 2 then (0, 500) else if c = 9 ∧ k = 4 then (0, 3) else if c = 11 ∧ k = 5 then (0, 4) else if c = 11 ∧ k = 12 then (0, 3) else if c = 1 ∧ k = 15 then (0, 1) else if c = 4 ∧ k = 9 then (0, 1) else if c = 4 ∧ k = 16 then (0, 1) else if c = 6 ∧ k = 1 then (0, 1) else if c = 8 ∧ k = 3 then (0, 1) else if c = 0 ∧ k = 4 then (0, 1) else if c = 4 ∧ k = 6 then (0, 500) else (-2147483648, 2147483647)
def b_R (ad : List Nat) (b : Nat) : Int × Int := if b = Ad ad 22 then (0, 17) else if b = Ad ad 56 then (0, 1000) else if b = Ad ad 57 then (0, 1000) else if b = Ad ad 58 then (0, 1000) else if b = Ad ad 7 then (0, 500) else if b = Ad ad 62 then (0, 2147483647) else if b = Ad ad 65 then (0, 2147483647) else if b = Ad ad 68 then (0, 2147483647) else if b = Ad ad 71 then (0, 2147483647) else if b = Ad ad 74 then (0, 2147483647) else if b = Ad ad 46 then (0, 0) else if b = Ad ad 47 then (0, 65) else if b = Ad ad 48 then (0, 130) else if b = Ad ad 49 then (0, 195) else if b = Ad ad 50 then (0, 260) else if b = Ad ad 51 then (0, 325) else if b = Ad ad 52 then (0, 390) else (-2147483648, 2147483647)
/-- a small step of a THIEF -/
def t_v (s v : Int32) : Prop := 0 ≤ v.toInt ∧ (s = 1 → v.toInt < 4) ∧ (s = 11 → v.toInt < 500)
def CI (ad : List Nat) (g : gp) (δ0 δ : dp) : Prop := (∀ c k a, q_K g a = c → (b_I g c k a).1 ≤ (q_I δ c k a).toInt ∧ (q_I δ c k a).toInt ≤ (b_I g c k a).2) ∧ (∀ b i, (b_R ad b).1 ≤ (q_R δ b i).toInt ∧ (q_R δ b i).toInt ≤ (b_R ad b).2) ∧ (∀ j, j < 5 → ∀ i : Nat, (i : Int) < (q_I δ 8 2 (Ad ad (60 + 3 * j))).toInt → t_v (q_R δ (Ad ad (61 + 3 * j)) i) (q_R δ (Ad ad (62 + 3 * j)) i)) ∧ (∀ k a, q_I δ 12 k a = q_I δ0 12 k a) ∧ ∀ i, (100 ≤ i ∨ i = 2) → i < 127 → q_R δ (Ad ad i) = q_R δ0 (Ad ad i)
theorem CI.b {ad : List Nat} {g : gp} {δ0 δ : dp} (I : CI ad g δ0 δ) {c a : Nat} (k : Nat) (h : q_K g a = c) : (b_I g c k a).1 ≤ (q_I δ c k a).toInt ∧ (q_I δ c k a).toInt ≤ (b_I g c k a).2 := I.1 c k a h
theorem lay_cel {ad : List Nat} {h : hp} (L : Lay TLx ad h) {a : Nat} (k : q_K h.1 a ≠ 99) : ∃ i, i < 128 ∧ a = Ad ad i := by
  have ha : a ∈ ad := Classical.byContradiction fun c => k (L.2.2.1 a c)
  obtain ⟨i, hi⟩ := List.getElem?_of_mem ha
  have hl := (List.getElem?_eq_some_iff.mp hi).1
  exact ⟨i, by rw [L.1] at hl; exact hl, (Ad_at hi).symm⟩
def knd (i : Nat) : Nat := match TLx[i]? with | some c => c.1 | none => 99
theorem lay_knd {ad : List Nat} {h : hp} (L : Lay TLx ad h) {i : Nat} (hi : i < 128) : q_K h.1 (Ad ad i) = knd i := by
  have hl : i < TLx.length := hi
  have e : TLx[i]? = some TLx[i] := List.getElem?_eq_getElem hl
  have := (L.c (c := TLx[i]) e).1
  rw [this]
  unfold knd
  rw [e]
theorem CI.sI {ad : List Nat} {h : hp} (L : Lay TLx ad h) {δ0 δ : dp} (I : CI ad h.1 δ0 δ) {c k a : Nat} {v : Int32} (hc : c ≠ 12) (ht : ¬ (c = 8 ∧ k = 2)) (h1 : (b_I h.1 c k a).1 ≤ v.toInt) (h2 : v.toInt ≤ (b_I h.1 c k a).2) : CI ad h.1 δ0 (s_I δ c k a v) := by
  refine ⟨fun c' k' a' hk => ?_, fun b i => I.2.1 b i, fun j hj i hi => ?_, fun k' a' => ?_, fun i q1 q2 => I.2.2.2.2 i q1 q2⟩
  · rw [qI_sI]
    by_cases e : c' = c ∧ k' = k ∧ a' = a
    · rw [if_pos e, e.1, e.2.1, e.2.2]; exact ⟨h1, h2⟩
    · rw [if_neg e]; exact I.1 c' k' a' hk
  · rw [rI_o (fun z => ht ⟨z.1.symm, z.2.symm⟩)] at hi
    exact I.2.2.1 j hj i hi
  · rw [rI_o (fun z => hc z.1.symm)]; exact I.2.2.2.1 k' a'
theorem wb.ne {ad : List Nat} {h : hp} (L : Lay TLx ad h) {b i : Nat} (w : wb ad b) (hi : i < 128) (hs : 99 ≤ i ∨ i ∈ [2, 7, 22, 46, 47, 48, 49, 50, 51, 52, 56, 57, 58, 61, 62, 64, 65, 67, 68, 70, 71, 73, 74]) : Ad ad i ≠ b := by
  obtain ⟨j, h1, h2, rfl⟩ := w
  intro e
  rw [Ad_eq L i j hi (by omega)] at e
  subst e
  rcases hs with hs | hs
  · omega
  · exact h2 hs
theorem wb.d {ad : List Nat} {h : hp} (L : Lay TLx ad h) {b : Nat} (w : wb ad b) : b_R ad b = (-2147483648, 2147483647) := by
  unfold b_R
  rw [if_neg (fun e => w.ne L (i := 22) (by decide) (by decide) e.symm)]
  rw [if_neg (fun e => w.ne L (i := 56) (by decide) (by decide) e.symm)]
  rw [if_neg (fun e => w.ne L (i := 57) (by decide) (by decide) e.symm)]
  rw [if_neg (fun e => w.ne L (i := 58) (by decide) (by decide) e.symm)]
  rw [if_neg (fun e => w.ne L (i := 7) (by decide) (by decide) e.symm)]
  rw [if_neg (fun e => w.ne L (i := 62) (by decide) (by decide) e.symm)]
  rw [if_neg (fun e => w.ne L (i := 65) (by decide) (by decide) e.symm)]
  rw [if_neg (fun e => w.ne L (i := 68) (by decide) (by decide) e.symm)]
  rw [if_neg (fun e => w.ne L (i := 71) (by decide) (by decide) e.symm)]
  rw [if_neg (fun e => w.ne L (i := 74) (by decide) (by decide) e.symm)]
  rw [if_neg (fun e => w.ne L (i := 46) (by decide) (by decide) e.symm)]
  rw [if_neg (fun e => w.ne L (i := 47) (by decide) (by decide) e.symm)]
  rw [if_neg (fun e => w.ne L (i := 48) (by decide) (by decide) e.symm)]
  rw [if_neg (fun e => w.ne L (i := 49) (by decide) (by decide) e.symm)]
  rw [if_neg (fun e => w.ne L (i := 50) (by decide) (by decide) e.symm)]
  rw [if_neg (fun e => w.ne L (i := 51) (by decide) (by decide) e.symm)]
  rw [if_neg (fun e => w.ne L (i := 52) (by decide) (by decide) e.symm)]
theorem rR_o {δ : dp} {b b' i : Nat} {v : Int32} (h : b' ≠ b) : q_R (s_R δ b i v) b' = q_R δ b' := by
  funext j
  rw [qR_sR, if_neg (fun z => h z.1)]
theorem CI.R {ad : List Nat} {h : hp} (L : Lay TLx ad h) {δ0 δ δ1 : dp} (I : CI ad h.1 δ0 δ) {b : Nat} (w : wb ad b) (hI : q_I δ1 = q_I δ) (hR : ∀ b', b' ≠ b → q_R δ1 b' = q_R δ b') : CI ad h.1 δ0 δ1 := by
  refine ⟨fun c' k' a' hk => by rw [hI]; exact I.1 c' k' a' hk, fun b' i => ?_, fun j hj i hi => ?_, fun k' a' => by rw [hI]; exact I.2.2.2.1 k' a', fun i q1 q2 => ?_⟩
  · by_cases e : b' = b
    · subst e; rw [w.d L]; exact ti_b _
    · rw [hR _ e]; exact I.2.1 b' i
  · rw [hI] at hi
    have hm : 61 + 3 * j ∈ [2, 7, 22, 46, 47, 48, 49, 50, 51, 52, 56, 57, 58, 61, 62, 64, 65, 67, 68, 70, 71, 73, 74] ∧ 62 + 3 * j ∈ [2, 7, 22, 46, 47, 48, 49, 50, 51, 52, 56, 57, 58, 61, 62, 64, 65, 67, 68, 70, 71, 73, 74] := by
      rcases (show j = 0 ∨ j = 1 ∨ j = 2 ∨ j = 3 ∨ j = 4 by omega) with rfl | rfl | rfl | rfl | rfl <;> decide
    rw [hR _ (w.ne L (by omega) (Or.inr hm.1)), hR _ (w.ne L (by omega) (Or.inr hm.2))]
    exact I.2.2.1 j hj i hi
  · rw [hR _ (w.ne L (by omega) (by rcases q1 with q1 | q1; exact Or.inl (by omega); subst q1; exact Or.inr (by decide)))]; exact I.2.2.2.2 i q1 q2
theorem CI.sR {ad : List Nat} {h : hp} (L : Lay TLx ad h) {δ0 δ : dp} (I : CI ad h.1 δ0 δ) {b i : Nat} {v : Int32} (w : wb ad b) : CI ad h.1 δ0 (s_R δ b i v) := I.R L w rfl (fun _ e => rR_o e)
theorem CI.sC {ad : List Nat} {h : hp} (L : Lay TLx ad h) {δ0 δ : dp} (I : CI ad h.1 δ0 δ) {a b i j n : Nat} (w : wb ad b) : CI ad h.1 δ0 (s_C δ a b i j n) := I.R L w rfl (fun b' e => va_up_ne _ _ e)
theorem CI.sJ {ad : List Nat} {g : gp} {δ0 δ : dp} (I : CI ad g δ0 δ) {a i : Nat} {v : Int64} : CI ad g δ0 (s_J δ a i v) := I
theorem CI.sV {ad : List Nat} {g : gp} {δ0 δ : dp} (I : CI ad g δ0 δ) {c k a : Nat} {v : Option Nat} : CI ad g δ0 (s_V δ c k a v) := I
theorem gO_0_0 {ad : List Nat} {h : hp} (L : Lay TLx ad h) {a : Nat} (ka : q_K h.1 a = 0) : ∃ b, q_O h.1 0 0 a = some b ∧ q_K h.1 b = 5 := by
  obtain ⟨i, hi, rfl⟩ := lay_cel L (by rw [ka]; decide)
  rw [lay_knd L hi] at ka
  have H : ∀ i : Fin 128, knd i.val = 0 → i.val ∈ [42] := by decide +kernel
  have hm := H ⟨i, hi⟩ ka
  simp only [List.mem_cons, List.not_mem_nil, or_false] at hm
  rcases hm with rfl
  · exact ⟨_, fO_42_0 L, (lay_knd L (by decide)).trans (by decide)⟩
theorem gO_0_1 {ad : List Nat} {h : hp} (L : Lay TLx ad h) {a : Nat} (ka : q_K h.1 a = 0) : ∃ b, q_O h.1 0 1 a = some b ∧ q_K h.1 b = 3 := by
  obtain ⟨i, hi, rfl⟩ := lay_cel L (by rw [ka]; decide)
  rw [lay_knd L hi] at ka
  have H : ∀ i : Fin 128, knd i.val = 0 → i.val ∈ [42] := by decide +kernel
  have hm := H ⟨i, hi⟩ ka
  simp only [List.mem_cons, List.not_mem_nil, or_false] at hm
  rcases hm with rfl
  · exact ⟨_, fO_42_1 L, (lay_knd L (by decide)).trans (by decide)⟩
theorem gO_0_2 {ad : List Nat} {h : hp} (L : Lay TLx ad h) {a : Nat} (ka : q_K h.1 a = 0) : ∃ b, q_O h.1 0 2 a = some b ∧ q_K h.1 b = 1 := by
  obtain ⟨i, hi, rfl⟩ := lay_cel L (by rw [ka]; decide)
  rw [lay_knd L hi] at ka
  have H : ∀ i : Fin 128, knd i.val = 0 → i.val ∈ [42] := by decide +kernel
  have hm := H ⟨i, hi⟩ ka
  simp only [List.mem_cons, List.not_mem_nil, or_false] at hm
  rcases hm with rfl
  · exact ⟨_, fO_42_2 L, (lay_knd L (by decide)).trans (by decide)⟩
theorem gO_0_3 {ad : List Nat} {h : hp} (L : Lay TLx ad h) {a : Nat} (ka : q_K h.1 a = 0) : ∃ b, q_O h.1 0 3 a = some b ∧ q_K h.1 b = 18 ∧ q_N h.1 b = 7 ∧ wb ad b := by
  obtain ⟨i, hi, rfl⟩ := lay_cel L (by rw [ka]; decide)
  rw [lay_knd L hi] at ka
  have H : ∀ i : Fin 128, knd i.val = 0 → i.val ∈ [42] := by decide +kernel
  have hm := H ⟨i, hi⟩ ka
  simp only [List.mem_cons, List.not_mem_nil, or_false] at hm
  rcases hm with rfl
  · exact ⟨_, fO_42_3 L, (lay_knd L (by decide)).trans (by decide), fN_45 L, ⟨45, by decide, by decide, rfl⟩⟩
theorem gO_0_5 {ad : List Nat} {h : hp} (L : Lay TLx ad h) {a : Nat} (ka : q_K h.1 a = 0) : ∃ b, q_O h.1 0 5 a = some b ∧ q_K h.1 b = 13 ∧ q_N h.1 b = 7 ∧ wb ad b := by
  obtain ⟨i, hi, rfl⟩ := lay_cel L (by rw [ka]; decide)
  rw [lay_knd L hi] at ka
  have H : ∀ i : Fin 128, knd i.val = 0 → i.val ∈ [42] := by decide +kernel
  have hm := H ⟨i, hi⟩ ka
  simp only [List.mem_cons, List.not_mem_nil, or_false] at hm
  rcases hm with rfl
  · exact ⟨_, fO_42_5 L, (lay_knd L (by decide)).trans (by decide), fN_53 L, ⟨53, by decide, by decide, rfl⟩⟩
theorem gO_1_0 {ad : List Nat} {h : hp} (L : Lay TLx ad h) {a : Nat} (ka : q_K h.1 a = 1) : ∃ b, q_O h.1 1 0 a = some b ∧ q_K h.1 b = 5 := by
  obtain ⟨i, hi, rfl⟩ := lay_cel L (by rw [ka]; decide)
  rw [lay_knd L hi] at ka
  have H : ∀ i : Fin 128, knd i.val = 1 → i.val ∈ [18, 41, 54, 80, 86, 92, 98] := by decide +kernel
  have hm := H ⟨i, hi⟩ ka
  simp only [List.mem_cons, List.not_mem_nil, or_false] at hm
  rcases hm with rfl | rfl | rfl | rfl | rfl | rfl | rfl
  · exact ⟨_, fO_18_0 L, (lay_knd L (by decide)).trans (by decide)⟩
  · exact ⟨_, fO_41_0 L, (lay_knd L (by decide)).trans (by decide)⟩
  · exact ⟨_, fO_54_0 L, (lay_knd L (by decide)).trans (by decide)⟩
  · exact ⟨_, fO_80_0 L, (lay_knd L (by decide)).trans (by decide)⟩
  · exact ⟨_, fO_86_0 L, (lay_knd L (by decide)).trans (by decide)⟩
  · exact ⟨_, fO_92_0 L, (lay_knd L (by decide)).trans (by decide)⟩
  · exact ⟨_, fO_98_0 L, (lay_knd L (by decide)).trans (by decide)⟩
theorem gO_1_1 {ad : List Nat} {h : hp} (L : Lay TLx ad h) {a : Nat} (ka : q_K h.1 a = 1) : ∃ b, q_O h.1 1 1 a = some b ∧ q_K h.1 b = 3 := by
  obtain ⟨i, hi, rfl⟩ := lay_cel L (by rw [ka]; decide)
  rw [lay_knd L hi] at ka
  have H : ∀ i : Fin 128, knd i.val = 1 → i.val ∈ [18, 41, 54, 80, 86, 92, 98] := by decide +kernel
  have hm := H ⟨i, hi⟩ ka
  simp only [List.mem_cons, List.not_mem_nil, or_false] at hm
  rcases hm with rfl | rfl | rfl | rfl | rfl | rfl | rfl
  · exact ⟨_, fO_18_1 L, (lay_knd L (by decide)).trans (by decide)⟩
  · exact ⟨_, fO_41_1 L, (lay_knd L (by decide)).trans (by decide)⟩
  · exact ⟨_, fO_54_1 L, (lay_knd L (by decide)).trans (by decide)⟩
  · exact ⟨_, fO_80_1 L, (lay_knd L (by decide)).trans (by decide)⟩
  · exact ⟨_, fO_86_1 L, (lay_knd L (by decide)).trans (by decide)⟩
  · exact ⟨_, fO_92_1 L, (lay_knd L (by decide)).trans (by decide)⟩
  · exact ⟨_, fO_98_1 L, (lay_knd L (by decide)).trans (by decide)⟩
theorem gO_1_2 {ad : List Nat} {h : hp} (L : Lay TLx ad h) {a : Nat} (ka : q_K h.1 a = 1) : ∃ b, q_O h.1 1 2 a = some b ∧ q_K h.1 b = 13 ∧ (6 ≤ q_N h.1 b ∧ q_N h.1 b ≤ 2000) ∧ wb ad b := by
  obtain ⟨i, hi, rfl⟩ := lay_cel L (by rw [ka]; decide)
  rw [lay_knd L hi] at ka
  have H : ∀ i : Fin 128, knd i.val = 1 → i.val ∈ [18, 41, 54, 80, 86, 92, 98] := by decide +kernel
  have hm := H ⟨i, hi⟩ ka
  simp only [List.mem_cons, List.not_mem_nil, or_false] at hm
  rcases hm with rfl | rfl | rfl | rfl | rfl | rfl | rfl
  · exact ⟨_, fO_18_2 L, (lay_knd L (by decide)).trans (by decide), ⟨by rw [fN_15 L]; decide, by rw [fN_15 L]; decide⟩, ⟨15, by decide, by decide, rfl⟩⟩
  · exact ⟨_, fO_41_2 L, (lay_knd L (by decide)).trans (by decide), ⟨by rw [fN_21 L]; decide, by rw [fN_21 L]; decide⟩, ⟨21, by decide, by decide, rfl⟩⟩
  · exact ⟨_, fO_54_2 L, (lay_knd L (by decide)).trans (by decide), ⟨by rw [fN_44 L]; decide, by rw [fN_44 L]; decide⟩, ⟨44, by decide, by decide, rfl⟩⟩
  · exact ⟨_, fO_80_2 L, (lay_knd L (by decide)).trans (by decide), ⟨by rw [fN_77 L]; decide, by rw [fN_77 L]; decide⟩, ⟨77, by decide, by decide, rfl⟩⟩
  · exact ⟨_, fO_86_2 L, (lay_knd L (by decide)).trans (by decide), ⟨by rw [fN_83 L]; decide, by rw [fN_83 L]; decide⟩, ⟨83, by decide, by decide, rfl⟩⟩
  · exact ⟨_, fO_92_2 L, (lay_knd L (by decide)).trans (by decide), ⟨by rw [fN_89 L]; decide, by rw [fN_89 L]; decide⟩, ⟨89, by decide, by decide, rfl⟩⟩
  · exact ⟨_, fO_98_2 L, (lay_knd L (by decide)).trans (by decide), ⟨by rw [fN_95 L]; decide, by rw [fN_95 L]; decide⟩, ⟨95, by decide, by decide, rfl⟩⟩
theorem gO_2_0 {ad : List Nat} {h : hp} (L : Lay TLx ad h) {a : Nat} (ka : q_K h.1 a = 2) : ∃ b, q_O h.1 2 0 a = some b ∧ q_K h.1 b = 3 := by
  obtain ⟨i, hi, rfl⟩ := lay_cel L (by rw [ka]; decide)
  rw [lay_knd L hi] at ka
  have H : ∀ i : Fin 128, knd i.val = 2 → i.val ∈ [75, 81, 87, 93] := by decide +kernel
  have hm := H ⟨i, hi⟩ ka
  simp only [List.mem_cons, List.not_mem_nil, or_false] at hm
  rcases hm with rfl | rfl | rfl | rfl
  · exact ⟨_, fO_75_0 L, (lay_knd L (by decide)).trans (by decide)⟩
  · exact ⟨_, fO_81_0 L, (lay_knd L (by decide)).trans (by decide)⟩
  · exact ⟨_, fO_87_0 L, (lay_knd L (by decide)).trans (by decide)⟩
  · exact ⟨_, fO_93_0 L, (lay_knd L (by decide)).trans (by decide)⟩
theorem gO_2_1 {ad : List Nat} {h : hp} (L : Lay TLx ad h) {a : Nat} (ka : q_K h.1 a = 2) : ∃ b, q_O h.1 2 1 a = some b ∧ q_K h.1 b = 1 := by
  obtain ⟨i, hi, rfl⟩ := lay_cel L (by rw [ka]; decide)
  rw [lay_knd L hi] at ka
  have H : ∀ i : Fin 128, knd i.val = 2 → i.val ∈ [75, 81, 87, 93] := by decide +kernel
  have hm := H ⟨i, hi⟩ ka
  simp only [List.mem_cons, List.not_mem_nil, or_false] at hm
  rcases hm with rfl | rfl | rfl | rfl
  · exact ⟨_, fO_75_1 L, (lay_knd L (by decide)).trans (by decide)⟩
  · exact ⟨_, fO_81_1 L, (lay_knd L (by decide)).trans (by decide)⟩
  · exact ⟨_, fO_87_1 L, (lay_knd L (by decide)).trans (by decide)⟩
  · exact ⟨_, fO_93_1 L, (lay_knd L (by decide)).trans (by decide)⟩
theorem gO_2_2 {ad : List Nat} {h : hp} (L : Lay TLx ad h) {a : Nat} (ka : q_K h.1 a = 2) : ∃ b, q_O h.1 2 2 a = some b ∧ q_K h.1 b = 13 ∧ q_N h.1 b = 1000 ∧ wb ad b := by
  obtain ⟨i, hi, rfl⟩ := lay_cel L (by rw [ka]; decide)
  rw [lay_knd L hi] at ka
  have H : ∀ i : Fin 128, knd i.val = 2 → i.val ∈ [75, 81, 87, 93] := by decide +kernel
  have hm := H ⟨i, hi⟩ ka
  simp only [List.mem_cons, List.not_mem_nil, or_false] at hm
  rcases hm with rfl | rfl | rfl | rfl
  · exact ⟨_, fO_75_2 L, (lay_knd L (by decide)).trans (by decide), fN_78 L, ⟨78, by decide, by decide, rfl⟩⟩
  · exact ⟨_, fO_81_2 L, (lay_knd L (by decide)).trans (by decide), fN_84 L, ⟨84, by decide, by decide, rfl⟩⟩
  · exact ⟨_, fO_87_2 L, (lay_knd L (by decide)).trans (by decide), fN_90 L, ⟨90, by decide, by decide, rfl⟩⟩
  · exact ⟨_, fO_93_2 L, (lay_knd L (by decide)).trans (by decide), fN_96 L, ⟨96, by decide, by decide, rfl⟩⟩
theorem gO_2_3 {ad : List Nat} {h : hp} (L : Lay TLx ad h) {a : Nat} (ka : q_K h.1 a = 2) : ∃ b, q_O h.1 2 3 a = some b ∧ q_K h.1 b = 13 ∧ q_N h.1 b = 1000 ∧ wb ad b := by
  obtain ⟨i, hi, rfl⟩ := lay_cel L (by rw [ka]; decide)
  rw [lay_knd L hi] at ka
  have H : ∀ i : Fin 128, knd i.val = 2 → i.val ∈ [75, 81, 87, 93] := by decide +kernel
  have hm := H ⟨i, hi⟩ ka
  simp only [List.mem_cons, List.not_mem_nil, or_false] at hm
  rcases hm with rfl | rfl | rfl | rfl
  · exact ⟨_, fO_75_3 L, (lay_knd L (by decide)).trans (by decide), fN_79 L, ⟨79, by decide, by decide, rfl⟩⟩
  · exact ⟨_, fO_81_3 L, (lay_knd L (by decide)).trans (by decide), fN_85 L, ⟨85, by decide, by decide, rfl⟩⟩
  · exact ⟨_, fO_87_3 L, (lay_knd L (by decide)).trans (by decide), fN_91 L, ⟨91, by decide, by decide, rfl⟩⟩
  · exact ⟨_, fO_93_3 L, (lay_knd L (by decide)).trans (by decide), fN_97 L, ⟨97, by decide, by decide, rfl⟩⟩
theorem gO_3_0 {ad : List Nat} {h : hp} (L : Lay TLx ad h) {a : Nat} (ka : q_K h.1 a = 3) : ∃ b, q_O h.1 3 0 a = some b ∧ q_K h.1 b = 13 ∧ (6 ≤ q_N h.1 b ∧ q_N h.1 b ≤ 2000) ∧ wb ad b := by
  obtain ⟨i, hi, rfl⟩ := lay_cel L (by rw [ka]; decide)
  rw [lay_knd L hi] at ka
  have H : ∀ i : Fin 128, knd i.val = 3 → i.val ∈ [11, 14, 20, 43, 76, 82, 88, 94] := by decide +kernel
  have hm := H ⟨i, hi⟩ ka
  simp only [List.mem_cons, List.not_mem_nil, or_false] at hm
  rcases hm with rfl | rfl | rfl | rfl | rfl | rfl | rfl | rfl
  · exact ⟨_, fO_11_0 L, (lay_knd L (by decide)).trans (by decide), ⟨by rw [fN_12 L]; decide, by rw [fN_12 L]; decide⟩, ⟨12, by decide, by decide, rfl⟩⟩
  · exact ⟨_, fO_14_0 L, (lay_knd L (by decide)).trans (by decide), ⟨by rw [fN_15 L]; decide, by rw [fN_15 L]; decide⟩, ⟨15, by decide, by decide, rfl⟩⟩
  · exact ⟨_, fO_20_0 L, (lay_knd L (by decide)).trans (by decide), ⟨by rw [fN_21 L]; decide, by rw [fN_21 L]; decide⟩, ⟨21, by decide, by decide, rfl⟩⟩
  · exact ⟨_, fO_43_0 L, (lay_knd L (by decide)).trans (by decide), ⟨by rw [fN_44 L]; decide, by rw [fN_44 L]; decide⟩, ⟨44, by decide, by decide, rfl⟩⟩
  · exact ⟨_, fO_76_0 L, (lay_knd L (by decide)).trans (by decide), ⟨by rw [fN_77 L]; decide, by rw [fN_77 L]; decide⟩, ⟨77, by decide, by decide, rfl⟩⟩
  · exact ⟨_, fO_82_0 L, (lay_knd L (by decide)).trans (by decide), ⟨by rw [fN_83 L]; decide, by rw [fN_83 L]; decide⟩, ⟨83, by decide, by decide, rfl⟩⟩
  · exact ⟨_, fO_88_0 L, (lay_knd L (by decide)).trans (by decide), ⟨by rw [fN_89 L]; decide, by rw [fN_89 L]; decide⟩, ⟨89, by decide, by decide, rfl⟩⟩
  · exact ⟨_, fO_94_0 L, (lay_knd L (by decide)).trans (by decide), ⟨by rw [fN_95 L]; decide, by rw [fN_95 L]; decide⟩, ⟨95, by decide, by decide, rfl⟩⟩
theorem gO_4_0 {ad : List Nat} {h : hp} (L : Lay TLx ad h) {a : Nat} (ka : q_K h.1 a = 4) : ∃ b, q_O h.1 4 0 a = some b ∧ q_K h.1 b = 5 := by
  obtain ⟨i, hi, rfl⟩ := lay_cel L (by rw [ka]; decide)
  rw [lay_knd L hi] at ka
  have H : ∀ i : Fin 128, knd i.val = 4 → i.val ∈ [13] := by decide +kernel
  have hm := H ⟨i, hi⟩ ka
  simp only [List.mem_cons, List.not_mem_nil, or_false] at hm
  rcases hm with rfl
  · exact ⟨_, fO_13_0 L, (lay_knd L (by decide)).trans (by decide)⟩
theorem gO_4_1 {ad : List Nat} {h : hp} (L : Lay TLx ad h) {a : Nat} (ka : q_K h.1 a = 4) : ∃ b, q_O h.1 4 1 a = some b ∧ q_K h.1 b = 3 := by
  obtain ⟨i, hi, rfl⟩ := lay_cel L (by rw [ka]; decide)
  rw [lay_knd L hi] at ka
  have H : ∀ i : Fin 128, knd i.val = 4 → i.val ∈ [13] := by decide +kernel
  have hm := H ⟨i, hi⟩ ka
  simp only [List.mem_cons, List.not_mem_nil, or_false] at hm
  rcases hm with rfl
  · exact ⟨_, fO_13_1 L, (lay_knd L (by decide)).trans (by decide)⟩
theorem gO_4_2 {ad : List Nat} {h : hp} (L : Lay TLx ad h) {a : Nat} (ka : q_K h.1 a = 4) : ∃ b, q_O h.1 4 2 a = some b ∧ q_K h.1 b = 1 := by
  obtain ⟨i, hi, rfl⟩ := lay_cel L (by rw [ka]; decide)
  rw [lay_knd L hi] at ka
  have H : ∀ i : Fin 128, knd i.val = 4 → i.val ∈ [13] := by decide +kernel
  have hm := H ⟨i, hi⟩ ka
  simp only [List.mem_cons, List.not_mem_nil, or_false] at hm
  rcases hm with rfl
  · exact ⟨_, fO_13_2 L, (lay_knd L (by decide)).trans (by decide)⟩
theorem gO_4_3 {ad : List Nat} {h : hp} (L : Lay TLx ad h) {a : Nat} (ka : q_K h.1 a = 4) : ∃ b, q_O h.1 4 3 a = some b ∧ q_K h.1 b = 13 ∧ q_N h.1 b = 4 ∧ wb ad b := by
  obtain ⟨i, hi, rfl⟩ := lay_cel L (by rw [ka]; decide)
  rw [lay_knd L hi] at ka
  have H : ∀ i : Fin 128, knd i.val = 4 → i.val ∈ [13] := by decide +kernel
  have hm := H ⟨i, hi⟩ ka
  simp only [List.mem_cons, List.not_mem_nil, or_false] at hm
  rcases hm with rfl
  · exact ⟨_, fO_13_3 L, (lay_knd L (by decide)).trans (by decide), fN_16 L, ⟨16, by decide, by decide, rfl⟩⟩
theorem gO_4_4 {ad : List Nat} {h : hp} (L : Lay TLx ad h) {a : Nat} (ka : q_K h.1 a = 4) : ∃ b, q_O h.1 4 4 a = some b ∧ q_K h.1 b = 13 ∧ q_N h.1 b = 32 ∧ wb ad b := by
  obtain ⟨i, hi, rfl⟩ := lay_cel L (by rw [ka]; decide)
  rw [lay_knd L hi] at ka
  have H : ∀ i : Fin 128, knd i.val = 4 → i.val ∈ [13] := by decide +kernel
  have hm := H ⟨i, hi⟩ ka
  simp only [List.mem_cons, List.not_mem_nil, or_false] at hm
  rcases hm with rfl
  · exact ⟨_, fO_13_4 L, (lay_knd L (by decide)).trans (by decide), fN_17 L, ⟨17, by decide, by decide, rfl⟩⟩
theorem gO_6_3 {ad : List Nat} {h : hp} (L : Lay TLx ad h) {a : Nat} (ka : q_K h.1 a = 6) : ∃ b, q_O h.1 6 3 a = some b ∧ q_K h.1 b = 15 ∧ q_N h.1 b = 3 ∧ wb ad b := by
  obtain ⟨i, hi, rfl⟩ := lay_cel L (by rw [ka]; decide)
  rw [lay_knd L hi] at ka
  have H : ∀ i : Fin 128, knd i.val = 6 → i.val ∈ [4] := by decide +kernel
  have hm := H ⟨i, hi⟩ ka
  simp only [List.mem_cons, List.not_mem_nil, or_false] at hm
  rcases hm with rfl
  · exact ⟨_, fO_4_3 L, (lay_knd L (by decide)).trans (by decide), fN_5 L, ⟨5, by decide, by decide, rfl⟩⟩
theorem gO_7_0 {ad : List Nat} {h : hp} (L : Lay TLx ad h) {a : Nat} (ka : q_K h.1 a = 7) : ∃ b, q_O h.1 7 0 a = some b ∧ q_K h.1 b = 13 ∧ q_N h.1 b = 500 := by
  obtain ⟨i, hi, rfl⟩ := lay_cel L (by rw [ka]; decide)
  rw [lay_knd L hi] at ka
  have H : ∀ i : Fin 128, knd i.val = 7 → i.val ∈ [1] := by decide +kernel
  have hm := H ⟨i, hi⟩ ka
  simp only [List.mem_cons, List.not_mem_nil, or_false] at hm
  rcases hm with rfl
  · exact ⟨_, fO_1_0 L, (lay_knd L (by decide)).trans (by decide), fN_2 L⟩
theorem gO_8_0 {ad : List Nat} {h : hp} (L : Lay TLx ad h) {a : Nat} (ka : q_K h.1 a = 8) : ∃ b, q_O h.1 8 0 a = some b ∧ q_K h.1 b = 13 ∧ q_N h.1 b = 500 := by
  obtain ⟨i, hi, rfl⟩ := lay_cel L (by rw [ka]; decide)
  rw [lay_knd L hi] at ka
  have H : ∀ i : Fin 128, knd i.val = 8 → i.val ∈ [60, 63, 66, 69, 72] := by decide +kernel
  have hm := H ⟨i, hi⟩ ka
  simp only [List.mem_cons, List.not_mem_nil, or_false] at hm
  rcases hm with rfl | rfl | rfl | rfl | rfl
  · exact ⟨_, fO_60_0 L, (lay_knd L (by decide)).trans (by decide), fN_61 L⟩
  · exact ⟨_, fO_63_0 L, (lay_knd L (by decide)).trans (by decide), fN_64 L⟩
  · exact ⟨_, fO_66_0 L, (lay_knd L (by decide)).trans (by decide), fN_67 L⟩
  · exact ⟨_, fO_69_0 L, (lay_knd L (by decide)).trans (by decide), fN_70 L⟩
  · exact ⟨_, fO_72_0 L, (lay_knd L (by decide)).trans (by decide), fN_73 L⟩
theorem gO_8_1 {ad : List Nat} {h : hp} (L : Lay TLx ad h) {a : Nat} (ka : q_K h.1 a = 8) : ∃ b, q_O h.1 8 1 a = some b ∧ q_K h.1 b = 13 ∧ q_N h.1 b = 500 := by
  obtain ⟨i, hi, rfl⟩ := lay_cel L (by rw [ka]; decide)
  rw [lay_knd L hi] at ka
  have H : ∀ i : Fin 128, knd i.val = 8 → i.val ∈ [60, 63, 66, 69, 72] := by decide +kernel
  have hm := H ⟨i, hi⟩ ka
  simp only [List.mem_cons, List.not_mem_nil, or_false] at hm
  rcases hm with rfl | rfl | rfl | rfl | rfl
  · exact ⟨_, fO_60_1 L, (lay_knd L (by decide)).trans (by decide), fN_62 L⟩
  · exact ⟨_, fO_63_1 L, (lay_knd L (by decide)).trans (by decide), fN_65 L⟩
  · exact ⟨_, fO_66_1 L, (lay_knd L (by decide)).trans (by decide), fN_68 L⟩
  · exact ⟨_, fO_69_1 L, (lay_knd L (by decide)).trans (by decide), fN_71 L⟩
  · exact ⟨_, fO_72_1 L, (lay_knd L (by decide)).trans (by decide), fN_74 L⟩
theorem gO_9_5 {ad : List Nat} {h : hp} (L : Lay TLx ad h) {a : Nat} (ka : q_K h.1 a = 9) : ∃ b, q_O h.1 9 5 a = some b ∧ q_K h.1 b = 13 ∧ q_N h.1 b = 3 := by
  obtain ⟨i, hi, rfl⟩ := lay_cel L (by rw [ka]; decide)
  rw [lay_knd L hi] at ka
  have H : ∀ i : Fin 128, knd i.val = 9 → i.val ∈ [6] := by decide +kernel
  have hm := H ⟨i, hi⟩ ka
  simp only [List.mem_cons, List.not_mem_nil, or_false] at hm
  rcases hm with rfl
  · exact ⟨_, fO_6_5 L, (lay_knd L (by decide)).trans (by decide), fN_7 L⟩
theorem gO_9_6 {ad : List Nat} {h : hp} (L : Lay TLx ad h) {a : Nat} (ka : q_K h.1 a = 9) : ∃ b, q_O h.1 9 6 a = some b ∧ q_K h.1 b = 13 ∧ q_N h.1 b = 3 ∧ wb ad b := by
  obtain ⟨i, hi, rfl⟩ := lay_cel L (by rw [ka]; decide)
  rw [lay_knd L hi] at ka
  have H : ∀ i : Fin 128, knd i.val = 9 → i.val ∈ [6] := by decide +kernel
  have hm := H ⟨i, hi⟩ ka
  simp only [List.mem_cons, List.not_mem_nil, or_false] at hm
  rcases hm with rfl
  · exact ⟨_, fO_6_6 L, (lay_knd L (by decide)).trans (by decide), fN_8 L, ⟨8, by decide, by decide, rfl⟩⟩
theorem gO_10_0 {ad : List Nat} {h : hp} (L : Lay TLx ad h) {a : Nat} (ka : q_K h.1 a = 10) : ∃ b, q_O h.1 10 0 a = some b ∧ q_K h.1 b = 5 := by
  obtain ⟨i, hi, rfl⟩ := lay_cel L (by rw [ka]; decide)
  rw [lay_knd L hi] at ka
  have H : ∀ i : Fin 128, knd i.val = 10 → i.val ∈ [19] := by decide +kernel
  have hm := H ⟨i, hi⟩ ka
  simp only [List.mem_cons, List.not_mem_nil, or_false] at hm
  rcases hm with rfl
  · exact ⟨_, fO_19_0 L, (lay_knd L (by decide)).trans (by decide)⟩
theorem gO_10_1 {ad : List Nat} {h : hp} (L : Lay TLx ad h) {a : Nat} (ka : q_K h.1 a = 10) : ∃ b, q_O h.1 10 1 a = some b ∧ q_K h.1 b = 3 := by
  obtain ⟨i, hi, rfl⟩ := lay_cel L (by rw [ka]; decide)
  rw [lay_knd L hi] at ka
  have H : ∀ i : Fin 128, knd i.val = 10 → i.val ∈ [19] := by decide +kernel
  have hm := H ⟨i, hi⟩ ka
  simp only [List.mem_cons, List.not_mem_nil, or_false] at hm
  rcases hm with rfl
  · exact ⟨_, fO_19_1 L, (lay_knd L (by decide)).trans (by decide)⟩
theorem gO_10_2 {ad : List Nat} {h : hp} (L : Lay TLx ad h) {a : Nat} (ka : q_K h.1 a = 10) : ∃ b, q_O h.1 10 2 a = some b ∧ q_K h.1 b = 1 := by
  obtain ⟨i, hi, rfl⟩ := lay_cel L (by rw [ka]; decide)
  rw [lay_knd L hi] at ka
  have H : ∀ i : Fin 128, knd i.val = 10 → i.val ∈ [19] := by decide +kernel
  have hm := H ⟨i, hi⟩ ka
  simp only [List.mem_cons, List.not_mem_nil, or_false] at hm
  rcases hm with rfl
  · exact ⟨_, fO_19_2 L, (lay_knd L (by decide)).trans (by decide)⟩
theorem gO_10_3 {ad : List Nat} {h : hp} (L : Lay TLx ad h) {a : Nat} (ka : q_K h.1 a = 10) : ∃ b, q_O h.1 10 3 a = some b ∧ q_K h.1 b = 13 ∧ q_N h.1 b = 5 := by
  obtain ⟨i, hi, rfl⟩ := lay_cel L (by rw [ka]; decide)
  rw [lay_knd L hi] at ka
  have H : ∀ i : Fin 128, knd i.val = 10 → i.val ∈ [19] := by decide +kernel
  have hm := H ⟨i, hi⟩ ka
  simp only [List.mem_cons, List.not_mem_nil, or_false] at hm
  rcases hm with rfl
  · exact ⟨_, fO_19_3 L, (lay_knd L (by decide)).trans (by decide), fN_22 L⟩
theorem gO_10_4 {ad : List Nat} {h : hp} (L : Lay TLx ad h) {a : Nat} (ka : q_K h.1 a = 10) : ∃ b, q_O h.1 10 4 a = some b ∧ q_K h.1 b = 18 ∧ q_N h.1 b = 5 ∧ wb ad b := by
  obtain ⟨i, hi, rfl⟩ := lay_cel L (by rw [ka]; decide)
  rw [lay_knd L hi] at ka
  have H : ∀ i : Fin 128, knd i.val = 10 → i.val ∈ [19] := by decide +kernel
  have hm := H ⟨i, hi⟩ ka
  simp only [List.mem_cons, List.not_mem_nil, or_false] at hm
  rcases hm with rfl
  · exact ⟨_, fO_19_4 L, (lay_knd L (by decide)).trans (by decide), fN_23 L, ⟨23, by decide, by decide, rfl⟩⟩
theorem gO_10_5 {ad : List Nat} {h : hp} (L : Lay TLx ad h) {a : Nat} (ka : q_K h.1 a = 10) : ∃ b, q_O h.1 10 5 a = some b ∧ q_K h.1 b = 18 ∧ q_N h.1 b = 5 ∧ wb ad b := by
  obtain ⟨i, hi, rfl⟩ := lay_cel L (by rw [ka]; decide)
  rw [lay_knd L hi] at ka
  have H : ∀ i : Fin 128, knd i.val = 10 → i.val ∈ [19] := by decide +kernel
  have hm := H ⟨i, hi⟩ ka
  simp only [List.mem_cons, List.not_mem_nil, or_false] at hm
  rcases hm with rfl
  · exact ⟨_, fO_19_5 L, (lay_knd L (by decide)).trans (by decide), fN_29 L, ⟨29, by decide, by decide, rfl⟩⟩
theorem gO_10_6 {ad : List Nat} {h : hp} (L : Lay TLx ad h) {a : Nat} (ka : q_K h.1 a = 10) : ∃ b, q_O h.1 10 6 a = some b ∧ q_K h.1 b = 19 ∧ q_N h.1 b = 5 ∧ wb ad b := by
  obtain ⟨i, hi, rfl⟩ := lay_cel L (by rw [ka]; decide)
  rw [lay_knd L hi] at ka
  have H : ∀ i : Fin 128, knd i.val = 10 → i.val ∈ [19] := by decide +kernel
  have hm := H ⟨i, hi⟩ ka
  simp only [List.mem_cons, List.not_mem_nil, or_false] at hm
  rcases hm with rfl
  · exact ⟨_, fO_19_6 L, (lay_knd L (by decide)).trans (by decide), fN_35 L, ⟨35, by decide, by decide, rfl⟩⟩
theorem gO_11_0 {ad : List Nat} {h : hp} (L : Lay TLx ad h) {a : Nat} (ka : q_K h.1 a = 11) : ∃ b, q_O h.1 11 0 a = some b ∧ q_K h.1 b = 7 := by
  obtain ⟨i, hi, rfl⟩ := lay_cel L (by rw [ka]; decide)
  rw [lay_knd L hi] at ka
  have H : ∀ i : Fin 128, knd i.val = 11 → i.val ∈ [0] := by decide +kernel
  have hm := H ⟨i, hi⟩ ka
  simp only [List.mem_cons, List.not_mem_nil, or_false] at hm
  rcases hm with rfl
  · exact ⟨_, fO_0_0 L, (lay_knd L (by decide)).trans (by decide)⟩
theorem gO_11_1 {ad : List Nat} {h : hp} (L : Lay TLx ad h) {a : Nat} (ka : q_K h.1 a = 11) : ∃ b, q_O h.1 11 1 a = some b ∧ q_K h.1 b = 5 := by
  obtain ⟨i, hi, rfl⟩ := lay_cel L (by rw [ka]; decide)
  rw [lay_knd L hi] at ka
  have H : ∀ i : Fin 128, knd i.val = 11 → i.val ∈ [0] := by decide +kernel
  have hm := H ⟨i, hi⟩ ka
  simp only [List.mem_cons, List.not_mem_nil, or_false] at hm
  rcases hm with rfl
  · exact ⟨_, fO_0_1 L, (lay_knd L (by decide)).trans (by decide)⟩
theorem gO_11_2 {ad : List Nat} {h : hp} (L : Lay TLx ad h) {a : Nat} (ka : q_K h.1 a = 11) : ∃ b, q_O h.1 11 2 a = some b ∧ q_K h.1 b = 6 := by
  obtain ⟨i, hi, rfl⟩ := lay_cel L (by rw [ka]; decide)
  rw [lay_knd L hi] at ka
  have H : ∀ i : Fin 128, knd i.val = 11 → i.val ∈ [0] := by decide +kernel
  have hm := H ⟨i, hi⟩ ka
  simp only [List.mem_cons, List.not_mem_nil, or_false] at hm
  rcases hm with rfl
  · exact ⟨_, fO_0_2 L, (lay_knd L (by decide)).trans (by decide)⟩
theorem gO_11_3 {ad : List Nat} {h : hp} (L : Lay TLx ad h) {a : Nat} (ka : q_K h.1 a = 11) : ∃ b, q_O h.1 11 3 a = some b ∧ q_K h.1 b = 9 := by
  obtain ⟨i, hi, rfl⟩ := lay_cel L (by rw [ka]; decide)
  rw [lay_knd L hi] at ka
  have H : ∀ i : Fin 128, knd i.val = 11 → i.val ∈ [0] := by decide +kernel
  have hm := H ⟨i, hi⟩ ka
  simp only [List.mem_cons, List.not_mem_nil, or_false] at hm
  rcases hm with rfl
  · exact ⟨_, fO_0_3 L, (lay_knd L (by decide)).trans (by decide)⟩
theorem gO_11_4 {ad : List Nat} {h : hp} (L : Lay TLx ad h) {a : Nat} (ka : q_K h.1 a = 11) : ∃ b, q_O h.1 11 4 a = some b ∧ q_K h.1 b = 17 ∧ q_N h.1 b = 5 ∧ wb ad b := by
  obtain ⟨i, hi, rfl⟩ := lay_cel L (by rw [ka]; decide)
  rw [lay_knd L hi] at ka
  have H : ∀ i : Fin 128, knd i.val = 11 → i.val ∈ [0] := by decide +kernel
  have hm := H ⟨i, hi⟩ ka
  simp only [List.mem_cons, List.not_mem_nil, or_false] at hm
  rcases hm with rfl
  · exact ⟨_, fO_0_4 L, (lay_knd L (by decide)).trans (by decide), fN_9 L, ⟨9, by decide, by decide, rfl⟩⟩
theorem gO_11_6 {ad : List Nat} {h : hp} (L : Lay TLx ad h) {a : Nat} (ka : q_K h.1 a = 11) : ∃ b, q_O h.1 11 6 a = some b ∧ q_K h.1 b = 16 ∧ q_N h.1 b = 4 ∧ wb ad b := by
  obtain ⟨i, hi, rfl⟩ := lay_cel L (by rw [ka]; decide)
  rw [lay_knd L hi] at ka
  have H : ∀ i : Fin 128, knd i.val = 11 → i.val ∈ [0] := by decide +kernel
  have hm := H ⟨i, hi⟩ ka
  simp only [List.mem_cons, List.not_mem_nil, or_false] at hm
  rcases hm with rfl
  · exact ⟨_, fO_0_6 L, (lay_knd L (by decide)).trans (by decide), fN_10 L, ⟨10, by decide, by decide, rfl⟩⟩
theorem gO_11_7 {ad : List Nat} {h : hp} (L : Lay TLx ad h) {a : Nat} (ka : q_K h.1 a = 11) : ∃ b, q_O h.1 11 7 a = some b ∧ q_K h.1 b = 3 := by
  obtain ⟨i, hi, rfl⟩ := lay_cel L (by rw [ka]; decide)
  rw [lay_knd L hi] at ka
  have H : ∀ i : Fin 128, knd i.val = 11 → i.val ∈ [0] := by decide +kernel
  have hm := H ⟨i, hi⟩ ka
  simp only [List.mem_cons, List.not_mem_nil, or_false] at hm
  rcases hm with rfl
  · exact ⟨_, fO_0_7 L, (lay_knd L (by decide)).trans (by decide)⟩
theorem gO_11_8 {ad : List Nat} {h : hp} (L : Lay TLx ad h) {a : Nat} (ka : q_K h.1 a = 11) : ∃ b, q_O h.1 11 8 a = some b ∧ q_K h.1 b = 4 := by
  obtain ⟨i, hi, rfl⟩ := lay_cel L (by rw [ka]; decide)
  rw [lay_knd L hi] at ka
  have H : ∀ i : Fin 128, knd i.val = 11 → i.val ∈ [0] := by decide +kernel
  have hm := H ⟨i, hi⟩ ka
  simp only [List.mem_cons, List.not_mem_nil, or_false] at hm
  rcases hm with rfl
  · exact ⟨_, fO_0_8 L, (lay_knd L (by decide)).trans (by decide)⟩
theorem gO_11_9 {ad : List Nat} {h : hp} (L : Lay TLx ad h) {a : Nat} (ka : q_K h.1 a = 11) : ∃ b, q_O h.1 11 9 a = some b ∧ q_K h.1 b = 10 := by
  obtain ⟨i, hi, rfl⟩ := lay_cel L (by rw [ka]; decide)
  rw [lay_knd L hi] at ka
  have H : ∀ i : Fin 128, knd i.val = 11 → i.val ∈ [0] := by decide +kernel
  have hm := H ⟨i, hi⟩ ka
  simp only [List.mem_cons, List.not_mem_nil, or_false] at hm
  rcases hm with rfl
  · exact ⟨_, fO_0_9 L, (lay_knd L (by decide)).trans (by decide)⟩
theorem gO_11_10 {ad : List Nat} {h : hp} (L : Lay TLx ad h) {a : Nat} (ka : q_K h.1 a = 11) : ∃ b, q_O h.1 11 10 a = some b ∧ q_K h.1 b = 0 := by
  obtain ⟨i, hi, rfl⟩ := lay_cel L (by rw [ka]; decide)
  rw [lay_knd L hi] at ka
  have H : ∀ i : Fin 128, knd i.val = 11 → i.val ∈ [0] := by decide +kernel
  have hm := H ⟨i, hi⟩ ka
  simp only [List.mem_cons, List.not_mem_nil, or_false] at hm
  rcases hm with rfl
  · exact ⟨_, fO_0_10 L, (lay_knd L (by decide)).trans (by decide)⟩
theorem gO_11_11 {ad : List Nat} {h : hp} (L : Lay TLx ad h) {a : Nat} (ka : q_K h.1 a = 11) : ∃ b, q_O h.1 11 11 a = some b ∧ q_K h.1 b = 18 ∧ q_N h.1 b = 3 ∧ wb ad b := by
  obtain ⟨i, hi, rfl⟩ := lay_cel L (by rw [ka]; decide)
  rw [lay_knd L hi] at ka
  have H : ∀ i : Fin 128, knd i.val = 11 → i.val ∈ [0] := by decide +kernel
  have hm := H ⟨i, hi⟩ ka
  simp only [List.mem_cons, List.not_mem_nil, or_false] at hm
  rcases hm with rfl
  · exact ⟨_, fO_0_11 L, (lay_knd L (by decide)).trans (by decide), fN_55 L, ⟨55, by decide, by decide, rfl⟩⟩
theorem gO_11_13 {ad : List Nat} {h : hp} (L : Lay TLx ad h) {a : Nat} (ka : q_K h.1 a = 11) : ∃ b, q_O h.1 11 13 a = some b ∧ q_K h.1 b = 13 ∧ q_N h.1 b = 3 ∧ wb ad b := by
  obtain ⟨i, hi, rfl⟩ := lay_cel L (by rw [ka]; decide)
  rw [lay_knd L hi] at ka
  have H : ∀ i : Fin 128, knd i.val = 11 → i.val ∈ [0] := by decide +kernel
  have hm := H ⟨i, hi⟩ ka
  simp only [List.mem_cons, List.not_mem_nil, or_false] at hm
  rcases hm with rfl
  · exact ⟨_, fO_0_13 L, (lay_knd L (by decide)).trans (by decide), fN_59 L, ⟨59, by decide, by decide, rfl⟩⟩
theorem gH {ad : List Nat} {h : hp} (L : Lay TLx ad h) {c a b : Nat} (kc : q_K h.1 c = 1) (h1 : q_O h.1 1 1 c = some a) (h2 : q_O h.1 3 0 a = some b) : q_O h.1 1 2 c = some b := by
  obtain ⟨i, hi, rfl⟩ := lay_cel L (by rw [kc]; decide)
  rw [lay_knd L hi] at kc
  have H : ∀ i : Fin 128, knd i.val = 1 → i.val ∈ [18, 41, 54, 80, 86, 92, 98] := by decide +kernel
  have hm := H ⟨i, hi⟩ kc
  simp only [List.mem_cons, List.not_mem_nil, or_false] at hm
  rcases hm with rfl | rfl | rfl | rfl | rfl | rfl | rfl
  · rw [fO_18_1 L] at h1; obtain rfl := Option.some.inj h1; rw [fO_14_0 L] at h2; rw [← h2]; exact fO_18_2 L
  · rw [fO_41_1 L] at h1; obtain rfl := Option.some.inj h1; rw [fO_20_0 L] at h2; rw [← h2]; exact fO_41_2 L
  · rw [fO_54_1 L] at h1; obtain rfl := Option.some.inj h1; rw [fO_43_0 L] at h2; rw [← h2]; exact fO_54_2 L
  · rw [fO_80_1 L] at h1; obtain rfl := Option.some.inj h1; rw [fO_76_0 L] at h2; rw [← h2]; exact fO_80_2 L
  · rw [fO_86_1 L] at h1; obtain rfl := Option.some.inj h1; rw [fO_82_0 L] at h2; rw [← h2]; exact fO_86_2 L
  · rw [fO_92_1 L] at h1; obtain rfl := Option.some.inj h1; rw [fO_88_0 L] at h2; rw [← h2]; exact fO_92_2 L
  · rw [fO_98_1 L] at h1; obtain rfl := Option.some.inj h1; rw [fO_94_0 L] at h2; rw [← h2]; exact fO_98_2 L
end
section
/-! bounds of fields, one by one (by gen_safe.py) -/
theorem bo_i {v : Int32} (h0 : 0 ≤ v.toInt) (h1 : v.toInt ≤ 1) : v = 0 ∨ v = 1 := by
  rcases (show v.toInt = 0 ∨ v.toInt = 1 by omega) with e | e
  · exact Or.inl (i_eq e)
  · exact Or.inr (i_eq e)
theorem cb_3_1 {ad : List Nat} {g : gp} {δ0 δ : dp} (I : CI ad g δ0 δ) {a b : Nat} (ka : q_K g a = 3) (hb : q_O g 3 0 a = some b) : 0 ≤ (q_I δ 3 1 a).toInt ∧ (q_I δ 3 1 a).toInt ≤ (q_N g b : Int) := by
  have := I.b 1 ka
  simpa [b_I, hb] using this
theorem cs_3_1 {ad : List Nat} {h : hp} (L : Lay TLx ad h) {δ0 δ : dp} (I : CI ad h.1 δ0 δ) {a b : Nat} {v : Int32} (hb : q_O h.1 3 0 a = some b) (h1 : 0 ≤ v.toInt) (h2 : v.toInt ≤ (q_N h.1 b : Int)) : CI ad h.1 δ0 (s_I δ 3 1 a v) := I.sI L (by decide) (by decide) (by simpa [b_I, hb] using h1) (by simpa [b_I, hb] using h2)
theorem cs_8_2 {ad : List Nat} {h : hp} (L : Lay TLx ad h) {δ0 δ : dp} (I : CI ad h.1 δ0 δ) {a : Nat} {v : Int32} (ka : q_K h.1 a = 8) (h1 : 0 ≤ v.toInt) (h2 : v.toInt ≤ (q_I δ 8 2 a).toInt) : CI ad h.1 δ0 (s_I δ 8 2 a v) := by
  have hb := I.b 2 ka
  have eb : b_I h.1 8 2 a = (0, 500) := by simp [b_I]
  rw [eb] at hb
  dsimp only at hb
  refine ⟨fun c' k' a' hk => ?_, fun b i => I.2.1 b i, fun j hj i hi => ?_, fun k' a' => ?_, fun i q1 q2 => I.2.2.2.2 i q1 q2⟩
  · rw [qI_sI]
    by_cases e : c' = 8 ∧ k' = 2 ∧ a' = a
    · rw [if_pos e, e.1, e.2.1, e.2.2, eb]; exact ⟨h1, by omega⟩
    · rw [if_neg e]; exact I.1 c' k' a' hk
  · refine I.2.2.1 j hj i ?_
    rw [qI_sI] at hi
    by_cases e : Ad ad (60 + 3 * j) = a
    · rw [if_pos ⟨rfl, rfl, e⟩] at hi
      rw [e]; omega
    · rw [if_neg (fun z => e z.2.2)] at hi; exact hi
  · rw [rI_o (fun z => absurd z.1 (by decide))]; exact I.2.2.2.1 k' a'
theorem cs_0_4 {ad : List Nat} {h : hp} (L : Lay TLx ad h) {δ0 δ : dp} (I : CI ad h.1 δ0 δ) {a : Nat} {v : Int32} (_ : q_K h.1 a = 0) (h1 : 0 ≤ v.toInt) (h2 : v.toInt ≤ 1) : CI ad h.1 δ0 (s_I δ 0 4 a v) := I.sI L (by decide) (by decide) (by simpa [b_I] using h1) (by simpa [b_I] using h2)
theorem cs_0_6 {ad : List Nat} {h : hp} (L : Lay TLx ad h) {δ0 δ : dp} (I : CI ad h.1 δ0 δ) {a : Nat} {v : Int32} : CI ad h.1 δ0 (s_I δ 0 6 a v) := I.sI L (by decide) (by decide) (by simpa [b_I] using (ti_b v).1) (by simpa [b_I] using (ti_b v).2)
theorem cs_0_7 {ad : List Nat} {h : hp} (L : Lay TLx ad h) {δ0 δ : dp} (I : CI ad h.1 δ0 δ) {a : Nat} {v : Int32} : CI ad h.1 δ0 (s_I δ 0 7 a v) := I.sI L (by decide) (by decide) (by simpa [b_I] using (ti_b v).1) (by simpa [b_I] using (ti_b v).2)
theorem cs_1_3 {ad : List Nat} {h : hp} (L : Lay TLx ad h) {δ0 δ : dp} (I : CI ad h.1 δ0 δ) {a : Nat} {v : Int32} : CI ad h.1 δ0 (s_I δ 1 3 a v) := I.sI L (by decide) (by decide) (by simpa [b_I] using (ti_b v).1) (by simpa [b_I] using (ti_b v).2)
theorem cs_1_4 {ad : List Nat} {h : hp} (L : Lay TLx ad h) {δ0 δ : dp} (I : CI ad h.1 δ0 δ) {a : Nat} {v : Int32} : CI ad h.1 δ0 (s_I δ 1 4 a v) := I.sI L (by decide) (by decide) (by simpa [b_I] using (ti_b v).1) (by simpa [b_I] using (ti_b v).2)
theorem cs_1_5 {ad : List Nat} {h : hp} (L : Lay TLx ad h) {δ0 δ : dp} (I : CI ad h.1 δ0 δ) {a : Nat} {v : Int32} : CI ad h.1 δ0 (s_I δ 1 5 a v) := I.sI L (by decide) (by decide) (by simpa [b_I] using (ti_b v).1) (by simpa [b_I] using (ti_b v).2)
theorem cs_1_6 {ad : List Nat} {h : hp} (L : Lay TLx ad h) {δ0 δ : dp} (I : CI ad h.1 δ0 δ) {a : Nat} {v : Int32} : CI ad h.1 δ0 (s_I δ 1 6 a v) := I.sI L (by decide) (by decide) (by simpa [b_I] using (ti_b v).1) (by simpa [b_I] using (ti_b v).2)
theorem cs_1_7 {ad : List Nat} {h : hp} (L : Lay TLx ad h) {δ0 δ : dp} (I : CI ad h.1 δ0 δ) {a : Nat} {v : Int32} : CI ad h.1 δ0 (s_I δ 1 7 a v) := I.sI L (by decide) (by decide) (by simpa [b_I] using (ti_b v).1) (by simpa [b_I] using (ti_b v).2)
theorem cs_1_8 {ad : List Nat} {h : hp} (L : Lay TLx ad h) {δ0 δ : dp} (I : CI ad h.1 δ0 δ) {a : Nat} {v : Int32} : CI ad h.1 δ0 (s_I δ 1 8 a v) := I.sI L (by decide) (by decide) (by simpa [b_I] using (ti_b v).1) (by simpa [b_I] using (ti_b v).2)
theorem cs_1_9 {ad : List Nat} {h : hp} (L : Lay TLx ad h) {δ0 δ : dp} (I : CI ad h.1 δ0 δ) {a : Nat} {v : Int32} : CI ad h.1 δ0 (s_I δ 1 9 a v) := I.sI L (by decide) (by decide) (by simpa [b_I] using (ti_b v).1) (by simpa [b_I] using (ti_b v).2)
theorem cs_1_10 {ad : List Nat} {h : hp} (L : Lay TLx ad h) {δ0 δ : dp} (I : CI ad h.1 δ0 δ) {a : Nat} {v : Int32} : CI ad h.1 δ0 (s_I δ 1 10 a v) := I.sI L (by decide) (by decide) (by simpa [b_I] using (ti_b v).1) (by simpa [b_I] using (ti_b v).2)
theorem cs_1_11 {ad : List Nat} {h : hp} (L : Lay TLx ad h) {δ0 δ : dp} (I : CI ad h.1 δ0 δ) {a : Nat} {v : Int32} : CI ad h.1 δ0 (s_I δ 1 11 a v) := I.sI L (by decide) (by decide) (by simpa [b_I] using (ti_b v).1) (by simpa [b_I] using (ti_b v).2)
theorem cs_1_12 {ad : List Nat} {h : hp} (L : Lay TLx ad h) {δ0 δ : dp} (I : CI ad h.1 δ0 δ) {a : Nat} {v : Int32} : CI ad h.1 δ0 (s_I δ 1 12 a v) := I.sI L (by decide) (by decide) (by simpa [b_I] using (ti_b v).1) (by simpa [b_I] using (ti_b v).2)
theorem cs_1_13 {ad : List Nat} {h : hp} (L : Lay TLx ad h) {δ0 δ : dp} (I : CI ad h.1 δ0 δ) {a : Nat} {v : Int32} : CI ad h.1 δ0 (s_I δ 1 13 a v) := I.sI L (by decide) (by decide) (by simpa [b_I] using (ti_b v).1) (by simpa [b_I] using (ti_b v).2)
theorem cs_1_14 {ad : List Nat} {h : hp} (L : Lay TLx ad h) {δ0 δ : dp} (I : CI ad h.1 δ0 δ) {a : Nat} {v : Int32} : CI ad h.1 δ0 (s_I δ 1 14 a v) := I.sI L (by decide) (by decide) (by simpa [b_I] using (ti_b v).1) (by simpa [b_I] using (ti_b v).2)
theorem cs_1_15 {ad : List Nat} {h : hp} (L : Lay TLx ad h) {δ0 δ : dp} (I : CI ad h.1 δ0 δ) {a : Nat} {v : Int32} (_ : q_K h.1 a = 1) (h1 : 0 ≤ v.toInt) (h2 : v.toInt ≤ 1) : CI ad h.1 δ0 (s_I δ 1 15 a v) := I.sI L (by decide) (by decide) (by simpa [b_I] using h1) (by simpa [b_I] using h2)
theorem cs_2_4 {ad : List Nat} {h : hp} (L : Lay TLx ad h) {δ0 δ : dp} (I : CI ad h.1 δ0 δ) {a : Nat} {v : Int32} (_ : q_K h.1 a = 2) (h1 : 0 ≤ v.toInt) (h2 : v.toInt ≤ 1000) : CI ad h.1 δ0 (s_I δ 2 4 a v) := I.sI L (by decide) (by decide) (by simpa [b_I] using h1) (by simpa [b_I] using h2)
theorem cs_4_5 {ad : List Nat} {h : hp} (L : Lay TLx ad h) {δ0 δ : dp} (I : CI ad h.1 δ0 δ) {a : Nat} {v : Int32} (_ : q_K h.1 a = 4) (h1 : 0 ≤ v.toInt) (h2 : v.toInt ≤ 32) : CI ad h.1 δ0 (s_I δ 4 5 a v) := I.sI L (by decide) (by decide) (by simpa [b_I] using h1) (by simpa [b_I] using h2)
theorem cs_4_6 {ad : List Nat} {h : hp} (L : Lay TLx ad h) {δ0 δ : dp} (I : CI ad h.1 δ0 δ) {a : Nat} {v : Int32} (_ : q_K h.1 a = 4) (h1 : 0 ≤ v.toInt) (h2 : v.toInt ≤ 500) : CI ad h.1 δ0 (s_I δ 4 6 a v) := I.sI L (by decide) (by decide) (by simpa [b_I] using h1) (by simpa [b_I] using h2)
theorem cs_4_7 {ad : List Nat} {h : hp} (L : Lay TLx ad h) {δ0 δ : dp} (I : CI ad h.1 δ0 δ) {a : Nat} {v : Int32} : CI ad h.1 δ0 (s_I δ 4 7 a v) := I.sI L (by decide) (by decide) (by simpa [b_I] using (ti_b v).1) (by simpa [b_I] using (ti_b v).2)
theorem cs_4_8 {ad : List Nat} {h : hp} (L : Lay TLx ad h) {δ0 δ : dp} (I : CI ad h.1 δ0 δ) {a : Nat} {v : Int32} : CI ad h.1 δ0 (s_I δ 4 8 a v) := I.sI L (by decide) (by decide) (by simpa [b_I] using (ti_b v).1) (by simpa [b_I] using (ti_b v).2)
theorem cs_4_9 {ad : List Nat} {h : hp} (L : Lay TLx ad h) {δ0 δ : dp} (I : CI ad h.1 δ0 δ) {a : Nat} {v : Int32} (_ : q_K h.1 a = 4) (h1 : 0 ≤ v.toInt) (h2 : v.toInt ≤ 1) : CI ad h.1 δ0 (s_I δ 4 9 a v) := I.sI L (by decide) (by decide) (by simpa [b_I] using h1) (by simpa [b_I] using h2)
theorem cs_4_10 {ad : List Nat} {h : hp} (L : Lay TLx ad h) {δ0 δ : dp} (I : CI ad h.1 δ0 δ) {a : Nat} {v : Int32} : CI ad h.1 δ0 (s_I δ 4 10 a v) := I.sI L (by decide) (by decide) (by simpa [b_I] using (ti_b v).1) (by simpa [b_I] using (ti_b v).2)
theorem cs_4_11 {ad : List Nat} {h : hp} (L : Lay TLx ad h) {δ0 δ : dp} (I : CI ad h.1 δ0 δ) {a : Nat} {v : Int32} : CI ad h.1 δ0 (s_I δ 4 11 a v) := I.sI L (by decide) (by decide) (by simpa [b_I] using (ti_b v).1) (by simpa [b_I] using (ti_b v).2)
theorem cs_4_12 {ad : List Nat} {h : hp} (L : Lay TLx ad h) {δ0 δ : dp} (I : CI ad h.1 δ0 δ) {a : Nat} {v : Int32} : CI ad h.1 δ0 (s_I δ 4 12 a v) := I.sI L (by decide) (by decide) (by simpa [b_I] using (ti_b v).1) (by simpa [b_I] using (ti_b v).2)
theorem cs_4_13 {ad : List Nat} {h : hp} (L : Lay TLx ad h) {δ0 δ : dp} (I : CI ad h.1 δ0 δ) {a : Nat} {v : Int32} : CI ad h.1 δ0 (s_I δ 4 13 a v) := I.sI L (by decide) (by decide) (by simpa [b_I] using (ti_b v).1) (by simpa [b_I] using (ti_b v).2)
theorem cs_4_14 {ad : List Nat} {h : hp} (L : Lay TLx ad h) {δ0 δ : dp} (I : CI ad h.1 δ0 δ) {a : Nat} {v : Int32} : CI ad h.1 δ0 (s_I δ 4 14 a v) := I.sI L (by decide) (by decide) (by simpa [b_I] using (ti_b v).1) (by simpa [b_I] using (ti_b v).2)
theorem cs_4_15 {ad : List Nat} {h : hp} (L : Lay TLx ad h) {δ0 δ : dp} (I : CI ad h.1 δ0 δ) {a : Nat} {v : Int32} : CI ad h.1 δ0 (s_I δ 4 15 a v) := I.sI L (by decide) (by decide) (by simpa [b_I] using (ti_b v).1) (by simpa [b_I] using (ti_b v).2)
theorem cs_4_16 {ad : List Nat} {h : hp} (L : Lay TLx ad h) {δ0 δ : dp} (I : CI ad h.1 δ0 δ) {a : Nat} {v : Int32} (_ : q_K h.1 a = 4) (h1 : 0 ≤ v.toInt) (h2 : v.toInt ≤ 1) : CI ad h.1 δ0 (s_I δ 4 16 a v) := I.sI L (by decide) (by decide) (by simpa [b_I] using h1) (by simpa [b_I] using h2)
theorem cs_4_17 {ad : List Nat} {h : hp} (L : Lay TLx ad h) {δ0 δ : dp} (I : CI ad h.1 δ0 δ) {a : Nat} {v : Int32} : CI ad h.1 δ0 (s_I δ 4 17 a v) := I.sI L (by decide) (by decide) (by simpa [b_I] using (ti_b v).1) (by simpa [b_I] using (ti_b v).2)
theorem cs_4_18 {ad : List Nat} {h : hp} (L : Lay TLx ad h) {δ0 δ : dp} (I : CI ad h.1 δ0 δ) {a : Nat} {v : Int32} : CI ad h.1 δ0 (s_I δ 4 18 a v) := I.sI L (by decide) (by decide) (by simpa [b_I] using (ti_b v).1) (by simpa [b_I] using (ti_b v).2)
theorem cs_4_19 {ad : List Nat} {h : hp} (L : Lay TLx ad h) {δ0 δ : dp} (I : CI ad h.1 δ0 δ) {a : Nat} {v : Int32} : CI ad h.1 δ0 (s_I δ 4 19 a v) := I.sI L (by decide) (by decide) (by simpa [b_I] using (ti_b v).1) (by simpa [b_I] using (ti_b v).2)
theorem cs_5_0 {ad : List Nat} {h : hp} (L : Lay TLx ad h) {δ0 δ : dp} (I : CI ad h.1 δ0 δ) {a : Nat} {v : Int32} (_ : q_K h.1 a = 5) (h1 : 2 ≤ v.toInt) (h2 : v.toInt ≤ 16) : CI ad h.1 δ0 (s_I δ 5 0 a v) := I.sI L (by decide) (by decide) (by simpa [b_I] using h1) (by simpa [b_I] using h2)
theorem cs_5_1 {ad : List Nat} {h : hp} (L : Lay TLx ad h) {δ0 δ : dp} (I : CI ad h.1 δ0 δ) {a : Nat} {v : Int32} (_ : q_K h.1 a = 5) (h1 : 0 ≤ v.toInt) (h2 : v.toInt ≤ 1) : CI ad h.1 δ0 (s_I δ 5 1 a v) := I.sI L (by decide) (by decide) (by simpa [b_I] using h1) (by simpa [b_I] using h2)
theorem cs_5_2 {ad : List Nat} {h : hp} (L : Lay TLx ad h) {δ0 δ : dp} (I : CI ad h.1 δ0 δ) {a : Nat} {v : Int32} (_ : q_K h.1 a = 5) (h1 : 1 ≤ v.toInt) (h2 : v.toInt ≤ 5) : CI ad h.1 δ0 (s_I δ 5 2 a v) := I.sI L (by decide) (by decide) (by simpa [b_I] using h1) (by simpa [b_I] using h2)
theorem cs_6_0 {ad : List Nat} {h : hp} (L : Lay TLx ad h) {δ0 δ : dp} (I : CI ad h.1 δ0 δ) {a : Nat} {v : Int32} : CI ad h.1 δ0 (s_I δ 6 0 a v) := I.sI L (by decide) (by decide) (by simpa [b_I] using (ti_b v).1) (by simpa [b_I] using (ti_b v).2)
theorem cs_6_1 {ad : List Nat} {h : hp} (L : Lay TLx ad h) {δ0 δ : dp} (I : CI ad h.1 δ0 δ) {a : Nat} {v : Int32} (_ : q_K h.1 a = 6) (h1 : 0 ≤ v.toInt) (h2 : v.toInt ≤ 1) : CI ad h.1 δ0 (s_I δ 6 1 a v) := I.sI L (by decide) (by decide) (by simpa [b_I] using h1) (by simpa [b_I] using h2)
theorem cs_6_2 {ad : List Nat} {h : hp} (L : Lay TLx ad h) {δ0 δ : dp} (I : CI ad h.1 δ0 δ) {a : Nat} {v : Int32} : CI ad h.1 δ0 (s_I δ 6 2 a v) := I.sI L (by decide) (by decide) (by simpa [b_I] using (ti_b v).1) (by simpa [b_I] using (ti_b v).2)
theorem cs_7_1 {ad : List Nat} {h : hp} (L : Lay TLx ad h) {δ0 δ : dp} (I : CI ad h.1 δ0 δ) {a : Nat} {v : Int32} (_ : q_K h.1 a = 7) (h1 : 0 ≤ v.toInt) (h2 : v.toInt ≤ 500) : CI ad h.1 δ0 (s_I δ 7 1 a v) := I.sI L (by decide) (by decide) (by simpa [b_I] using h1) (by simpa [b_I] using h2)
theorem cs_7_2 {ad : List Nat} {h : hp} (L : Lay TLx ad h) {δ0 δ : dp} (I : CI ad h.1 δ0 δ) {a : Nat} {v : Int32} (_ : q_K h.1 a = 7) (h1 : 0 ≤ v.toInt) (h2 : v.toInt ≤ 500) : CI ad h.1 δ0 (s_I δ 7 2 a v) := I.sI L (by decide) (by decide) (by simpa [b_I] using h1) (by simpa [b_I] using h2)
theorem cs_7_3 {ad : List Nat} {h : hp} (L : Lay TLx ad h) {δ0 δ : dp} (I : CI ad h.1 δ0 δ) {a : Nat} {v : Int32} (_ : q_K h.1 a = 7) (h1 : 0 ≤ v.toInt) (h2 : v.toInt ≤ 500) : CI ad h.1 δ0 (s_I δ 7 3 a v) := I.sI L (by decide) (by decide) (by simpa [b_I] using h1) (by simpa [b_I] using h2)
theorem cs_7_4 {ad : List Nat} {h : hp} (L : Lay TLx ad h) {δ0 δ : dp} (I : CI ad h.1 δ0 δ) {a : Nat} {v : Int32} (_ : q_K h.1 a = 7) (h1 : 0 ≤ v.toInt) (h2 : v.toInt ≤ 500) : CI ad h.1 δ0 (s_I δ 7 4 a v) := I.sI L (by decide) (by decide) (by simpa [b_I] using h1) (by simpa [b_I] using h2)
theorem cs_7_5 {ad : List Nat} {h : hp} (L : Lay TLx ad h) {δ0 δ : dp} (I : CI ad h.1 δ0 δ) {a : Nat} {v : Int32} : CI ad h.1 δ0 (s_I δ 7 5 a v) := I.sI L (by decide) (by decide) (by simpa [b_I] using (ti_b v).1) (by simpa [b_I] using (ti_b v).2)
theorem cs_7_6 {ad : List Nat} {h : hp} (L : Lay TLx ad h) {δ0 δ : dp} (I : CI ad h.1 δ0 δ) {a : Nat} {v : Int32} : CI ad h.1 δ0 (s_I δ 7 6 a v) := I.sI L (by decide) (by decide) (by simpa [b_I] using (ti_b v).1) (by simpa [b_I] using (ti_b v).2)
theorem cs_8_3 {ad : List Nat} {h : hp} (L : Lay TLx ad h) {δ0 δ : dp} (I : CI ad h.1 δ0 δ) {a : Nat} {v : Int32} (_ : q_K h.1 a = 8) (h1 : 0 ≤ v.toInt) (h2 : v.toInt ≤ 1) : CI ad h.1 δ0 (s_I δ 8 3 a v) := I.sI L (by decide) (by decide) (by simpa [b_I] using h1) (by simpa [b_I] using h2)
theorem cs_9_0 {ad : List Nat} {h : hp} (L : Lay TLx ad h) {δ0 δ : dp} (I : CI ad h.1 δ0 δ) {a : Nat} {v : Int32} : CI ad h.1 δ0 (s_I δ 9 0 a v) := I.sI L (by decide) (by decide) (by simpa [b_I] using (ti_b v).1) (by simpa [b_I] using (ti_b v).2)
theorem cs_9_1 {ad : List Nat} {h : hp} (L : Lay TLx ad h) {δ0 δ : dp} (I : CI ad h.1 δ0 δ) {a : Nat} {v : Int32} : CI ad h.1 δ0 (s_I δ 9 1 a v) := I.sI L (by decide) (by decide) (by simpa [b_I] using (ti_b v).1) (by simpa [b_I] using (ti_b v).2)
theorem cs_9_2 {ad : List Nat} {h : hp} (L : Lay TLx ad h) {δ0 δ : dp} (I : CI ad h.1 δ0 δ) {a : Nat} {v : Int32} : CI ad h.1 δ0 (s_I δ 9 2 a v) := I.sI L (by decide) (by decide) (by simpa [b_I] using (ti_b v).1) (by simpa [b_I] using (ti_b v).2)
theorem cs_9_3 {ad : List Nat} {h : hp} (L : Lay TLx ad h) {δ0 δ : dp} (I : CI ad h.1 δ0 δ) {a : Nat} {v : Int32} : CI ad h.1 δ0 (s_I δ 9 3 a v) := I.sI L (by decide) (by decide) (by simpa [b_I] using (ti_b v).1) (by simpa [b_I] using (ti_b v).2)
theorem cs_9_4 {ad : List Nat} {h : hp} (L : Lay TLx ad h) {δ0 δ : dp} (I : CI ad h.1 δ0 δ) {a : Nat} {v : Int32} (_ : q_K h.1 a = 9) (h1 : 0 ≤ v.toInt) (h2 : v.toInt ≤ 3) : CI ad h.1 δ0 (s_I δ 9 4 a v) := I.sI L (by decide) (by decide) (by simpa [b_I] using h1) (by simpa [b_I] using h2)
theorem cs_11_5 {ad : List Nat} {h : hp} (L : Lay TLx ad h) {δ0 δ : dp} (I : CI ad h.1 δ0 δ) {a : Nat} {v : Int32} (_ : q_K h.1 a = 11) (h1 : 0 ≤ v.toInt) (h2 : v.toInt ≤ 4) : CI ad h.1 δ0 (s_I δ 11 5 a v) := I.sI L (by decide) (by decide) (by simpa [b_I] using h1) (by simpa [b_I] using h2)
theorem cs_11_12 {ad : List Nat} {h : hp} (L : Lay TLx ad h) {δ0 δ : dp} (I : CI ad h.1 δ0 δ) {a : Nat} {v : Int32} (_ : q_K h.1 a = 11) (h1 : 0 ≤ v.toInt) (h2 : v.toInt ≤ 3) : CI ad h.1 δ0 (s_I δ 11 12 a v) := I.sI L (by decide) (by decide) (by simpa [b_I] using h1) (by simpa [b_I] using h2)
theorem cb_2_4 {ad : List Nat} {g : gp} {δ0 δ : dp} (I : CI ad g δ0 δ) {a : Nat} (ka : q_K g a = 2) : 0 ≤ (q_I δ 2 4 a).toInt ∧ (q_I δ 2 4 a).toInt ≤ 1000 := by
  have := I.b 4 ka
  simpa [b_I] using this
theorem cb_4_5 {ad : List Nat} {g : gp} {δ0 δ : dp} (I : CI ad g δ0 δ) {a : Nat} (ka : q_K g a = 4) : 0 ≤ (q_I δ 4 5 a).toInt ∧ (q_I δ 4 5 a).toInt ≤ 32 := by
  have := I.b 5 ka
  simpa [b_I] using this
theorem cb_5_0 {ad : List Nat} {g : gp} {δ0 δ : dp} (I : CI ad g δ0 δ) {a : Nat} (ka : q_K g a = 5) : 2 ≤ (q_I δ 5 0 a).toInt ∧ (q_I δ 5 0 a).toInt ≤ 16 := by
  have := I.b 0 ka
  simpa [b_I] using this
theorem cb_5_1 {ad : List Nat} {g : gp} {δ0 δ : dp} (I : CI ad g δ0 δ) {a : Nat} (ka : q_K g a = 5) : 0 ≤ (q_I δ 5 1 a).toInt ∧ (q_I δ 5 1 a).toInt ≤ 1 := by
  have := I.b 1 ka
  simpa [b_I] using this
theorem cb_5_2 {ad : List Nat} {g : gp} {δ0 δ : dp} (I : CI ad g δ0 δ) {a : Nat} (ka : q_K g a = 5) : 1 ≤ (q_I δ 5 2 a).toInt ∧ (q_I δ 5 2 a).toInt ≤ 5 := by
  have := I.b 2 ka
  simpa [b_I] using this
theorem cb_7_1 {ad : List Nat} {g : gp} {δ0 δ : dp} (I : CI ad g δ0 δ) {a : Nat} (ka : q_K g a = 7) : 0 ≤ (q_I δ 7 1 a).toInt ∧ (q_I δ 7 1 a).toInt ≤ 500 := by
  have := I.b 1 ka
  simpa [b_I] using this
theorem cb_7_2 {ad : List Nat} {g : gp} {δ0 δ : dp} (I : CI ad g δ0 δ) {a : Nat} (ka : q_K g a = 7) : 0 ≤ (q_I δ 7 2 a).toInt ∧ (q_I δ 7 2 a).toInt ≤ 500 := by
  have := I.b 2 ka
  simpa [b_I] using this
theorem cb_7_3 {ad : List Nat} {g : gp} {δ0 δ : dp} (I : CI ad g δ0 δ) {a : Nat} (ka : q_K g a = 7) : 0 ≤ (q_I δ 7 3 a).toInt ∧ (q_I δ 7 3 a).toInt ≤ 500 := by
  have := I.b 3 ka
  simpa [b_I] using this
theorem cb_7_4 {ad : List Nat} {g : gp} {δ0 δ : dp} (I : CI ad g δ0 δ) {a : Nat} (ka : q_K g a = 7) : 0 ≤ (q_I δ 7 4 a).toInt ∧ (q_I δ 7 4 a).toInt ≤ 500 := by
  have := I.b 4 ka
  simpa [b_I] using this
theorem cb_8_2 {ad : List Nat} {g : gp} {δ0 δ : dp} (I : CI ad g δ0 δ) {a : Nat} (ka : q_K g a = 8) : 0 ≤ (q_I δ 8 2 a).toInt ∧ (q_I δ 8 2 a).toInt ≤ 500 := by
  have := I.b 2 ka
  simpa [b_I] using this
theorem cb_9_4 {ad : List Nat} {g : gp} {δ0 δ : dp} (I : CI ad g δ0 δ) {a : Nat} (ka : q_K g a = 9) : 0 ≤ (q_I δ 9 4 a).toInt ∧ (q_I δ 9 4 a).toInt ≤ 3 := by
  have := I.b 4 ka
  simpa [b_I] using this
theorem cb_11_5 {ad : List Nat} {g : gp} {δ0 δ : dp} (I : CI ad g δ0 δ) {a : Nat} (ka : q_K g a = 11) : 0 ≤ (q_I δ 11 5 a).toInt ∧ (q_I δ 11 5 a).toInt ≤ 4 := by
  have := I.b 5 ka
  simpa [b_I] using this
theorem cb_11_12 {ad : List Nat} {g : gp} {δ0 δ : dp} (I : CI ad g δ0 δ) {a : Nat} (ka : q_K g a = 11) : 0 ≤ (q_I δ 11 12 a).toInt ∧ (q_I δ 11 12 a).toInt ≤ 3 := by
  have := I.b 12 ka
  simpa [b_I] using this
theorem cb_1_15 {ad : List Nat} {g : gp} {δ0 δ : dp} (I : CI ad g δ0 δ) {a : Nat} (ka : q_K g a = 1) : 0 ≤ (q_I δ 1 15 a).toInt ∧ (q_I δ 1 15 a).toInt ≤ 1 := by
  have := I.b 15 ka
  simpa [b_I] using this
theorem cb_4_9 {ad : List Nat} {g : gp} {δ0 δ : dp} (I : CI ad g δ0 δ) {a : Nat} (ka : q_K g a = 4) : 0 ≤ (q_I δ 4 9 a).toInt ∧ (q_I δ 4 9 a).toInt ≤ 1 := by
  have := I.b 9 ka
  simpa [b_I] using this
theorem cb_4_16 {ad : List Nat} {g : gp} {δ0 δ : dp} (I : CI ad g δ0 δ) {a : Nat} (ka : q_K g a = 4) : 0 ≤ (q_I δ 4 16 a).toInt ∧ (q_I δ 4 16 a).toInt ≤ 1 := by
  have := I.b 16 ka
  simpa [b_I] using this
theorem cb_6_1 {ad : List Nat} {g : gp} {δ0 δ : dp} (I : CI ad g δ0 δ) {a : Nat} (ka : q_K g a = 6) : 0 ≤ (q_I δ 6 1 a).toInt ∧ (q_I δ 6 1 a).toInt ≤ 1 := by
  have := I.b 1 ka
  simpa [b_I] using this
theorem cb_8_3 {ad : List Nat} {g : gp} {δ0 δ : dp} (I : CI ad g δ0 δ) {a : Nat} (ka : q_K g a = 8) : 0 ≤ (q_I δ 8 3 a).toInt ∧ (q_I δ 8 3 a).toInt ≤ 1 := by
  have := I.b 3 ka
  simpa [b_I] using this
theorem cb_0_4 {ad : List Nat} {g : gp} {δ0 δ : dp} (I : CI ad g δ0 δ) {a : Nat} (ka : q_K g a = 0) : 0 ≤ (q_I δ 0 4 a).toInt ∧ (q_I δ 0 4 a).toInt ≤ 1 := by
  have := I.b 4 ka
  simpa [b_I] using this
theorem cb_4_6 {ad : List Nat} {g : gp} {δ0 δ : dp} (I : CI ad g δ0 δ) {a : Nat} (ka : q_K g a = 4) : 0 ≤ (q_I δ 4 6 a).toInt ∧ (q_I δ 4 6 a).toInt ≤ 500 := by
  have := I.b 6 ka
  simpa [b_I] using this
end
