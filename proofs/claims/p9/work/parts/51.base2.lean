/-! facts of numbers for omega -/
theorem ti_b (a : Int32) : -2147483648 ≤ a.toInt ∧ a.toInt ≤ 2147483647 := by
  have h1 := a.le_toInt
  have h2 := a.toInt_lt
  omega
theorem bm_q (x : Int) : ∃ q : Int, x.bmod (2 ^ 32) = x + 4294967296 * q := ⟨-(x.bdiv (2 ^ 32)), by
  have := Int.bmod_add_bdiv x (2 ^ 32)
  rw [show (((2 : Nat) ^ 32 : Nat) : Int) = 4294967296 from rfl] at this
  omega⟩
theorem ti_add (a b : Int32) : ∃ q : Int, (a + b).toInt = a.toInt + b.toInt + 4294967296 * q ∧ -2147483648 ≤ (a + b).toInt ∧ (a + b).toInt ≤ 2147483647 := by
  obtain ⟨q, hq⟩ := bm_q (a.toInt + b.toInt)
  exact ⟨q, by rw [Int32.toInt_add]; exact hq, (ti_b _).1, (ti_b _).2⟩
theorem ti_sub (a b : Int32) : ∃ q : Int, (a - b).toInt = a.toInt - b.toInt + 4294967296 * q ∧ -2147483648 ≤ (a - b).toInt ∧ (a - b).toInt ≤ 2147483647 := by
  obtain ⟨q, hq⟩ := bm_q (a.toInt - b.toInt)
  exact ⟨q, by rw [Int32.toInt_sub]; exact hq, (ti_b _).1, (ti_b _).2⟩
theorem ti_addc {c : Int32} {n : Int} (hc : c.toInt = n) (a : Int32) : ∃ q : Int, (a + c).toInt = a.toInt + n + 4294967296 * q ∧ -2147483648 ≤ (a + c).toInt ∧ (a + c).toInt ≤ 2147483647 := by
  rw [← hc]; exact ti_add a c
theorem ti_cadd {c : Int32} {n : Int} (hc : c.toInt = n) (a : Int32) : ∃ q : Int, (c + a).toInt = n + a.toInt + 4294967296 * q ∧ -2147483648 ≤ (c + a).toInt ∧ (c + a).toInt ≤ 2147483647 := by
  rw [← hc]; exact ti_add c a
theorem ti_subc {c : Int32} {n : Int} (hc : c.toInt = n) (a : Int32) : ∃ q : Int, (a - c).toInt = a.toInt - n + 4294967296 * q ∧ -2147483648 ≤ (a - c).toInt ∧ (a - c).toInt ≤ 2147483647 := by
  rw [← hc]; exact ti_sub a c
theorem ti_csub {c : Int32} {n : Int} (hc : c.toInt = n) (a : Int32) : ∃ q : Int, (c - a).toInt = n - a.toInt + 4294967296 * q ∧ -2147483648 ≤ (c - a).toInt ∧ (c - a).toInt ≤ 2147483647 := by
  rw [← hc]; exact ti_sub c a
theorem ti_mulc {c : Int32} {n : Int} (hc : c.toInt = n) (a : Int32) : ∃ q : Int, (c * a).toInt = n * a.toInt + 4294967296 * q ∧ -2147483648 ≤ (c * a).toInt ∧ (c * a).toInt ≤ 2147483647 := by
  obtain ⟨q, hq⟩ := bm_q (c.toInt * a.toInt)
  exact ⟨q, by rw [Int32.toInt_mul, hq, hc], (ti_b _).1, (ti_b _).2⟩
theorem ti_mulr {c : Int32} {n : Int} (hc : c.toInt = n) (a : Int32) : ∃ q : Int, (a * c).toInt = n * a.toInt + 4294967296 * q ∧ -2147483648 ≤ (a * c).toInt ∧ (a * c).toInt ≤ 2147483647 := by
  obtain ⟨q, hq⟩ := bm_q (a.toInt * c.toInt)
  exact ⟨q, by rw [Int32.toInt_mul, hq, hc, Int.mul_comm], (ti_b _).1, (ti_b _).2⟩
theorem ti_div {c : Int32} {n : Nat} (hc : c.toInt = n) (hn : 0 < n) (a : Int32) : 0 ≤ a.toInt → (a / c).toInt = a.toInt / n := by
  intro h
  rw [Int32.toInt_div_of_ne_right a c (fun e => by rw [e] at hc; rw [show (-1 : Int32).toInt = -1 from rfl] at hc; omega), hc]
  exact Int.tdiv_eq_ediv_of_nonneg h
theorem q_0 {x y q : Int} (e : x = y + 4294967296 * q) (h1 : -2147483648 ≤ x) (h2 : x ≤ 2147483647) (h3 : -2147483648 ≤ y) (h4 : y ≤ 2147483647) : x = y ∧ -2147483648 ≤ x ∧ x ≤ 2147483647 := by omega
theorem te_add (a b : Int32) (h1 : -2147483648 ≤ a.toInt + b.toInt) (h2 : a.toInt + b.toInt ≤ 2147483647) : (a + b).toInt = a.toInt + b.toInt ∧ -2147483648 ≤ (a + b).toInt ∧ (a + b).toInt ≤ 2147483647 := by
  obtain ⟨q, e, l, u⟩ := ti_add a b
  exact q_0 e l u h1 h2
theorem te_sub (a b : Int32) (h1 : -2147483648 ≤ a.toInt - b.toInt) (h2 : a.toInt - b.toInt ≤ 2147483647) : (a - b).toInt = a.toInt - b.toInt ∧ -2147483648 ≤ (a - b).toInt ∧ (a - b).toInt ≤ 2147483647 := by
  obtain ⟨q, e, l, u⟩ := ti_sub a b
  exact q_0 e l u h1 h2
theorem te_addc {c : Int32} {n : Int} (hc : c.toInt = n) (a : Int32) (h1 : -2147483648 ≤ a.toInt + n) (h2 : a.toInt + n ≤ 2147483647) : (a + c).toInt = a.toInt + n ∧ -2147483648 ≤ (a + c).toInt ∧ (a + c).toInt ≤ 2147483647 := by
  obtain ⟨q, e, l, u⟩ := ti_addc hc a
  exact q_0 e l u h1 h2
theorem te_cadd {c : Int32} {n : Int} (hc : c.toInt = n) (a : Int32) (h1 : -2147483648 ≤ n + a.toInt) (h2 : n + a.toInt ≤ 2147483647) : (c + a).toInt = n + a.toInt ∧ -2147483648 ≤ (c + a).toInt ∧ (c + a).toInt ≤ 2147483647 := by
  obtain ⟨q, e, l, u⟩ := ti_cadd hc a
  exact q_0 e l u h1 h2
theorem te_subc {c : Int32} {n : Int} (hc : c.toInt = n) (a : Int32) (h1 : -2147483648 ≤ a.toInt - n) (h2 : a.toInt - n ≤ 2147483647) : (a - c).toInt = a.toInt - n ∧ -2147483648 ≤ (a - c).toInt ∧ (a - c).toInt ≤ 2147483647 := by
  obtain ⟨q, e, l, u⟩ := ti_subc hc a
  exact q_0 e l u h1 h2
theorem te_csub {c : Int32} {n : Int} (hc : c.toInt = n) (a : Int32) (h1 : -2147483648 ≤ n - a.toInt) (h2 : n - a.toInt ≤ 2147483647) : (c - a).toInt = n - a.toInt ∧ -2147483648 ≤ (c - a).toInt ∧ (c - a).toInt ≤ 2147483647 := by
  obtain ⟨q, e, l, u⟩ := ti_csub hc a
  exact q_0 e l u h1 h2
theorem te_mulc {c : Int32} {n : Int} (hc : c.toInt = n) (a : Int32) (h1 : -2147483648 ≤ n * a.toInt) (h2 : n * a.toInt ≤ 2147483647) : (c * a).toInt = n * a.toInt ∧ -2147483648 ≤ (c * a).toInt ∧ (c * a).toInt ≤ 2147483647 := by
  obtain ⟨q, e, l, u⟩ := ti_mulc hc a
  exact q_0 e l u h1 h2
theorem te_mulr {c : Int32} {n : Int} (hc : c.toInt = n) (a : Int32) (h1 : -2147483648 ≤ n * a.toInt) (h2 : n * a.toInt ≤ 2147483647) : (a * c).toInt = n * a.toInt ∧ -2147483648 ≤ (a * c).toInt ∧ (a * c).toInt ≤ 2147483647 := by
  obtain ⟨q, e, l, u⟩ := ti_mulr hc a
  exact q_0 e l u h1 h2
theorem ti_tn (a : Int32) : a.toInt.toNat = a.toNatClampNeg := Int32.toNat_toInt a
theorem o_lt {a b : Int32} (h : a < b) : a.toInt < b.toInt := Int32.lt_iff_toInt_lt.mp h
theorem o_nlt {a b : Int32} (h : ¬ a < b) : b.toInt ≤ a.toInt := Int.not_lt.mp (fun c => h (Int32.lt_iff_toInt_lt.mpr c))
theorem o_le {a b : Int32} (h : a ≤ b) : a.toInt ≤ b.toInt := Int32.le_iff_toInt_le.mp h
theorem o_nle {a b : Int32} (h : ¬ a ≤ b) : b.toInt < a.toInt := Int.not_le.mp (fun c => h (Int32.le_iff_toInt_le.mpr c))
theorem o_eq {a b : Int32} (h : a = b) : a.toInt = b.toInt := congrArg Int32.toInt h
theorem o_ne {a b : Int32} (h : ¬ a = b) : a.toInt ≠ b.toInt := fun c => h (Int32.toInt_inj.mp c)
theorem i_lt {a b : Int32} (h : a.toInt < b.toInt) : a < b := Int32.lt_iff_toInt_lt.mpr h
theorem i_le {a b : Int32} (h : a.toInt ≤ b.toInt) : a ≤ b := Int32.le_iff_toInt_le.mpr h
theorem i_eq {a b : Int32} (h : a.toInt = b.toInt) : a = b := Int32.toInt_inj.mp h
theorem ok_bdv {ρ : Type} {v : dp} {f : dp → Option ρ} {Q : ρ → Prop} (k : ∀ δ1, δ1 = v → ok (f δ1) Q) : ok (bd v f) Q := k v rfl
theorem ok_biv {ρ : Type} {v : Int32} {f : Int32 → Option ρ} {Q : ρ → Prop} (k : ∀ x, x = v → ok (f x) Q) : ok (bi v f) Q := k v rfl
theorem ok_blv {ρ : Type} {v : Int64} {f : Int64 → Option ρ} {Q : ρ → Prop} (k : ∀ x, x = v → ok (f x) Q) : ok (bl v f) Q := k v rfl
theorem rI_s {δ : dp} {c k a : Nat} {v : Int32} : q_I (s_I δ c k a v) c k a = v := by rw [qI_sI, if_pos ⟨rfl, rfl, rfl⟩]
theorem rI_o {δ : dp} {c k a c' k' a' : Nat} {v : Int32} (h : ¬ (c' = c ∧ k' = k)) : q_I (s_I δ c k a v) c' k' a' = q_I δ c' k' a' := by rw [qI_sI, if_neg (fun z => h ⟨z.1, z.2.1⟩)]
/-- a throwing call: it goes on, or it throws one of the three -/
theorem ok_bxv {ρ : Type} {F : Option ((Unit ⊕ Nat) × dp)} {tw : Nat → dp → ρ} {o : dp → Option ρ} {P : (Unit ⊕ Nat) × dp → Prop} {Q : ρ → Prop} (h : ok F P) (k1 : ∀ n δ, P (.inr n, δ) → Q (tw n δ)) (k2 : ∀ δ, P (.inl (), δ) → ok (o δ) Q) : ok (bxv F tw o) Q := by
  obtain ⟨⟨v, δ⟩, e, hp⟩ := h
  subst e
  rcases v with ⟨⟩ | n
  · exact k2 δ hp
  · exact ⟨_, rfl, k1 n δ hp⟩
def bo (v : Int32) : Prop := v = 0 ∨ v = 1
theorem bo_0 : bo 0 := Or.inl rfl
theorem bo_1 : bo 1 := Or.inr rfl
theorem bo_t {v : Int32} (h : bo v) : v.toInt = 0 ∨ v.toInt = 1 := h.elim (fun e => Or.inl (by rw [e]; rfl)) (fun e => Or.inr (by rw [e]; rfl))
/-- which fields may have changed -/
def kp (W : List (Nat × Nat)) (δ δ1 : dp) : Prop := ∀ c k a, (c, k) ∉ W → q_I δ1 c k a = q_I δ c k a
theorem kp_r {δ : dp} : kp [] δ δ := fun _ _ _ _ => rfl
theorem kp_w {W W1 : List (Nat × Nat)} {δ δ1 : dp} (h : ∀ x ∈ W1, x ∈ W) (H : kp W1 δ δ1) : kp W δ δ1 := fun c k a n => H c k a (fun m => n (h _ m))
theorem kp_I {W : List (Nat × Nat)} {δ δ1 δ2 : dp} {c k a : Nat} {v : Int32} (H : kp W δ δ1) (e : δ2 = s_I δ1 c k a v) : kp ((c, k) :: W) δ δ2 := fun c' k' a' n => by
  rw [e, rI_o (fun z => n (by rw [z.1, z.2]; exact List.mem_cons_self))]
  exact H c' k' a' (fun m => n (List.mem_cons_of_mem _ m))
theorem kp_N {W : List (Nat × Nat)} {δ δ1 δ2 : dp} (H : kp W δ δ1) (e : q_I δ2 = q_I δ1) : kp W δ δ2 := fun c' k' a' n => by rw [e]; exact H c' k' a' n
theorem kp_t {W W1 : List (Nat × Nat)} {δ δ1 δ2 : dp} (H : kp W δ δ1) (K : kp W1 δ1 δ2) : kp (W1 ++ W) δ δ2 := fun c' k' a' n => (K c' k' a' (fun m => n (List.mem_append_left _ m))).trans (H c' k' a' (fun m => n (List.mem_append_right _ m)))
/-- 2 to the w -/
theorem sh_b (w : Int32) : 2 ≤ w.toInt ∧ w.toInt ≤ 16 → 4 ≤ ((1 : Int32) <<< (w &&& 31)).toInt ∧ ((1 : Int32) <<< (w &&& 31)).toInt ≤ 65536 ∧ (w.toInt ≤ 6 → ((1 : Int32) <<< (w &&& 31)).toInt ≤ 64) ∧ (w.toInt ≤ 4 → ((1 : Int32) <<< (w &&& 31)).toInt ≤ 16) := by
  rintro ⟨h1, h2⟩
  have H : ∀ k : Fin 17, 2 ≤ k.val → 4 ≤ ((1 : Int32) <<< (Int32.ofNat k.val &&& 31)).toInt ∧ ((1 : Int32) <<< (Int32.ofNat k.val &&& 31)).toInt ≤ 65536 ∧ ((Int32.ofNat k.val).toInt ≤ 6 → ((1 : Int32) <<< (Int32.ofNat k.val &&& 31)).toInt ≤ 64) ∧ ((Int32.ofNat k.val).toInt ≤ 4 → ((1 : Int32) <<< (Int32.ofNat k.val &&& 31)).toInt ≤ 16) := by decide +kernel
  have e : w = Int32.ofNat w.toInt.toNat := by
    have h4 : w.toInt = ((w.toInt.toNat : Nat) : Int) := by omega
    exact (Int32.ofInt_toInt w).symm.trans ((congrArg Int32.ofInt h4).trans Int32.ofInt_eq_ofNat)
  have := H ⟨w.toInt.toNat, by omega⟩ (by show 2 ≤ w.toInt.toNat; omega)
  dsimp only at this
  rw [← e] at this
  exact this
