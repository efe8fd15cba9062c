/-! rows of calls at a house, on both sides -/
abbrev CSt : Type := Int × (Nat → Int) × Int × (Nat → Int) × (Nat → Int)
abbrev RSt : Type := Int × (Nat → Int) × Int × (Nat → Int) × (Nat → Int)
abbrev TAU : Type := Int → Int → Int → (Nat → Int) → Int32 → Prop
def stC (τ : TAU) (c x : Int) (t : Int32) (s s1 : CSt) : Prop := mka c x s.1 s.2.1 s.2.2.1 s.2.2.2.1 s1.1 s1.2.1 s1.2.2.1 s1.2.2.2.1 ∧ ((∀ i : Nat, (i : Int) < s.2.2.1 → s1.2.2.2.2 i = s.2.2.2.2 i) ∧ (s1.2.2.1 = s.2.2.1 + 1 → ∀ i : Nat, (i : Int) = s.2.2.1 → s1.2.2.2.2 i = t.toInt)) ∧ τ c x s.1 s.2.1 t
def stR (τ : TAU) (c x : Int) (t : Int32) (s s1 : RSt) : Prop := mra c x s.1 s.2.1 s.2.2.1 s.2.2.2.1 s.2.2.2.2 s1.1 s1.2.1 s1.2.2.1 s1.2.2.2.1 s1.2.2.2.2 ∧ τ c x s.1 s.2.1 t
/-- a row of calls, with the TOUCHES of each -/
def chn {σ : Type} (st : Int → Int → Int32 → σ → σ → Prop) : List (Int × Int) → σ → σ → List Int32 → Prop
  | [], s, s', ts => s' = s ∧ ts = []
  | p :: l, s, s', ts => ∃ (s1 : σ) (t : Int32) (us : List Int32), st p.1 p.2 t s s1 ∧ chn st l s1 s' us ∧ ts = t :: us
def smt : Int32 → List Int32 → Int32
  | a, [] => a
  | a, t :: ts => smt (a + t) ts
def smt2 : Int32 → List Int32 → List Int32 → Int32
  | a, t :: ts, u :: us => smt2 (a + (t + u)) ts us
  | a, _, _ => a
/-- alike, whole -/
def HEs (A : Int) (s : CSt) (r : RSt) : Prop := HEa A s.1 s.2.1 s.2.2.1 s.2.2.2.1 r.1 r.2.1 r.2.2.1 r.2.2.2.1 r.2.2.2.2
theorem ch_HE {A : Int} {τ ρ : TAU} : ∀ (l : List (Int × Int)) (s s' : CSt) (r r' : RSt) (ts us : List Int32), (∀ p ∈ l, 0 ≤ p.2 ∧ p.2 < A) → chn (stC τ) l s s' ts → chn (stR ρ) l r r' us → HEs A s r → HEs A s' r' := by
  intro l
  induction l with
  | nil =>
    intro s s' r r' ts us _ h k H
    obtain ⟨rfl, _⟩ := h
    obtain ⟨rfl, _⟩ := k
    exact H
  | cons p l ih =>
    intro s s' r r' ts us hp h k H
    obtain ⟨s1, t, ts', h1, h2, _⟩ := h
    obtain ⟨r1, u, us', k1, k2, _⟩ := k
    have b := hp p List.mem_cons_self
    exact ih s1 s' r1 r' ts' us' (fun q hq => hp q (List.mem_cons_of_mem _ hq)) h2 k2 (HEa.m H b.1 b.2 h1.1 k1.1)
/-- the same TOUCHES -/
theorem St_b {A : Int} {nt cm : Nat → Int} : ∀ n, Vd A nt cm n → ∀ y, St nt cm n y → 0 ≤ y ∧ y < A := by
  intro n
  induction n with
  | zero => intro _ y h; exact h.elim
  | succ n ih =>
    intro V y h
    have v := V n (by omega)
    rcases h with ⟨_, h | h⟩ | ⟨_, _, h⟩
    · rw [h]; exact ⟨v.1, v.2.1⟩
    · exact ih (Vd_w (by omega) V) y h
    · exact ih (Vd_w (by omega) V) y h
theorem HEa.b {A M M' n n' : Int} {R R' C T F : Nat → Int} (H : HEa A M R n C M' R' n' T F) : ∀ i : Nat, (i : Int) < M → 0 ≤ R i ∧ R i < A := fun i hi => by
  obtain ⟨h1, _, _, _, _, _, h7, h8, _⟩ := H
  have e := h1.1
  rw [h1.2 i (by omega)]
  exact St_b _ h7 _ ((h8 _).mp ⟨i, by omega, rfl⟩)
theorem mka_01 {call x M n M1 n1 : Int} {R C R1 C1 : Nat → Int} (h : mka call x M R n C M1 R1 n1 C1) : call = 0 ∨ call = 1 := by
  rcases h with ⟨z, _⟩ | ⟨z, _⟩ | ⟨z, _⟩ | ⟨z, _⟩
  · exact Or.inl z
  · exact Or.inl z
  · exact Or.inr z
  · exact Or.inr z
theorem ch_ts {A : Int} {τ : TAU} (fn : ∀ (c x M N : Int) (R Q : Nat → Int) (t u : Int32), (c = 0 ∨ c = 1) → (∀ i : Nat, (i : Int) < M → 0 ≤ R i ∧ R i < A) → RE N Q M R → τ c x M R t → τ c x N Q u → t = u) : ∀ (l : List (Int × Int)) (s s' : CSt) (r r' : RSt) (ts us : List Int32), (∀ p ∈ l, 0 ≤ p.2 ∧ p.2 < A) → chn (stC τ) l s s' ts → chn (stR τ) l r r' us → HEs A s r → ts = us := by
  intro l
  induction l with
  | nil =>
    intro s s' r r' ts us _ h k H
    obtain ⟨_, rfl⟩ := h
    obtain ⟨_, rfl⟩ := k
    rfl
  | cons p l ih =>
    intro s s' r r' ts us hp h k H
    obtain ⟨s1, t, ts', h1, h2, e1⟩ := h
    obtain ⟨r1, u, us', k1, k2, e2⟩ := k
    have b := hp p List.mem_cons_self
    have H1 := HEa.m H b.1 b.2 h1.1 k1.1
    rw [e1, e2, fn _ _ _ _ _ _ _ _ (mka_01 h1.1) (HEa.b H) H.1 h1.2.2 k1.2, ih s1 s' r1 r' ts' us' (fun q hq => hp q (List.mem_cons_of_mem _ hq)) h2 k2 H1]
/-- CHANGES only come -/
theorem ch_g {ρ : TAU} : ∀ (l : List (Int × Int)) (r r' : RSt) (us : List Int32), chn (stR ρ) l r r' us → r.2.2.1 ≤ r'.2.2.1 ∧ ∀ i : Nat, (i : Int) < r.2.2.1 → r'.2.2.2.1 i = r.2.2.2.1 i ∧ r'.2.2.2.2 i = r.2.2.2.2 i := by
  intro l
  induction l with
  | nil =>
    intro r r' us k
    obtain ⟨rfl, _⟩ := k
    exact ⟨Int.le_refl _, fun _ _ => ⟨rfl, rfl⟩⟩
  | cons p l ih =>
    intro r r' us k
    obtain ⟨r1, u, us', k1, k2, _⟩ := k
    obtain ⟨g1, g2⟩ := mra_g k1.1
    obtain ⟨i1, i2⟩ := ih r1 r' us' k2
    refine ⟨Int.le_trans g1 i1, fun i hi => ?_⟩
    obtain ⟨a, b⟩ := g2 i hi
    obtain ⟨c, d⟩ := i2 i (by omega)
    exact ⟨c.trans a, d.trans b⟩
/-- a call for each of a row's numbers -/
def lst (call : Int) (Y : Nat → Int) : Nat → Nat → List (Int × Int)
  | 0, _ => []
  | n + 1, i => (call, Y i) :: lst call Y n (i + 1)
/-- drops of those that are not P -/
noncomputable def lsf (P : Nat → Prop) (Y : Nat → Int) : Nat → Nat → List (Int × Int)
  | 0, _ => []
  | n + 1, i => @ite _ (P i) (Classical.propDecidable _) (lsf P Y n (i + 1)) ((1, Y i) :: lsf P Y n (i + 1))
theorem lst_c {call : Int} {Y Z : Nat → Int} : ∀ n i, (∀ j, i ≤ j → j < i + n → Z j = Y j) → lst call Z n i = lst call Y n i := by
  intro n
  induction n with
  | zero => intro i _; rfl
  | succ n ih =>
    intro i h
    unfold lst
    rw [h i (Nat.le_refl _) (by omega), ih (i + 1) (fun j a b => h j (by omega) (by omega))]
theorem lsf_c {P Q : Nat → Prop} {Y Z : Nat → Int} : ∀ n i, (∀ j, i ≤ j → j < i + n → Z j = Y j ∧ (Q j ↔ P j)) → lsf Q Z n i = lsf P Y n i := by
  intro n
  induction n with
  | zero => intro i _; rfl
  | succ n ih =>
    intro i h
    obtain ⟨a, b⟩ := h i (Nat.le_refl _) (by omega)
    unfold lsf
    rw [ih (i + 1) (fun j a b => h j (by omega) (by omega)), a]
    by_cases c : P i
    · rw [if_pos c, if_pos (b.mpr c)]
    · rw [if_neg c, if_neg (fun z => c (b.mp z))]
theorem lst_s {call : Int} {Y : Nat → Int} : ∀ n i, lst call Y (n + 1) i = lst call Y n i ++ [(call, Y (i + n))] := by
  intro n
  induction n with
  | zero => intro i; rfl
  | succ n ih =>
    intro i
    rw [lst, ih (i + 1)]
    rw [lst, List.cons_append, show i + 1 + n = i + (n + 1) by omega]
theorem lst_m {call : Int} {Y : Nat → Int} {A : Int} : ∀ n i, (∀ j, i ≤ j → j < i + n → 0 ≤ Y j ∧ Y j < A) → ∀ p ∈ lst call Y n i, 0 ≤ p.2 ∧ p.2 < A := by
  intro n
  induction n with
  | zero => intro i _ p hp; cases hp
  | succ n ih =>
    intro i h p hp
    unfold lst at hp
    rcases List.mem_cons.mp hp with rfl | hp
    · exact h i (Nat.le_refl _) (by omega)
    · exact ih (i + 1) (fun j a b => h j (by omega) (by omega)) p hp
theorem lsf_m {P : Nat → Prop} {Y : Nat → Int} {A : Int} : ∀ n i, (∀ j, i ≤ j → j < i + n → 0 ≤ Y j ∧ Y j < A) → ∀ p ∈ lsf P Y n i, 0 ≤ p.2 ∧ p.2 < A := by
  intro n
  induction n with
  | zero => intro i _ p hp; cases hp
  | succ n ih =>
    intro i h p hp
    unfold lsf at hp
    have t := ih (i + 1) (fun j a b => h j (by omega) (by omega)) p
    by_cases c : P i
    · rw [if_pos c] at hp; exact t hp
    · rw [if_neg c] at hp
      rcases List.mem_cons.mp hp with rfl | hp
      · exact h i (Nat.le_refl _) (by omega)
      · exact t hp
/-! counting what two rows have in common -/
theorem cn_z {P : Nat → Prop} : ∀ m k, (∀ j, k ≤ j → j < k + m → ¬ P j) → cn P k m = 0 := by
  intro m
  induction m with
  | zero => intro k _; rfl
  | succ m ih =>
    intro k h
    rw [cn_last, ih k (fun j a b => h j a (by omega)), if_neg (h (k + m) (by omega) (by omega))]
theorem cn_not {P : Nat → Prop} : ∀ m k, cn P k m + cn (fun j => ¬ P j) k m = m := by
  intro m
  induction m with
  | zero => intro k; rfl
  | succ m ih =>
    intro k
    rw [cn_last, cn_last]
    have := ih k
    by_cases c : P (k + m)
    · rw [if_pos c, if_neg (fun z => z c)]; omega
    · rw [if_neg c, if_pos c]; omega
/-- one that is there is counted once -/
theorem cn_one {Q : Nat → Int} {v : Int} : ∀ n : Nat, (∀ i j : Nat, i < j → j < n → Q i < Q j) → cn (fun j => Q j = v) 0 n = @ite _ (∃ j, j < n ∧ Q j = v) (Classical.propDecidable _) 1 0 := by
  intro n
  induction n with
  | zero => intro _; rw [if_neg (fun ⟨j, h, _⟩ => absurd h (Nat.not_lt_zero _))]; rfl
  | succ n ih =>
    intro S
    rw [cn_last, ih (fun i j a b => S i j a (by omega))]
    show _ + (@ite _ (Q (0 + n) = v) (Classical.propDecidable _) 1 0) = _
    rw [Nat.zero_add]
    by_cases c : Q n = v
    · have no : ¬ ∃ j, j < n ∧ Q j = v := fun ⟨j, a, b⟩ => by have := S j n a (by omega); omega
      rw [if_pos c, if_neg no, if_pos ⟨n, by omega, c⟩]
    · rw [if_neg c]
      by_cases d : ∃ j, j < n ∧ Q j = v
      · obtain ⟨j, a, b⟩ := d
        rw [if_pos ⟨j, a, b⟩, if_pos ⟨j, by omega, b⟩]
      · rw [if_neg d, if_neg (fun ⟨j, a, b⟩ => by
          by_cases e : j = n
          · subst e; exact c b
          · exact d ⟨j, by omega, b⟩)]
theorem cn_or {P Q : Nat → Prop} : ∀ m k, (∀ j, k ≤ j → j < k + m → ¬ (P j ∧ Q j)) → cn (fun j => P j ∨ Q j) k m = cn P k m + cn Q k m := by
  intro m
  induction m with
  | zero => intro k _; rfl
  | succ m ih =>
    intro k h
    rw [cn_last, cn_last, cn_last, ih k (fun j a b => h j a (by omega))]
    have n := h (k + m) (by omega) (by omega)
    by_cases c : P (k + m)
    · rw [if_pos (Or.inl c), if_pos c, if_neg (fun z => n ⟨c, z⟩)]; omega
    · by_cases d : Q (k + m)
      · rw [if_pos (Or.inr d), if_neg c, if_pos d]; omega
      · rw [if_neg (fun z => z.elim c d), if_neg c, if_neg d]; omega
/-- as many of the one are in the other as of the other in the one -/
theorem cn_sym {R Q : Nat → Int} {n : Nat} (T : ∀ i j : Nat, i < j → j < n → Q i < Q j) : ∀ m : Nat, (∀ i j : Nat, i < j → j < m → R i < R j) → cn (fun i => ∃ j, j < n ∧ Q j = R i) 0 m = cn (fun j => ∃ i, i < m ∧ R i = Q j) 0 n := by
  intro m
  induction m with
  | zero =>
    intro _
    rw [cn_z n 0 (fun j _ _ ⟨i, h, _⟩ => absurd h (Nat.not_lt_zero _))]
    rfl
  | succ m ih =>
    intro S
    rw [cn_last, ih (fun i j a b => S i j a (by omega)), Nat.zero_add]
    have e : cn (fun j => ∃ i, i < m + 1 ∧ R i = Q j) 0 n = cn (fun j => (∃ i, i < m ∧ R i = Q j) ∨ Q j = R m) 0 n := cn_congr n 0 (fun j _ _ => by
      constructor
      · rintro ⟨i, a, b⟩
        by_cases z : i = m
        · subst z; exact Or.inr b.symm
        · exact Or.inl ⟨i, by omega, b⟩
      · rintro (⟨i, a, b⟩ | b)
        · exact ⟨i, by omega, b⟩
        · exact ⟨m, by omega, b.symm⟩)
    have no : ∀ j, 0 ≤ j → j < 0 + n → ¬ ((∃ i, i < m ∧ R i = Q j) ∧ Q j = R m) := by
      intro j _ _ z
      obtain ⟨⟨i, a, b⟩, c⟩ := z
      have := S i m a (by omega)
      omega
    rw [e, cn_or n 0 no, cn_one n T]
theorem cn_symM {M N : Int} {R Q : Nat → Int} (S : SR M R) (T : SR N Q) (hM : 0 ≤ M) (hN : 0 ≤ N) : cn (fun i => ME N Q (R i)) 0 M.toNat = cn (fun j => ME M R (Q j)) 0 N.toNat := by
  have h := cn_sym (R := R) (Q := Q) (n := N.toNat) (fun i j a b => T i j a (by omega)) M.toNat (fun i j a b => S i j a (by omega))
  have e1 : cn (fun i => ME N Q (R i)) 0 M.toNat = cn (fun i => ∃ j, j < N.toNat ∧ Q j = R i) 0 M.toNat := cn_congr _ 0 (fun i _ _ => ⟨fun ⟨j, a, b⟩ => ⟨j, by omega, b⟩, fun ⟨j, a, b⟩ => ⟨j, by omega, b⟩⟩)
  have e2 : cn (fun j => ME M R (Q j)) 0 N.toNat = cn (fun j => ∃ i, i < M.toNat ∧ R i = Q j) 0 N.toNat := cn_congr _ 0 (fun j _ _ => ⟨fun ⟨i, a, b⟩ => ⟨i, by omega, b⟩, fun ⟨i, a, b⟩ => ⟨i, by omega, b⟩⟩)
  rw [e1, e2]; exact h
