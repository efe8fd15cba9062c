theorem sh_8 : (1 : Int32) <<< ((8 : Int32) &&& 31) = 256 := by decide
theorem sh_8r : (255 : Int32) >>> ((5 : Int32) &&& 31) = 7 := by decide
theorem sh_3 : (1 : Int32) <<< ((3 : Int32) &&& 31) = 8 := by decide
theorem op_sp {A : Option (Int32 × dp)} {B : dp → Option (Int32 × dp)} {C : Int32 → Int32 → dp → Prop} (H : match A with
  | some r => (match B r.2 with | some q => C r.1 q.1 q.2 | none => False)
  | none => False) : ∃ δ2 kk b δ1, A = some (kk, δ1) ∧ B δ1 = some (b, δ2) ∧ C kk b δ2 := by
  rcases A with _ | ⟨kk, δ1⟩
  · exact H.elim
  · revert H
    dsimp only
    rcases e : B δ1 with _ | ⟨b, δ2⟩
    · exact fun H => H.elim
    · exact fun H => ⟨δ2, kk, b, δ1, rfl, e, H⟩
theorem op_sq {A : Option (Int32 × dp)} {B : dp → Option (Int32 × dp)} (H : match A with
  | some r => (match B r.2 with | some q => r.1 = q.1 | none => False)
  | none => False) : ∃ δ2 b δ1, A = some (b, δ1) ∧ B δ1 = some (b, δ2) := by
  rcases A with _ | ⟨kk, δ1⟩
  · exact H.elim
  · revert H
    dsimp only
    rcases e : B δ1 with _ | ⟨b, δ2⟩
    · exact fun H => H.elim
    · exact fun H => ⟨δ2, kk, δ1, rfl, by rw [e]; exact congrArg some (Prod.ext H.symm rfl)⟩
theorem qI_sC {δ : dp} {a b i j n : Nat} : q_I (s_C δ a b i j n) = q_I δ := rfl
theorem qJ_sC {δ : dp} {a b i j n : Nat} : q_J (s_C δ a b i j n) = q_J δ := rfl
theorem qV_sC {δ : dp} {a b i j n : Nat} : q_V (s_C δ a b i j n) = q_V δ := rfl
theorem qR_sC {δ : dp} {a b i j n a' : Nat} : q_R (s_C δ a b i j n) a' = if a' = b then va_cpy (q_R δ a) (q_R δ b) i j n else q_R δ a' := rfl
theorem i_lt {a b : Int32} (h : a.toInt < b.toInt) : a < b := Int32.lt_iff_toInt_lt.mpr h
theorem i_nlt {a b : Int32} (h : b.toInt ≤ a.toInt) : ¬ a < b := fun c => by have := Int32.lt_iff_toInt_lt.mp c; omega
theorem i_ne {a b : Int32} (h : a.toInt ≠ b.toInt) : ¬ a = b := fun c => h (congrArg Int32.toInt c)
theorem i_nne {a b : Int32} (h : ¬ a = b) : a.toInt ≠ b.toInt := fun c => h (Int32.toInt_inj.mp c)
theorem o_lt {a b : Int32} (h : a < b) : a.toInt < b.toInt := Int32.lt_iff_toInt_lt.mp h
theorem o_nlt {a b : Int32} (h : ¬ a < b) : b.toInt ≤ a.toInt := Int.not_lt.mp (fun c => h (Int32.lt_iff_toInt_lt.mpr c))
theorem r_4 {x : Int32} (h0 : ¬ x < 0) (h1 : ¬ (4 : Int32) < x) : x = 0 ∨ x = 1 ∨ x = 2 ∨ x = 3 ∨ x = 4 := by
  obtain ⟨k, hk, rfl⟩ := r_lt (n := 4) (by decide) h0 h1
  rcases (show k = 0 ∨ k = 1 ∨ k = 2 ∨ k = 3 ∨ k = 4 by omega) with rfl | rfl | rfl | rfl | rfl
  · exact Or.inl rfl
  · exact Or.inr (Or.inl rfl)
  · exact Or.inr (Or.inr (Or.inl rfl))
  · exact Or.inr (Or.inr (Or.inr (Or.inl rfl)))
  · exact Or.inr (Or.inr (Or.inr (Or.inr rfl)))
theorem k_0 : (0 : Int32).toInt = 0 := by decide
theorem k_1 : (1 : Int32).toInt = 1 := by decide
theorem k_2 : (2 : Int32).toInt = 2 := by decide
theorem k_m1 : (-1 : Int32).toInt = -1 := by decide
theorem k_3 : (3 : Int32).toInt = 3 := by decide
theorem k_4 : (4 : Int32).toInt = 4 := by decide
theorem k_5 : (5 : Int32).toInt = 5 := by decide
theorem k_255 : (255 : Int32).toInt = 255 := by decide
theorem k_256 : (256 : Int32).toInt = 256 := by decide
theorem w_next {x : Int32} (h0 : ¬ x < 0) (h1 : ¬ (255 : Int32) < x) (h2 : ¬ x = 255) : ∃ c : Nat, c < 8 ∧ (x + 1) / 32 = Int32.ofNat c ∧ (x + 1) >>> ((5 : Int32) &&& 31) = Int32.ofNat c := by
  obtain ⟨k, hk, rfl⟩ := r_lt (n := 255) (by decide) h0 h1
  have hk2 : k ≠ 255 := fun e => h2 (by rw [e]; rfl)
  have H : ∀ k : Fin 255, (Int32.ofNat k.val + 1) / 32 = Int32.ofNat ((k.val + 1) / 32) ∧ (Int32.ofNat k.val + 1) >>> ((5 : Int32) &&& 31) = Int32.ofNat ((k.val + 1) / 32) := by decide +kernel
  exact ⟨(k + 1) / 32, by omega, H ⟨k, by omega⟩⟩
theorem w_bef {x : Int32} (h0 : ¬ x < 0) (h1 : ¬ (255 : Int32) < x) (h2 : ¬ x = 0) : ∃ c : Nat, c < 8 ∧ (x - 1) / 32 = Int32.ofNat c ∧ (x - 1) >>> ((5 : Int32) &&& 31) = Int32.ofNat c := by
  obtain ⟨k, hk, rfl⟩ := r_lt (n := 255) (by decide) h0 h1
  have hk2 : k ≠ 0 := fun e => h2 (by rw [e]; rfl)
  have H : ∀ k : Fin 255, (Int32.ofNat (k.val + 1) - 1) / 32 = Int32.ofNat (k.val / 32) ∧ (Int32.ofNat (k.val + 1) - 1) >>> ((5 : Int32) &&& 31) = Int32.ofNat (k.val / 32) := by decide +kernel
  have H2 := H ⟨k - 1, by omega⟩
  simp only [show k - 1 + 1 = k by omega] at H2
  exact ⟨(k - 1) / 32, by omega, H2⟩
theorem w_nle {x : Int32} (h1 : ¬ (255 : Int32) < x) (h2 : ¬ x = 255) : x < (255 : Int32) := i_lt (by
  have e0 := o_nlt h1
  have e1 := i_nne h2
  omega)
theorem w_nle0 {x : Int32} (h1 : ¬ x < 0) (h2 : ¬ x = 0) : (0 : Int32) < x := i_lt (by
  have e0 := o_nlt h1
  have e1 := i_nne h2
  omega)
theorem k_500 : (500 : Int32).toInt = 500 := by decide
