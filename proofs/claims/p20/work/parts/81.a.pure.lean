section
/-! texts: what their reading comes to, as functions of the bytes -/
/-- where a run of bytes ends -/
def rE (P : Int32 → Bool) (β : Nat → Int32) (n : Nat) : Nat → Nat → Nat
  | 0, p => p
  | k + 1, p => if p < n ∧ P (β p) = true then rE P β n k (p + 1) else p
theorem rE_ge {P : Int32 → Bool} {β : Nat → Int32} {n : Nat} : ∀ k p, p ≤ rE P β n k p := by
  intro k
  induction k with
  | zero => intro p; exact Nat.le_refl _
  | succ k ih =>
    intro p
    unfold rE
    split
    · exact Nat.le_trans (Nat.le_succ p) (ih (p + 1))
    · exact Nat.le_refl _
theorem rE_le {P : Int32 → Bool} {β : Nat → Int32} {n : Nat} : ∀ k p, p ≤ n → rE P β n k p ≤ n := by
  intro k
  induction k with
  | zero => intro p h; exact h
  | succ k ih =>
    intro p h
    unfold rE
    split
    · rename_i c; exact ih (p + 1) c.1
    · exact h
theorem rE_in {P : Int32 → Bool} {β : Nat → Int32} {n : Nat} : ∀ k p i, p ≤ i → i < rE P β n k p → i < n ∧ P (β i) = true := by
  intro k
  induction k with
  | zero => intro p i h1 h2; exact absurd h2 (by unfold rE; omega)
  | succ k ih =>
    intro p i h1 h2
    unfold rE at h2
    split at h2
    · rename_i c
      by_cases e : i = p
      · rw [e]; exact c
      · exact ih (p + 1) i (by omega) h2
    · omega
theorem rE_out {P : Int32 → Bool} {β : Nat → Int32} {n : Nat} : ∀ k p, n - p < k → ¬ (rE P β n k p < n ∧ P (β (rE P β n k p)) = true) := by
  intro k
  induction k with
  | zero => intro p h; omega
  | succ k ih =>
    intro p h
    unfold rE
    split
    · rename_i c; exact ih (p + 1) (by omega)
    · rename_i c; exact c
/-- there is but one such end -/
theorem rE_u {P : Int32 → Bool} {β : Nat → Int32} {n k p q : Nat} (hk : n - p < k) (h1 : p ≤ q) (h2 : ∀ i, p ≤ i → i < q → i < n ∧ P (β i) = true) (h3 : ¬ (q < n ∧ P (β q) = true)) : rE P β n k p = q := by
  have a := rE_ge (P := P) (β := β) (n := n) k p
  have b := rE_out (P := P) (β := β) (n := n) k p hk
  rcases (show rE P β n k p < q ∨ rE P β n k p = q ∨ q < rE P β n k p by omega) with c | c | c
  · exact absurd (h2 _ a c) b
  · exact c
  · exact absurd (rE_in k p q h1 c) h3
theorem rE_i {P : Int32 → Bool} {β : Nat → Int32} {n k p : Nat} (hk : n - p < k) (h : ¬ (p < n ∧ P (β p) = true)) : rE P β n k p = p := rE_u hk (Nat.le_refl _) (fun i a b => by omega) h
theorem rE_s {P : Int32 → Bool} {β : Nat → Int32} {n k p : Nat} (hk : n - p < k) (h : p < n ∧ P (β p) = true) : rE P β n k p = rE P β n k (p + 1) := by
  refine rE_u hk (Nat.le_trans (Nat.le_succ p) (rE_ge k (p + 1))) (fun i a b => ?_) (rE_out k (p + 1) (by omega))
  by_cases e : i = p
  · rw [e]; exact h
  · exact rE_in k (p + 1) i (by omega) b
def iS (c : Int32) : Bool := decide (c = 32)
def iW (c : Int32) : Bool := decide (97 ≤ c.toInt ∧ c.toInt ≤ 122)
def iD (c : Int32) : Bool := decide (48 ≤ c.toInt ∧ c.toInt ≤ 57)
abbrev sp (β : Nat → Int32) (n p : Nat) : Nat := rE iS β n 501 p
abbrev we (β : Nat → Int32) (n p : Nat) : Nat := rE iW β n 501 p
abbrev de (β : Nat → Int32) (n p : Nat) : Nat := rE iD β n 501 p
/-- the number that digits spell -/
def dV (β : Nat → Int32) (n : Nat) : Nat → Nat → Nat → Nat
  | 0, _, v => v
  | k + 1, p, v => if p < n ∧ iD (β p) = true then dV β n k (p + 1) (10 * v + ((β p).toInt - 48).toNat) else v
theorem dV_i {β : Nat → Int32} {n k p v : Nat} (h : ¬ (p < n ∧ iD (β p) = true)) : dV β n k p v = v := by
  cases k with
  | zero => rfl
  | succ k => unfold dV; rw [if_neg h]
theorem dV_s {β : Nat → Int32} {n : Nat} : ∀ k p v, n - p < k → p < n ∧ iD (β p) = true → dV β n k p v = dV β n k (p + 1) (10 * v + ((β p).toInt - 48).toNat) := by
  intro k
  induction k with
  | zero => intro p v h; omega
  | succ k ih =>
    intro p v h c
    have e : dV β n (k + 1) p v = dV β n k (p + 1) (10 * v + ((β p).toInt - 48).toNat) := by
      show (if p < n ∧ iD (β p) = true then dV β n k (p + 1) (10 * v + ((β p).toInt - 48).toNat) else v) = _
      rw [if_pos c]
    rw [e]
    by_cases c2 : p + 1 < n ∧ iD (β (p + 1)) = true
    · have e2 : dV β n (k + 1) (p + 1) (10 * v + ((β p).toInt - 48).toNat) = dV β n k (p + 1 + 1) (10 * (10 * v + ((β p).toInt - 48).toNat) + ((β (p + 1)).toInt - 48).toNat) := by
        show (if p + 1 < n ∧ iD (β (p + 1)) = true then dV β n k (p + 1 + 1) (10 * (10 * v + ((β p).toInt - 48).toNat) + ((β (p + 1)).toInt - 48).toNat) else (10 * v + ((β p).toInt - 48).toNat)) = _
        rw [if_pos c2]
      rw [e2]
      exact ih (p + 1) _ (by omega) c2
    · rw [dV_i c2, dV_i c2]
/-- the word from p to q is the k-th text -/
def wI (β : Nat → Int32) (p q k : Nat) : Prop := q = p + tx_n k ∧ ∀ i, i < tx_n k → β (p + i) = tx_b k i
/-! the class's tape -/
theorem h7_ahead {N : Nat} {g : gp} {t bt n : Nat} (hn : n ≤ 500) (ob : q_O g 7 0 t = some bt) : ∀ (m : Nat) (p : Nat) (δ : dp), (q_I δ 7 3 t).toInt = (p : Int) → (q_I δ 7 2 t).toInt = (n : Int) → hs (L_X7_ahead_0 N g t m δ) (fun r => kp [(7, 3), (7, 4)] δ r.2 ∧ q_R r.2 = q_R δ ∧ (q_I r.2 7 3 t).toInt = (sp (q_R δ bt) n p : Int) ∧ q_I r.2 7 4 t = q_I r.2 7 3 t ∧ r.1 = if sp (q_R δ bt) n p < n then q_R δ bt (sp (q_R δ bt) n p) else -1) := by
  intro m
  induction m with
  | zero => intro p δ _ _; exact hs_none
  | succ m ih =>
    intro p δ hp hl
    have j38 : ∀ q : Nat, (q_I δ 7 3 t).toInt = (q : Int) → sp (q_R δ bt) n p = q → hs (J_X7_ahead_38 N g t δ) (fun r => kp [(7, 3), (7, 4)] δ r.2 ∧ q_R r.2 = q_R δ ∧ (q_I r.2 7 3 t).toInt = (sp (q_R δ bt) n p : Int) ∧ q_I r.2 7 4 t = q_I r.2 7 3 t ∧ r.1 = if sp (q_R δ bt) n p < n then q_R δ bt (sp (q_R δ bt) n p) else -1) := by
      intro q hq es
      unfold J_X7_ahead_38 J_X7_ahead_70
      refine hs_bdv (fun d e => ?_)
      have d3 : q_I d 7 3 t = q_I δ 7 3 t := by rw [e, rI_o (by decide)]
      have d2 : q_I d 7 2 t = q_I δ 7 2 t := by rw [e, rI_o (by decide)]
      have d4 : q_I d 7 4 t = q_I d 7 3 t := by rw [d3, e, rI_s]
      have dk : kp [(7, 3), (7, 4)] δ d := kp_w (by decide) (kp_I kp_r e)
      have dR : q_R d = q_R δ := by rw [e]; rfl
      rw [d2, d3]
      refine hs_ite (fun c => hs_some ?_) (fun c => ?_)
      · have c1 := o_le c
        exact ⟨dk, dR, by rw [d3, es]; exact hq, d4, by rw [es, if_neg (by omega)]⟩
      · have c1 := o_nle c
        refine hs_at ob (hs_gd (fun gd => hs_some ?_))
        have tn := ti_tn (q_I δ 7 3 t)
        refine ⟨dk, dR, by rw [d3, es]; exact hq, d4, ?_⟩
        rw [es, if_pos (by omega), dR, show (q_I δ 7 3 t).toNatClampNeg = q by omega]
    unfold L_X7_ahead_0
    refine hs_ite (fun c => ?_) (fun c => ?_)
    · have c1 := o_le c
      exact j38 p hp (rE_i (by omega) (fun z => by omega))
    · have c1 := o_nle c
      refine hs_at ob (hs_gd (fun gd => ?_))
      have tn := ti_tn (q_I δ 7 3 t)
      have ix : (q_I δ 7 3 t).toNatClampNeg = p := by omega
      rw [ix]
      refine hs_ite (fun c2 => ?_) (fun c2 => ?_)
      · refine hs_bdv (fun d e => ?_)
        have a1 := te_addc (c := 1) (n := 1) rfl (q_I δ 7 3 t) (by omega) (by omega)
        have dR : q_R d = q_R δ := by rw [e]; rfl
        refine hs_mono (ih (p + 1) d (by rw [e, rI_s]; omega) (by rw [e, rI_o (by decide)]; exact hl)) (fun r hr => ?_)
        obtain ⟨h1, h2, h3, h4, h5⟩ := hr
        rw [dR] at h2 h3 h5
        have es : sp (q_R δ bt) n p = sp (q_R δ bt) n (p + 1) := rE_s (by omega) ⟨by omega, by unfold iS; exact decide_eq_true c2⟩
        rw [es]
        exact ⟨kp_w (by decide) (kp_t (kp_I kp_r e) h1), h2, h3, h4, h5⟩
      · exact j38 p hp (rE_i (by omega) (fun z => c2 (by have := z.2; unfold iS at this; exact of_decide_eq_true this)))
end
section
/-! the class's tape, piece by piece -/
theorem h7_readWord {N : Nat} {g : gp} {t bt n : Nat} (hn : n ≤ 500) (ob : q_O g 7 0 t = some bt) : ∀ (m : Nat) (p : Nat) (δ : dp), (q_I δ 7 3 t).toInt = (p : Int) → (q_I δ 7 2 t).toInt = (n : Int) → hs (L_X7_readWord_5 N g t m δ) (fun r => kp [(7, 3)] δ r ∧ q_R r = q_R δ ∧ (q_I r 7 3 t).toInt = (we (q_R δ bt) n p : Int)) := by
  intro m
  induction m with
  | zero => intro p δ _ _; exact hs_none
  | succ m ih =>
    intro p δ hp hl
    have out : we (q_R δ bt) n p = p → hs (J_X7_readWord_57 N g t δ) (fun r => kp [(7, 3)] δ r ∧ q_R r = q_R δ ∧ (q_I r 7 3 t).toInt = (we (q_R δ bt) n p : Int)) := by
      intro es
      unfold J_X7_readWord_57
      exact hs_some ⟨fun _ _ _ _ => rfl, rfl, by rw [es]; exact hp⟩
    unfold L_X7_readWord_5
    have tn := ti_tn (q_I δ 7 3 t)
    have e97 : (97 : Int32).toInt = 97 := rfl
    have e122 : (122 : Int32).toInt = 122 := rfl
    refine hs_ite (fun c => ?_) (fun c => ?_)
    · have c1 := o_le c
      exact out (rE_i (by omega) (fun z => by omega))
    · have c1 := o_nle c
      refine hs_at ob (hs_gd (fun gd => ?_))
      have ix : (q_I δ 7 3 t).toNatClampNeg = p := by omega
      rw [ix]
      refine hs_ite (fun c2 => ?_) (fun c2 => ?_)
      · have c3 := o_lt c2
        exact out (rE_i (by omega) (fun z => by have := of_decide_eq_true (show decide _ = true from z.2); omega))
      · have c3 := o_nlt c2
        refine hs_at ob (hs_gd (fun gd2 => ?_))
        refine hs_ite (fun c4 => ?_) (fun c4 => ?_)
        · have c5 := o_lt c4
          exact out (rE_i (by omega) (fun z => by have := of_decide_eq_true (show decide _ = true from z.2); omega))
        · have c5 := o_nlt c4
          refine hs_bdv (fun d e => ?_)
          have a1 := te_addc (c := 1) (n := 1) rfl (q_I δ 7 3 t) (by omega) (by omega)
          have dR : q_R d = q_R δ := by rw [e]; rfl
          refine hs_mono (ih (p + 1) d (by rw [e, rI_s]; omega) (by rw [e, rI_o (by decide)]; exact hl)) (fun r hr => ?_)
          obtain ⟨h1, h2, h3⟩ := hr
          rw [dR] at h2 h3
          have es : we (q_R δ bt) n p = we (q_R δ bt) n (p + 1) := rE_s (by omega) ⟨by omega, by unfold iW; exact decide_eq_true (by omega)⟩
          rw [es]
          exact ⟨kp_w (by decide) (kp_t (kp_I kp_r e) h1), h2, h3⟩
theorem hD_readWord {N : Nat} {g : gp} {t bt n p : Nat} (hn : n ≤ 500) (ob : q_O g 7 0 t = some bt) {δ : dp} (hp : (q_I δ 7 3 t).toInt = (p : Int)) (hl : (q_I δ 7 2 t).toInt = (n : Int)) : hs (D_X7_readWord N g t δ) (fun r => kp [(7, 3), (7, 4)] δ r ∧ q_R r = q_R δ ∧ (q_I r 7 4 t).toInt = (sp (q_R δ bt) n p : Int) ∧ (q_I r 7 3 t).toInt = (we (q_R δ bt) n (sp (q_R δ bt) n p) : Int)) := by
  unfold D_X7_readWord D_X7_ahead
  refine hs_bind (h7_ahead hn ob N p δ hp hl) (fun r hr => ?_)
  obtain ⟨k1, k2, k3, k4, _⟩ := hr
  refine hs_mono (h7_readWord hn ob N (sp (q_R δ bt) n p) r.2 k3 (by rw [k1 7 2 t (by decide)]; exact hl)) (fun r2 hr2 => ?_)
  obtain ⟨j1, j2, j3⟩ := hr2
  rw [k2] at j2 j3
  exact ⟨kp_w (by decide) (kp_t k1 j1), j2, by rw [j1 7 4 t (by decide), k4]; exact k3, j3⟩
theorem tx_c : ∀ (i : Fin 16) (j : Fin 6), (((tx_b i.val j.val) &&& (255 : Int32)).toUInt32 % 65536).toInt32 = tx_b i.val j.val := by decide +kernel
theorem h0_length {N : Nat} {g : gp} {k : Nat} (hk : k < 16) {δ : dp} : hs (D_J0_length_8abf5 N g k δ) (fun r => r.2 = δ ∧ r.1.toInt = (tx_n k : Int)) := by
  have H : ∀ i : Fin 16, ((Int32.ofNat (tx_n i.val)) >>> ((0 : Int32) &&& 31)).toInt = (tx_n i.val : Int) := by decide +kernel
  have e : D_J0_coder_7d493 N g k δ = some (0, δ) := by
    rw [D_J0_coder_7d493, if_neg (by decide), J_J0_coder_7d493_14, if_pos (by rfl)]
  rw [D_J0_length_8abf5, e]
  exact hs_some ⟨rfl, H ⟨k, hk⟩⟩
theorem h0_charAt {N : Nat} {g : gp} {k i : Nat} (hk : k < 16) (hi : i < tx_n k) {x : Int32} (hx : x.toInt = (i : Int)) {δ : dp} : hs (D_J0_charAt_5068e N g k x δ) (fun r => r.2 = δ ∧ r.1 = tx_b k i) := by
  have hb := tx_le hk
  have t := ti_tn x
  have ix : x.toNatClampNeg = i := by omega
  have e1 : D_J0_isLatin1_aae02 N g k δ = some (1, δ) := by
    rw [D_J0_isLatin1_aae02, if_neg (by decide), if_pos rfl, J_J0_isLatin1_aae02_18, if_pos (by decide)]
  have f0 := n_ti (tx_n k) (by omega)
  have z0 : (0 : Int32).toInt = 0 := rfl
  have e2 : D_J0_checkIndex_df160 N g x (Int32.ofNat (tx_n k)) δ = some δ := by
    rw [D_J0_checkIndex_df160, D_J3_checkIndex_8e157, if_neg (fun c => by have := o_lt c; omega), if_pos (i_lt (by omega))]
    rfl
  have e3 := tx_c ⟨k, hk⟩ ⟨i, by omega⟩
  dsimp only at e3
  rw [D_J0_charAt_5068e, e1, Option.bind_some]
  refine hs_ite (fun c => absurd (show (1 : Int32) = 0 from c) (by decide)) (fun _ => ?_)
  rw [D_J1_charAt_3b067, e2, Option.bind_some]
  refine hs_bind (P := fun r => r.2 = δ ∧ r.1 = tx_b k i) (hs_gd (fun _ => hs_gp (fun _ => hs_some ⟨rfl, ?_⟩))) (fun r hr => hs_gp (fun _ => hs_some hr))
  rw [ix]
  exact e3
theorem h7_wordIs {N : Nat} {g : gp} {t bt k st : Nat} (hk : k < 16) (ob : q_O g 7 0 t = some bt) (hst : st ≤ 500) : ∀ (m i : Nat) (x : Int32) (δ : dp), x.toInt = (i : Int) → i ≤ tx_n k → (q_I δ 7 4 t).toInt = (st : Int) → (∀ j, j < i → q_R δ bt (st + j) = tx_b k j) → hs (L_X7_wordIs_20 N g t k m x δ) (fun r => r.2 = δ ∧ (r.1 = 1 ∧ (∀ j, j < tx_n k → q_R δ bt (st + j) = tx_b k j) ∨ r.1 = 0 ∧ ¬ ∀ j, j < tx_n k → q_R δ bt (st + j) = tx_b k j)) := by
  have hb := tx_le hk
  intro m
  induction m with
  | zero => intro i x δ _ _ _ _; exact hs_none
  | succ m ih =>
    intro i x δ hx hi hs4 hj
    unfold L_X7_wordIs_20
    refine hs_bind (h0_length hk) (fun r hr => ?_)
    obtain ⟨r1, r2⟩ := hr
    rw [r1]
    refine hs_ite (fun c => ?_) (fun c => ?_)
    · have c1 := o_le c
      exact hs_gp (fun _ => hs_some ⟨rfl, Or.inl ⟨rfl, fun j h => hj j (by omega)⟩⟩)
    · have c1 := o_nle c
      refine hs_at ob (hs_gd (fun gd => ?_))
      have a1 := te_add (q_I δ 7 4 t) x (by omega) (by omega)
      have a2 := ti_tn (q_I δ 7 4 t + x)
      have ix : (q_I δ 7 4 t + x).toNatClampNeg = st + i := by omega
      refine hs_bind (h0_charAt hk (i := i) (by omega) hx) (fun r3 hr3 => ?_)
      obtain ⟨q1, q2⟩ := hr3
      rw [ix, q1, q2]
      refine hs_ite (fun c2 => ?_) (fun c2 => ?_)
      · refine hs_biv (fun y ey => ?_)
        have y1 := te_addc (c := 1) (n := 1) rfl x (by omega) (by omega)
        rw [← ey] at y1
        refine ih (i + 1) y δ (by omega) (by omega) hs4 (fun j h => ?_)
        by_cases e : j = i
        · rw [e]; exact c2
        · exact hj j (by omega)
      · exact hs_gp (fun _ => hs_some ⟨rfl, Or.inr ⟨rfl, fun z => c2 (z i (by omega))⟩⟩)
theorem hD_wordIs {N : Nat} {g : gp} {t bt k p q : Nat} (hk : k < 16) (ob : q_O g 7 0 t = some bt) (hp : p ≤ 500) (hq : q ≤ 500) {δ : dp} (h4 : (q_I δ 7 4 t).toInt = (p : Int)) (h3 : (q_I δ 7 3 t).toInt = (q : Int)) : hs (D_X7_wordIs N g t k δ) (fun r => r.2 = δ ∧ (r.1 = 1 ∧ wI (q_R δ bt) p q k ∨ r.1 = 0 ∧ ¬ wI (q_R δ bt) p q k)) := by
  have hb := tx_le hk
  unfold D_X7_wordIs
  refine hs_bind (h0_length hk) (fun r hr => ?_)
  obtain ⟨r1, r2⟩ := hr
  rw [r1]
  have a1 := te_sub (q_I δ 7 3 t) (q_I δ 7 4 t) (by omega) (by omega)
  refine hs_ite (fun c => ?_) (fun c => ?_)
  · have c1 := o_eq c
    refine hs_mono (h7_wordIs hk ob hp N 0 0 δ rfl (Nat.zero_le _) h4 (fun j h => by omega)) (fun r hr => ⟨hr.1, ?_⟩)
    rcases hr.2 with ⟨a, b⟩ | ⟨a, b⟩
    · exact Or.inl ⟨a, by omega, b⟩
    · exact Or.inr ⟨a, fun z => b z.2⟩
  · have c1 := o_ne c
    exact hs_gp (fun _ => hs_some ⟨rfl, Or.inr ⟨rfl, fun z => by have := z.1; omega⟩⟩)
/-- the first fault counts -/
theorem hD_refuse {N : Nat} {g : gp} {t : Nat} {w : Int32} {δ : dp} : hs (D_X7_refuse N g t w δ) (fun r => kp [(7, 5), (7, 6)] δ r ∧ q_R r = q_R δ ∧ q_I r 7 5 t = if q_I δ 7 5 t = 0 then w else q_I δ 7 5 t) := by
  unfold D_X7_refuse J_X7_refuse_20
  refine hs_ite (fun c => ?_) (fun c => hs_some ⟨fun _ _ _ _ => rfl, rfl, by rw [if_neg c]⟩)
  refine hs_bdv (fun d e => hs_bdv (fun d2 e2 => hs_some ⟨kp_w (by decide) (kp_I (kp_I kp_r e) e2), by rw [e2, e]; rfl, ?_⟩))
  rw [e2, rI_o (by decide), e, rI_s, if_pos c]
theorem hD_needSign {N : Nat} {g : gp} {t bt n p : Nat} (hn : n ≤ 500) (ob : q_O g 7 0 t = some bt) {δ : dp} (hp : (q_I δ 7 3 t).toInt = (p : Int)) (hl : (q_I δ 7 2 t).toInt = (n : Int)) : hs (D_X7_needSign N g t 59 δ) (fun r => kp [(7, 3), (7, 4), (7, 5), (7, 6)] δ r ∧ q_R r = q_R δ ∧ (sp (q_R δ bt) n p < n ∧ q_R δ bt (sp (q_R δ bt) n p) = 59 ∧ q_I r 7 5 t = q_I δ 7 5 t ∧ (q_I r 7 3 t).toInt = (sp (q_R δ bt) n p : Int) + 1 ∨ ¬ (sp (q_R δ bt) n p < n ∧ q_R δ bt (sp (q_R δ bt) n p) = 59) ∧ q_I r 7 5 t = if q_I δ 7 5 t = 0 then 1 else q_I δ 7 5 t)) := by
  unfold D_X7_needSign D_X7_ahead J_X7_needSign_26
  refine hs_bind (h7_ahead hn ob N p δ hp hl) (fun r hr => ?_)
  obtain ⟨k1, k2, k3, k4, k5⟩ := hr
  have k55 := k1 7 5 t (by decide)
  refine hs_ite (fun c => ?_) (fun c => ?_)
  · refine hs_bdv (fun d e => hs_some ⟨kp_w (by decide) (kp_I k1 e), by rw [e]; exact k2, Or.inl ?_⟩)
    rw [k5] at c
    by_cases c2 : sp (q_R δ bt) n p < n
    · rw [if_pos c2] at c
      have a1 := te_addc (c := 1) (n := 1) rfl (q_I r.2 7 3 t) (by omega) (by omega)
      exact ⟨c2, c, by rw [e, rI_o (by decide), k55], by rw [e, rI_s]; omega⟩
    · rw [if_neg c2] at c
      exact absurd c (by decide)
  · refine hs_bind hD_refuse (fun r3 hr3 => hs_some ?_)
    obtain ⟨j1, j2, j3⟩ := hr3
    refine ⟨kp_w (by decide) (kp_t k1 j1), j2.trans k2, Or.inr ⟨fun z => c ?_, by rw [j3, k55]⟩⟩
    rw [k5, if_pos z.1]; exact z.2
theorem h9_min {N : Nat} {g : gp} {x y : Int32} {δ : dp} : hs (D_J9_min_7cf53 N g x y δ) (fun r => r.2 = δ ∧ (r.1 = y ∧ y.toInt < x.toInt ∨ r.1 = x ∧ x.toInt ≤ y.toInt)) := by
  unfold D_J9_min_7cf53 J_J9_min_7cf53_10
  refine hs_ite (fun c => hs_some ⟨rfl, Or.inl ⟨rfl, o_lt c⟩⟩) (fun c => hs_some ⟨rfl, Or.inr ⟨rfl, o_nlt c⟩⟩)
theorem h7_readNumber {N : Nat} {g : gp} {t bt n st : Nat} (hn : n ≤ 500) (ob : q_O g 7 0 t = some bt) {x1 x2 : Int32} : ∀ (m p v : Nat) (x : Int32) (δ : dp), (q_I δ 7 3 t).toInt = (p : Int) → (q_I δ 7 2 t).toInt = (n : Int) → (q_I δ 7 4 t).toInt = (st : Int) → (v < 1000000 ∧ x.toInt = (v : Int) ∨ 1000000 ≤ v ∧ x.toInt = 1000000) → hs (L_X7_readNumber_7 N g t x1 x2 m x δ) (fun r => kp [(7, 3), (7, 5), (7, 6)] δ r.2 ∧ q_R r.2 = q_R δ ∧ (q_I r.2 7 3 t).toInt = (de (q_R δ bt) n p : Int) ∧ (dV (q_R δ bt) n 501 p v < 1000000 ∧ r.1.toInt = (dV (q_R δ bt) n 501 p v : Int) ∨ 1000000 ≤ dV (q_R δ bt) n 501 p v ∧ r.1.toInt = 1000000) ∧ (de (q_R δ bt) n p = st ∧ q_I r.2 7 5 t = (if q_I δ 7 5 t = 0 then 1 else q_I δ 7 5 t) ∨ de (q_R δ bt) n p ≠ st ∧ (r.1.toInt < x1.toInt ∨ x2.toInt < r.1.toInt) ∧ q_I r.2 7 5 t = (if q_I δ 7 5 t = 0 then 2 else q_I δ 7 5 t) ∨ de (q_R δ bt) n p ≠ st ∧ x1.toInt ≤ r.1.toInt ∧ r.1.toInt ≤ x2.toInt ∧ q_I r.2 7 5 t = q_I δ 7 5 t)) := by
  intro m
  induction m with
  | zero => intro p v x δ _ _ _ _; exact hs_none
  | succ m ih =>
    intro p v x δ hp hl h4 hv
    have out : ¬ (p < n ∧ iD (q_R δ bt p) = true) → hs (J_X7_readNumber_82 N g t x1 x2 x δ) (fun r => kp [(7, 3), (7, 5), (7, 6)] δ r.2 ∧ q_R r.2 = q_R δ ∧ (q_I r.2 7 3 t).toInt = (de (q_R δ bt) n p : Int) ∧ (dV (q_R δ bt) n 501 p v < 1000000 ∧ r.1.toInt = (dV (q_R δ bt) n 501 p v : Int) ∨ 1000000 ≤ dV (q_R δ bt) n 501 p v ∧ r.1.toInt = 1000000) ∧ (de (q_R δ bt) n p = st ∧ q_I r.2 7 5 t = (if q_I δ 7 5 t = 0 then 1 else q_I δ 7 5 t) ∨ de (q_R δ bt) n p ≠ st ∧ (r.1.toInt < x1.toInt ∨ x2.toInt < r.1.toInt) ∧ q_I r.2 7 5 t = (if q_I δ 7 5 t = 0 then 2 else q_I δ 7 5 t) ∨ de (q_R δ bt) n p ≠ st ∧ x1.toInt ≤ r.1.toInt ∧ r.1.toInt ≤ x2.toInt ∧ q_I r.2 7 5 t = q_I δ 7 5 t)) := by
      intro hno
      have es : de (q_R δ bt) n p = p := by
        by_cases c : n - p < 501
        · exact rE_i c hno
        · exact absurd c (by omega)
      rw [es, dV_i hno]
      unfold J_X7_readNumber_82 J_X7_readNumber_116 J_X7_readNumber_111
      refine hs_ite (fun c => ?_) (fun c => ?_)
      · have c1 := o_eq c
        refine hs_bind hD_refuse (fun r hr => hs_some ⟨kp_w (by decide) hr.1, hr.2.1, by rw [hr.1 7 3 t (by decide)]; exact hp, hv, Or.inl ⟨by omega, hr.2.2⟩⟩)
      · have c1 := o_ne c
        refine hs_ite (fun c2 => ?_) (fun c2 => ?_)
        · have c3 := o_lt c2
          refine hs_bind hD_refuse (fun r hr => hs_some ⟨kp_w (by decide) hr.1, hr.2.1, by rw [hr.1 7 3 t (by decide)]; exact hp, hv, Or.inr (Or.inl ⟨by omega, Or.inl c3, hr.2.2⟩)⟩)
        · have c3 := o_nlt c2
          refine hs_ite (fun c4 => ?_) (fun c4 => ?_)
          · have c5 := o_le c4
            exact hs_some ⟨fun _ _ _ _ => rfl, rfl, hp, hv, Or.inr (Or.inr ⟨by omega, c3, c5, rfl⟩)⟩
          · have c5 := o_nle c4
            refine hs_bind hD_refuse (fun r hr => hs_some ⟨kp_w (by decide) hr.1, hr.2.1, by rw [hr.1 7 3 t (by decide)]; exact hp, hv, Or.inr (Or.inl ⟨by omega, Or.inr c5, hr.2.2⟩)⟩)
    unfold L_X7_readNumber_7
    have tn := ti_tn (q_I δ 7 3 t)
    have e48 : (48 : Int32).toInt = 48 := rfl
    have e57 : (57 : Int32).toInt = 57 := rfl
    have eM : (1000000 : Int32).toInt = 1000000 := rfl
    refine hs_ite (fun c => ?_) (fun c => ?_)
    · have c1 := o_le c
      exact out (fun z => by omega)
    · have c1 := o_nle c
      refine hs_at ob (hs_gd (fun gd => ?_))
      have ix : (q_I δ 7 3 t).toNatClampNeg = p := by omega
      rw [ix]
      refine hs_ite (fun c2 => ?_) (fun c2 => ?_)
      · have c3 := o_lt c2
        exact out (fun z => by have := of_decide_eq_true (show decide _ = true from z.2); omega)
      · have c3 := o_nlt c2
        refine hs_at ob (hs_gd (fun gd2 => ?_))
        refine hs_ite (fun c4 => ?_) (fun c4 => ?_)
        · have c5 := o_lt c4
          exact out (fun z => by have := of_decide_eq_true (show decide _ = true from z.2); omega)
        · have c5 := o_nlt c4
          refine hs_at ob (hs_gd (fun gd3 => ?_))
          have m1 := te_mulr (c := 10) (n := 10) rfl x (by omega) (by omega)
          have m2 := te_add (x * 10) (q_R δ bt p) (by omega) (by omega)
          have m3 := te_subc (c := 48) (n := 48) rfl (x * 10 + q_R δ bt p) (by omega) (by omega)
          refine hs_bind h9_min (fun r hr => ?_)
          obtain ⟨r1, r2⟩ := hr
          rw [r1]
          refine hs_bdv (fun d e => ?_)
          have a1 := te_addc (c := 1) (n := 1) rfl (q_I δ 7 3 t) (by omega) (by omega)
          have dR : q_R d = q_R δ := by rw [e]; rfl
          have hd : p < n ∧ iD (q_R δ bt p) = true := ⟨by omega, by unfold iD; exact decide_eq_true (by omega)⟩
          have es : de (q_R δ bt) n p = de (q_R δ bt) n (p + 1) := rE_s (by omega) hd
          have ev := dV_s (β := q_R δ bt) (n := n) 501 p v (by omega) hd
          rw [es, ev]
          have d5 : q_I d 7 5 t = q_I δ 7 5 t := by rw [e, rI_o (by decide)]
          refine hs_mono (ih (p + 1) (10 * v + ((q_R δ bt p).toInt - 48).toNat) r.1 d (by rw [e, rI_s]; omega) (by rw [e, rI_o (by decide)]; exact hl) (by rw [e, rI_o (by decide)]; exact h4) ?_) (fun q hq => ?_)
          · rcases r2 with ⟨r2, r3⟩ | ⟨r2, r3⟩
            · rw [r2]; omega
            · rw [r2]; omega
          · obtain ⟨h1, h2, h3, h5, h6⟩ := hq
            rw [dR] at h2 h3 h5 h6
            rw [d5] at h6
            exact ⟨kp_w (by decide) (kp_t (kp_I kp_r e) h1), h2, h3, h5, h6⟩
theorem hD_readNumber {N : Nat} {g : gp} {t bt n p : Nat} (hn : n ≤ 500) (ob : q_O g 7 0 t = some bt) {x1 x2 : Int32} {δ : dp} (hp : (q_I δ 7 3 t).toInt = (p : Int)) (hl : (q_I δ 7 2 t).toInt = (n : Int)) : hs (D_X7_readNumber N g t x1 x2 δ) (fun r => kp [(7, 3), (7, 4), (7, 5), (7, 6)] δ r.2 ∧ q_R r.2 = q_R δ ∧ (q_I r.2 7 3 t).toInt = (de (q_R δ bt) n (sp (q_R δ bt) n p) : Int) ∧ (dV (q_R δ bt) n 501 (sp (q_R δ bt) n p) 0 < 1000000 ∧ r.1.toInt = (dV (q_R δ bt) n 501 (sp (q_R δ bt) n p) 0 : Int) ∨ 1000000 ≤ dV (q_R δ bt) n 501 (sp (q_R δ bt) n p) 0 ∧ r.1.toInt = 1000000) ∧ (de (q_R δ bt) n (sp (q_R δ bt) n p) = sp (q_R δ bt) n p ∧ q_I r.2 7 5 t = (if q_I δ 7 5 t = 0 then 1 else q_I δ 7 5 t) ∨ de (q_R δ bt) n (sp (q_R δ bt) n p) ≠ sp (q_R δ bt) n p ∧ (r.1.toInt < x1.toInt ∨ x2.toInt < r.1.toInt) ∧ q_I r.2 7 5 t = (if q_I δ 7 5 t = 0 then 2 else q_I δ 7 5 t) ∨ de (q_R δ bt) n (sp (q_R δ bt) n p) ≠ sp (q_R δ bt) n p ∧ x1.toInt ≤ r.1.toInt ∧ r.1.toInt ≤ x2.toInt ∧ q_I r.2 7 5 t = q_I δ 7 5 t)) := by
  unfold D_X7_readNumber D_X7_ahead
  refine hs_bind (h7_ahead hn ob N p δ hp hl) (fun r hr => ?_)
  obtain ⟨k1, k2, k3, k4, _⟩ := hr
  have k55 := k1 7 5 t (by decide)
  refine hs_mono (h7_readNumber hn ob N (sp (q_R δ bt) n p) 0 0 r.2 k3 (by rw [k1 7 2 t (by decide)]; exact hl) (by rw [k4]; exact k3) (Or.inl ⟨by decide, rfl⟩)) (fun q hq => ?_)
  obtain ⟨h1, h2, h3, h5, h6⟩ := hq
  rw [k2] at h2 h3 h5 h6
  rw [k55] at h6
  exact ⟨kp_w (by decide) (kp_t k1 h1), h2, h3, h5, h6⟩
end
section
/-! a SHAPE's text, clause by clause -/
def wB (β : Nat → Int32) (p q k : Nat) : Bool := decide (q = p + tx_n k) && (List.range (tx_n k)).all (fun i => decide (β (p + i) = tx_b k i))
theorem wB_t {β : Nat → Int32} {p q k : Nat} (h : wI β p q k) : wB β p q k = true := by
  unfold wB
  rw [decide_eq_true h.1, Bool.true_and, List.all_eq_true]
  intro i hi
  exact decide_eq_true (h.2 i (List.mem_range.mp hi))
theorem wB_i {β : Nat → Int32} {p q k : Nat} (h : wB β p q k = true) : wI β p q k := by
  unfold wB at h
  rw [Bool.and_eq_true, List.all_eq_true] at h
  exact ⟨of_decide_eq_true h.1, fun i hi => of_decide_eq_true (h.2 i (List.mem_range.mpr hi))⟩
theorem wB_f {β : Nat → Int32} {p q k : Nat} (h : ¬ wI β p q k) : ¬ wB β p q k = true := fun z => h (wB_i z)
/-- the number behind q, from lo to hi, and where it ends; else the fault -/
def nM (β : Nat → Int32) (n q lo hi : Nat) : Nat ⊕ (Nat × Nat) := if de β n (sp β n q) = sp β n q then .inl 1 else if dV β n 501 (sp β n q) 0 < lo ∨ hi < dV β n 501 (sp β n q) 0 then .inl 2 else .inr (de β n (sp β n q), dV β n 501 (sp β n q) 0)
abbrev PS : Type := Nat × Nat × Int32 × Int32 × Int32
/-- the sign behind q -/
def sG (β : Nat → Int32) (n q : Nat) (f : Nat → PS) : Nat ⊕ PS := if sp β n q < n ∧ β (sp β n q) = 59 then .inr (f (sp β n q + 1)) else .inl 1
def nG (β : Nat → Int32) (n q lo hi : Nat) (f : Nat → Nat → PS) : Nat ⊕ PS := match nM β n q lo hi with
  | .inl k => .inl k
  | .inr x => sG β n x.1 (fun p => f p x.2)
def uG (β : Nat → Int32) (n p2 q2 : Nat) (f : Nat → Int32 → PS) : Nat ⊕ PS := if wB β p2 q2 3 = true then sG β n q2 (fun p => f p 1) else if wB β p2 q2 4 = true then sG β n q2 (fun p => f p 0) else .inl 1
def cZ (β : Nat → Int32) (n p1 q m : Nat) (w u e : Int32) : Nat ⊕ PS := if wB β p1 q 0 = true then (if m % 2 = 1 then .inl 4 else nG β n q 2 16 (fun p v => (p, m + 1, Int32.ofNat v, u, e))) else if wB β p1 q 1 = true then (if m / 2 % 2 = 1 then .inl 4 else uG β n (sp β n q) (we β n (sp β n q)) (fun p u' => (p, m + 2, w, u', e))) else if wB β p1 q 2 = true then (if m / 4 % 2 = 1 then .inl 4 else nG β n q 1 5 (fun p v => (p, m + 4, w, u, Int32.ofNat v))) else .inl 1
/-- a state of the class that reads a SHAPE -/
def CS (s t bo n : Nat) (x : PS) (δ : dp) : Prop := (q_I δ 7 3 t).toInt = (x.1 : Int) ∧ (q_I δ 7 2 t).toInt = (n : Int) ∧ q_I δ 7 5 t = 0 ∧ (q_R δ bo 0).toInt = ((x.2.1 % 2 : Nat) : Int) ∧ (q_R δ bo 1).toInt = ((x.2.1 / 2 % 2 : Nat) : Int) ∧ (q_R δ bo 2).toInt = ((x.2.1 / 4 % 2 : Nat) : Int) ∧ x.2.1 < 8 ∧ q_I δ 6 0 s = x.2.2.1 ∧ q_I δ 6 1 s = x.2.2.2.1 ∧ q_I δ 6 2 s = x.2.2.2.2
def CR (s t bo n : Nat) (o : Nat ⊕ PS) (r : dp) : Prop := match o with
  | .inl k => (q_I r 7 5 t).toInt = (k : Int) ∧ k ≠ 0
  | .inr x => CS s t bo n x r
/-- what stays -/
def CF (s t bt bo : Nat) (δ r : dp) : Prop := kp [(6, 0), (6, 1), (6, 2), (7, 3), (7, 4), (7, 5), (7, 6)] δ r ∧ ∀ b, b ≠ bo → q_R r b = q_R δ b
/-- the sign, once the value is read -/
theorem h6_sign {N : Nat} {g : gp} {s t bt bo n : Nat} (hn : n ≤ 500) (ob : q_O g 7 0 t = some bt) {δ : dp} {q m : Nat} {w u e : Int32} (hc : CS s t bo n (q, m, w, u, e) δ) : hs (D_X7_needSign N g t 59 δ) (fun r => kp [(7, 3), (7, 4), (7, 5), (7, 6)] δ r ∧ q_R r = q_R δ ∧ CR s t bo n (sG (q_R δ bt) n q (fun p => (p, m, w, u, e))) r) := by
  obtain ⟨c1, c2, c3, c4, c5, c6, c7, c8, c9, c10⟩ := hc
  dsimp only at c1 c4 c5 c6 c7 c8 c9 c10
  refine hs_mono (hD_needSign hn ob c1 c2) (fun r hr => ?_)
  obtain ⟨h1, h2, h3⟩ := hr
  refine ⟨h1, h2, ?_⟩
  rcases h3 with ⟨a, b, c, d⟩ | ⟨a, b⟩
  · unfold sG
    rw [if_pos ⟨a, b⟩]
    refine ⟨by rw [d]; rfl, by rw [h1 7 2 t (by decide)]; exact c2, c.trans c3, by rw [h2]; exact c4, by rw [h2]; exact c5, by rw [h2]; exact c6, c7, by rw [h1 6 0 s (by decide)]; exact c8, by rw [h1 6 1 s (by decide)]; exact c9, by rw [h1 6 2 s (by decide)]; exact c10⟩
  · unfold sG
    rw [if_neg a]
    refine ⟨?_, by decide⟩
    rw [b, c3, if_pos rfl]; rfl
/-- a fault stays -/
theorem h6_bad {N : Nat} {g : gp} {t bt n q : Nat} (hn : n ≤ 500) (ob : q_O g 7 0 t = some bt) {δ : dp} (h3 : (q_I δ 7 3 t).toInt = (q : Int)) (h2 : (q_I δ 7 2 t).toInt = (n : Int)) (h5 : q_I δ 7 5 t ≠ 0) : hs (D_X7_needSign N g t 59 δ) (fun r => kp [(7, 3), (7, 4), (7, 5), (7, 6)] δ r ∧ q_R r = q_R δ ∧ q_I r 7 5 t = q_I δ 7 5 t) := by
  refine hs_mono (hD_needSign hn ob h3 h2) (fun r hr => ?_)
  obtain ⟨k1, k2, k3⟩ := hr
  refine ⟨k1, k2, ?_⟩
  rcases k3 with ⟨_, _, c, _⟩ | ⟨_, b⟩
  · exact c
  · rw [b, if_neg h5]
set_option maxHeartbeats 4000000 in
theorem h6_num {N : Nat} {g : gp} {s t bt bo n : Nat} (hn : n ≤ 500) (ob : q_O g 7 0 t = some bt) {K lo hi : Nat} (hK : K = 0 ∨ K = 2) (hh : hi < 1000000) {xl xh : Int32} (el : xl.toInt = (lo : Int)) (eh : xh.toInt = (hi : Int)) {δ : dp} {q m : Nat} {w u e : Int32} {f : Nat → Nat → PS} (hf : ∀ p v, f p v = if K = 0 then (p, m, Int32.ofNat v, u, e) else (p, m, w, u, Int32.ofNat v)) (hc : CS s t bo n (q, m, w, u, e) δ) : hs ((D_X7_readNumber N g t xl xh δ).bind fun r_15 => (bd (s_I r_15.2 6 K s r_15.1) fun δ_16 => some δ_16).bind fun r_16 => (D_X7_needSign N g t 59 r_16).bind fun r_17 => some r_17) (fun r => CF s t bt bo δ r ∧ CR s t bo n (nG (q_R δ bt) n q lo hi f) r) := by
  obtain ⟨c1, c2, c3, c4, c5, c6, c7, c8, c9, c10⟩ := hc
  dsimp only at c1 c4 c5 c6 c7 c8 c9 c10
  refine hs_bind (hD_readNumber hn ob (x1 := xl) (x2 := xh) c1 c2) (fun r hr => ?_)
  obtain ⟨h1, h2, h3, h4, h5⟩ := hr
  refine hs_bind (P := fun d => d = s_I r.2 6 K s r.1) (hs_bdv (fun d ed => hs_some ed)) (fun d ed => ?_)
  have kd : kp [(6, 0), (6, 1), (6, 2), (7, 3), (7, 4), (7, 5), (7, 6)] δ d := by
    rcases hK with rfl | rfl <;> exact kp_w (by decide) (kp_I h1 ed)
  have dR : q_R d = q_R δ := by rw [ed]; exact h2
  have d7 : ∀ k, q_I d 7 k t = q_I r.2 7 k t := fun k => by rw [ed, rI_o (fun z => absurd z.1 (by decide))]
  have l2 : (q_I d 7 2 t).toInt = (n : Int) := by rw [kd 7 2 t (by decide)]; exact c2
  have fin : ∀ d2, kp [(7, 3), (7, 4), (7, 5), (7, 6)] d d2 → q_R d2 = q_R d → CF s t bt bo δ d2 := fun d2 a b => ⟨kp_w (by decide) (kp_t kd a), fun c _ => by rw [b, dR]⟩
  rcases h5 with ⟨a, b⟩ | ⟨a, b, c⟩ | ⟨a, b, c, d5⟩
  · have b5 : q_I d 7 5 t = 1 := by rw [d7, b, c3, if_pos rfl]
    refine hs_bind (h6_bad hn ob (by rw [d7]; exact h3) l2 (by rw [b5]; decide)) (fun r2 hr2 => hs_some ⟨fin _ hr2.1 hr2.2.1, ?_⟩)
    unfold nG nM
    rw [if_pos a]
    exact ⟨by rw [hr2.2.2, b5]; rfl, by decide⟩
  · have b5 : q_I d 7 5 t = 2 := by rw [d7, c, c3, if_pos rfl]
    refine hs_bind (h6_bad hn ob (by rw [d7]; exact h3) l2 (by rw [b5]; decide)) (fun r2 hr2 => hs_some ⟨fin _ hr2.1 hr2.2.1, ?_⟩)
    unfold nG nM
    rw [if_neg a, if_pos (by omega)]
    exact ⟨by rw [hr2.2.2, b5]; rfl, by decide⟩
  · have hv : r.1 = Int32.ofNat (dV (q_R δ bt) n 501 (sp (q_R δ bt) n q) 0) := by
      apply i_eq
      rw [n_ti _ (by omega)]
      omega
    have hcs : CS s t bo n (f (de (q_R δ bt) n (sp (q_R δ bt) n q)) (dV (q_R δ bt) n 501 (sp (q_R δ bt) n q) 0)) d := by
      rw [hf]
      have e3 : (q_I d 7 3 t).toInt = (de (q_R δ bt) n (sp (q_R δ bt) n q) : Int) := by rw [d7]; exact h3
      have e5 : q_I d 7 5 t = 0 := by rw [d7, d5, c3]
      rcases hK with rfl | rfl
      · rw [if_pos rfl]
        exact ⟨e3, l2, e5, by rw [dR]; exact c4, by rw [dR]; exact c5, by rw [dR]; exact c6, c7, by rw [ed, rI_s]; exact hv, by rw [ed, rI_o (by decide), h1 6 1 s (by decide)]; exact c9, by rw [ed, rI_o (by decide), h1 6 2 s (by decide)]; exact c10⟩
      · rw [if_neg (by decide)]
        exact ⟨e3, l2, e5, by rw [dR]; exact c4, by rw [dR]; exact c5, by rw [dR]; exact c6, c7, by rw [ed, rI_o (by decide), h1 6 0 s (by decide)]; exact c8, by rw [ed, rI_o (by decide), h1 6 1 s (by decide)]; exact c9, by rw [ed, rI_s]; exact hv⟩
    have hg : nG (q_R δ bt) n q lo hi f = sG (q_R δ bt) n (de (q_R δ bt) n (sp (q_R δ bt) n q)) (fun p => f p (dV (q_R δ bt) n 501 (sp (q_R δ bt) n q) 0)) := by
      unfold nG nM
      rw [if_neg a, if_neg (by omega)]
    rw [hg]
    rw [hf] at hcs
    rcases hK with rfl | rfl
    · rw [if_pos rfl] at hcs
      refine hs_bind (h6_sign hn ob hcs) (fun r2 hr2 => hs_some ⟨fin _ hr2.1 hr2.2.1, ?_⟩)
      have := hr2.2.2
      rw [dR] at this
      rw [show (fun p => f p (dV (q_R δ bt) n 501 (sp (q_R δ bt) n q) 0)) = fun p => (p, m, Int32.ofNat (dV (q_R δ bt) n 501 (sp (q_R δ bt) n q) 0), u, e) from funext (fun p => by rw [hf, if_pos rfl])]
      exact this
    · rw [if_neg (by decide)] at hcs
      refine hs_bind (h6_sign hn ob hcs) (fun r2 hr2 => hs_some ⟨fin _ hr2.1 hr2.2.1, ?_⟩)
      have := hr2.2.2
      rw [dR] at this
      rw [show (fun p => f p (dV (q_R δ bt) n 501 (sp (q_R δ bt) n q) 0)) = fun p => (p, m, w, u, Int32.ofNat (dV (q_R δ bt) n 501 (sp (q_R δ bt) n q) 0)) from funext (fun p => by rw [hf, if_neg (by decide)])]
      exact this
set_option maxHeartbeats 4000000 in
theorem h6_up {N : Nat} {g : gp} {s t bt bo n : Nat} (hn : n ≤ 500) (ob : q_O g 7 0 t = some bt) {δ : dp} {q m : Nat} {w u e : Int32} (hq : q ≤ n) (hc : CS s t bo n (q, m, w, u, e) δ) : hs ((D_X6_readValue N g s t 1 δ).bind fun r_16 => (D_X7_needSign N g t 59 r_16).bind fun r_17 => some r_17) (fun r => CF s t bt bo δ r ∧ CR s t bo n (uG (q_R δ bt) n (sp (q_R δ bt) n q) (we (q_R δ bt) n (sp (q_R δ bt) n q)) (fun p u' => (p, m, w, u', e))) r) := by
  obtain ⟨c1, c2, c3, c4, c5, c6, c7, c8, c9, c10⟩ := hc
  dsimp only at c1 c4 c5 c6 c7 c8 c9 c10
  have l1 : sp (q_R δ bt) n q ≤ n := rE_le 501 q hq
  have l2 : we (q_R δ bt) n (sp (q_R δ bt) n q) ≤ n := rE_le 501 _ l1
  unfold D_X6_readValue J_X6_readValue_71
  refine hs_bind (P := fun d => CF s t bt bo δ d ∧ q_R d = q_R δ ∧ (q_I d 7 3 t).toInt = (we (q_R δ bt) n (sp (q_R δ bt) n q) : Int) ∧ (wB (q_R δ bt) (sp (q_R δ bt) n q) (we (q_R δ bt) n (sp (q_R δ bt) n q)) 3 = true ∧ q_I d 7 5 t = 0 ∧ q_I d 6 1 s = 1 ∨ ¬ wB (q_R δ bt) (sp (q_R δ bt) n q) (we (q_R δ bt) n (sp (q_R δ bt) n q)) 3 = true ∧ wB (q_R δ bt) (sp (q_R δ bt) n q) (we (q_R δ bt) n (sp (q_R δ bt) n q)) 4 = true ∧ q_I d 7 5 t = 0 ∧ q_I d 6 1 s = 0 ∨ ¬ wB (q_R δ bt) (sp (q_R δ bt) n q) (we (q_R δ bt) n (sp (q_R δ bt) n q)) 3 = true ∧ ¬ wB (q_R δ bt) (sp (q_R δ bt) n q) (we (q_R δ bt) n (sp (q_R δ bt) n q)) 4 = true ∧ q_I d 7 5 t = 1) ∧ kp [(6, 1), (7, 3), (7, 4), (7, 5), (7, 6)] δ d) ?_ (fun d hd => ?_)
  · refine hs_ite (fun c => absurd c (by decide)) (fun _ => hs_ite (fun c => absurd c (by decide)) (fun _ => ?_))
    refine hs_bind (hD_readWord hn ob c1 c2) (fun r hr => ?_)
    obtain ⟨k1, k2, k3, k4⟩ := hr
    refine hs_bind (hD_wordIs (k := 3) (by decide) ob (by omega) (by omega) k3 k4) (fun r4 hr4 => ?_)
    obtain ⟨j1, j2⟩ := hr4
    rw [k2] at j2
    rw [j1]
    refine hs_gp (fun _ => hs_bdv (fun d ed => ?_))
    have kd : kp [(6, 1), (7, 3), (7, 4), (7, 5), (7, 6)] δ d := kp_w (by decide) (kp_I k1 ed)
    have dR : q_R d = q_R δ := by rw [ed]; exact k2
    have e61 : q_I d 6 1 s = r4.1 := by rw [ed, rI_s]
    have e75 : q_I d 7 5 t = 0 := by rw [ed, rI_o (by decide), k1 7 5 t (by decide)]; exact c3
    have e73 : (q_I d 7 3 t).toInt = (we (q_R δ bt) n (sp (q_R δ bt) n q) : Int) := by rw [ed, rI_o (by decide)]; exact k4
    have e74 : (q_I d 7 4 t).toInt = (sp (q_R δ bt) n q : Int) := by rw [ed, rI_o (by decide)]; exact k3
    have cf : ∀ d2, kp [(6, 1), (7, 3), (7, 4), (7, 5), (7, 6)] δ d2 → q_R d2 = q_R δ → CF s t bt bo δ d2 := fun d2 a b => ⟨kp_w (by decide) a, fun c _ => by rw [b]⟩
    rw [e61]
    refine hs_ite (fun c => ?_) (fun c => ?_)
    · rcases j2 with ⟨a, b⟩ | ⟨a, b⟩
      · rw [a] at c; exact absurd c (by decide)
      refine hs_bind (hD_wordIs (k := 4) (by decide) ob (by omega) (by omega) e74 e73) (fun r8 hr8 => ?_)
      obtain ⟨i1, i2⟩ := hr8
      rw [dR] at i2
      rw [i1]
      refine hs_ite (fun c2 => ?_) (fun c2 => ?_)
      · rcases i2 with ⟨a2, b2⟩ | ⟨a2, b2⟩
        · rw [a2] at c2; exact absurd c2 (by decide)
        refine hs_bind hD_refuse (fun r10 hr10 => hs_some ?_)
        obtain ⟨g1, g2, g3⟩ := hr10
        have k10 := kp_w (W := [(6, 1), (7, 3), (7, 4), (7, 5), (7, 6)]) (by decide) (kp_t kd g1)
        exact ⟨cf _ k10 (g2.trans dR), g2.trans dR, by rw [g1 7 3 t (by decide)]; exact e73, Or.inr (Or.inr ⟨wB_f b, wB_f b2, by rw [g3, e75, if_pos rfl]⟩), k10⟩
      · rcases i2 with ⟨a2, b2⟩ | ⟨a2, b2⟩
        · exact hs_some ⟨cf _ kd dR, dR, e73, Or.inr (Or.inl ⟨wB_f b, wB_t b2, e75, by rw [e61, a]⟩), kd⟩
        · exact absurd a2 c2
    · rcases j2 with ⟨a, b⟩ | ⟨a, b⟩
      · exact hs_some ⟨cf _ kd dR, dR, e73, Or.inl ⟨wB_t b, e75, by rw [e61, a]⟩, kd⟩
      · exact absurd a c
  · obtain ⟨h1, h2, h3, h4, h5⟩ := hd
    have l7 : (q_I d 7 2 t).toInt = (n : Int) := by rw [h5 7 2 t (by decide)]; exact c2
    have fin : ∀ d2, kp [(7, 3), (7, 4), (7, 5), (7, 6)] d d2 → q_R d2 = q_R d → CF s t bt bo δ d2 := fun d2 a b => ⟨kp_w (by decide) (kp_t h1.1 a), fun c _ => by rw [b, h2]⟩
    have cs : ∀ u', q_I d 7 5 t = 0 → q_I d 6 1 s = u' → CS s t bo n (we (q_R δ bt) n (sp (q_R δ bt) n q), m, w, u', e) d := fun u' a b => ⟨h3, l7, a, by rw [h2]; exact c4, by rw [h2]; exact c5, by rw [h2]; exact c6, c7, by rw [h5 6 0 s (by decide)]; exact c8, b, by rw [h5 6 2 s (by decide)]; exact c10⟩
    unfold uG
    rcases h4 with ⟨a, b, c⟩ | ⟨a, a2, b, c⟩ | ⟨a, a2, b⟩
    · rw [if_pos a]
      refine hs_bind (h6_sign hn ob (cs 1 b c)) (fun r2 hr2 => hs_some ⟨fin _ hr2.1 hr2.2.1, ?_⟩)
      have := hr2.2.2
      rw [h2] at this
      exact this
    · rw [if_neg a, if_pos a2]
      refine hs_bind (h6_sign hn ob (cs 0 b c)) (fun r2 hr2 => hs_some ⟨fin _ hr2.1 hr2.2.1, ?_⟩)
      have := hr2.2.2
      rw [h2] at this
      exact this
    · rw [if_neg a, if_neg a2]
      refine hs_bind (h6_bad hn ob h3 l7 (by rw [b]; decide)) (fun r2 hr2 => hs_some ⟨fin _ hr2.1 hr2.2.1, ?_⟩)
      exact ⟨by rw [hr2.2.2, b]; rfl, by decide⟩
end
section
/-! a SHAPE's text read by the class -/
theorem h6_told {s t bt bo n : Nat} {δ d : dp} {p m : Nat} {w u e : Int32} {c : Nat} (hc : CS s t bo n (p, m, w, u, e) δ) (hp : (q_I δ 7 3 t).toInt = (p : Int)) (c2 : c = 0 ∧ m % 2 = 0 ∨ c = 1 ∧ m / 2 % 2 = 0 ∨ c = 2 ∧ m / 4 % 2 = 0) (ed : d = s_R δ bo c 1) : CS s t bo n (p, m + (if c = 0 then 1 else if c = 1 then 2 else 4), w, u, e) d := by
  obtain ⟨c1, c2', c3, c4, c5, c6, c7, c8, c9, c10⟩ := hc
  dsimp only at c1 c4 c5 c6 c7 c8 c9 c10
  have R : ∀ i, q_R d bo i = if i = c then 1 else q_R δ bo i := by
    intro i
    rw [ed, qR_sR]
    by_cases z : i = c
    · rw [if_pos ⟨rfl, z⟩, if_pos z]
    · rw [if_neg (fun y => z y.2), if_neg z]
  have e1 : (1 : Int32).toInt = 1 := rfl
  have I : q_I d = q_I δ := by rw [ed]; rfl
  refine ⟨by rw [I]; exact c1, by rw [I]; exact c2', by rw [I]; exact c3, ?_, ?_, ?_, ?_, by rw [I]; exact c8, by rw [I]; exact c9, by rw [I]; exact c10⟩
  · rw [R]
    rcases c2 with ⟨rfl, h⟩ | ⟨rfl, h⟩ | ⟨rfl, h⟩
    · simp; omega
    · simp; omega
    · simp; omega
  · rw [R]
    rcases c2 with ⟨rfl, h⟩ | ⟨rfl, h⟩ | ⟨rfl, h⟩
    · simp; omega
    · simp; omega
    · simp; omega
  · rw [R]
    rcases c2 with ⟨rfl, h⟩ | ⟨rfl, h⟩ | ⟨rfl, h⟩
    · simp; omega
    · simp; omega
    · simp; omega
  · rcases c2 with ⟨rfl, h⟩ | ⟨rfl, h⟩ | ⟨rfl, h⟩
    · simp; omega
    · simp; omega
    · simp; omega
set_option maxHeartbeats 4000000 in
theorem h6_clause {N : Nat} {g : gp} {s t bt bo n : Nat} (hn : n ≤ 500) (ob : q_O g 7 0 t = some bt) (oo : q_O g 6 3 s = some bo) (nb : bt ≠ bo) {δ : dp} {p m : Nat} {w u e : Int32} (hp : p ≤ n) (hc : CS s t bo n (p, m, w, u, e) δ) : hs (D_X6_readClause N g s t δ) (fun r => CF s t bt bo δ r ∧ CR s t bo n (cZ (q_R δ bt) n (sp (q_R δ bt) n p) (we (q_R δ bt) n (sp (q_R δ bt) n p)) m w u e) r) := by
  have hc0 := hc
  obtain ⟨c1, c2, c3, c4, c5, c6, c7, c8, c9, c10⟩ := hc
  dsimp only at c1 c4 c5 c6 c7 c8 c9 c10
  have l1 : sp (q_R δ bt) n p ≤ n := rE_le 501 p hp
  have l2 : we (q_R δ bt) n (sp (q_R δ bt) n p) ≤ n := rE_le 501 _ l1
  unfold D_X6_readClause
  refine hs_bind (hD_readWord hn ob c1 c2) (fun d hr => ?_)
  obtain ⟨k1, k2, k3, k4⟩ := hr
  have hcd : CS s t bo n (we (q_R δ bt) n (sp (q_R δ bt) n p), m, w, u, e) d := ⟨k4, by rw [k1 7 2 t (by decide)]; exact c2, by rw [k1 7 5 t (by decide)]; exact c3, by rw [k2]; exact c4, by rw [k2]; exact c5, by rw [k2]; exact c6, c7, by rw [k1 6 0 s (by decide)]; exact c8, by rw [k1 6 1 s (by decide)]; exact c9, by rw [k1 6 2 s (by decide)]; exact c10⟩
  have cfd : CF s t bt bo δ d := ⟨kp_w (by decide) k1, fun b _ => by rw [k2]⟩
  have cft : ∀ r, CF s t bt bo d r → CF s t bt bo δ r := fun r a => ⟨kp_w (by decide) (kp_t cfd.1 a.1), fun b hb => (a.2 b hb).trans (cfd.2 b hb)⟩
  have d5 : q_I d 7 5 t = 0 := hcd.2.2.1
  have bad : ∀ k : Int32, k.toInt = 1 ∨ k.toInt = 4 → hs ((D_X7_refuse N g t k d).bind fun r_19 => J_X6_readClause_94 N g s t r_19) (fun r => CF s t bt bo δ r ∧ (q_I r 7 5 t).toInt = k.toInt) := by
    intro k hk
    refine hs_bind hD_refuse (fun r hr => ?_)
    unfold J_X6_readClause_94
    refine hs_some ⟨cft _ ⟨kp_w (by decide) hr.1, fun b _ => by rw [hr.2.1]⟩, ?_⟩
    rw [hr.2.2, d5, if_pos rfl]
  -- a clause that was told or not
  have go : ∀ (x : Int32) (c : Nat), x.toInt = (c : Int) → c < 3 → (q_R d bo c).toInt = 1 ∧ hs (J_X6_readClause_44 N g s t x d) (fun r => CF s t bt bo δ r ∧ (q_I r 7 5 t).toInt = 4) ∨ (q_R d bo c).toInt = 0 ∧ ∀ Q : dp → Prop, (∀ d', d' = s_R d bo c 1 → hs ((D_X6_readValue N g s t x d').bind fun r_16 => (D_X7_needSign N g t 59 r_16).bind fun r_17 => some r_17) Q) → hs (J_X6_readClause_44 N g s t x d) Q := by
    intro x c hx hc3
    have tx := ti_tn x
    have ix : x.toNatClampNeg = c := by omega
    have z1 : (-1 : Int32).toInt = -1 := rfl
    have z0 : (0 : Int32).toInt = 0 := rfl
    have hv : (q_R d bo c).toInt = 0 ∨ (q_R d bo c).toInt = 1 := by
      obtain ⟨_, _, _, q4, q5, q6, _⟩ := hcd
      dsimp only at q4 q5 q6
      rcases (show c = 0 ∨ c = 1 ∨ c = 2 by omega) with rfl | rfl | rfl <;> omega
    rcases hv with hv | hv
    · refine Or.inr ⟨hv, fun Q hQ => ?_⟩
      unfold J_X6_readClause_44
      refine hs_ite (fun z => by have := o_eq z; omega) (fun _ => ?_)
      refine hs_at oo (hs_gd (fun _ => ?_))
      rw [ix]
      refine hs_ite (fun _ => ?_) (fun z => by have := o_ne z; omega)
      refine hs_at oo (hs_gd (fun _ => ?_))
      refine hs_bdv (fun d' e' => ?_)
      have := hQ d' (by rw [e']; rfl)
      unfold J_X6_readClause_94
      exact this
    · refine Or.inl ⟨hv, ?_⟩
      unfold J_X6_readClause_44
      refine hs_ite (fun z => by have := o_eq z; omega) (fun _ => ?_)
      refine hs_at oo (hs_gd (fun _ => ?_))
      rw [ix]
      refine hs_ite (fun z => by have := o_eq z; omega) (fun _ => ?_)
      exact bad 4 (Or.inr rfl)
  have t0 := hcd.2.2.2.1
  have t1 := hcd.2.2.2.2.1
  have t2 := hcd.2.2.2.2.2.1
  dsimp only at t0 t1 t2
  have dbt : ∀ d' c, d' = s_R d bo c 1 → q_R d' bt = q_R δ bt := fun d' c e' => by rw [e', rR_o nb, k2]
  have cfw : ∀ d' c, d' = s_R d bo c 1 → ∀ r, CF s t bt bo d' r → CF s t bt bo δ r := fun d' c e' r a => cft r ⟨by
      have := a.1
      intro c1 k1 a1 h
      rw [this c1 k1 a1 h, e']; rfl, fun b hb => (a.2 b hb).trans (by rw [e', rR_o hb])⟩
  refine hs_bind (hD_wordIs (k := 0) (by decide) ob (by omega) (by omega) k3 k4) (fun r2 hr2 => ?_)
  obtain ⟨j1, j2⟩ := hr2
  rw [k2] at j2
  rw [j1]
  unfold cZ
  refine hs_ite (fun cc => ?_) (fun cc => ?_)
  · rcases j2 with ⟨a, b⟩ | ⟨_, w0⟩
    · rw [a] at cc; exact absurd cc (by decide)
    rw [if_neg (wB_f w0)]
    refine hs_bind (hD_wordIs (k := 1) (by decide) ob (by omega) (by omega) k3 k4) (fun r4 hr4 => ?_)
    obtain ⟨j3, j4⟩ := hr4
    rw [k2] at j4
    rw [j3]
    refine hs_ite (fun cc => ?_) (fun cc => ?_)
    · rcases j4 with ⟨a, b⟩ | ⟨_, w1⟩
      · rw [a] at cc; exact absurd cc (by decide)
      rw [if_neg (wB_f w1)]
      refine hs_bind (hD_wordIs (k := 2) (by decide) ob (by omega) (by omega) k3 k4) (fun r6 hr6 => ?_)
      obtain ⟨j5, j6⟩ := hr6
      rw [k2] at j6
      rw [j5]
      refine hs_ite (fun cc => ?_) (fun cc => ?_)
      · rcases j6 with ⟨a, b⟩ | ⟨_, w2⟩
        · rw [a] at cc; exact absurd cc (by decide)
        rw [if_neg (wB_f w2)]
        unfold J_X6_readClause_44
        refine hs_ite (fun _ => ?_) (fun z => absurd rfl z)
        exact hs_mono (bad 1 (Or.inl rfl)) (fun r hr => ⟨hr.1, hr.2, by decide⟩)
      · rcases j6 with ⟨_, w2⟩ | ⟨a, b⟩
        · rw [if_pos (wB_t w2)]
          rcases go 2 2 rfl (by decide) with ⟨v, G⟩ | ⟨v, G⟩
          · rw [if_pos (by omega)]
            exact hs_mono G (fun r hr => ⟨hr.1, hr.2, by decide⟩)
          · rw [if_neg (by omega)]
            refine G _ (fun d' e' => ?_)
            have hc' := h6_told (bt := bt) (c := 2) hcd k4 (by omega) e'
            have := h6_num (N := N) (g := g) (bt := bt) hn ob (K := 2) (lo := 1) (hi := 5) (Or.inr rfl) (by decide) (xl := 1) (xh := 5) rfl rfl (f := fun p v => (p, m + 4, w, u, Int32.ofNat v)) (fun p v => rfl) hc'
            rw [dbt d' 2 e'] at this
            unfold D_X6_readValue J_X6_readValue_71
            rw [if_neg (show ¬ (2 : Int32) = 0 by decide), if_pos (show (2 : Int32) = 2 from rfl), Option.bind_assoc]
            exact hs_mono this (fun r hr => ⟨cfw d' 2 e' r hr.1, hr.2⟩)
        · exact absurd a cc
    · rcases j4 with ⟨_, w1⟩ | ⟨a, b⟩
      · rw [if_pos (wB_t w1)]
        rcases go 1 1 rfl (by decide) with ⟨v, G⟩ | ⟨v, G⟩
        · rw [if_pos (by omega)]
          exact hs_mono G (fun r hr => ⟨hr.1, hr.2, by decide⟩)
        · rw [if_neg (by omega)]
          refine G _ (fun d' e' => ?_)
          have hc' := h6_told (bt := bt) (c := 1) hcd k4 (by omega) e'
          have := h6_up (N := N) (bt := bt) hn ob l2 hc'
          rw [dbt d' 1 e'] at this
          exact hs_mono this (fun r hr => ⟨cfw d' 1 e' r hr.1, hr.2⟩)
      · exact absurd a cc
  · rcases j2 with ⟨_, w0⟩ | ⟨a, b⟩
    · rw [if_pos (wB_t w0)]
      rcases go 0 0 rfl (by decide) with ⟨v, G⟩ | ⟨v, G⟩
      · rw [if_pos (by omega)]
        exact hs_mono G (fun r hr => ⟨hr.1, hr.2, by decide⟩)
      · rw [if_neg (by omega)]
        refine G _ (fun d' e' => ?_)
        have hc' := h6_told (bt := bt) (c := 0) hcd k4 (by omega) e'
        have := h6_num (N := N) (g := g) (bt := bt) hn ob (K := 0) (lo := 2) (hi := 16) (Or.inl rfl) (by decide) (xl := 2) (xh := 16) rfl rfl (f := fun p v => (p, m + 1, Int32.ofNat v, u, e)) (fun p v => rfl) hc'
        rw [dbt d' 0 e'] at this
        unfold D_X6_readValue J_X6_readValue_71
        rw [if_pos (show (0 : Int32) = 0 from rfl), Option.bind_assoc]
        exact hs_mono this (fun r hr => ⟨cfw d' 0 e' r hr.1, hr.2⟩)
    · exact absurd a cc
/-- all clauses -/
def rZ (β : Nat → Int32) (n : Nat) : Nat → PS → Nat ⊕ PS
  | 0, x => .inr x
  | k + 1, x => if sp β n x.1 < n then (match cZ β n (sp β n x.1) (we β n (sp β n x.1)) x.2.1 x.2.2.1 x.2.2.2.1 x.2.2.2.2 with | .inl e => .inl e | .inr y => rZ β n k y) else .inr x
theorem sG_p {β : Nat → Int32} {n q : Nat} {f : Nat → PS} (hf : ∀ p, (f p).1 = p) {y : PS} (h : sG β n q f = .inr y) : q < y.1 ∧ y.1 ≤ n := by
  unfold sG at h
  split at h
  · rename_i c
    injection h with h
    rw [← h, hf]
    have : q ≤ sp β n q := rE_ge 501 q
    omega
  · cases h
theorem nG_p {β : Nat → Int32} {n q lo hi : Nat} {f : Nat → Nat → PS} (hf : ∀ p v, (f p v).1 = p) {y : PS} (h : nG β n q lo hi f = .inr y) : q < y.1 ∧ y.1 ≤ n := by
  unfold nG nM at h
  split at h
  · cases h
  · rename_i x hx
    split at hx
    · cases hx
    · split at hx
      · cases hx
      · injection hx with hx
        have := sG_p (fun p => hf p _) h
        rw [← hx] at this
        have a : q ≤ sp β n q := rE_ge 501 q
        have b : sp β n q ≤ de β n (sp β n q) := rE_ge 501 _
        dsimp only at this
        omega
theorem cZ_p {β : Nat → Int32} {n p1 q m : Nat} {w u e : Int32} {y : PS} (h : cZ β n p1 q m w u e = .inr y) : q < y.1 ∧ y.1 ≤ n := by
  unfold cZ at h
  split at h
  · split at h
    · cases h
    · exact nG_p (fun _ _ => rfl) h
  · split at h
    · split at h
      · cases h
      · unfold uG at h
        have a : q ≤ sp β n q := rE_ge 501 q
        have b : sp β n q ≤ we β n (sp β n q) := rE_ge 501 _
        split at h
        · have := sG_p (fun _ => rfl) h; omega
        · split at h
          · have := sG_p (fun _ => rfl) h; omega
          · cases h
    · split at h
      · split at h
        · cases h
        · exact nG_p (fun _ _ => rfl) h
      · cases h
theorem sp_sp {β : Nat → Int32} {n p : Nat} (hn : n ≤ 500) : sp β n (sp β n p) = sp β n p := rE_i (by omega) (rE_out 501 p (by omega))
/-- what the class has read at the end -/
def CE (s t : Nat) (o : Nat ⊕ PS) (r : dp) : Prop := match o with
  | .inl k => (q_I r 7 5 t).toInt = (k : Int) ∧ k ≠ 0
  | .inr x => q_I r 7 5 t = 0 ∧ q_I r 6 0 s = x.2.2.1 ∧ q_I r 6 1 s = x.2.2.2.1 ∧ q_I r 6 2 s = x.2.2.2.2
set_option maxHeartbeats 4000000 in
theorem h6_loop {N : Nat} {g : gp} {s t bt bo n : Nat} (hn : n ≤ 500) (ob : q_O g 7 0 t = some bt) (oo : q_O g 6 3 s = some bo) (nb : bt ≠ bo) {β : Nat → Int32} (hβ : ∀ j, j < n → 0 ≤ (β j).toInt) : ∀ (mf k i : Nat) (xv : Int32) (x : PS) (δ : dp), xv.toInt = (i : Int) → i ≤ x.1 → x.1 ≤ n → n - x.1 < k → q_R δ bt = β → CS s t bo n x δ → hs (L_X6_read_38 N g s t mf xv δ) (fun r => CE s t (rZ β n k x) r) := by
  intro mf
  induction mf with
  | zero => intro k i xv x δ _ _ _ _ _ _; exact hs_none
  | succ mf ih =>
    intro k i xv x δ hx hi hp hk hb hc
    obtain ⟨p, m, w, u, e⟩ := x
    dsimp only at hi hp hk
    have hc0 := hc
    obtain ⟨c1, c2, c3, c4, c5, c6, c7, c8, c9, c10⟩ := hc
    dsimp only at c1 c4 c5 c6 c7 c8 c9 c10
    obtain ⟨k', rfl⟩ : ∃ k', k = k' + 1 := ⟨k - 1, by omega⟩
    have e500 : (500 : Int32).toInt = 500 := rfl
    have gp : p ≤ sp β n p := rE_ge 501 p
    have done : ¬ sp β n p < n → ∀ r, q_I r 7 5 t = 0 → q_I r 6 0 s = w → q_I r 6 1 s = u → q_I r 6 2 s = e → CE s t (rZ β n (k' + 1) (p, m, w, u, e)) r := by
      intro z r a1 a2 a3 a4
      unfold rZ
      rw [if_neg z]
      exact ⟨a1, a2, a3, a4⟩
    unfold L_X6_read_38 J_X6_read_71
    refine hs_ite (fun c => ?_) (fun c => ?_)
    · have c' := o_le c
      exact hs_some (done (by omega) _ c3 c8 c9 c10)
    · have c' := o_nle c
      refine hs_bind (P := fun r => r.2 = δ ∧ r.1 = 1) ?_ (fun r hr => ?_)
      · unfold D_X7_isSound J_X7_isSound_12
        refine hs_ite (fun _ => hs_gp (fun _ => hs_some ⟨rfl, rfl⟩)) (fun z => absurd c3 z)
      · obtain ⟨r1, r2⟩ := hr
        rw [r1, r2]
        refine hs_ite (fun z => absurd z (by decide)) (fun _ => ?_)
        unfold D_X7_ahead
        refine hs_bind (h7_ahead hn ob N p δ c1 c2) (fun d hd => ?_)
        obtain ⟨k1, k2, k3, k4, k5⟩ := hd
        rw [hb] at k3 k5
        have d6 : ∀ q, q_I d.2 6 q s = q_I δ 6 q s := fun q => k1 6 q s (by simp)
        refine hs_ite (fun z => ?_) (fun z => ?_)
        · refine hs_some (done (fun y => ?_) _ (by rw [k1 7 5 t (by decide)]; exact c3) (by rw [d6]; exact c8) (by rw [d6]; exact c9) (by rw [d6]; exact c10))
          rw [k5, if_pos y] at z
          have z1 := o_eq z
          have z2 := hβ _ y
          have z3 : (-1 : Int32).toInt = -1 := rfl
          omega
        · have y : sp β n p < n := by
            by_cases y : sp β n p < n
            · exact y
            · rw [k5, if_neg y] at z
              exact absurd rfl z
          have hcd : CS s t bo n (sp β n p, m, w, u, e) d.2 := ⟨k3, by rw [k1 7 2 t (by decide)]; exact c2, by rw [k1 7 5 t (by decide)]; exact c3, by rw [k2]; exact c4, by rw [k2]; exact c5, by rw [k2]; exact c6, c7, by rw [d6]; exact c8, by rw [d6]; exact c9, by rw [d6]; exact c10⟩
          refine hs_bind (h6_clause hn ob oo nb (by omega) hcd) (fun r3 hr3 => ?_)
          obtain ⟨f1, f2⟩ := hr3
          rw [k2, hb, sp_sp hn] at f2
          refine hs_biv (fun y2 ey => ?_)
          have y1 := te_addc (c := 1) (n := 1) rfl xv (by omega) (by omega)
          rw [← ey] at y1
          have gw : sp β n p ≤ we β n (sp β n p) := rE_ge 501 _
          cases hz : cZ β n (sp β n p) (we β n (sp β n p)) m w u e with
          | inl q =>
            rw [hz] at f2
            obtain ⟨f3, f4⟩ := f2
            have er : rZ β n (k' + 1) (p, m, w, u, e) = .inl q := by
              unfold rZ
              rw [if_pos y]
              dsimp only
              rw [hz]
            rw [er]
            -- the loop ends at once
            cases mf with
            | zero => exact hs_none
            | succ mf =>
              unfold L_X6_read_38 J_X6_read_71
              refine hs_ite (fun _ => hs_some ⟨f3, f4⟩) (fun _ => ?_)
              refine hs_bind (P := fun r => r.2 = r3 ∧ r.1 = 0) ?_ (fun r4 hr4 => ?_)
              · unfold D_X7_isSound J_X7_isSound_12
                refine hs_ite (fun z => ?_) (fun _ => hs_gp (fun _ => hs_some ⟨rfl, rfl⟩))
                have z1 := o_eq z
                have z3 : (0 : Int32).toInt = 0 := rfl
                exfalso; omega
              · refine hs_ite (fun _ => hs_some ?_) (fun z => absurd hr4.2 z)
                rw [hr4.1]
                exact ⟨f3, f4⟩
          | inr x' =>
            rw [hz] at f2
            have gp' := cZ_p hz
            have er : rZ β n (k' + 1) (p, m, w, u, e) = rZ β n k' x' := by
              show (if sp β n p < n then _ else _) = _
              rw [if_pos y]
              dsimp only
              rw [hz]
            rw [er]
            exact ih k' (i + 1) y2 x' r3 (by omega) (by omega) gp'.2 (by omega) ((f1.2 bt nb).trans (by rw [k2, hb])) f2
set_option maxHeartbeats 4000000 in
theorem h6_zero {N : Nat} {g : gp} {s t bt bo n : Nat} (hn : n ≤ 500) (ob : q_O g 7 0 t = some bt) (oo : q_O g 6 3 s = some bo) (nb : bt ≠ bo) {β : Nat → Int32} (hβ : ∀ j, j < n → 0 ≤ (β j).toInt) : ∀ (mf i : Nat) (xv : Int32) (δ : dp), xv.toInt = (i : Int) → i ≤ 3 → (∀ j, j < i → (q_R δ bo j).toInt = 0) → q_R δ bt = β → (q_I δ 7 3 t).toInt = 0 → (q_I δ 7 2 t).toInt = (n : Int) → q_I δ 7 5 t = 0 → q_I δ 6 0 s = 8 → q_I δ 6 1 s = 1 → q_I δ 6 2 s = 1 → hs (L_X6_read_18 N g s t mf xv δ) (fun r => CE s t (rZ β n 501 (0, 0, 8, 1, 1)) r) := by
  intro mf
  induction mf with
  | zero => intro i xv δ _ _ _ _ _ _ _ _ _ _; exact hs_none
  | succ mf ih =>
    intro i xv δ hx hi hj hb c1 c2 c3 c8 c9 c10
    have e3 : (3 : Int32).toInt = 3 := rfl
    unfold L_X6_read_18
    refine hs_ite (fun c => ?_) (fun c => ?_)
    · have c' := o_le c
      exact h6_loop hn ob oo nb hβ N 501 0 0 (0, 0, 8, 1, 1) δ rfl (Nat.zero_le _) (Nat.zero_le _) (by dsimp only; omega) hb ⟨c1, c2, c3, by rw [hj 0 (by omega)]; rfl, by rw [hj 1 (by omega)]; rfl, by rw [hj 2 (by omega)]; rfl, by decide, c8, c9, c10⟩
    · have c' := o_nle c
      refine hs_at oo (hs_gd (fun _ => hs_bdv (fun d e => hs_biv (fun y ey => ?_))))
      have y1 := te_addc (c := 1) (n := 1) rfl xv (by omega) (by omega)
      rw [← ey] at y1
      have tx := ti_tn xv
      have I : q_I d = q_I δ := by rw [e]; rfl
      refine ih (i + 1) y d (by omega) (by omega) (fun j h => ?_) (by rw [e, rR_o nb]; exact hb) (by rw [I]; exact c1) (by rw [I]; exact c2) (by rw [I]; exact c3) (by rw [I]; exact c8) (by rw [I]; exact c9) (by rw [I]; exact c10)
      rw [e, qR_sR]
      by_cases z : j = xv.toNatClampNeg
      · rw [if_pos ⟨rfl, z⟩]; rfl
      · rw [if_neg (fun q => z q.2)]
        exact hj j (by omega)
/-- a SHAPE's text read by the class, as a function of its bytes -/
theorem hD_read6 {N : Nat} {g : gp} {s t bt bo n : Nat} (hn : n ≤ 500) (ob : q_O g 7 0 t = some bt) (oo : q_O g 6 3 s = some bo) (nb : bt ≠ bo) {δ : dp} (hβ : ∀ j, j < n → 0 ≤ (q_R δ bt j).toInt) (c1 : (q_I δ 7 3 t).toInt = 0) (c2 : (q_I δ 7 2 t).toInt = (n : Int)) (c3 : q_I δ 7 5 t = 0) : hs (D_X6_read N g s t δ) (fun r => CE s t (rZ (q_R δ bt) n 501 (0, 0, 8, 1, 1)) r) := by
  unfold D_X6_read
  refine hs_bdv (fun d1 e1 => hs_bdv (fun d2 e2 => hs_bdv (fun d3 e3 => ?_)))
  have R : q_R d3 = q_R δ := by rw [e3, e2, e1]; rfl
  have I : ∀ k, q_I d3 7 k t = q_I δ 7 k t := fun k => by rw [e3, rI_o (fun z => absurd z.1 (by decide)), e2, rI_o (fun z => absurd z.1 (by decide)), e1, rI_o (fun z => absurd z.1 (by decide))]
  exact h6_zero hn ob oo nb hβ N 0 0 d3 rfl (by omega) (fun j h => by omega) (by rw [R]) (by rw [I]; exact c1) (by rw [I]; exact c2) (by rw [I]; exact c3) (by rw [e3, rI_o (by decide), e2, rI_o (by decide), e1, rI_s]) (by rw [e3, rI_o (by decide), e2, rI_s]) (by rw [e3, rI_s])
end
section
/-! the reference reads the same text -/
/-- five bits a letter -/
def pv (β : Nat → Int32) (p : Nat) : Nat → Nat
  | 0 => 0
  | l + 1 => 32 * pv β p l + ((β (p + l)).toInt - 96).toNat
theorem pv_lt {β : Nat → Int32} {p : Nat} : ∀ l, (∀ i, i < l → iW (β (p + i)) = true) → pv β p l < 32 ^ l := by
  intro l
  induction l with
  | zero => intro _; show 0 < 32 ^ 0; decide
  | succ l ih =>
    intro h
    have h1 := ih (fun i hi => h i (by omega))
    have h2 := of_decide_eq_true (show decide _ = true from h l (by omega))
    show 32 * pv β p l + ((β (p + l)).toInt - 96).toNat < 32 ^ (l + 1)
    rw [Nat.pow_succ]
    omega
theorem pv_0 {β : Nat → Int32} {p : Nat} {l : Nat} (h : iW (β (p + l)) = true) : 1 ≤ pv β p (l + 1) := by
  have h2 := of_decide_eq_true (show decide _ = true from h)
  show 1 ≤ 32 * pv β p l + ((β (p + l)).toInt - 96).toNat
  omega
theorem pv_inj {β γ : Nat → Int32} {p r : Nat} : ∀ l l', (∀ i, i < l → iW (β (p + i)) = true) → (∀ i, i < l' → iW (γ (r + i)) = true) → pv β p l = pv γ r l' → l = l' ∧ ∀ i, i < l → β (p + i) = γ (r + i) := by
  intro l
  induction l with
  | zero =>
    intro l' _ h2 e
    cases l' with
    | zero => exact ⟨rfl, fun i hi => by omega⟩
    | succ l' =>
      have := pv_0 (h2 l' (by omega))
      rw [← e] at this
      exact absurd (show 1 ≤ 0 from this) (by decide)
  | succ l ih =>
    intro l' h1 h2 e
    cases l' with
    | zero =>
      have := pv_0 (h1 l (by omega))
      rw [e] at this
      exact absurd (show 1 ≤ 0 from this) (by decide)
    | succ l' =>
      have a := of_decide_eq_true (show decide _ = true from h1 l (by omega))
      have b := of_decide_eq_true (show decide _ = true from h2 l' (by omega))
      have e' : 32 * pv β p l + ((β (p + l)).toInt - 96).toNat = 32 * pv γ r l' + ((γ (r + l')).toInt - 96).toNat := e
      obtain ⟨h3, h4⟩ := ih l' (fun i hi => h1 i (by omega)) (fun i hi => h2 i (by omega)) (by omega)
      subst h3
      refine ⟨rfl, fun i hi => ?_⟩
      by_cases c : i = l
      · rw [c]; apply i_eq; omega
      · exact h4 i (by omega)
theorem shl5 {a b : Int32} {x y : Nat} (ha : a.toInt = (x : Int)) (hx : x < 33554432) (hb : b.toInt = (y : Int)) (hy : y < 32) : ((a <<< ((5 : Int32) &&& 31)) ||| b).toInt = (32 * x + y : Nat) := by
  have ua : un a = x := by have := un_i (a := a) (by omega); omega
  have ub : un b = y := by have := un_i (a := b) (by omega); omega
  have us : un (a <<< ((5 : Int32) &&& 31)) = 32 * x := by
    unfold un
    show (a.toBitVec <<< (((5 : Int32) &&& 31).toBitVec.smod 32)).toNat = _
    rw [show (((5 : Int32) &&& 31).toBitVec.smod 32) = 5#32 by decide]
    rw [BitVec.shiftLeft_eq', BitVec.toNat_shiftLeft]
    have : a.toBitVec.toNat = x := ua
    rw [this, show (5#32).toNat = 5 by decide, Nat.shiftLeft_eq, Nat.mod_eq_of_lt (by omega)]
    omega
  have uo : un ((a <<< ((5 : Int32) &&& 31)) ||| b) = 32 * x + y := by
    rw [un_or, us, ub]
    have := Nat.two_pow_add_eq_or_of_lt (i := 5) (b := y) (by omega) x
    rw [show 32 * x = 2 ^ 5 * x by omega]
    exact this.symm
  have := un_o (a := (a <<< ((5 : Int32) &&& 31)) ||| b) (by omega)
  omega
theorem tx_w : ∀ (k : Fin 16) (i : Fin 6), i.val < tx_n k.val → iW (tx_b k.val i.val) = true := by decide +kernel
theorem of_v : ∀ k : Fin 16, (ofg k.val 0 (tx_n k.val) 0).toInt = (pv (fun i => tx_b k.val i) 0 (tx_n k.val) : Int) := by decide +kernel
theorem r_here {N : Nat} {g : gp} {t bt n : Nat} (hn : n ≤ 500) (ob : q_O g 12 9 t = some bt) : ∀ (m : Nat) (p : Nat) (δ : dp), (q_I δ 12 4 t).toInt = (p : Int) → (q_I δ 12 3 t).toInt = (n : Int) → hs (L_X12_here_0 N g t m δ) (fun r => kp [(12, 4)] δ r.2 ∧ q_R r.2 = q_R δ ∧ (q_I r.2 12 4 t).toInt = (sp (q_R δ bt) n p : Int) ∧ r.1 = if sp (q_R δ bt) n p < n then q_R δ bt (sp (q_R δ bt) n p) else 0) := by
  intro m
  induction m with
  | zero => intro p δ _ _; exact hs_none
  | succ m ih =>
    intro p δ hp hl
    have j38 : sp (q_R δ bt) n p = p → hs (J_X12_here_38 N g t δ) (fun r => kp [(12, 4)] δ r.2 ∧ q_R r.2 = q_R δ ∧ (q_I r.2 12 4 t).toInt = (sp (q_R δ bt) n p : Int) ∧ r.1 = if sp (q_R δ bt) n p < n then q_R δ bt (sp (q_R δ bt) n p) else 0) := by
      intro es
      unfold J_X12_here_38 J_X12_here_62
      refine hs_ite (fun c => hs_some ?_) (fun c => ?_)
      · have c1 := o_le c
        exact ⟨fun _ _ _ _ => rfl, rfl, by rw [es]; exact hp, by rw [es, if_neg (by omega)]⟩
      · have c1 := o_nle c
        refine hs_at ob (hs_gd (fun gd => hs_some ?_))
        have tn := ti_tn (q_I δ 12 4 t)
        refine ⟨fun _ _ _ _ => rfl, rfl, by rw [es]; exact hp, ?_⟩
        rw [es, if_pos (by omega), show (q_I δ 12 4 t).toNatClampNeg = p by omega]
    unfold L_X12_here_0
    refine hs_ite (fun c => ?_) (fun c => ?_)
    · have c1 := o_le c
      exact j38 (rE_i (by omega) (fun z => by omega))
    · have c1 := o_nle c
      refine hs_at ob (hs_gd (fun gd => ?_))
      have tn := ti_tn (q_I δ 12 4 t)
      have ix : (q_I δ 12 4 t).toNatClampNeg = p := by omega
      rw [ix]
      refine hs_ite (fun c2 => ?_) (fun c2 => ?_)
      · refine hs_bdv (fun d e => ?_)
        have a1 := te_addc (c := 1) (n := 1) rfl (q_I δ 12 4 t) (by omega) (by omega)
        have dR : q_R d = q_R δ := by rw [e]; rfl
        refine hs_mono (ih (p + 1) d (by rw [e, rI_s]; omega) (by rw [e, rI_o (by decide)]; exact hl)) (fun r hr => ?_)
        obtain ⟨h1, h2, h3, h5⟩ := hr
        rw [dR] at h2 h3 h5
        have es : sp (q_R δ bt) n p = sp (q_R δ bt) n (p + 1) := rE_s (by omega) ⟨by omega, by unfold iS; exact decide_eq_true c2⟩
        rw [es]
        exact ⟨kp_w (by decide) (kp_t (kp_I kp_r e) h1), h2, h3, h5⟩
      · exact j38 (rE_i (by omega) (fun z => c2 (by have := z.2; unfold iS at this; exact of_decide_eq_true this)))
theorem r_small {N : Nat} {g : gp} {x : Int32} {δ : dp} : hs (D_X12_isSmall N g x δ) (fun r => r.2 = δ ∧ (r.1 = 1 ∧ iW x = true ∨ r.1 = 0 ∧ ¬ iW x = true)) := by
  have e97 : (97 : Int32).toInt = 97 := rfl
  have e122 : (122 : Int32).toInt = 122 := rfl
  have no : ¬ (97 ≤ x.toInt ∧ x.toInt ≤ 122) → ¬ iW x = true := fun h z => h (of_decide_eq_true (show decide _ = true from z))
  unfold D_X12_isSmall J_X12_isSmall_16 J_X12_isSmall_17
  refine hs_ite (fun c => hs_gp (fun _ => hs_some ⟨rfl, Or.inr ⟨rfl, no ?_⟩⟩)) (fun c => hs_ite (fun c2 => hs_gp (fun _ => hs_some ⟨rfl, Or.inr ⟨rfl, no ?_⟩⟩)) (fun c2 => hs_gp (fun _ => hs_some ⟨rfl, Or.inl ⟨rfl, ?_⟩⟩)))
  · have := o_lt c; omega
  · have := o_lt c2; omega
  · have a := o_nlt c
    have b := o_nlt c2
    unfold iW
    exact decide_eq_true (by omega)
theorem r_digit {N : Nat} {g : gp} {x : Int32} {δ : dp} : hs (D_X12_isDigit N g x δ) (fun r => r.2 = δ ∧ (r.1 = 1 ∧ iD x = true ∨ r.1 = 0 ∧ ¬ iD x = true)) := by
  have e97 : (48 : Int32).toInt = 48 := rfl
  have e122 : (57 : Int32).toInt = 57 := rfl
  have no : ¬ (48 ≤ x.toInt ∧ x.toInt ≤ 57) → ¬ iD x = true := fun h z => h (of_decide_eq_true (show decide _ = true from z))
  unfold D_X12_isDigit J_X12_isDigit_16 J_X12_isDigit_17
  refine hs_ite (fun c => hs_gp (fun _ => hs_some ⟨rfl, Or.inr ⟨rfl, no ?_⟩⟩)) (fun c => hs_ite (fun c2 => hs_gp (fun _ => hs_some ⟨rfl, Or.inr ⟨rfl, no ?_⟩⟩)) (fun c2 => hs_gp (fun _ => hs_some ⟨rfl, Or.inl ⟨rfl, ?_⟩⟩)))
  · have := o_lt c; omega
  · have := o_lt c2; omega
  · have a := o_nlt c
    have b := o_nlt c2
    unfold iD
    exact decide_eq_true (by omega)
theorem rl_word {N : Nat} {g : gp} {t bt n p : Nat} (hn : n ≤ 500) (ob : q_O g 12 9 t = some bt) : ∀ (m l : Nat) (x1 x2 x3 : Int32) (δ : dp), (q_I δ 12 3 t).toInt = (n : Int) → x2.toInt = (l : Int) → x3.toInt = ((p + l : Nat) : Int) → p + l ≤ 500 → (∀ i, i < l → p + i < n ∧ iW (q_R δ bt (p + i)) = true) → (l ≤ 6 → x1.toInt = (pv (q_R δ bt) p l : Int)) → hs (L_X12_word_14 N g t m x1 x2 x3 δ) (fun r => r.2 = δ ∧ ∃ l', we (q_R δ bt) n p = p + l' ∧ (∀ i, i < l' → iW (q_R δ bt (p + i)) = true) ∧ (l' ≤ 6 ∧ r.1.toInt = (pv (q_R δ bt) p l' : Int) ∨ 6 < l' ∧ r.1.toInt = 0)) := by
  intro m
  induction m with
  | zero => intro l x1 x2 x3 δ _ _ _ _ _ _; exact hs_none
  | succ m ih =>
    intro l x1 x2 x3 δ hl h2 h3 h5 hw hv
    have e6 : (6 : Int32).toInt = 6 := rfl
    have z0 : (0 : Int32).toInt = 0 := rfl
    have out : ¬ (p + l < n ∧ iW (q_R δ bt (p + l)) = true) → hs (J_X12_word_67 N g t x1 x2 δ) (fun r => r.2 = δ ∧ ∃ l', we (q_R δ bt) n p = p + l' ∧ (∀ i, i < l' → iW (q_R δ bt (p + i)) = true) ∧ (l' ≤ 6 ∧ r.1.toInt = (pv (q_R δ bt) p l' : Int) ∨ 6 < l' ∧ r.1.toInt = 0)) := by
      intro hno
      have es : we (q_R δ bt) n p = p + l := by
        refine rE_u (by omega) (by omega) (fun i a b => ?_) hno
        have := hw (i - p) (by omega)
        rw [show p + (i - p) = i by omega] at this
        exact this
      unfold J_X12_word_67 J_X12_word_78
      refine hs_ite (fun c => ?_) (fun c => ?_)
      · have c1 := o_le c
        exact hs_some ⟨rfl, l, es, fun i hi => (hw i hi).2, Or.inl ⟨by omega, hv (by omega)⟩⟩
      · have c1 := o_nle c
        exact hs_some ⟨rfl, l, es, fun i hi => (hw i hi).2, Or.inr ⟨by omega, rfl⟩⟩
    unfold L_X12_word_14
    refine hs_ite (fun c => ?_) (fun c => ?_)
    · have c1 := o_le c
      exact out (fun z => by omega)
    · have c1 := o_nle c
      refine hs_at ob (hs_gd (fun gd => ?_))
      have tn := ti_tn x3
      have ix : x3.toNatClampNeg = p + l := by omega
      rw [ix]
      refine hs_bind r_small (fun r hr => ?_)
      obtain ⟨r1, r2⟩ := hr
      rw [r1]
      refine hs_ite (fun c2 => ?_) (fun c2 => ?_)
      · rcases r2 with ⟨a, b⟩ | ⟨a, b⟩
        · rw [a] at c2; exact absurd c2 (by decide)
        · exact out (fun z => b z.2)
      · rcases r2 with ⟨a, b⟩ | ⟨a, b⟩
        · have y2 := te_addc (c := 1) (n := 1) rfl x2 (by omega) (by omega)
          have y3 := te_addc (c := 1) (n := 1) rfl x3 (by omega) (by omega)
          have hw' : ∀ i, i < l + 1 → p + i < n ∧ iW (q_R δ bt (p + i)) = true := fun i hi => by
            by_cases z : i = l
            · rw [z]; exact ⟨by omega, b⟩
            · exact hw i (by omega)
          refine hs_ite (fun c3 => ?_) (fun c3 => ?_)
          · have c4 := o_le c3
            unfold J_X12_word_57
            refine hs_biv (fun y ey => hs_biv (fun z ez => ?_))
            exact ih (l + 1) 0 y z δ hl (by rw [ey]; omega) (by rw [ez]; omega) (by omega) hw' (fun q => by omega)
          · have c4 := o_nle c3
            refine hs_at ob (hs_gd (fun gd2 => ?_))
            unfold J_X12_word_57
            refine hs_biv (fun y ey => hs_biv (fun z ez => ?_))
            refine ih (l + 1) _ y z δ hl (by rw [ey]; omega) (by rw [ez]; omega) (by omega) hw' (fun q => ?_)
            have bw := of_decide_eq_true (show decide _ = true from b)
            have s1 := te_subc (c := 96) (n := 96) rfl (q_R δ bt (p + l)) (by omega) (by omega)
            have hpk := pv_lt (β := q_R δ bt) (p := p) l (fun i hi => (hw i hi).2)
            have hp5 : 32 ^ l ≤ 32 ^ 5 := Nat.pow_le_pow_right (by decide) (by omega)
            have hp6 : (32 : Nat) ^ 5 = 33554432 := by decide
            exact shl5 (x := pv (q_R δ bt) p l) (y := ((q_R δ bt (p + l)).toInt - 96).toNat) (hv (by omega)) (by omega) (by omega) (by omega)
        · exact absurd a c2
/-- a word of the reference, held against a text -/
theorem rD_word {N : Nat} {g : gp} {t bt n p : Nat} (hn : n ≤ 500) (hp : p ≤ n) (ob : q_O g 12 9 t = some bt) {δ : dp} (h4 : (q_I δ 12 4 t).toInt = (p : Int)) (hl : (q_I δ 12 3 t).toInt = (n : Int)) : hs (D_X12_word N g t δ) (fun r => kp [(12, 4)] δ r.2 ∧ q_R r.2 = q_R δ ∧ (q_I r.2 12 4 t).toInt = (sp (q_R δ bt) n p : Int) ∧ ∀ k, k < 16 → (r.1 = ofg k 0 (tx_n k) 0 ∧ wI (q_R δ bt) (sp (q_R δ bt) n p) (we (q_R δ bt) n (sp (q_R δ bt) n p)) k ∨ ¬ r.1 = ofg k 0 (tx_n k) 0 ∧ ¬ wI (q_R δ bt) (sp (q_R δ bt) n p) (we (q_R δ bt) n (sp (q_R δ bt) n p)) k)) := by
  unfold D_X12_word D_X12_here
  refine hs_bind (r_here hn ob N p δ h4 hl) (fun r hr => ?_)
  obtain ⟨k1, k2, k3, _⟩ := hr
  have l1 : sp (q_R δ bt) n p ≤ n := rE_le 501 p hp
  refine hs_biv (fun y ey => ?_)
  refine hs_mono (rl_word (p := sp (q_R δ bt) n p) hn ob N 0 0 0 y r.2 (by rw [k1 12 3 t (by decide)]; exact hl) rfl (by rw [ey, k3]; rfl) (by omega) (fun i hi => by omega) (fun _ => rfl)) (fun q hq => ?_)
  obtain ⟨q1, l, q2, q3, q4⟩ := hq
  rw [k2] at q2 q3 q4
  rw [q1]
  refine ⟨k1, k2, k3, fun k hk => ?_⟩
  have hb := tx_le hk
  have hof := of_v ⟨k, hk⟩
  dsimp only at hof
  have hw : ∀ i, i < tx_n k → iW (tx_b k (0 + i)) = true := fun i hi => by
    rw [Nat.zero_add]
    exact tx_w ⟨k, hk⟩ ⟨i, by omega⟩ hi
  by_cases c : wI (q_R δ bt) (sp (q_R δ bt) n p) (we (q_R δ bt) n (sp (q_R δ bt) n p)) k
  · refine Or.inl ⟨?_, c⟩
    obtain ⟨c1, c2⟩ := c
    have el : l = tx_n k := by omega
    subst el
    apply i_eq
    rcases q4 with ⟨q5, q6⟩ | ⟨q5, q6⟩
    · rw [q6, hof]
      have E : ∀ j, j ≤ tx_n k → pv (q_R δ bt) (sp (q_R δ bt) n p) j = pv (fun i => tx_b k i) 0 j := by
        intro j
        induction j with
        | zero => intro _; rfl
        | succ j ih =>
          intro hj
          show 32 * pv _ _ j + _ = 32 * pv _ _ j + _
          rw [ih (by omega), c2 j (by omega), Nat.zero_add]
      rw [E _ (Nat.le_refl _)]
    · omega
  · refine Or.inr ⟨fun e => c ?_, c⟩
    have e' := o_eq e
    rw [hof] at e'
    rcases q4 with ⟨q5, q6⟩ | ⟨q5, q6⟩
    · rw [q6] at e'
      obtain ⟨i1, i2⟩ := pv_inj (β := q_R δ bt) (γ := fun i => tx_b k i) (p := sp (q_R δ bt) n p) (r := 0) l (tx_n k) q3 hw (by omega)
      refine ⟨by omega, fun i hi => ?_⟩
      rw [i2 i (by omega), Nat.zero_add]
    · exfalso
      rw [q6] at e'
      obtain ⟨j, hj⟩ : ∃ j, tx_n k = j + 1 := ⟨tx_n k - 1, by omega⟩
      have := pv_0 (β := fun i => tx_b k i) (p := 0) (l := j) (hw j (by omega))
      rw [← hj] at this
      omega
end
section
/-! the reference reads the same text: numbers, signs, clauses -/
theorem r_fine {N : Nat} {g : gp} {t : Nat} {δ : dp} : hs (D_X12_fine N g t δ) (fun r => r.2 = δ ∧ (r.1 = 1 ∧ q_I δ 12 5 t = -1 ∨ r.1 = 0 ∧ q_I δ 12 5 t ≠ -1)) := by
  unfold D_X12_fine J_X12_fine_13
  exact hs_ite (fun c => hs_gp (fun _ => hs_some ⟨rfl, Or.inl ⟨rfl, c⟩⟩)) (fun c => hs_gp (fun _ => hs_some ⟨rfl, Or.inr ⟨rfl, c⟩⟩))
theorem r_fine1 {N : Nat} {g : gp} {t : Nat} {δ : dp} (h : q_I δ 12 5 t = -1) {β : Type} {f : Int32 × dp → Option β} {a b : Option β} {Q : β → Prop} (hf : ∀ r, f r = if r.1 = 0 then a else b) (k : hs (f (1, δ)) Q) : hs ((D_X12_fine N g t δ).bind f) Q := by
  refine hs_bind r_fine (fun r hr => ?_)
  rcases hr.2 with ⟨c, _⟩ | ⟨_, c⟩
  · rw [show r = (1, δ) from Prod.ext c hr.1]; exact k
  · exact absurd h c
/-- a fault at place p -/
theorem r_wrong {N : Nat} {g : gp} {t : Nat} {k x : Int32} {δ : dp} (h : q_I δ 12 5 t = -1) : hs (D_X12_wrong N g t k x δ) (fun r => kp [(12, 5), (12, 6)] δ r ∧ q_R r = q_R δ ∧ q_I r 12 5 t = x ∧ q_I r 12 6 t = k) := by
  unfold D_X12_wrong
  refine hs_ite (fun _ => ?_) (fun c => absurd h c)
  refine hs_bdv (fun d e => hs_bdv (fun d2 e2 => hs_some ⟨kp_w (by decide) (kp_I (kp_I kp_r e) e2), by rw [e2, e]; rfl, by rw [e2, rI_o (by decide), e, rI_s], by rw [e2, rI_s]⟩))
theorem rl_pass {N : Nat} {g : gp} {t bt n : Nat} (hn : n ≤ 500) (ob : q_O g 12 9 t = some bt) : ∀ (m : Nat) (p : Nat) (δ : dp), (q_I δ 12 4 t).toInt = (p : Int) → (q_I δ 12 3 t).toInt = (n : Int) → hs (L_X12_pass_0 N g t m δ) (fun r => kp [(12, 4)] δ r ∧ q_R r = q_R δ ∧ (q_I r 12 4 t).toInt = (we (q_R δ bt) n p : Int)) := by
  intro m
  induction m with
  | zero => intro p δ _ _; exact hs_none
  | succ m ih =>
    intro p δ hp hl
    have out : ¬ (p < n ∧ iW (q_R δ bt p) = true) → hs (J_X12_pass_39 N g t δ) (fun r => kp [(12, 4)] δ r ∧ q_R r = q_R δ ∧ (q_I r 12 4 t).toInt = (we (q_R δ bt) n p : Int)) := by
      intro hno
      unfold J_X12_pass_39
      exact hs_some ⟨fun _ _ _ _ => rfl, rfl, by rw [show we (q_R δ bt) n p = p from rE_i (by omega) hno]; exact hp⟩
    unfold L_X12_pass_0
    refine hs_ite (fun c => ?_) (fun c => ?_)
    · have c1 := o_le c
      exact out (fun z => by omega)
    · have c1 := o_nle c
      refine hs_at ob (hs_gd (fun gd => ?_))
      have tn := ti_tn (q_I δ 12 4 t)
      have ix : (q_I δ 12 4 t).toNatClampNeg = p := by omega
      rw [ix]
      refine hs_bind r_small (fun r hr => ?_)
      obtain ⟨r1, r2⟩ := hr
      rw [r1]
      refine hs_ite (fun c2 => ?_) (fun c2 => ?_)
      · rcases r2 with ⟨a, b⟩ | ⟨a, b⟩
        · rw [a] at c2; exact absurd c2 (by decide)
        · exact out (fun z => b z.2)
      · rcases r2 with ⟨a, b⟩ | ⟨a, b⟩
        · refine hs_bdv (fun d e => ?_)
          have a1 := te_addc (c := 1) (n := 1) rfl (q_I δ 12 4 t) (by omega) (by omega)
          have dR : q_R d = q_R δ := by rw [e]; rfl
          refine hs_mono (ih (p + 1) d (by rw [e, rI_s]; omega) (by rw [e, rI_o (by decide)]; exact hl)) (fun r hr => ?_)
          obtain ⟨h1, h2, h3⟩ := hr
          rw [dR] at h2 h3
          rw [show we (q_R δ bt) n p = we (q_R δ bt) n (p + 1) from rE_s (by omega) ⟨by omega, b⟩]
          exact ⟨kp_w (by decide) (kp_t (kp_I kp_r e) h1), h2, h3⟩
        · exact absurd a c2
/-- the reference's end of a number -/
def RN (t : Nat) (δ : dp) (r : Int32 × dp) (β : Nat → Int32) (n p v : Nat) (x1 x2 : Int32) : Prop := kp [(12, 4), (12, 5), (12, 6)] δ r.2 ∧ q_R r.2 = q_R δ ∧ ((v < x1.toInt ∨ x2.toInt < v) ∧ 0 ≤ (q_I r.2 12 5 t).toInt ∧ q_I r.2 12 6 t = 2 ∨ x1.toInt ≤ v ∧ v ≤ x2.toInt ∧ q_I r.2 12 5 t = -1 ∧ (q_I r.2 12 4 t).toInt = (de β n p : Int) ∧ r.1 = Int32.ofNat v)
theorem rl_num {N : Nat} {g : gp} {t bt n : Nat} (hn : n ≤ 500) (ob : q_O g 12 9 t = some bt) {x1 x2 : Int32} (h1 : 0 ≤ x1.toInt) (h2 : x2.toInt ≤ 99999) : ∀ (m p v : Nat) (x4 x5 : Int32) (δ : dp), (q_I δ 12 4 t).toInt = (p : Int) → (q_I δ 12 3 t).toInt = (n : Int) → q_I δ 12 5 t = -1 → 0 ≤ x4.toInt → (v ≤ 99999 ∧ x5.toInt = (v : Int) ∨ 99999 < v ∧ 99999 < x5.toInt) → hs (L_X12_readNumber_41 N g t x1 x2 m x4 x5 δ) (fun r => RN t δ r (q_R δ bt) n p (dV (q_R δ bt) n 501 p v) x1 x2) := by
  intro m
  induction m with
  | zero => intro p v x4 x5 δ _ _ _ _ _; exact hs_none
  | succ m ih =>
    intro p v x4 x5 δ hp hl hf h4 hv
    have eM : (99999 : Int32).toInt = 99999 := rfl
    have out : ¬ (p < n ∧ iD (q_R δ bt p) = true) → hs (J_X12_readNumber_112 N g t x1 x2 x4 x5 δ) (fun r => RN t δ r (q_R δ bt) n p (dV (q_R δ bt) n 501 p v) x1 x2) := by
      intro hno
      have bad : (((v : Int) < x1.toInt) ∨ x2.toInt < (v : Int)) → hs (J_X12_readNumber_124 N g t x1 x2 x4 δ) (fun r => RN t δ r (q_R δ bt) n p (dV (q_R δ bt) n 501 p v) x1 x2) := by
        intro hb
        unfold J_X12_readNumber_124
        refine hs_bind (r_wrong hf) (fun r hr => hs_some ?_)
        rw [dV_i hno]
        exact ⟨kp_w (by decide) hr.1, hr.2.1, Or.inl ⟨hb, by rw [hr.2.2.1]; exact h4, hr.2.2.2⟩⟩
      unfold J_X12_readNumber_112
      refine hs_ite (fun c => bad ?_) (fun c => hs_ite (fun c2 => hs_some ?_) (fun c2 => bad ?_))
      · have := o_lt c; omega
      · have a := o_nlt c
        have b := o_le c2
        rw [dV_i hno]
        refine ⟨fun _ _ _ _ => rfl, rfl, Or.inr ⟨by omega, by omega, hf, by rw [show de (q_R δ bt) n p = p from rE_i (by omega) hno]; exact hp, ?_⟩⟩
        apply i_eq
        rw [n_ti _ (by omega)]
        show x5.toInt = _
        omega
      · have a := o_nlt c
        have b := o_nle c2
        omega
    unfold L_X12_readNumber_41
    refine hs_ite (fun c => ?_) (fun c => ?_)
    · have c1 := o_le c
      exact out (fun z => by omega)
    · have c1 := o_nle c
      refine hs_at ob (hs_gd (fun gd => ?_))
      have tn := ti_tn (q_I δ 12 4 t)
      have ix : (q_I δ 12 4 t).toNatClampNeg = p := by omega
      rw [ix]
      refine hs_bind r_digit (fun r hr => ?_)
      obtain ⟨r1, r2⟩ := hr
      rw [r1]
      refine hs_ite (fun c2 => ?_) (fun c2 => ?_)
      · rcases r2 with ⟨a, b⟩ | ⟨a, b⟩
        · rw [a] at c2; exact absurd c2 (by decide)
        · exact out (fun z => b z.2)
      · rcases r2 with ⟨a, b⟩ | ⟨a, b⟩
        · have bd' := of_decide_eq_true (show decide _ = true from b)
          have ev := dV_s (β := q_R δ bt) (n := n) 501 p v (by omega) ⟨by omega, b⟩
          have es : de (q_R δ bt) n p = de (q_R δ bt) n (p + 1) := rE_s (by omega) ⟨by omega, b⟩
          have nxt : ∀ x5' : Int32, (10 * v + ((q_R δ bt p).toInt - 48).toNat ≤ 99999 ∧ x5'.toInt = ((10 * v + ((q_R δ bt p).toInt - 48).toNat : Nat) : Int) ∨ 99999 < 10 * v + ((q_R δ bt p).toInt - 48).toNat ∧ 99999 < x5'.toInt) → hs (J_X12_readNumber_97 N g t x1 x2 (L_X12_readNumber_41 N g t x1 x2 m) x5' x4 δ) (fun r => RN t δ r (q_R δ bt) n p (dV (q_R δ bt) n 501 p v) x1 x2) := by
            intro x5' h5
            unfold J_X12_readNumber_97
            refine hs_bdv (fun d e => ?_)
            have a1 := te_addc (c := 1) (n := 1) rfl (q_I δ 12 4 t) (by omega) (by omega)
            have dR : q_R d = q_R δ := by rw [e]; rfl
            refine hs_mono (ih (p + 1) _ x4 x5' d (by rw [e, rI_s]; omega) (by rw [e, rI_o (by decide)]; exact hl) (by rw [e, rI_o (by decide)]; exact hf) h4 h5) (fun q hq => ?_)
            obtain ⟨q1, q2, q3⟩ := hq
            rw [dR] at q2 q3
            rw [← ev, ← es] at q3
            exact ⟨kp_w (by decide) (kp_t (kp_I kp_r e) q1), q2, q3⟩
          refine hs_ite (fun c3 => ?_) (fun c3 => ?_)
          · have c4 := o_le c3
            refine hs_at ob (hs_gd (fun gd2 => ?_))
            rw [ix]
            have m1 := te_mulc (c := 10) (n := 10) rfl x5 (by omega) (by omega)
            have m2 := te_add ((10 : Int32) * x5) (q_R δ bt p) (by omega) (by omega)
            have m3 := te_subc (c := 48) (n := 48) rfl ((10 : Int32) * x5 + q_R δ bt p) (by omega) (by omega)
            exact nxt _ (by omega)
          · have c4 := o_nle c3
            have eH : (100000 : Int32).toInt = 100000 := rfl
            exact nxt _ (by omega)
        · exact absurd a c2
theorem rD_num {N : Nat} {g : gp} {t bt n q lo hi : Nat} (hn : n ≤ 500) (hh : hi ≤ 99999) (ob : q_O g 12 9 t = some bt) {x1 x2 : Int32} (e1 : x1.toInt = (lo : Int)) (e2 : x2.toInt = (hi : Int)) {δ : dp} (h4 : (q_I δ 12 4 t).toInt = (q : Int)) (hl : (q_I δ 12 3 t).toInt = (n : Int)) (hf : q_I δ 12 5 t = -1) : hs (D_X12_readNumber N g t x1 x2 δ) (fun r => kp [(12, 4), (12, 5), (12, 6)] δ r.2 ∧ q_R r.2 = q_R δ ∧ match nM (q_R δ bt) n q lo hi with | .inl k => 0 ≤ (q_I r.2 12 5 t).toInt ∧ (q_I r.2 12 6 t).toInt = (k : Int) | .inr x => q_I r.2 12 5 t = -1 ∧ (q_I r.2 12 4 t).toInt = (x.1 : Int) ∧ r.1 = Int32.ofNat x.2) := by
  unfold D_X12_readNumber D_X12_here
  refine hs_bind r_fine (fun r hr => ?_)
  obtain ⟨f1, f2⟩ := hr
  rw [f1]
  refine hs_ite (fun c => ?_) (fun c => ?_)
  · rcases f2 with ⟨a, _⟩ | ⟨_, b⟩
    · rw [a] at c; exact absurd c (by decide)
    · exact absurd hf b
  · refine hs_bind (r_here hn ob N q δ h4 hl) (fun r3 hr3 => ?_)
    obtain ⟨k1, k2, k3, k5⟩ := hr3
    refine hs_biv (fun y ey => hs_bind r_digit (fun r6 hr6 => ?_))
    obtain ⟨d1, d2⟩ := hr6
    rw [d1]
    have f5 : q_I r3.2 12 5 t = -1 := by rw [k1 12 5 t (by decide)]; exact hf
    have l3 : (q_I r3.2 12 3 t).toInt = (n : Int) := by rw [k1 12 3 t (by decide)]; exact hl
    have nd : iD 0 = false := by decide
    refine hs_ite (fun c2 => ?_) (fun c2 => ?_)
    · rcases d2 with ⟨a, _⟩ | ⟨_, b⟩
      · rw [a] at c2; exact absurd c2 (by decide)
      refine hs_bind (r_wrong f5) (fun r21 h21 => hs_some ?_)
      refine ⟨kp_w (by decide) (kp_t k1 h21.1), h21.2.1.trans k2, ?_⟩
      have es : de (q_R δ bt) n (sp (q_R δ bt) n q) = sp (q_R δ bt) n q := rE_i (by omega) (fun z => b (by rw [k5, if_pos z.1]; exact z.2))
      unfold nM
      rw [if_pos es]
      refine ⟨?_, by rw [h21.2.2.2]; rfl⟩
      rw [h21.2.2.1, k3]
      omega
    · rcases d2 with ⟨_, b⟩ | ⟨a, _⟩
      · have hs1 : sp (q_R δ bt) n q < n ∧ iD (q_R δ bt (sp (q_R δ bt) n q)) = true := by
          by_cases z : sp (q_R δ bt) n q < n
          · rw [k5, if_pos z] at b; exact ⟨z, b⟩
          · rw [k5, if_neg z, nd] at b; exact absurd b (by decide)
        have es : de (q_R δ bt) n (sp (q_R δ bt) n q) = de (q_R δ bt) n (sp (q_R δ bt) n q + 1) := rE_s (by omega) hs1
        have eg : sp (q_R δ bt) n q + 1 ≤ de (q_R δ bt) n (sp (q_R δ bt) n q + 1) := rE_ge 501 _
        refine hs_mono (rl_num hn ob (x1 := x1) (x2 := x2) (by omega) (by omega) N (sp (q_R δ bt) n q) 0 y 0 r3.2 k3 l3 f5 (by rw [ey, k3]; omega) (Or.inl ⟨by decide, rfl⟩)) (fun r7 h7 => ?_)
        obtain ⟨g1, g2, g3⟩ := h7
        rw [k2] at g2 g3
        refine ⟨kp_w (by decide) (kp_t k1 g1), g2, ?_⟩
        unfold nM
        rw [if_neg (by omega)]
        rcases g3 with ⟨a, b, c⟩ | ⟨a, b, c, d, e⟩
        · rw [if_pos (by omega)]
          exact ⟨b, by rw [c]; rfl⟩
        · rw [if_neg (by omega)]
          exact ⟨c, d, e⟩
      · exact absurd a c2
/-- the sign, where all is fine -/
theorem rD_sign {N : Nat} {g : gp} {t bt n q : Nat} (hn : n ≤ 500) (ob : q_O g 12 9 t = some bt) {δ : dp} (h4 : (q_I δ 12 4 t).toInt = (q : Int)) (hl : (q_I δ 12 3 t).toInt = (n : Int)) (hf : q_I δ 12 5 t = -1) : hs (D_X12_sign N g t 59 δ) (fun r => kp [(12, 4), (12, 5), (12, 6)] δ r ∧ q_R r = q_R δ ∧ (sp (q_R δ bt) n q < n ∧ q_R δ bt (sp (q_R δ bt) n q) = 59 ∧ q_I r 12 5 t = -1 ∧ (q_I r 12 4 t).toInt = (sp (q_R δ bt) n q : Int) + 1 ∨ ¬ (sp (q_R δ bt) n q < n ∧ q_R δ bt (sp (q_R δ bt) n q) = 59) ∧ 0 ≤ (q_I r 12 5 t).toInt ∧ (q_I r 12 6 t).toInt = 1)) := by
  have zm : (-1 : Int32).toInt = -1 := rfl
  unfold D_X12_sign D_X12_here
  refine hs_bind r_fine (fun r hr => ?_)
  obtain ⟨f1, f2⟩ := hr
  rw [f1]
  refine hs_ite (fun c => ?_) (fun c => ?_)
  · rcases f2 with ⟨a, _⟩ | ⟨_, b⟩
    · rw [a] at c; exact absurd c (by decide)
    · exact absurd hf b
  · refine hs_bind (r_here hn ob N q δ h4 hl) (fun r3 hr3 => ?_)
    obtain ⟨k1, k2, k3, k5⟩ := hr3
    have f5 : q_I r3.2 12 5 t = -1 := by rw [k1 12 5 t (by decide)]; exact hf
    refine hs_ite (fun c2 => ?_) (fun c2 => ?_)
    · unfold J_X12_sign_24 J_X12_sign_41
      refine hs_bind r_fine (fun r4 hr4 => ?_)
      obtain ⟨g1, g2⟩ := hr4
      rw [g1]
      refine hs_ite (fun c => ?_) (fun c => ?_)
      · rcases g2 with ⟨a, _⟩ | ⟨_, b⟩
        · rw [a] at c; exact absurd c (by decide)
        · exact absurd f5 b
      · rw [k5] at c2
        have y : sp (q_R δ bt) n q < n := by
          by_cases y : sp (q_R δ bt) n q < n
          · exact y
          · rw [if_neg y] at c2; exact absurd c2 (by decide)
        rw [if_pos y] at c2
        refine hs_bdv (fun d e => hs_some ⟨kp_w (by decide) (kp_I k1 e), by rw [e]; exact k2, Or.inl ⟨y, c2, by rw [e, rI_o (by decide)]; exact f5, ?_⟩⟩)
        have a1 := te_addc (c := 1) (n := 1) rfl (q_I r3.2 12 4 t) (by omega) (by omega)
        rw [e, rI_s]; omega
    · refine hs_bind (r_wrong f5) (fun r9 h9 => ?_)
      obtain ⟨w1, w2, w3, w4⟩ := h9
      unfold J_X12_sign_24 J_X12_sign_41
      have w5 : 0 ≤ (q_I r9 12 5 t).toInt := by rw [w3, k3]; omega
      refine hs_bind r_fine (fun r4 hr4 => ?_)
      obtain ⟨g1, g2⟩ := hr4
      rw [g1]
      refine hs_ite (fun c => ?_) (fun c => ?_)
      · refine hs_some ⟨kp_w (by decide) (kp_t k1 w1), w2.trans k2, Or.inr ⟨fun z => c2 (by rw [k5, if_pos z.1]; exact z.2), w5, by rw [w4]; rfl⟩⟩
      · rcases g2 with ⟨_, b⟩ | ⟨a, _⟩
        · have := o_eq b; omega
        · exact absurd a c
end
section
/-! a SHAPE's text read by the reference -/
theorem e_of' {N : Nat} (hN : 10000000 ≤ N) {g : gp} {i : Nat} {δ : dp} (z0 : i < 16) : D_X12_of N g i δ = some (ofg i 0 (tx_n i) 0, δ) := by
  have hb := tx_le z0
  unfold D_X12_of
  exact fl_of z0 (tx_n i) 0 N 0 (by omega) (by omega)
/-- how the reading ends, seen from a state of the loop -/
def RF (t : Nat) (δ : dp) (o : Nat ⊕ PS) (r : Int32 × dp) : Prop := match o with
  | .inl k => r.1.toInt = (k : Int) - 10 ∧ q_I r.2 12 10 t = q_I δ 12 10 t ∧ q_I r.2 12 11 t = q_I δ 12 11 t ∧ q_I r.2 12 12 t = q_I δ 12 12 t ∧ q_I r.2 12 18 t = q_I δ 12 18 t
  | .inr x => r.1 = x.2.2.1 ∧ q_I r.2 12 10 t = x.2.2.1 ∧ q_I r.2 12 11 t = x.2.2.2.2 ∧ q_I r.2 12 12 t = x.2.2.2.1 ∧ q_I r.2 12 18 t = 0
theorem RF.k {t : Nat} {δ d : dp} {o : Nat ⊕ PS} {r : Int32 × dp} (h : RF t d o r) {W : List (Nat × Nat)} (k : kp W δ d) (h0 : (12, 10) ∉ W) (h1 : (12, 11) ∉ W) (h2 : (12, 12) ∉ W) (h8 : (12, 18) ∉ W) : RF t δ o r := by
  cases o with
  | inl q =>
    obtain ⟨a, b, c, d, e⟩ := h
    exact ⟨a, b.trans (k 12 10 t h0), c.trans (k 12 11 t h1), d.trans (k 12 12 t h2), e.trans (k 12 18 t h8)⟩
  | inr x => exact h
theorem r_result {N : Nat} {g : gp} {t : Nat} {x1 : Int32} {δ : dp} : hs (D_X12_result N g t x1 δ) (fun r => kp [(12, 8)] δ r.2 ∧ (q_I δ 12 5 t = -1 ∧ r.1 = x1 ∨ q_I δ 12 5 t ≠ -1 ∧ r.1 = q_I δ 12 6 t - 10)) := by
  unfold D_X12_result J_X12_result_26
  refine hs_bdv (fun d e => ?_)
  have d5 : q_I d 12 5 t = q_I δ 12 5 t := by rw [e, rI_o (by decide)]
  have d6 : q_I d 12 6 t = q_I δ 12 6 t := by rw [e, rI_o (by decide)]
  have kd : kp [(12, 8)] δ d := kp_w (by decide) (kp_I kp_r e)
  refine hs_bind r_fine (fun r hr => ?_)
  obtain ⟨f1, f2⟩ := hr
  rw [f1]
  refine hs_ite (fun c => hs_some ⟨kd, ?_⟩) (fun c => hs_some ⟨kd, ?_⟩)
  · rcases f2 with ⟨a, _⟩ | ⟨_, b⟩
    · rw [a] at c; exact absurd c (by decide)
    · exact Or.inr ⟨by rw [← d5]; exact b, by rw [d6]⟩
  · rcases f2 with ⟨_, b⟩ | ⟨a, _⟩
    · exact Or.inl ⟨by rw [← d5]; exact b, rfl⟩
    · exact absurd a c
theorem rl_299 {N : Nat} {g : gp} {t : Nat} {x1 : Int32} : ∀ (m : Nat) (x : Int32) (δ : dp), q_I δ 12 5 t = -1 → hs (L_X12_shape_299 N g t x1 m x δ) (fun r => r.1 = q_I δ 12 10 t ∧ q_I r.2 12 10 t = q_I δ 12 10 t ∧ q_I r.2 12 11 t = q_I δ 12 11 t ∧ q_I r.2 12 12 t = q_I δ 12 12 t ∧ q_I r.2 12 18 t = 0) := by
  intro m
  induction m with
  | zero => intro x δ _; exact hs_none
  | succ m ih =>
    intro x δ hf
    unfold L_X12_shape_299
    refine hs_ite (fun c => ?_) (fun c => ?_)
    · refine hs_bdv (fun d e => hs_bind r_result (fun r hr => hs_some ?_))
      obtain ⟨k, h⟩ := hr
      have dk : kp [(12, 18)] δ d := kp_w (by decide) (kp_I kp_r e)
      have d5 : q_I d 12 5 t = -1 := by rw [dk 12 5 t (by decide)]; exact hf
      have d0 := dk 12 10 t (by decide)
      refine ⟨?_, by rw [k 12 10 t (by decide), d0], by rw [k 12 11 t (by decide), dk 12 11 t (by decide)], by rw [k 12 12 t (by decide), dk 12 12 t (by decide)], by rw [k 12 18 t (by decide), e, rI_s]⟩
      rcases h with ⟨_, b⟩ | ⟨a, _⟩
      · exact b.trans d0
      · exact absurd d5 a
    · refine hs_bind (P := fun _ => True) (fun _ _ => trivial) (fun b1 _ => hs_gd (fun _ => hs_bdv (fun d e => hs_bind (P := fun _ => True) (fun _ _ => trivial) (fun b2 _ => hs_gd (fun _ => hs_bdv (fun d2 e2 => hs_biv (fun y ey => ?_)))))))
      have I : q_I d2 = q_I δ := by rw [e2, e]; rfl
      have := ih y d2 (by rw [I]; exact hf)
      rw [I] at this
      exact this
/-- the end, where all was fine, and where not -/
theorem r_267g {N : Nat} {g : gp} {t : Nat} {x1 w e u : Int32} {δ : dp} {p m : Nat} (hf : q_I δ 12 5 t = -1) : hs (J_X12_shape_267 N g t x1 w e u δ) (fun r => RF t δ (.inr (p, m, w, u, e)) r) := by
  unfold J_X12_shape_267
  refine hs_bind r_fine (fun r hr => ?_)
  obtain ⟨f1, f2⟩ := hr
  rw [f1]
  refine hs_ite (fun c => ?_) (fun c => ?_)
  · rcases f2 with ⟨a, _⟩ | ⟨_, b⟩
    · rw [a] at c; exact absurd c (by decide)
    · exact absurd hf b
  · refine hs_bdv (fun d1 e1 => hs_bdv (fun d2 e2 => hs_gp (fun _ => hs_bdv (fun d3 e3 => ?_))))
    have f5 : q_I d3 12 5 t = -1 := by rw [e3, rI_o (by decide), e2, rI_o (by decide), e1, rI_o (by decide)]; exact hf
    refine hs_mono (rl_299 N 0 d3 f5) (fun q hq => ?_)
    have h10 : q_I d3 12 10 t = w := by rw [e3, rI_o (by decide), e2, rI_o (by decide), e1, rI_s]
    have h11 : q_I d3 12 11 t = e := by rw [e3, rI_o (by decide), e2, rI_s]
    have h12 : q_I d3 12 12 t = u := by rw [e3, rI_s]
    rw [h10, h11, h12] at hq
    exact hq
theorem r_267b {N : Nat} {g : gp} {t : Nat} {x1 w e u : Int32} {δ : dp} {k : Nat} (hk : k ≤ 4) (hf : 0 ≤ (q_I δ 12 5 t).toInt) (h6 : (q_I δ 12 6 t).toInt = (k : Int)) : hs (J_X12_shape_267 N g t x1 w e u δ) (fun r => RF t δ (.inl k) r) := by
  have zm : (-1 : Int32).toInt = -1 := rfl
  have nf : q_I δ 12 5 t ≠ -1 := fun z => by have := o_eq z; omega
  unfold J_X12_shape_267
  refine hs_bind r_fine (fun r hr => ?_)
  obtain ⟨f1, f2⟩ := hr
  rw [f1]
  refine hs_ite (fun c => ?_) (fun c => ?_)
  · refine hs_bind r_result (fun q hq => hs_some ?_)
    obtain ⟨kk, h⟩ := hq
    refine ⟨?_, kk 12 10 t (by decide), kk 12 11 t (by decide), kk 12 12 t (by decide), kk 12 18 t (by decide)⟩
    rcases h with ⟨a, _⟩ | ⟨_, b⟩
    · exact absurd a nf
    · have s1 := te_subc (c := 10) (n := 10) rfl (q_I δ 12 6 t) (by omega) (by omega)
      show q.1.toInt = _
      rw [b]; omega
  · rcases f2 with ⟨_, b⟩ | ⟨a, _⟩
    · exact absurd b nf
    · exact absurd a c
theorem rl_bad {N : Nat} {g : gp} {t : Nat} {x1 : Int32} {k : Nat} (hk : k ≤ 4) : ∀ (m : Nat) (w e u s : Int32) (δ : dp), 0 ≤ (q_I δ 12 5 t).toInt → (q_I δ 12 6 t).toInt = (k : Int) → hs (L_X12_shape_49 N g t x1 m w e u s δ) (fun r => RF t δ (.inl k) r) := by
  intro m w e u s δ hf h6
  have zm : (-1 : Int32).toInt = -1 := rfl
  cases m with
  | zero => exact hs_none
  | succ m =>
    unfold L_X12_shape_49
    refine hs_bind r_fine (fun r hr => ?_)
    obtain ⟨f1, f2⟩ := hr
    rw [f1]
    refine hs_ite (fun _ => r_267b hk hf h6) (fun c => ?_)
    rcases f2 with ⟨_, b⟩ | ⟨a, _⟩
    · have := o_eq b; omega
    · exact absurd a c
theorem r_signb {N : Nat} {g : gp} {t : Nat} {x1 : Int32} {δ : dp} (hf : 0 ≤ (q_I δ 12 5 t).toInt) : hs (D_X12_sign N g t x1 δ) (fun r => r = δ) := by
  have zm : (-1 : Int32).toInt = -1 := rfl
  have nf : q_I δ 12 5 t ≠ -1 := fun z => by have := o_eq z; omega
  unfold D_X12_sign J_X12_sign_24 J_X12_sign_41
  refine hs_bind r_fine (fun r hr => ?_)
  obtain ⟨f1, f2⟩ := hr
  rw [f1]
  refine hs_ite (fun _ => ?_) (fun c => ?_)
  · refine hs_bind r_fine (fun r hr => ?_)
    obtain ⟨f1, f2⟩ := hr
    rw [f1]
    refine hs_ite (fun _ => hs_some rfl) (fun c => ?_)
    rcases f2 with ⟨_, b⟩ | ⟨a, _⟩
    · exact absurd b nf
    · exact absurd a c
  · rcases f2 with ⟨_, b⟩ | ⟨a, _⟩
    · exact absurd b nf
    · exact absurd a c
/-- seen clauses, as bits -/
theorem seen_n : ∀ m : Fin 8, ((Int32.ofNat m.val &&& 1 = 0) ↔ m.val % 2 = 0) ∧ ((Int32.ofNat m.val &&& 2 = 0) ↔ m.val / 2 % 2 = 0) ∧ ((Int32.ofNat m.val &&& 4 = 0) ↔ m.val / 4 % 2 = 0) ∧ (m.val % 2 = 0 → (Int32.ofNat m.val ||| 1) = Int32.ofNat (m.val + 1)) ∧ (m.val / 2 % 2 = 0 → (Int32.ofNat m.val ||| 2) = Int32.ofNat (m.val + 2)) ∧ (m.val / 4 % 2 = 0 → (Int32.ofNat m.val ||| 4) = Int32.ofNat (m.val + 4)) := by decide +kernel
/-- a state of the reference that reads a SHAPE -/
def RS (t n p : Nat) (δ : dp) : Prop := (q_I δ 12 4 t).toInt = (p : Int) ∧ (q_I δ 12 3 t).toInt = (n : Int) ∧ q_I δ 12 5 t = -1
theorem RS.k {t n p q : Nat} {δ d : dp} (h : RS t n p δ) (k : kp [(12, 4)] δ d) (e : (q_I d 12 4 t).toInt = (q : Int)) : RS t n q d := ⟨e, by rw [k 12 3 t (by decide)]; exact h.2.1, by rw [k 12 5 t (by decide)]; exact h.2.2⟩
/-- the sign behind a value, and the loop behind it -/
theorem r_258 {N : Nat} {g : gp} {t bt n : Nat} (hn : n ≤ 500) (ob : q_O g 12 9 t = some bt) {x1 w e u s : Int32} {kt : Int32 → Int32 → Int32 → Int32 → dp → Option (Int32 × dp)} {β : Nat → Int32} {δ d : dp} {q k' : Nat} {f : Nat → PS} (W : kp [(12, 4), (12, 5), (12, 6)] δ d) (hβ : q_R d bt = β) (h : RS t n q d)
    (hb : ∀ d2, 0 ≤ (q_I d2 12 5 t).toInt → (q_I d2 12 6 t).toInt = 1 → hs (kt w e u s d2) (fun r => RF t d2 (.inl 1) r))
    (hg : ∀ d2, q_R d2 bt = β → RS t n (sp β n q + 1) d2 → sp β n q < n → hs (kt w e u s d2) (fun r => RF t d2 (rZ β n k' (f (sp β n q + 1))) r)) :
    hs (J_X12_shape_258 N g t x1 kt w e u s d) (fun r => RF t δ (match sG β n q f with | .inl e => .inl e | .inr y => rZ β n k' y) r) := by
  unfold J_X12_shape_258
  refine hs_bind (rD_sign hn ob h.1 h.2.1 h.2.2) (fun r hr => ?_)
  obtain ⟨a, b, c⟩ := hr
  rw [hβ] at c
  have W2 : kp [(12, 4), (12, 5), (12, 6)] δ r := kp_w (by decide) (kp_t W a)
  rcases c with ⟨c1, c2, c3, c4⟩ | ⟨c1, c2, c3⟩
  · refine hs_mono (hg r (by rw [b]; exact hβ) ⟨by rw [c4]; rfl, by rw [a 12 3 t (by decide)]; exact h.2.1, c3⟩ c1) (fun y hy => ?_)
    unfold sG
    rw [if_pos ⟨c1, c2⟩]
    exact hy.k W2 (by decide) (by decide) (by decide) (by decide)
  · refine hs_mono (hb r c2 c3) (fun y hy => ?_)
    unfold sG
    rw [if_neg c1]
    exact hy.k W2 (by decide) (by decide) (by decide) (by decide)
end
section
/-! the reference's loop over the clauses -/
set_option maxHeartbeats 4000000 in
theorem rl_49 {N : Nat} (hN : 10000000 ≤ N) {g : gp} {t bt n : Nat} (hn : n ≤ 500) (ob : q_O g 12 9 t = some bt) {x1 : Int32} {β : Nat → Int32} : ∀ (mf k p m : Nat) (w e u : Int32) (δ : dp), p ≤ n → m < 8 → n - p < k → q_R δ bt = β → RS t n p δ → hs (L_X12_shape_49 N g t x1 mf w e u (Int32.ofNat m) δ) (fun r => RF t δ (rZ β n k (p, m, w, u, e)) r) := by
  intro mf
  induction mf with
  | zero => intro k p m w e u δ _ _ _ _ _; exact hs_none
  | succ mf ih =>
    intro k p m w e u δ hp hm hk hβ h
    obtain ⟨k', rfl⟩ : ∃ k', k = k' + 1 := ⟨k - 1, by omega⟩
    obtain ⟨b1, b2, b4, o1, o2, o4⟩ := seen_n ⟨m, hm⟩
    dsimp only at b1 b2 b4 o1 o2 o4
    have gp : p ≤ sp β n p := rE_ge 501 p
    have l1 : sp β n p ≤ n := rE_le 501 p hp
    have gw : sp β n p ≤ we β n (sp β n p) := rE_ge 501 _
    have l2 : we β n (sp β n p) ≤ n := rE_le 501 _ l1
    unfold L_X12_shape_49
    refine hs_bind r_fine (fun r hr => ?_)
    obtain ⟨f1, f2⟩ := hr
    rw [f1]
    refine hs_ite (fun c => ?_) (fun _ => ?_)
    · rcases f2 with ⟨a, _⟩ | ⟨_, b⟩
      · rw [a] at c; exact absurd c (by decide)
      · exact absurd h.2.2 b
    clear f1 f2
    -- isMore
    refine hs_bind (P := fun r => kp [(12, 4)] δ r.2 ∧ q_R r.2 = q_R δ ∧ (q_I r.2 12 4 t).toInt = (sp β n p : Int) ∧ (r.1 = 1 ∧ sp β n p < n ∨ r.1 = 0 ∧ ¬ sp β n p < n)) ?_ (fun r hr => ?_)
    · unfold D_X12_isMore D_X12_here J_X12_isMore_21
      refine hs_bind (r_here hn ob N p δ h.1 h.2.1) (fun q hq => ?_)
      obtain ⟨q1, q2, q3, _⟩ := hq
      rw [hβ] at q3
      have q5 : (q_I q.2 12 3 t).toInt = (n : Int) := by rw [q1 12 3 t (by decide)]; exact h.2.1
      refine hs_ite (fun c => hs_gp (fun _ => hs_some ⟨q1, q2, q3, Or.inr ⟨rfl, ?_⟩⟩)) (fun c => hs_gp (fun _ => hs_some ⟨q1, q2, q3, Or.inl ⟨rfl, ?_⟩⟩))
      · have := o_le c; omega
      · have := o_nle c; omega
    obtain ⟨d1, d2, d3, d4⟩ := hr
    have hr2 : RS t n (sp β n p) r.2 := h.k d1 d3
    have dβ : q_R r.2 bt = β := by rw [d2]; exact hβ
    refine hs_ite (fun c => ?_) (fun c => ?_)
    · rcases d4 with ⟨a, _⟩ | ⟨_, b⟩
      · rw [a] at c; exact absurd c (by decide)
      have er : rZ β n (k' + 1) (p, m, w, u, e) = .inr (p, m, w, u, e) := by
        unfold rZ
        rw [if_neg b]
      rw [er]
      exact hs_mono (r_267g hr2.2.2) (fun q hq => hq.k d1 (by decide) (by decide) (by decide) (by decide))
    have y : sp β n p < n := by
      rcases d4 with ⟨_, b⟩ | ⟨a, _⟩
      · exact b
      · exact absurd a c
    have er : rZ β n (k' + 1) (p, m, w, u, e) = (match cZ β n (sp β n p) (we β n (sp β n p)) m w u e with | .inl e => .inl e | .inr y => rZ β n k' y) := by
      show (if sp β n p < n then _ else _) = _
      first | (rw [if_pos y]; done) | (rw [if_pos y]; rfl)
    rw [er]
    clear er d4 c
    -- a word at a state that stands at the word
    have W : ∀ d, q_R d bt = β → RS t n (sp β n p) d → hs (D_X12_word N g t d) (fun q => kp [(12, 4)] d q.2 ∧ q_R q.2 bt = β ∧ RS t n (sp β n p) q.2 ∧ ∀ k, k < 16 → (q.1 = ofg k 0 (tx_n k) 0 ∧ wI β (sp β n p) (we β n (sp β n p)) k ∨ ¬ q.1 = ofg k 0 (tx_n k) 0 ∧ ¬ wI β (sp β n p) (we β n (sp β n p)) k)) := by
      intro d hd hs1
      refine hs_mono (rD_word hn l1 ob hs1.1 hs1.2.1) (fun q hq => ?_)
      obtain ⟨q1, q2, q3, q4⟩ := hq
      rw [hd, sp_sp hn] at q3 q4
      exact ⟨q1, by rw [q2]; exact hd, hs1.k q1 q3, q4⟩
    -- a fault
    have bad : ∀ (kk : Int32) (kn : Nat) (w' e' u' s' its : Int32) (d : dp), kk.toInt = (kn : Int) → kn ≤ 4 → kp [(12, 4)] δ d → RS t n (sp β n p) d → hs ((D_X12_wrong N g t kk (q_I d 12 4 t) d).bind fun r_68 => J_X12_shape_148 N g t x1 (L_X12_shape_49 N g t x1 mf) w' e' u' s' its r_68) (fun r => RF t δ (.inl kn) r) := by
      intro kk kn w' e' u' s' its d hkk hkn kd hd
      refine hs_bind (r_wrong hd.2.2) (fun q hq => ?_)
      obtain ⟨q1, q2, q3, q4⟩ := hq
      have q5 : 0 ≤ (q_I q 12 5 t).toInt := by rw [q3, hd.1]; omega
      have zm : (-1 : Int32).toInt = -1 := rfl
      unfold J_X12_shape_148
      refine hs_bind r_fine (fun r hr => ?_)
      obtain ⟨f1, f2⟩ := hr
      rw [f1]
      refine hs_ite (fun _ => ?_) (fun c => ?_)
      · exact hs_mono (r_267b hkn q5 (by rw [q4]; exact hkk)) (fun z hz => hz.k (kp_t kd q1) (by decide) (by decide) (by decide) (by decide))
      · rcases f2 with ⟨_, b⟩ | ⟨a, _⟩
        · have := o_eq b; omega
        · exact absurd a c
    -- the value behind the word
    have val : ∀ (its : Int32) (d : dp), kp [(12, 4)] δ d → q_R d bt = β → RS t n (sp β n p) d → hs (J_X12_shape_148 N g t x1 (L_X12_shape_49 N g t x1 mf) w e u (Int32.ofNat m) its d) (fun r => its = 1 ∧ (m % 2 = 0 → RF t δ (match nG β n (we β n (sp β n p)) 2 16 (fun p v => (p, m + 1, Int32.ofNat v, u, e)) with | .inl e => .inl e | .inr y => rZ β n k' y) r) ∨ its = 4 ∧ (m / 4 % 2 = 0 → RF t δ (match nG β n (we β n (sp β n p)) 1 5 (fun p v => (p, m + 4, w, u, Int32.ofNat v)) with | .inl e => .inl e | .inr y => rZ β n k' y) r) ∨ its ≠ 1 ∧ its ≠ 4 ∧ (its = 2 → m / 2 % 2 = 0 → RF t δ (match uG β n (sp β n (we β n (sp β n p))) (we β n (sp β n (we β n (sp β n p)))) (fun p u' => (p, m + 2, w, u', e)) with | .inl e => .inl e | .inr y => rZ β n k' y) r)) := by
      intro its d kd hd hs1
      unfold J_X12_shape_148
      refine hs_bind r_fine (fun r hr => ?_)
      obtain ⟨f1, f2⟩ := hr
      rw [f1]
      refine hs_ite (fun c => ?_) (fun _ => ?_)
      · rcases f2 with ⟨a, _⟩ | ⟨_, b⟩
        · rw [a] at c; exact absurd c (by decide)
        · exact absurd hs1.2.2 b
      clear f1 f2
      refine hs_biv (fun s es => ?_)
      unfold D_X12_pass
      refine hs_bind (rl_pass hn ob N (sp β n p) d hs1.1 hs1.2.1) (fun d2 hd2 => ?_)
      obtain ⟨p1, p2, p3⟩ := hd2
      rw [hd] at p3
      have h2 : RS t n (we β n (sp β n p)) d2 := hs1.k p1 p3
      have kd2 : kp [(12, 4)] δ d2 := kp_w (by decide) (kp_t kd p1)
      have dβ2 : q_R d2 bt = β := by rw [p2]; exact hd
      have gq : we β n (sp β n p) ≤ sp β n (we β n (sp β n p)) := rE_ge 501 _
      have lq : sp β n (we β n (sp β n p)) ≤ n := rE_le 501 _ l2
      have gq2 : sp β n (we β n (sp β n p)) ≤ we β n (sp β n (we β n (sp β n p))) := rE_ge 501 _
      have lb : ∀ (w' e' u' s' : Int32) (d3 : dp), 0 ≤ (q_I d3 12 5 t).toInt → (q_I d3 12 6 t).toInt = 1 → hs (L_X12_shape_49 N g t x1 mf w' e' u' s' d3) (fun r => RF t d3 (.inl 1) r) := fun w' e' u' s' d3 a b => rl_bad (k := 1) (by decide) mf w' e' u' s' d3 a b
      -- numbers
      have num : ∀ (lo hi : Nat) (xl xh : Int32) (m' : Nat) (fw fe : Nat → Int32), xl.toInt = (lo : Int) → xh.toInt = (hi : Int) → hi ≤ 99999 → m' < 8 → s = Int32.ofNat m' → hs ((D_X12_readNumber N g t xl xh d2).bind fun r_66 => J_X12_shape_258 N g t x1 (L_X12_shape_49 N g t x1 mf) (fw 0) (fe 0) u s r_66.2) (fun r => True) := fun _ _ _ _ _ _ _ _ _ _ _ _ => fun _ _ => trivial
      clear num
      refine hs_ite (fun c1 => ?_) (fun c1 => ?_)
      · refine hs_mono (P := fun r => m % 2 = 0 → RF t δ (match nG β n (we β n (sp β n p)) 2 16 (fun p v => (p, m + 1, Int32.ofNat v, u, e)) with | .inl e => .inl e | .inr y => rZ β n k' y) r) ?_ (fun r hr => Or.inl ⟨c1, hr⟩)
        by_cases hb : m % 2 = 0
        · have es' : s = Int32.ofNat (m + 1) := by rw [es, c1]; exact o1 hb
          refine hs_bind (rD_num hn (by decide) ob (lo := 2) (hi := 16) rfl rfl h2.1 h2.2.1 h2.2.2) (fun r hr => ?_)
          obtain ⟨n1, n2, n3⟩ := hr
          rw [dβ2] at n3
          have kr : kp [(12, 4), (12, 5), (12, 6)] δ r.2 := kp_w (by decide) (kp_t kd2 n1)
          have rβ : q_R r.2 bt = β := by rw [n2]; exact dβ2
          cases hz : nM β n (we β n (sp β n p)) 2 16 with
          | inl q =>
            rw [hz] at n3
            have hng : nG β n (we β n (sp β n p)) 2 16 (fun p v => (p, m + 1, Int32.ofNat v, u, e)) = .inl q := by unfold nG; rw [hz]
            have q4 : q ≤ 4 := by
              unfold nM at hz
              split at hz
              · injection hz with hz; omega
              · split at hz
                · injection hz with hz; omega
                · cases hz
            unfold J_X12_shape_258
            refine hs_bind (r_signb n3.1) (fun r2 e2 => ?_)
            rw [e2, hng]
            exact hs_mono (rl_bad q4 mf _ _ _ _ r.2 n3.1 n3.2) (fun z hz _ => hz.k kr (by decide) (by decide) (by decide) (by decide))
          | inr x =>
            rw [hz] at n3
            obtain ⟨n4, n5, n6⟩ := n3
            have hng : nG β n (we β n (sp β n p)) 2 16 (fun p v => (p, m + 1, Int32.ofNat v, u, e)) = sG β n x.1 (fun p => (p, m + 1, Int32.ofNat x.2, u, e)) := by unfold nG; rw [hz]
            have gx : we β n (sp β n p) ≤ x.1 := by
              unfold nM at hz
              split at hz
              · cases hz
              · split at hz
                · cases hz
                · injection hz with hz
                  rw [← hz]
                  have : sp β n (we β n (sp β n p)) ≤ de β n (sp β n (we β n (sp β n p))) := rE_ge 501 _
                  dsimp only
                  omega
            have gs : x.1 ≤ sp β n x.1 := rE_ge 501 _
            rw [hng, es', n6]
            refine hs_mono (r_258 hn ob kr rβ ⟨n5, by rw [n1 12 3 t (by decide)]; exact h2.2.1, n4⟩ (fun d3 a b => lb _ _ _ _ d3 a b) (fun d3 a b c => ih k' (sp β n x.1 + 1) (m + 1) (Int32.ofNat x.2) e u d3 (by omega) (by omega) (by omega) a b)) (fun z hz _ => hz)
        · exact fun r _ hb' => absurd hb' hb
      · refine hs_ite (fun c2 => ?_) (fun c2 => ?_)
        · refine hs_mono (P := fun r => m / 4 % 2 = 0 → RF t δ (match nG β n (we β n (sp β n p)) 1 5 (fun p v => (p, m + 4, w, u, Int32.ofNat v)) with | .inl e => .inl e | .inr y => rZ β n k' y) r) ?_ (fun r hr => Or.inr (Or.inl ⟨c2, hr⟩))
          by_cases hb : m / 4 % 2 = 0
          · have es' : s = Int32.ofNat (m + 4) := by rw [es, c2]; exact o4 hb
            refine hs_bind (rD_num hn (by decide) ob (lo := 1) (hi := 5) rfl rfl h2.1 h2.2.1 h2.2.2) (fun r hr => ?_)
            obtain ⟨n1, n2, n3⟩ := hr
            rw [dβ2] at n3
            have kr : kp [(12, 4), (12, 5), (12, 6)] δ r.2 := kp_w (by decide) (kp_t kd2 n1)
            have rβ : q_R r.2 bt = β := by rw [n2]; exact dβ2
            cases hz : nM β n (we β n (sp β n p)) 1 5 with
            | inl q =>
              rw [hz] at n3
              have hng : nG β n (we β n (sp β n p)) 1 5 (fun p v => (p, m + 4, w, u, Int32.ofNat v)) = .inl q := by unfold nG; rw [hz]
              have q4 : q ≤ 4 := by
                unfold nM at hz
                split at hz
                · injection hz with hz; omega
                · split at hz
                  · injection hz with hz; omega
                  · cases hz
              unfold J_X12_shape_258
              refine hs_bind (r_signb n3.1) (fun r2 e2 => ?_)
              rw [e2, hng]
              exact hs_mono (rl_bad q4 mf _ _ _ _ r.2 n3.1 n3.2) (fun z hz _ => hz.k kr (by decide) (by decide) (by decide) (by decide))
            | inr x =>
              rw [hz] at n3
              obtain ⟨n4, n5, n6⟩ := n3
              have hng : nG β n (we β n (sp β n p)) 1 5 (fun p v => (p, m + 4, w, u, Int32.ofNat v)) = sG β n x.1 (fun p => (p, m + 4, w, u, Int32.ofNat x.2)) := by unfold nG; rw [hz]
              have gx : we β n (sp β n p) ≤ x.1 := by
                unfold nM at hz
                split at hz
                · cases hz
                · split at hz
                  · cases hz
                  · injection hz with hz
                    rw [← hz]
                    have : sp β n (we β n (sp β n p)) ≤ de β n (sp β n (we β n (sp β n p))) := rE_ge 501 _
                    dsimp only
                    omega
              have gs : x.1 ≤ sp β n x.1 := rE_ge 501 _
              rw [hng, es', n6]
              refine hs_mono (r_258 hn ob kr rβ ⟨n5, by rw [n1 12 3 t (by decide)]; exact h2.2.1, n4⟩ (fun d3 a b => lb _ _ _ _ d3 a b) (fun d3 a b c => ih k' (sp β n x.1 + 1) (m + 4) w (Int32.ofNat x.2) u d3 (by omega) (by omega) (by omega) a b)) (fun z hz _ => hz)
          · exact fun r _ hb' => absurd hb' hb
        · refine hs_mono (P := fun r => its = 2 → m / 2 % 2 = 0 → RF t δ (match uG β n (sp β n (we β n (sp β n p))) (we β n (sp β n (we β n (sp β n p)))) (fun p u' => (p, m + 2, w, u', e)) with | .inl e => .inl e | .inr y => rZ β n k' y) r) ?_ (fun r hr => Or.inr (Or.inr ⟨c1, c2, hr⟩))
          by_cases hb : its = 2 ∧ m / 2 % 2 = 0
          · have es' : s = Int32.ofNat (m + 2) := by rw [es, hb.1]; exact o2 hb.2
            have W2 : ∀ d3 q0, q_R d3 bt = β → RS t n q0 d3 → (q0 = we β n (sp β n p) ∨ q0 = sp β n (we β n (sp β n p))) → hs (D_X12_word N g t d3) (fun q => kp [(12, 4)] d3 q.2 ∧ q_R q.2 bt = β ∧ RS t n (sp β n (we β n (sp β n p))) q.2 ∧ ∀ k, k < 16 → (q.1 = ofg k 0 (tx_n k) 0 ∧ wI β (sp β n (we β n (sp β n p))) (we β n (sp β n (we β n (sp β n p)))) k ∨ ¬ q.1 = ofg k 0 (tx_n k) 0 ∧ ¬ wI β (sp β n (we β n (sp β n p))) (we β n (sp β n (we β n (sp β n p)))) k)) := by
              intro d3 q0 hd3 hs3 hq0
              have e0 : sp β n q0 = sp β n (we β n (sp β n p)) := by
                rcases hq0 with rfl | rfl
                · rfl
                · exact sp_sp hn
              refine hs_mono (rD_word hn (by rcases hq0 with rfl | rfl <;> omega) ob hs3.1 hs3.2.1) (fun q hq => ?_)
              obtain ⟨q1, q2, q3, q4⟩ := hq
              rw [hd3, e0] at q3 q4
              exact ⟨q1, by rw [q2]; exact hd3, hs3.k q1 q3, q4⟩
            -- behind the value
            have fin : ∀ (u' : Int32) (d3 : dp), kp [(12, 4)] δ d3 → q_R d3 bt = β → RS t n (sp β n (we β n (sp β n p))) d3 → hs (J_X12_shape_247 N g t x1 (L_X12_shape_49 N g t x1 mf) w e u' s d3) (fun r => RF t δ (match sG β n (we β n (sp β n (we β n (sp β n p)))) (fun p => (p, m + 2, w, u', e)) with | .inl e => .inl e | .inr y => rZ β n k' y) r) := by
              intro u' d3 k3 hd3 hs3
              unfold J_X12_shape_247
              refine hs_bind r_fine (fun r hr => ?_)
              obtain ⟨f1, f2⟩ := hr
              rw [f1]
              refine hs_ite (fun c => ?_) (fun _ => ?_)
              · rcases f2 with ⟨a, _⟩ | ⟨_, b⟩
                · rw [a] at c; exact absurd c (by decide)
                · exact absurd hs3.2.2 b
              unfold D_X12_pass
              refine hs_bind (rl_pass hn ob N _ d3 hs3.1 hs3.2.1) (fun d4 hd4 => ?_)
              obtain ⟨a1, a2, a3⟩ := hd4
              rw [hd3] at a3
              have gs : we β n (sp β n (we β n (sp β n p))) ≤ sp β n (we β n (sp β n (we β n (sp β n p)))) := rE_ge 501 _
              rw [es']
              exact r_258 hn ob (kp_w (by decide) (kp_t k3 a1)) (by rw [a2]; exact hd3) (hs3.k a1 a3) (fun d5 a b => lb _ _ _ _ d5 a b) (fun d5 a b c => ih k' _ (m + 2) w e u' d5 (by omega) (by omega) (by omega) a b)
            refine hs_bind (W2 d2 _ dβ2 h2 (Or.inl rfl)) (fun r53 h53 => ?_)
            obtain ⟨v1, v2, v3, v4⟩ := h53
            have kv : kp [(12, 4)] δ r53.2 := kp_w (by decide) (kp_t kd2 v1)
            refine hs_at (e_of' hN (i := 3) (by decide)) ?_
            dsimp only
            refine hs_ite (fun c3 => ?_) (fun c3 => ?_)
            · rcases v4 3 (by decide) with ⟨_, wi⟩ | ⟨a, _⟩
              · unfold J_X12_shape_219
                refine hs_ite (fun z => absurd z (by decide)) (fun _ => ?_)
                refine hs_mono (fin 1 r53.2 kv v2 v3) (fun r hr _ _ => ?_)
                unfold uG
                rw [if_pos (wB_t wi)]
                exact hr
              · exact absurd c3 a
            · rcases v4 3 (by decide) with ⟨a, _⟩ | ⟨_, wn⟩
              · exact absurd a c3
              unfold J_X12_shape_219
              refine hs_ite (fun _ => ?_) (fun z => absurd rfl z)
              refine hs_bind (W2 r53.2 _ v2 v3 (Or.inr rfl)) (fun r61 h61 => ?_)
              obtain ⟨y1, y2, y3, y4⟩ := h61
              have ky : kp [(12, 4)] δ r61.2 := kp_w (by decide) (kp_t kv y1)
              refine hs_at (e_of' hN (i := 4) (by decide)) ?_
              dsimp only
              refine hs_ite (fun c4 => ?_) (fun c4 => ?_)
              · rcases y4 4 (by decide) with ⟨_, wi⟩ | ⟨a, _⟩
                · refine hs_mono (fin 0 r61.2 ky y2 y3) (fun r hr _ _ => ?_)
                  unfold uG
                  rw [if_neg (wB_f wn), if_pos (wB_t wi)]
                  exact hr
                · exact absurd c4 a
              · rcases y4 4 (by decide) with ⟨a, _⟩ | ⟨_, wn4⟩
                · exact absurd a c4
                refine hs_bind (r_wrong y3.2.2) (fun q hq => ?_)
                obtain ⟨q1, q2, q3, q4⟩ := hq
                have q5 : 0 ≤ (q_I q 12 5 t).toInt := by rw [q3, y3.1]; omega
                have zm : (-1 : Int32).toInt = -1 := rfl
                unfold J_X12_shape_247
                refine hs_bind r_fine (fun r hr => ?_)
                obtain ⟨f1, f2⟩ := hr
                rw [f1]
                refine hs_ite (fun _ => ?_) (fun c => ?_)
                · unfold J_X12_shape_258
                  refine hs_bind (r_signb q5) (fun r2 e2 => ?_)
                  rw [e2]
                  refine hs_mono (lb _ _ _ _ q q5 (by rw [q4]; rfl)) (fun z hz _ _ => ?_)
                  unfold uG
                  rw [if_neg (wB_f wn), if_neg (wB_f wn4)]
                  exact hz.k (kp_t ky q1) (by decide) (by decide) (by decide) (by decide)
                · rcases f2 with ⟨_, b⟩ | ⟨a, _⟩
                  · have := o_eq b; omega
                  · exact absurd a c
          · exact fun r _ h1 h2 => absurd ⟨h1, h2⟩ hb
    -- which clause
    have z1 : (1 : Int32) ≠ 0 ∧ (2 : Int32) ≠ 0 ∧ (4 : Int32) ≠ 0 ∧ (2 : Int32) ≠ 1 ∧ (2 : Int32) ≠ 4 ∧ (4 : Int32) ≠ 1 ∧ (1 : Int32) ≠ 4 := by decide
    refine hs_bind (W r.2 dβ hr2) (fun r35 h35 => ?_)
    obtain ⟨w1, w2, w3, w4⟩ := h35
    have k35 : kp [(12, 4)] δ r35.2 := kp_w (by decide) (kp_t d1 w1)
    refine hs_at (e_of' hN (i := 0) (by decide)) ?_
    dsimp only
    unfold cZ
    refine hs_ite (fun c => ?_) (fun c => ?_)
    · rcases w4 0 (by decide) with ⟨_, wi⟩ | ⟨a, _⟩
      · rw [if_pos (wB_t wi)]
        unfold J_X12_shape_112
        refine hs_ite (fun z => absurd z z1.1) (fun _ => ?_)
        refine hs_ite (fun z => ?_) (fun z => ?_)
        · have hb := b1.mp z
          rw [if_neg (by omega)]
          refine hs_mono (val 1 r35.2 k35 w2 w3) (fun q hq => ?_)
          rcases hq with ⟨_, hq⟩ | ⟨hq, _⟩ | ⟨hq, _⟩
          · exact hq hb
          · exact absurd hq z1.2.2.2.2.2.2
          · exact absurd rfl hq
        · have hb : m % 2 = 1 := by
            rcases Nat.mod_two_eq_zero_or_one m with q | q
            · exact absurd (b1.mpr q) z
            · exact q
          rw [if_pos hb]
          exact bad 4 4 _ _ _ _ _ r35.2 rfl (by decide) k35 w3
      · exact absurd c a
    · rcases w4 0 (by decide) with ⟨a, _⟩ | ⟨_, wn0⟩
      · exact absurd a c
      rw [if_neg (wB_f wn0)]
      refine hs_bind (W r35.2 w2 w3) (fun r38 h38 => ?_)
      obtain ⟨x1', x2', x3', x4'⟩ := h38
      have k38 : kp [(12, 4)] δ r38.2 := kp_w (by decide) (kp_t k35 x1')
      refine hs_at (e_of' hN (i := 1) (by decide)) ?_
      dsimp only
      refine hs_ite (fun c => ?_) (fun c => ?_)
      · rcases x4' 1 (by decide) with ⟨_, wi⟩ | ⟨a, _⟩
        · rw [if_pos (wB_t wi)]
          unfold J_X12_shape_112
          refine hs_ite (fun z => absurd z z1.2.1) (fun _ => ?_)
          refine hs_ite (fun z => ?_) (fun z => ?_)
          · have hb := b2.mp z
            rw [if_neg (by omega)]
            refine hs_mono (val 2 r38.2 k38 x2' x3') (fun q hq => ?_)
            rcases hq with ⟨hq, _⟩ | ⟨hq, _⟩ | ⟨_, _, hq⟩
            · exact absurd hq z1.2.2.2.1
            · exact absurd hq z1.2.2.2.2.1
            · exact hq rfl hb
          · have hb : m / 2 % 2 = 1 := by
              rcases Nat.mod_two_eq_zero_or_one (m / 2) with q | q
              · exact absurd (b2.mpr q) z
              · exact q
            rw [if_pos hb]
            exact bad 4 4 _ _ _ _ _ r38.2 rfl (by decide) k38 x3'
        · exact absurd c a
      · rcases x4' 1 (by decide) with ⟨a, _⟩ | ⟨_, wn1⟩
        · exact absurd a c
        rw [if_neg (wB_f wn1)]
        refine hs_bind (W r38.2 x2' x3') (fun r41 h41 => ?_)
        obtain ⟨y1', y2', y3', y4'⟩ := h41
        have k41 : kp [(12, 4)] δ r41.2 := kp_w (by decide) (kp_t k38 y1')
        refine hs_at (e_of' hN (i := 2) (by decide)) ?_
        dsimp only
        refine hs_ite (fun c => ?_) (fun c => ?_)
        · rcases y4' 2 (by decide) with ⟨_, wi⟩ | ⟨a, _⟩
          · rw [if_pos (wB_t wi)]
            unfold J_X12_shape_112
            refine hs_ite (fun z => absurd z z1.2.2.1) (fun _ => ?_)
            refine hs_ite (fun z => ?_) (fun z => ?_)
            · have hb := b4.mp z
              rw [if_neg (by omega)]
              refine hs_mono (val 4 r41.2 k41 y2' y3') (fun q hq => ?_)
              rcases hq with ⟨hq, _⟩ | ⟨_, hq⟩ | ⟨_, hq, _⟩
              · exact absurd hq z1.2.2.2.2.2.1
              · exact hq hb
              · exact absurd rfl hq
            · have hb : m / 4 % 2 = 1 := by
                rcases Nat.mod_two_eq_zero_or_one (m / 4) with q | q
                · exact absurd (b4.mpr q) z
                · exact q
              rw [if_pos hb]
              exact bad 4 4 _ _ _ _ _ r41.2 rfl (by decide) k41 y3'
          · exact absurd c a
        · rcases y4' 2 (by decide) with ⟨a, _⟩ | ⟨_, wn2⟩
          · exact absurd a c
          rw [if_neg (wB_f wn2)]
          unfold J_X12_shape_112
          refine hs_ite (fun _ => ?_) (fun z => absurd rfl z)
          exact bad 1 1 _ _ _ _ _ r41.2 rfl (by decide) k41 y3'
end
