/-! texts: what their reading comes to, as functions of the bytes -/
/-- where a run of bytes ends -/
def rE (P : Int32 → Bool) (β : Nat → Int32) (n : Nat) : Nat → Nat → Nat
  | 0, p => p
  | k + 1, p => if p < n ∧ P (β p) = true then rE P β n k (p + 1) else p
theorem rE_ge {P : Int32 → Bool} {β : Nat → Int32} {n : Nat} : ∀ k p, p ≤ rE P β n k p := by
  intro k
  induction k with
  | zero => intro p; exact Nat.le_refl _
  | succ k ih =>
    intro p
    unfold rE
    split
    · exact Nat.le_trans (Nat.le_succ p) (ih (p + 1))
    · exact Nat.le_refl _
theorem rE_le {P : Int32 → Bool} {β : Nat → Int32} {n : Nat} : ∀ k p, p ≤ n → rE P β n k p ≤ n := by
  intro k
  induction k with
  | zero => intro p h; exact h
  | succ k ih =>
    intro p h
    unfold rE
    split
    · rename_i c; exact ih (p + 1) c.1
    · exact h
theorem rE_in {P : Int32 → Bool} {β : Nat → Int32} {n : Nat} : ∀ k p i, p ≤ i → i < rE P β n k p → i < n ∧ P (β i) = true := by
  intro k
  induction k with
  | zero => intro p i h1 h2; exact absurd h2 (by unfold rE; omega)
  | succ k ih =>
    intro p i h1 h2
    unfold rE at h2
    split at h2
    · rename_i c
      by_cases e : i = p
      · rw [e]; exact c
      · exact ih (p + 1) i (by omega) h2
    · omega
theorem rE_out {P : Int32 → Bool} {β : Nat → Int32} {n : Nat} : ∀ k p, n - p < k → ¬ (rE P β n k p < n ∧ P (β (rE P β n k p)) = true) := by
  intro k
  induction k with
  | zero => intro p h; omega
  | succ k ih =>
    intro p h
    unfold rE
    split
    · rename_i c; exact ih (p + 1) (by omega)
    · rename_i c; exact c
/-- there is but one such end -/
theorem rE_u {P : Int32 → Bool} {β : Nat → Int32} {n k p q : Nat} (hk : n - p < k) (h1 : p ≤ q) (h2 : ∀ i, p ≤ i → i < q → i < n ∧ P (β i) = true) (h3 : ¬ (q < n ∧ P (β q) = true)) : rE P β n k p = q := by
  have a := rE_ge (P := P) (β := β) (n := n) k p
  have b := rE_out (P := P) (β := β) (n := n) k p hk
  rcases (show rE P β n k p < q ∨ rE P β n k p = q ∨ q < rE P β n k p by omega) with c | c | c
  · exact absurd (h2 _ a c) b
  · exact c
  · exact absurd (rE_in k p q h1 c) h3
theorem rE_i {P : Int32 → Bool} {β : Nat → Int32} {n k p : Nat} (hk : n - p < k) (h : ¬ (p < n ∧ P (β p) = true)) : rE P β n k p = p := rE_u hk (Nat.le_refl _) (fun i a b => by omega) h
theorem rE_s {P : Int32 → Bool} {β : Nat → Int32} {n k p : Nat} (hk : n - p < k) (h : p < n ∧ P (β p) = true) : rE P β n k p = rE P β n k (p + 1) := by
  refine rE_u hk (Nat.le_trans (Nat.le_succ p) (rE_ge k (p + 1))) (fun i a b => ?_) (rE_out k (p + 1) (by omega))
  by_cases e : i = p
  · rw [e]; exact h
  · exact rE_in k (p + 1) i (by omega) b
def iS (c : Int32) : Bool := decide (c = 32)
def iW (c : Int32) : Bool := decide (97 ≤ c.toInt ∧ c.toInt ≤ 122)
def iD (c : Int32) : Bool := decide (48 ≤ c.toInt ∧ c.toInt ≤ 57)
abbrev sp (β : Nat → Int32) (n p : Nat) : Nat := rE iS β n 501 p
abbrev we (β : Nat → Int32) (n p : Nat) : Nat := rE iW β n 501 p
abbrev de (β : Nat → Int32) (n p : Nat) : Nat := rE iD β n 501 p
/-- the number that digits spell -/
def dV (β : Nat → Int32) (n : Nat) : Nat → Nat → Nat → Nat
  | 0, _, v => v
  | k + 1, p, v => if p < n ∧ iD (β p) = true then dV β n k (p + 1) (10 * v + ((β p).toInt - 48).toNat) else v
theorem dV_i {β : Nat → Int32} {n k p v : Nat} (h : ¬ (p < n ∧ iD (β p) = true)) : dV β n k p v = v := by
  cases k with
  | zero => rfl
  | succ k => unfold dV; rw [if_neg h]
theorem dV_s {β : Nat → Int32} {n : Nat} : ∀ k p v, n - p < k → p < n ∧ iD (β p) = true → dV β n k p v = dV β n k (p + 1) (10 * v + ((β p).toInt - 48).toNat) := by
  intro k
  induction k with
  | zero => intro p v h; omega
  | succ k ih =>
    intro p v h c
    have e : dV β n (k + 1) p v = dV β n k (p + 1) (10 * v + ((β p).toInt - 48).toNat) := by
      show (if p < n ∧ iD (β p) = true then dV β n k (p + 1) (10 * v + ((β p).toInt - 48).toNat) else v) = _
      rw [if_pos c]
    rw [e]
    by_cases c2 : p + 1 < n ∧ iD (β (p + 1)) = true
    · have e2 : dV β n (k + 1) (p + 1) (10 * v + ((β p).toInt - 48).toNat) = dV β n k (p + 1 + 1) (10 * (10 * v + ((β p).toInt - 48).toNat) + ((β (p + 1)).toInt - 48).toNat) := by
        show (if p + 1 < n ∧ iD (β (p + 1)) = true then dV β n k (p + 1 + 1) (10 * (10 * v + ((β p).toInt - 48).toNat) + ((β (p + 1)).toInt - 48).toNat) else (10 * v + ((β p).toInt - 48).toNat)) = _
        rw [if_pos c2]
      rw [e2]
      exact ih (p + 1) _ (by omega) c2
    · rw [dV_i c2, dV_i c2]
/-- the word from p to q is the k-th text -/
def wI (β : Nat → Int32) (p q k : Nat) : Prop := q = p + tx_n k ∧ ∀ i, i < tx_n k → β (p + i) = tx_b k i
/-! the class's tape -/
theorem h7_ahead {N : Nat} {g : gp} {t bt n : Nat} (hn : n ≤ 500) (ob : q_O g 7 0 t = some bt) : ∀ (m : Nat) (p : Nat) (δ : dp), (q_I δ 7 3 t).toInt = (p : Int) → (q_I δ 7 2 t).toInt = (n : Int) → hs (L_X7_ahead_0 N g t m δ) (fun r => kp [(7, 3), (7, 4)] δ r.2 ∧ q_R r.2 = q_R δ ∧ (q_I r.2 7 3 t).toInt = (sp (q_R δ bt) n p : Int) ∧ q_I r.2 7 4 t = q_I r.2 7 3 t ∧ r.1 = if sp (q_R δ bt) n p < n then q_R δ bt (sp (q_R δ bt) n p) else -1) := by
  intro m
  induction m with
  | zero => intro p δ _ _; exact hs_none
  | succ m ih =>
    intro p δ hp hl
    have j38 : ∀ q : Nat, (q_I δ 7 3 t).toInt = (q : Int) → sp (q_R δ bt) n p = q → hs (J_X7_ahead_38 N g t δ) (fun r => kp [(7, 3), (7, 4)] δ r.2 ∧ q_R r.2 = q_R δ ∧ (q_I r.2 7 3 t).toInt = (sp (q_R δ bt) n p : Int) ∧ q_I r.2 7 4 t = q_I r.2 7 3 t ∧ r.1 = if sp (q_R δ bt) n p < n then q_R δ bt (sp (q_R δ bt) n p) else -1) := by
      intro q hq es
      unfold J_X7_ahead_38 J_X7_ahead_70
      refine hs_bdv (fun d e => ?_)
      have d3 : q_I d 7 3 t = q_I δ 7 3 t := by rw [e, rI_o (by decide)]
      have d2 : q_I d 7 2 t = q_I δ 7 2 t := by rw [e, rI_o (by decide)]
      have d4 : q_I d 7 4 t = q_I d 7 3 t := by rw [d3, e, rI_s]
      have dk : kp [(7, 3), (7, 4)] δ d := kp_w (by decide) (kp_I kp_r e)
      have dR : q_R d = q_R δ := by rw [e]; rfl
      rw [d2, d3]
      refine hs_ite (fun c => hs_some ?_) (fun c => ?_)
      · have c1 := o_le c
        exact ⟨dk, dR, by rw [d3, es]; exact hq, d4, by rw [es, if_neg (by omega)]⟩
      · have c1 := o_nle c
        refine hs_at ob (hs_gd (fun gd => hs_some ?_))
        have tn := ti_tn (q_I δ 7 3 t)
        refine ⟨dk, dR, by rw [d3, es]; exact hq, d4, ?_⟩
        rw [es, if_pos (by omega), dR, show (q_I δ 7 3 t).toNatClampNeg = q by omega]
    unfold L_X7_ahead_0
    refine hs_ite (fun c => ?_) (fun c => ?_)
    · have c1 := o_le c
      exact j38 p hp (rE_i (by omega) (fun z => by omega))
    · have c1 := o_nle c
      refine hs_at ob (hs_gd (fun gd => ?_))
      have tn := ti_tn (q_I δ 7 3 t)
      have ix : (q_I δ 7 3 t).toNatClampNeg = p := by omega
      rw [ix]
      refine hs_ite (fun c2 => ?_) (fun c2 => ?_)
      · refine hs_bdv (fun d e => ?_)
        have a1 := te_addc (c := 1) (n := 1) rfl (q_I δ 7 3 t) (by omega) (by omega)
        have dR : q_R d = q_R δ := by rw [e]; rfl
        refine hs_mono (ih (p + 1) d (by rw [e, rI_s]; omega) (by rw [e, rI_o (by decide)]; exact hl)) (fun r hr => ?_)
        obtain ⟨h1, h2, h3, h4, h5⟩ := hr
        rw [dR] at h2 h3 h5
        have es : sp (q_R δ bt) n p = sp (q_R δ bt) n (p + 1) := rE_s (by omega) ⟨by omega, by unfold iS; exact decide_eq_true c2⟩
        rw [es]
        exact ⟨kp_w (by decide) (kp_t (kp_I kp_r e) h1), h2, h3, h4, h5⟩
      · exact j38 p hp (rE_i (by omega) (fun z => c2 (by have := z.2; unfold iS at this; exact of_decide_eq_true this)))
