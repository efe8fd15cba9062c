/-! the reference reads the same text -/
/-- five bits a letter -/
def pv (β : Nat → Int32) (p : Nat) : Nat → Nat
  | 0 => 0
  | l + 1 => 32 * pv β p l + ((β (p + l)).toInt - 96).toNat
theorem pv_lt {β : Nat → Int32} {p : Nat} : ∀ l, (∀ i, i < l → iW (β (p + i)) = true) → pv β p l < 32 ^ l := by
  intro l
  induction l with
  | zero => intro _; show 0 < 32 ^ 0; decide
  | succ l ih =>
    intro h
    have h1 := ih (fun i hi => h i (by omega))
    have h2 := of_decide_eq_true (show decide _ = true from h l (by omega))
    show 32 * pv β p l + ((β (p + l)).toInt - 96).toNat < 32 ^ (l + 1)
    rw [Nat.pow_succ]
    omega
theorem pv_0 {β : Nat → Int32} {p : Nat} {l : Nat} (h : iW (β (p + l)) = true) : 1 ≤ pv β p (l + 1) := by
  have h2 := of_decide_eq_true (show decide _ = true from h)
  show 1 ≤ 32 * pv β p l + ((β (p + l)).toInt - 96).toNat
  omega
theorem pv_inj {β γ : Nat → Int32} {p r : Nat} : ∀ l l', (∀ i, i < l → iW (β (p + i)) = true) → (∀ i, i < l' → iW (γ (r + i)) = true) → pv β p l = pv γ r l' → l = l' ∧ ∀ i, i < l → β (p + i) = γ (r + i) := by
  intro l
  induction l with
  | zero =>
    intro l' _ h2 e
    cases l' with
    | zero => exact ⟨rfl, fun i hi => by omega⟩
    | succ l' =>
      have := pv_0 (h2 l' (by omega))
      rw [← e] at this
      exact absurd (show 1 ≤ 0 from this) (by decide)
  | succ l ih =>
    intro l' h1 h2 e
    cases l' with
    | zero =>
      have := pv_0 (h1 l (by omega))
      rw [e] at this
      exact absurd (show 1 ≤ 0 from this) (by decide)
    | succ l' =>
      have a := of_decide_eq_true (show decide _ = true from h1 l (by omega))
      have b := of_decide_eq_true (show decide _ = true from h2 l' (by omega))
      have e' : 32 * pv β p l + ((β (p + l)).toInt - 96).toNat = 32 * pv γ r l' + ((γ (r + l')).toInt - 96).toNat := e
      obtain ⟨h3, h4⟩ := ih l' (fun i hi => h1 i (by omega)) (fun i hi => h2 i (by omega)) (by omega)
      subst h3
      refine ⟨rfl, fun i hi => ?_⟩
      by_cases c : i = l
      · rw [c]; apply i_eq; omega
      · exact h4 i (by omega)
theorem shl5 {a b : Int32} {x y : Nat} (ha : a.toInt = (x : Int)) (hx : x < 33554432) (hb : b.toInt = (y : Int)) (hy : y < 32) : ((a <<< ((5 : Int32) &&& 31)) ||| b).toInt = (32 * x + y : Nat) := by
  have ua : un a = x := by have := un_i (a := a) (by omega); omega
  have ub : un b = y := by have := un_i (a := b) (by omega); omega
  have us : un (a <<< ((5 : Int32) &&& 31)) = 32 * x := by
    unfold un
    show (a.toBitVec <<< (((5 : Int32) &&& 31).toBitVec.smod 32)).toNat = _
    rw [show (((5 : Int32) &&& 31).toBitVec.smod 32) = 5#32 by decide]
    rw [BitVec.shiftLeft_eq', BitVec.toNat_shiftLeft]
    have : a.toBitVec.toNat = x := ua
    rw [this, show (5#32).toNat = 5 by decide, Nat.shiftLeft_eq, Nat.mod_eq_of_lt (by omega)]
    omega
  have uo : un ((a <<< ((5 : Int32) &&& 31)) ||| b) = 32 * x + y := by
    rw [un_or, us, ub]
    have := Nat.two_pow_add_eq_or_of_lt (i := 5) (b := y) (by omega) x
    rw [show 32 * x = 2 ^ 5 * x by omega]
    exact this.symm
  have := un_o (a := (a <<< ((5 : Int32) &&& 31)) ||| b) (by omega)
  omega
theorem tx_w : ∀ (k : Fin 16) (i : Fin 6), i.val < tx_n k.val → iW (tx_b k.val i.val) = true := by decide +kernel
theorem of_v : ∀ k : Fin 16, (ofg k.val 0 (tx_n k.val) 0).toInt = (pv (fun i => tx_b k.val i) 0 (tx_n k.val) : Int) := by decide +kernel
theorem r_here {N : Nat} {g : gp} {t bt n : Nat} (hn : n ≤ 500) (ob : q_O g 12 9 t = some bt) : ∀ (m : Nat) (p : Nat) (δ : dp), (q_I δ 12 4 t).toInt = (p : Int) → (q_I δ 12 3 t).toInt = (n : Int) → hs (L_X12_here_0 N g t m δ) (fun r => kp [(12, 4)] δ r.2 ∧ q_R r.2 = q_R δ ∧ (q_I r.2 12 4 t).toInt = (sp (q_R δ bt) n p : Int) ∧ r.1 = if sp (q_R δ bt) n p < n then q_R δ bt (sp (q_R δ bt) n p) else 0) := by
  intro m
  induction m with
  | zero => intro p δ _ _; exact hs_none
  | succ m ih =>
    intro p δ hp hl
    have j38 : sp (q_R δ bt) n p = p → hs (J_X12_here_38 N g t δ) (fun r => kp [(12, 4)] δ r.2 ∧ q_R r.2 = q_R δ ∧ (q_I r.2 12 4 t).toInt = (sp (q_R δ bt) n p : Int) ∧ r.1 = if sp (q_R δ bt) n p < n then q_R δ bt (sp (q_R δ bt) n p) else 0) := by
      intro es
      unfold J_X12_here_38 J_X12_here_62
      refine hs_ite (fun c => hs_some ?_) (fun c => ?_)
      · have c1 := o_le c
        exact ⟨fun _ _ _ _ => rfl, rfl, by rw [es]; exact hp, by rw [es, if_neg (by omega)]⟩
      · have c1 := o_nle c
        refine hs_at ob (hs_gd (fun gd => hs_some ?_))
        have tn := ti_tn (q_I δ 12 4 t)
        refine ⟨fun _ _ _ _ => rfl, rfl, by rw [es]; exact hp, ?_⟩
        rw [es, if_pos (by omega), show (q_I δ 12 4 t).toNatClampNeg = p by omega]
    unfold L_X12_here_0
    refine hs_ite (fun c => ?_) (fun c => ?_)
    · have c1 := o_le c
      exact j38 (rE_i (by omega) (fun z => by omega))
    · have c1 := o_nle c
      refine hs_at ob (hs_gd (fun gd => ?_))
      have tn := ti_tn (q_I δ 12 4 t)
      have ix : (q_I δ 12 4 t).toNatClampNeg = p := by omega
      rw [ix]
      refine hs_ite (fun c2 => ?_) (fun c2 => ?_)
      · refine hs_bdv (fun d e => ?_)
        have a1 := te_addc (c := 1) (n := 1) rfl (q_I δ 12 4 t) (by omega) (by omega)
        have dR : q_R d = q_R δ := by rw [e]; rfl
        refine hs_mono (ih (p + 1) d (by rw [e, rI_s]; omega) (by rw [e, rI_o (by decide)]; exact hl)) (fun r hr => ?_)
        obtain ⟨h1, h2, h3, h5⟩ := hr
        rw [dR] at h2 h3 h5
        have es : sp (q_R δ bt) n p = sp (q_R δ bt) n (p + 1) := rE_s (by omega) ⟨by omega, by unfold iS; exact decide_eq_true c2⟩
        rw [es]
        exact ⟨kp_w (by decide) (kp_t (kp_I kp_r e) h1), h2, h3, h5⟩
      · exact j38 (rE_i (by omega) (fun z => c2 (by have := z.2; unfold iS at this; exact of_decide_eq_true this)))
theorem r_small {N : Nat} {g : gp} {x : Int32} {δ : dp} : hs (D_X12_isSmall N g x δ) (fun r => r.2 = δ ∧ (r.1 = 1 ∧ iW x = true ∨ r.1 = 0 ∧ ¬ iW x = true)) := by
  have e97 : (97 : Int32).toInt = 97 := rfl
  have e122 : (122 : Int32).toInt = 122 := rfl
  have no : ¬ (97 ≤ x.toInt ∧ x.toInt ≤ 122) → ¬ iW x = true := fun h z => h (of_decide_eq_true (show decide _ = true from z))
  unfold D_X12_isSmall J_X12_isSmall_16 J_X12_isSmall_17
  refine hs_ite (fun c => hs_gp (fun _ => hs_some ⟨rfl, Or.inr ⟨rfl, no ?_⟩⟩)) (fun c => hs_ite (fun c2 => hs_gp (fun _ => hs_some ⟨rfl, Or.inr ⟨rfl, no ?_⟩⟩)) (fun c2 => hs_gp (fun _ => hs_some ⟨rfl, Or.inl ⟨rfl, ?_⟩⟩)))
  · have := o_lt c; omega
  · have := o_lt c2; omega
  · have a := o_nlt c
    have b := o_nlt c2
    unfold iW
    exact decide_eq_true (by omega)
theorem r_digit {N : Nat} {g : gp} {x : Int32} {δ : dp} : hs (D_X12_isDigit N g x δ) (fun r => r.2 = δ ∧ (r.1 = 1 ∧ iD x = true ∨ r.1 = 0 ∧ ¬ iD x = true)) := by
  have e97 : (48 : Int32).toInt = 48 := rfl
  have e122 : (57 : Int32).toInt = 57 := rfl
  have no : ¬ (48 ≤ x.toInt ∧ x.toInt ≤ 57) → ¬ iD x = true := fun h z => h (of_decide_eq_true (show decide _ = true from z))
  unfold D_X12_isDigit J_X12_isDigit_16 J_X12_isDigit_17
  refine hs_ite (fun c => hs_gp (fun _ => hs_some ⟨rfl, Or.inr ⟨rfl, no ?_⟩⟩)) (fun c => hs_ite (fun c2 => hs_gp (fun _ => hs_some ⟨rfl, Or.inr ⟨rfl, no ?_⟩⟩)) (fun c2 => hs_gp (fun _ => hs_some ⟨rfl, Or.inl ⟨rfl, ?_⟩⟩)))
  · have := o_lt c; omega
  · have := o_lt c2; omega
  · have a := o_nlt c
    have b := o_nlt c2
    unfold iD
    exact decide_eq_true (by omega)
theorem rl_word {N : Nat} {g : gp} {t bt n p : Nat} (hn : n ≤ 500) (ob : q_O g 12 9 t = some bt) : ∀ (m l : Nat) (x1 x2 x3 : Int32) (δ : dp), (q_I δ 12 3 t).toInt = (n : Int) → x2.toInt = (l : Int) → x3.toInt = ((p + l : Nat) : Int) → p + l ≤ 500 → (∀ i, i < l → p + i < n ∧ iW (q_R δ bt (p + i)) = true) → (l ≤ 6 → x1.toInt = (pv (q_R δ bt) p l : Int)) → hs (L_X12_word_14 N g t m x1 x2 x3 δ) (fun r => r.2 = δ ∧ ∃ l', we (q_R δ bt) n p = p + l' ∧ (∀ i, i < l' → iW (q_R δ bt (p + i)) = true) ∧ (l' ≤ 6 ∧ r.1.toInt = (pv (q_R δ bt) p l' : Int) ∨ 6 < l' ∧ r.1.toInt = 0)) := by
  intro m
  induction m with
  | zero => intro l x1 x2 x3 δ _ _ _ _ _ _; exact hs_none
  | succ m ih =>
    intro l x1 x2 x3 δ hl h2 h3 h5 hw hv
    have e6 : (6 : Int32).toInt = 6 := rfl
    have z0 : (0 : Int32).toInt = 0 := rfl
    have out : ¬ (p + l < n ∧ iW (q_R δ bt (p + l)) = true) → hs (J_X12_word_67 N g t x1 x2 δ) (fun r => r.2 = δ ∧ ∃ l', we (q_R δ bt) n p = p + l' ∧ (∀ i, i < l' → iW (q_R δ bt (p + i)) = true) ∧ (l' ≤ 6 ∧ r.1.toInt = (pv (q_R δ bt) p l' : Int) ∨ 6 < l' ∧ r.1.toInt = 0)) := by
      intro hno
      have es : we (q_R δ bt) n p = p + l := by
        refine rE_u (by omega) (by omega) (fun i a b => ?_) hno
        have := hw (i - p) (by omega)
        rw [show p + (i - p) = i by omega] at this
        exact this
      unfold J_X12_word_67 J_X12_word_78
      refine hs_ite (fun c => ?_) (fun c => ?_)
      · have c1 := o_le c
        exact hs_some ⟨rfl, l, es, fun i hi => (hw i hi).2, Or.inl ⟨by omega, hv (by omega)⟩⟩
      · have c1 := o_nle c
        exact hs_some ⟨rfl, l, es, fun i hi => (hw i hi).2, Or.inr ⟨by omega, rfl⟩⟩
    unfold L_X12_word_14
    refine hs_ite (fun c => ?_) (fun c => ?_)
    · have c1 := o_le c
      exact out (fun z => by omega)
    · have c1 := o_nle c
      refine hs_at ob (hs_gd (fun gd => ?_))
      have tn := ti_tn x3
      have ix : x3.toNatClampNeg = p + l := by omega
      rw [ix]
      refine hs_bind r_small (fun r hr => ?_)
      obtain ⟨r1, r2⟩ := hr
      rw [r1]
      refine hs_ite (fun c2 => ?_) (fun c2 => ?_)
      · rcases r2 with ⟨a, b⟩ | ⟨a, b⟩
        · rw [a] at c2; exact absurd c2 (by decide)
        · exact out (fun z => b z.2)
      · rcases r2 with ⟨a, b⟩ | ⟨a, b⟩
        · have y2 := te_addc (c := 1) (n := 1) rfl x2 (by omega) (by omega)
          have y3 := te_addc (c := 1) (n := 1) rfl x3 (by omega) (by omega)
          have hw' : ∀ i, i < l + 1 → p + i < n ∧ iW (q_R δ bt (p + i)) = true := fun i hi => by
            by_cases z : i = l
            · rw [z]; exact ⟨by omega, b⟩
            · exact hw i (by omega)
          refine hs_ite (fun c3 => ?_) (fun c3 => ?_)
          · have c4 := o_le c3
            unfold J_X12_word_57
            refine hs_biv (fun y ey => hs_biv (fun z ez => ?_))
            exact ih (l + 1) 0 y z δ hl (by rw [ey]; omega) (by rw [ez]; omega) (by omega) hw' (fun q => by omega)
          · have c4 := o_nle c3
            refine hs_at ob (hs_gd (fun gd2 => ?_))
            unfold J_X12_word_57
            refine hs_biv (fun y ey => hs_biv (fun z ez => ?_))
            refine ih (l + 1) _ y z δ hl (by rw [ey]; omega) (by rw [ez]; omega) (by omega) hw' (fun q => ?_)
            have bw := of_decide_eq_true (show decide _ = true from b)
            have s1 := te_subc (c := 96) (n := 96) rfl (q_R δ bt (p + l)) (by omega) (by omega)
            have hpk := pv_lt (β := q_R δ bt) (p := p) l (fun i hi => (hw i hi).2)
            have hp5 : 32 ^ l ≤ 32 ^ 5 := Nat.pow_le_pow_right (by decide) (by omega)
            have hp6 : (32 : Nat) ^ 5 = 33554432 := by decide
            exact shl5 (x := pv (q_R δ bt) p l) (y := ((q_R δ bt (p + l)).toInt - 96).toNat) (hv (by omega)) (by omega) (by omega) (by omega)
        · exact absurd a c2
/-- a word of the reference, held against a text -/
theorem rD_word {N : Nat} {g : gp} {t bt n p : Nat} (hn : n ≤ 500) (hp : p ≤ n) (ob : q_O g 12 9 t = some bt) {δ : dp} (h4 : (q_I δ 12 4 t).toInt = (p : Int)) (hl : (q_I δ 12 3 t).toInt = (n : Int)) : hs (D_X12_word N g t δ) (fun r => kp [(12, 4)] δ r.2 ∧ q_R r.2 = q_R δ ∧ (q_I r.2 12 4 t).toInt = (sp (q_R δ bt) n p : Int) ∧ ∀ k, k < 16 → (r.1 = ofg k 0 (tx_n k) 0 ∧ wI (q_R δ bt) (sp (q_R δ bt) n p) (we (q_R δ bt) n (sp (q_R δ bt) n p)) k ∨ ¬ r.1 = ofg k 0 (tx_n k) 0 ∧ ¬ wI (q_R δ bt) (sp (q_R δ bt) n p) (we (q_R δ bt) n (sp (q_R δ bt) n p)) k)) := by
  unfold D_X12_word D_X12_here
  refine hs_bind (r_here hn ob N p δ h4 hl) (fun r hr => ?_)
  obtain ⟨k1, k2, k3, _⟩ := hr
  have l1 : sp (q_R δ bt) n p ≤ n := rE_le 501 p hp
  refine hs_biv (fun y ey => ?_)
  refine hs_mono (rl_word (p := sp (q_R δ bt) n p) hn ob N 0 0 0 y r.2 (by rw [k1 12 3 t (by decide)]; exact hl) rfl (by rw [ey, k3]; rfl) (by omega) (fun i hi => by omega) (fun _ => rfl)) (fun q hq => ?_)
  obtain ⟨q1, l, q2, q3, q4⟩ := hq
  rw [k2] at q2 q3 q4
  rw [q1]
  refine ⟨k1, k2, k3, fun k hk => ?_⟩
  have hb := tx_le hk
  have hof := of_v ⟨k, hk⟩
  dsimp only at hof
  have hw : ∀ i, i < tx_n k → iW (tx_b k (0 + i)) = true := fun i hi => by
    rw [Nat.zero_add]
    exact tx_w ⟨k, hk⟩ ⟨i, by omega⟩ hi
  by_cases c : wI (q_R δ bt) (sp (q_R δ bt) n p) (we (q_R δ bt) n (sp (q_R δ bt) n p)) k
  · refine Or.inl ⟨?_, c⟩
    obtain ⟨c1, c2⟩ := c
    have el : l = tx_n k := by omega
    subst el
    apply i_eq
    rcases q4 with ⟨q5, q6⟩ | ⟨q5, q6⟩
    · rw [q6, hof]
      have E : ∀ j, j ≤ tx_n k → pv (q_R δ bt) (sp (q_R δ bt) n p) j = pv (fun i => tx_b k i) 0 j := by
        intro j
        induction j with
        | zero => intro _; rfl
        | succ j ih =>
          intro hj
          show 32 * pv _ _ j + _ = 32 * pv _ _ j + _
          rw [ih (by omega), c2 j (by omega), Nat.zero_add]
      rw [E _ (Nat.le_refl _)]
    · omega
  · refine Or.inr ⟨fun e => c ?_, c⟩
    have e' := o_eq e
    rw [hof] at e'
    rcases q4 with ⟨q5, q6⟩ | ⟨q5, q6⟩
    · rw [q6] at e'
      obtain ⟨i1, i2⟩ := pv_inj (β := q_R δ bt) (γ := fun i => tx_b k i) (p := sp (q_R δ bt) n p) (r := 0) l (tx_n k) q3 hw (by omega)
      refine ⟨by omega, fun i hi => ?_⟩
      rw [i2 i (by omega), Nat.zero_add]
    · exfalso
      rw [q6] at e'
      obtain ⟨j, hj⟩ : ∃ j, tx_n k = j + 1 := ⟨tx_n k - 1, by omega⟩
      have := pv_0 (β := fun i => tx_b k i) (p := 0) (l := j) (hw j (by omega))
      rw [← hj] at this
      omega
