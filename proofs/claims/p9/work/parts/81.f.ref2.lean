/-! the reference reads the same text: numbers, signs, clauses -/
theorem r_fine {N : Nat} {g : gp} {t : Nat} {δ : dp} : hs (D_X12_fine N g t δ) (fun r => r.2 = δ ∧ (r.1 = 1 ∧ q_I δ 12 5 t = -1 ∨ r.1 = 0 ∧ q_I δ 12 5 t ≠ -1)) := by
  unfold D_X12_fine J_X12_fine_13
  exact hs_ite (fun c => hs_gp (fun _ => hs_some ⟨rfl, Or.inl ⟨rfl, c⟩⟩)) (fun c => hs_gp (fun _ => hs_some ⟨rfl, Or.inr ⟨rfl, c⟩⟩))
theorem r_fine1 {N : Nat} {g : gp} {t : Nat} {δ : dp} (h : q_I δ 12 5 t = -1) {β : Type} {f : Int32 × dp → Option β} {a b : Option β} {Q : β → Prop} (hf : ∀ r, f r = if r.1 = 0 then a else b) (k : hs (f (1, δ)) Q) : hs ((D_X12_fine N g t δ).bind f) Q := by
  refine hs_bind r_fine (fun r hr => ?_)
  rcases hr.2 with ⟨c, _⟩ | ⟨_, c⟩
  · rw [show r = (1, δ) from Prod.ext c hr.1]; exact k
  · exact absurd h c
/-- a fault at place p -/
theorem r_wrong {N : Nat} {g : gp} {t : Nat} {k x : Int32} {δ : dp} (h : q_I δ 12 5 t = -1) : hs (D_X12_wrong N g t k x δ) (fun r => kp [(12, 5), (12, 6)] δ r ∧ q_R r = q_R δ ∧ q_I r 12 5 t = x ∧ q_I r 12 6 t = k) := by
  unfold D_X12_wrong
  refine hs_ite (fun _ => ?_) (fun c => absurd h c)
  refine hs_bdv (fun d e => hs_bdv (fun d2 e2 => hs_some ⟨kp_w (by decide) (kp_I (kp_I kp_r e) e2), by rw [e2, e]; rfl, by rw [e2, rI_o (by decide), e, rI_s], by rw [e2, rI_s]⟩))
theorem rl_pass {N : Nat} {g : gp} {t bt n : Nat} (hn : n ≤ 500) (ob : q_O g 12 9 t = some bt) : ∀ (m : Nat) (p : Nat) (δ : dp), (q_I δ 12 4 t).toInt = (p : Int) → (q_I δ 12 3 t).toInt = (n : Int) → hs (L_X12_pass_0 N g t m δ) (fun r => kp [(12, 4)] δ r ∧ q_R r = q_R δ ∧ (q_I r 12 4 t).toInt = (we (q_R δ bt) n p : Int)) := by
  intro m
  induction m with
  | zero => intro p δ _ _; exact hs_none
  | succ m ih =>
    intro p δ hp hl
    have out : ¬ (p < n ∧ iW (q_R δ bt p) = true) → hs (J_X12_pass_39 N g t δ) (fun r => kp [(12, 4)] δ r ∧ q_R r = q_R δ ∧ (q_I r 12 4 t).toInt = (we (q_R δ bt) n p : Int)) := by
      intro hno
      unfold J_X12_pass_39
      exact hs_some ⟨fun _ _ _ _ => rfl, rfl, by rw [show we (q_R δ bt) n p = p from rE_i (by omega) hno]; exact hp⟩
    unfold L_X12_pass_0
    refine hs_ite (fun c => ?_) (fun c => ?_)
    · have c1 := o_le c
      exact out (fun z => by omega)
    · have c1 := o_nle c
      refine hs_at ob (hs_gd (fun gd => ?_))
      have tn := ti_tn (q_I δ 12 4 t)
      have ix : (q_I δ 12 4 t).toNatClampNeg = p := by omega
      rw [ix]
      refine hs_bind r_small (fun r hr => ?_)
      obtain ⟨r1, r2⟩ := hr
      rw [r1]
      refine hs_ite (fun c2 => ?_) (fun c2 => ?_)
      · rcases r2 with ⟨a, b⟩ | ⟨a, b⟩
        · rw [a] at c2; exact absurd c2 (by decide)
        · exact out (fun z => b z.2)
      · rcases r2 with ⟨a, b⟩ | ⟨a, b⟩
        · refine hs_bdv (fun d e => ?_)
          have a1 := te_addc (c := 1) (n := 1) rfl (q_I δ 12 4 t) (by omega) (by omega)
          have dR : q_R d = q_R δ := by rw [e]; rfl
          refine hs_mono (ih (p + 1) d (by rw [e, rI_s]; omega) (by rw [e, rI_o (by decide)]; exact hl)) (fun r hr => ?_)
          obtain ⟨h1, h2, h3⟩ := hr
          rw [dR] at h2 h3
          rw [show we (q_R δ bt) n p = we (q_R δ bt) n (p + 1) from rE_s (by omega) ⟨by omega, b⟩]
          exact ⟨kp_w (by decide) (kp_t (kp_I kp_r e) h1), h2, h3⟩
        · exact absurd a c2
/-- the reference's end of a number -/
def RN (t : Nat) (δ : dp) (r : Int32 × dp) (β : Nat → Int32) (n p v : Nat) (x1 x2 : Int32) : Prop := kp [(12, 4), (12, 5), (12, 6)] δ r.2 ∧ q_R r.2 = q_R δ ∧ ((v < x1.toInt ∨ x2.toInt < v) ∧ 0 ≤ (q_I r.2 12 5 t).toInt ∧ q_I r.2 12 6 t = 2 ∨ x1.toInt ≤ v ∧ v ≤ x2.toInt ∧ q_I r.2 12 5 t = -1 ∧ (q_I r.2 12 4 t).toInt = (de β n p : Int) ∧ r.1 = Int32.ofNat v)
theorem rl_num {N : Nat} {g : gp} {t bt n : Nat} (hn : n ≤ 500) (ob : q_O g 12 9 t = some bt) {x1 x2 : Int32} (h1 : 0 ≤ x1.toInt) (h2 : x2.toInt ≤ 99999) : ∀ (m p v : Nat) (x4 x5 : Int32) (δ : dp), (q_I δ 12 4 t).toInt = (p : Int) → (q_I δ 12 3 t).toInt = (n : Int) → q_I δ 12 5 t = -1 → 0 ≤ x4.toInt → (v ≤ 99999 ∧ x5.toInt = (v : Int) ∨ 99999 < v ∧ 99999 < x5.toInt) → hs (L_X12_readNumber_41 N g t x1 x2 m x4 x5 δ) (fun r => RN t δ r (q_R δ bt) n p (dV (q_R δ bt) n 501 p v) x1 x2) := by
  intro m
  induction m with
  | zero => intro p v x4 x5 δ _ _ _ _ _; exact hs_none
  | succ m ih =>
    intro p v x4 x5 δ hp hl hf h4 hv
    have eM : (99999 : Int32).toInt = 99999 := rfl
    have out : ¬ (p < n ∧ iD (q_R δ bt p) = true) → hs (J_X12_readNumber_112 N g t x1 x2 x4 x5 δ) (fun r => RN t δ r (q_R δ bt) n p (dV (q_R δ bt) n 501 p v) x1 x2) := by
      intro hno
      have bad : (((v : Int) < x1.toInt) ∨ x2.toInt < (v : Int)) → hs (J_X12_readNumber_124 N g t x1 x2 x4 δ) (fun r => RN t δ r (q_R δ bt) n p (dV (q_R δ bt) n 501 p v) x1 x2) := by
        intro hb
        unfold J_X12_readNumber_124
        refine hs_bind (r_wrong hf) (fun r hr => hs_some ?_)
        rw [dV_i hno]
        exact ⟨kp_w (by decide) hr.1, hr.2.1, Or.inl ⟨hb, by rw [hr.2.2.1]; exact h4, hr.2.2.2⟩⟩
      unfold J_X12_readNumber_112
      refine hs_ite (fun c => bad ?_) (fun c => hs_ite (fun c2 => hs_some ?_) (fun c2 => bad ?_))
      · have := o_lt c; omega
      · have a := o_nlt c
        have b := o_le c2
        rw [dV_i hno]
        refine ⟨fun _ _ _ _ => rfl, rfl, Or.inr ⟨by omega, by omega, hf, by rw [show de (q_R δ bt) n p = p from rE_i (by omega) hno]; exact hp, ?_⟩⟩
        apply i_eq
        rw [n_ti _ (by omega)]
        show x5.toInt = _
        omega
      · have a := o_nlt c
        have b := o_nle c2
        omega
    unfold L_X12_readNumber_41
    refine hs_ite (fun c => ?_) (fun c => ?_)
    · have c1 := o_le c
      exact out (fun z => by omega)
    · have c1 := o_nle c
      refine hs_at ob (hs_gd (fun gd => ?_))
      have tn := ti_tn (q_I δ 12 4 t)
      have ix : (q_I δ 12 4 t).toNatClampNeg = p := by omega
      rw [ix]
      refine hs_bind r_digit (fun r hr => ?_)
      obtain ⟨r1, r2⟩ := hr
      rw [r1]
      refine hs_ite (fun c2 => ?_) (fun c2 => ?_)
      · rcases r2 with ⟨a, b⟩ | ⟨a, b⟩
        · rw [a] at c2; exact absurd c2 (by decide)
        · exact out (fun z => b z.2)
      · rcases r2 with ⟨a, b⟩ | ⟨a, b⟩
        · have bd' := of_decide_eq_true (show decide _ = true from b)
          have ev := dV_s (β := q_R δ bt) (n := n) 501 p v (by omega) ⟨by omega, b⟩
          have es : de (q_R δ bt) n p = de (q_R δ bt) n (p + 1) := rE_s (by omega) ⟨by omega, b⟩
          have nxt : ∀ x5' : Int32, (10 * v + ((q_R δ bt p).toInt - 48).toNat ≤ 99999 ∧ x5'.toInt = ((10 * v + ((q_R δ bt p).toInt - 48).toNat : Nat) : Int) ∨ 99999 < 10 * v + ((q_R δ bt p).toInt - 48).toNat ∧ 99999 < x5'.toInt) → hs (J_X12_readNumber_97 N g t x1 x2 (L_X12_readNumber_41 N g t x1 x2 m) x5' x4 δ) (fun r => RN t δ r (q_R δ bt) n p (dV (q_R δ bt) n 501 p v) x1 x2) := by
            intro x5' h5
            unfold J_X12_readNumber_97
            refine hs_bdv (fun d e => ?_)
            have a1 := te_addc (c := 1) (n := 1) rfl (q_I δ 12 4 t) (by omega) (by omega)
            have dR : q_R d = q_R δ := by rw [e]; rfl
            refine hs_mono (ih (p + 1) _ x4 x5' d (by rw [e, rI_s]; omega) (by rw [e, rI_o (by decide)]; exact hl) (by rw [e, rI_o (by decide)]; exact hf) h4 h5) (fun q hq => ?_)
            obtain ⟨q1, q2, q3⟩ := hq
            rw [dR] at q2 q3
            rw [← ev, ← es] at q3
            exact ⟨kp_w (by decide) (kp_t (kp_I kp_r e) q1), q2, q3⟩
          refine hs_ite (fun c3 => ?_) (fun c3 => ?_)
          · have c4 := o_le c3
            refine hs_at ob (hs_gd (fun gd2 => ?_))
            rw [ix]
            have m1 := te_mulc (c := 10) (n := 10) rfl x5 (by omega) (by omega)
            have m2 := te_add ((10 : Int32) * x5) (q_R δ bt p) (by omega) (by omega)
            have m3 := te_subc (c := 48) (n := 48) rfl ((10 : Int32) * x5 + q_R δ bt p) (by omega) (by omega)
            exact nxt _ (by omega)
          · have c4 := o_nle c3
            have eH : (100000 : Int32).toInt = 100000 := rfl
            exact nxt _ (by omega)
        · exact absurd a c2
theorem rD_num {N : Nat} {g : gp} {t bt n q lo hi : Nat} (hn : n ≤ 500) (hh : hi ≤ 99999) (ob : q_O g 12 9 t = some bt) {x1 x2 : Int32} (e1 : x1.toInt = (lo : Int)) (e2 : x2.toInt = (hi : Int)) {δ : dp} (h4 : (q_I δ 12 4 t).toInt = (q : Int)) (hl : (q_I δ 12 3 t).toInt = (n : Int)) (hf : q_I δ 12 5 t = -1) : hs (D_X12_readNumber N g t x1 x2 δ) (fun r => kp [(12, 4), (12, 5), (12, 6)] δ r.2 ∧ q_R r.2 = q_R δ ∧ match nM (q_R δ bt) n q lo hi with | .inl k => 0 ≤ (q_I r.2 12 5 t).toInt ∧ (q_I r.2 12 6 t).toInt = (k : Int) | .inr x => q_I r.2 12 5 t = -1 ∧ (q_I r.2 12 4 t).toInt = (x.1 : Int) ∧ r.1 = Int32.ofNat x.2) := by
  unfold D_X12_readNumber D_X12_here
  refine hs_bind r_fine (fun r hr => ?_)
  obtain ⟨f1, f2⟩ := hr
  rw [f1]
  refine hs_ite (fun c => ?_) (fun c => ?_)
  · rcases f2 with ⟨a, _⟩ | ⟨_, b⟩
    · rw [a] at c; exact absurd c (by decide)
    · exact absurd hf b
  · refine hs_bind (r_here hn ob N q δ h4 hl) (fun r3 hr3 => ?_)
    obtain ⟨k1, k2, k3, k5⟩ := hr3
    refine hs_biv (fun y ey => hs_bind r_digit (fun r6 hr6 => ?_))
    obtain ⟨d1, d2⟩ := hr6
    rw [d1]
    have f5 : q_I r3.2 12 5 t = -1 := by rw [k1 12 5 t (by decide)]; exact hf
    have l3 : (q_I r3.2 12 3 t).toInt = (n : Int) := by rw [k1 12 3 t (by decide)]; exact hl
    have nd : iD 0 = false := by decide
    refine hs_ite (fun c2 => ?_) (fun c2 => ?_)
    · rcases d2 with ⟨a, _⟩ | ⟨_, b⟩
      · rw [a] at c2; exact absurd c2 (by decide)
      refine hs_bind (r_wrong f5) (fun r21 h21 => hs_some ?_)
      refine ⟨kp_w (by decide) (kp_t k1 h21.1), h21.2.1.trans k2, ?_⟩
      have es : de (q_R δ bt) n (sp (q_R δ bt) n q) = sp (q_R δ bt) n q := rE_i (by omega) (fun z => b (by rw [k5, if_pos z.1]; exact z.2))
      unfold nM
      rw [if_pos es]
      refine ⟨?_, by rw [h21.2.2.2]; rfl⟩
      rw [h21.2.2.1, k3]
      omega
    · rcases d2 with ⟨_, b⟩ | ⟨a, _⟩
      · have hs1 : sp (q_R δ bt) n q < n ∧ iD (q_R δ bt (sp (q_R δ bt) n q)) = true := by
          by_cases z : sp (q_R δ bt) n q < n
          · rw [k5, if_pos z] at b; exact ⟨z, b⟩
          · rw [k5, if_neg z, nd] at b; exact absurd b (by decide)
        have es : de (q_R δ bt) n (sp (q_R δ bt) n q) = de (q_R δ bt) n (sp (q_R δ bt) n q + 1) := rE_s (by omega) hs1
        have eg : sp (q_R δ bt) n q + 1 ≤ de (q_R δ bt) n (sp (q_R δ bt) n q + 1) := rE_ge 501 _
        refine hs_mono (rl_num hn ob (x1 := x1) (x2 := x2) (by omega) (by omega) N (sp (q_R δ bt) n q) 0 y 0 r3.2 k3 l3 f5 (by rw [ey, k3]; omega) (Or.inl ⟨by decide, rfl⟩)) (fun r7 h7 => ?_)
        obtain ⟨g1, g2, g3⟩ := h7
        rw [k2] at g2 g3
        refine ⟨kp_w (by decide) (kp_t k1 g1), g2, ?_⟩
        unfold nM
        rw [if_neg (by omega)]
        rcases g3 with ⟨a, b, c⟩ | ⟨a, b, c, d, e⟩
        · rw [if_pos (by omega)]
          exact ⟨b, by rw [c]; rfl⟩
        · rw [if_neg (by omega)]
          exact ⟨c, d, e⟩
      · exact absurd a c2
/-- the sign, where all is fine -/
theorem rD_sign {N : Nat} {g : gp} {t bt n q : Nat} (hn : n ≤ 500) (ob : q_O g 12 9 t = some bt) {δ : dp} (h4 : (q_I δ 12 4 t).toInt = (q : Int)) (hl : (q_I δ 12 3 t).toInt = (n : Int)) (hf : q_I δ 12 5 t = -1) : hs (D_X12_sign N g t 59 δ) (fun r => kp [(12, 4), (12, 5), (12, 6)] δ r ∧ q_R r = q_R δ ∧ (sp (q_R δ bt) n q < n ∧ q_R δ bt (sp (q_R δ bt) n q) = 59 ∧ q_I r 12 5 t = -1 ∧ (q_I r 12 4 t).toInt = (sp (q_R δ bt) n q : Int) + 1 ∨ ¬ (sp (q_R δ bt) n q < n ∧ q_R δ bt (sp (q_R δ bt) n q) = 59) ∧ 0 ≤ (q_I r 12 5 t).toInt ∧ (q_I r 12 6 t).toInt = 1)) := by
  have zm : (-1 : Int32).toInt = -1 := rfl
  unfold D_X12_sign D_X12_here
  refine hs_bind r_fine (fun r hr => ?_)
  obtain ⟨f1, f2⟩ := hr
  rw [f1]
  refine hs_ite (fun c => ?_) (fun c => ?_)
  · rcases f2 with ⟨a, _⟩ | ⟨_, b⟩
    · rw [a] at c; exact absurd c (by decide)
    · exact absurd hf b
  · refine hs_bind (r_here hn ob N q δ h4 hl) (fun r3 hr3 => ?_)
    obtain ⟨k1, k2, k3, k5⟩ := hr3
    have f5 : q_I r3.2 12 5 t = -1 := by rw [k1 12 5 t (by decide)]; exact hf
    refine hs_ite (fun c2 => ?_) (fun c2 => ?_)
    · unfold J_X12_sign_24 J_X12_sign_41
      refine hs_bind r_fine (fun r4 hr4 => ?_)
      obtain ⟨g1, g2⟩ := hr4
      rw [g1]
      refine hs_ite (fun c => ?_) (fun c => ?_)
      · rcases g2 with ⟨a, _⟩ | ⟨_, b⟩
        · rw [a] at c; exact absurd c (by decide)
        · exact absurd f5 b
      · rw [k5] at c2
        have y : sp (q_R δ bt) n q < n := by
          by_cases y : sp (q_R δ bt) n q < n
          · exact y
          · rw [if_neg y] at c2; exact absurd c2 (by decide)
        rw [if_pos y] at c2
        refine hs_bdv (fun d e => hs_some ⟨kp_w (by decide) (kp_I k1 e), by rw [e]; exact k2, Or.inl ⟨y, c2, by rw [e, rI_o (by decide)]; exact f5, ?_⟩⟩)
        have a1 := te_addc (c := 1) (n := 1) rfl (q_I r3.2 12 4 t) (by omega) (by omega)
        rw [e, rI_s]; omega
    · refine hs_bind (r_wrong f5) (fun r9 h9 => ?_)
      obtain ⟨w1, w2, w3, w4⟩ := h9
      unfold J_X12_sign_24 J_X12_sign_41
      have w5 : 0 ≤ (q_I r9 12 5 t).toInt := by rw [w3, k3]; omega
      refine hs_bind r_fine (fun r4 hr4 => ?_)
      obtain ⟨g1, g2⟩ := hr4
      rw [g1]
      refine hs_ite (fun c => ?_) (fun c => ?_)
      · refine hs_some ⟨kp_w (by decide) (kp_t k1 w1), w2.trans k2, Or.inr ⟨fun z => c2 (by rw [k5, if_pos z.1]; exact z.2), w5, by rw [w4]; rfl⟩⟩
      · rcases g2 with ⟨_, b⟩ | ⟨a, _⟩
        · have := o_eq b; omega
        · exact absurd a c
