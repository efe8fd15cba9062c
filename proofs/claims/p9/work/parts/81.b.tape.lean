/-! the class's tape, piece by piece -/
theorem h7_readWord {N : Nat} {g : gp} {t bt n : Nat} (hn : n ≤ 500) (ob : q_O g 7 0 t = some bt) : ∀ (m : Nat) (p : Nat) (δ : dp), (q_I δ 7 3 t).toInt = (p : Int) → (q_I δ 7 2 t).toInt = (n : Int) → hs (L_X7_readWord_5 N g t m δ) (fun r => kp [(7, 3)] δ r ∧ q_R r = q_R δ ∧ (q_I r 7 3 t).toInt = (we (q_R δ bt) n p : Int)) := by
  intro m
  induction m with
  | zero => intro p δ _ _; exact hs_none
  | succ m ih =>
    intro p δ hp hl
    have out : we (q_R δ bt) n p = p → hs (J_X7_readWord_57 N g t δ) (fun r => kp [(7, 3)] δ r ∧ q_R r = q_R δ ∧ (q_I r 7 3 t).toInt = (we (q_R δ bt) n p : Int)) := by
      intro es
      unfold J_X7_readWord_57
      exact hs_some ⟨fun _ _ _ _ => rfl, rfl, by rw [es]; exact hp⟩
    unfold L_X7_readWord_5
    have tn := ti_tn (q_I δ 7 3 t)
    have e97 : (97 : Int32).toInt = 97 := rfl
    have e122 : (122 : Int32).toInt = 122 := rfl
    refine hs_ite (fun c => ?_) (fun c => ?_)
    · have c1 := o_le c
      exact out (rE_i (by omega) (fun z => by omega))
    · have c1 := o_nle c
      refine hs_at ob (hs_gd (fun gd => ?_))
      have ix : (q_I δ 7 3 t).toNatClampNeg = p := by omega
      rw [ix]
      refine hs_ite (fun c2 => ?_) (fun c2 => ?_)
      · have c3 := o_lt c2
        exact out (rE_i (by omega) (fun z => by have := of_decide_eq_true (show decide _ = true from z.2); omega))
      · have c3 := o_nlt c2
        refine hs_at ob (hs_gd (fun gd2 => ?_))
        refine hs_ite (fun c4 => ?_) (fun c4 => ?_)
        · have c5 := o_lt c4
          exact out (rE_i (by omega) (fun z => by have := of_decide_eq_true (show decide _ = true from z.2); omega))
        · have c5 := o_nlt c4
          refine hs_bdv (fun d e => ?_)
          have a1 := te_addc (c := 1) (n := 1) rfl (q_I δ 7 3 t) (by omega) (by omega)
          have dR : q_R d = q_R δ := by rw [e]; rfl
          refine hs_mono (ih (p + 1) d (by rw [e, rI_s]; omega) (by rw [e, rI_o (by decide)]; exact hl)) (fun r hr => ?_)
          obtain ⟨h1, h2, h3⟩ := hr
          rw [dR] at h2 h3
          have es : we (q_R δ bt) n p = we (q_R δ bt) n (p + 1) := rE_s (by omega) ⟨by omega, by unfold iW; exact decide_eq_true (by omega)⟩
          rw [es]
          exact ⟨kp_w (by decide) (kp_t (kp_I kp_r e) h1), h2, h3⟩
theorem hD_readWord {N : Nat} {g : gp} {t bt n p : Nat} (hn : n ≤ 500) (ob : q_O g 7 0 t = some bt) {δ : dp} (hp : (q_I δ 7 3 t).toInt = (p : Int)) (hl : (q_I δ 7 2 t).toInt = (n : Int)) : hs (D_X7_readWord N g t δ) (fun r => kp [(7, 3), (7, 4)] δ r ∧ q_R r = q_R δ ∧ (q_I r 7 4 t).toInt = (sp (q_R δ bt) n p : Int) ∧ (q_I r 7 3 t).toInt = (we (q_R δ bt) n (sp (q_R δ bt) n p) : Int)) := by
  unfold D_X7_readWord D_X7_ahead
  refine hs_bind (h7_ahead hn ob N p δ hp hl) (fun r hr => ?_)
  obtain ⟨k1, k2, k3, k4, _⟩ := hr
  refine hs_mono (h7_readWord hn ob N (sp (q_R δ bt) n p) r.2 k3 (by rw [k1 7 2 t (by decide)]; exact hl)) (fun r2 hr2 => ?_)
  obtain ⟨j1, j2, j3⟩ := hr2
  rw [k2] at j2 j3
  exact ⟨kp_w (by decide) (kp_t k1 j1), j2, by rw [j1 7 4 t (by decide), k4]; exact k3, j3⟩
theorem tx_c : ∀ (i : Fin 16) (j : Fin 6), (((tx_b i.val j.val) &&& (255 : Int32)).toUInt32 % 65536).toInt32 = tx_b i.val j.val := by decide +kernel
theorem h0_length {N : Nat} {g : gp} {k : Nat} (hk : k < 16) {δ : dp} : hs (D_J0_length_8abf5 N g k δ) (fun r => r.2 = δ ∧ r.1.toInt = (tx_n k : Int)) := by
  have H : ∀ i : Fin 16, ((Int32.ofNat (tx_n i.val)) >>> ((0 : Int32) &&& 31)).toInt = (tx_n i.val : Int) := by decide +kernel
  have e : D_J0_coder_7d493 N g k δ = some (0, δ) := by
    rw [D_J0_coder_7d493, if_neg (by decide), J_J0_coder_7d493_14, if_pos (by rfl)]
  rw [D_J0_length_8abf5, e]
  exact hs_some ⟨rfl, H ⟨k, hk⟩⟩
theorem h0_charAt {N : Nat} {g : gp} {k i : Nat} (hk : k < 16) (hi : i < tx_n k) {x : Int32} (hx : x.toInt = (i : Int)) {δ : dp} : hs (D_J0_charAt_5068e N g k x δ) (fun r => r.2 = δ ∧ r.1 = tx_b k i) := by
  have hb := tx_le hk
  have t := ti_tn x
  have ix : x.toNatClampNeg = i := by omega
  have e1 : D_J0_isLatin1_aae02 N g k δ = some (1, δ) := by
    rw [D_J0_isLatin1_aae02, if_neg (by decide), if_pos rfl, J_J0_isLatin1_aae02_18, if_pos (by decide)]
  have f0 := n_ti (tx_n k) (by omega)
  have z0 : (0 : Int32).toInt = 0 := rfl
  have e2 : D_J0_checkIndex_df160 N g x (Int32.ofNat (tx_n k)) δ = some δ := by
    rw [D_J0_checkIndex_df160, D_J3_checkIndex_8e157, if_neg (fun c => by have := o_lt c; omega), if_pos (i_lt (by omega))]
    rfl
  have e3 := tx_c ⟨k, hk⟩ ⟨i, by omega⟩
  dsimp only at e3
  rw [D_J0_charAt_5068e, e1, Option.bind_some]
  refine hs_ite (fun c => absurd (show (1 : Int32) = 0 from c) (by decide)) (fun _ => ?_)
  rw [D_J1_charAt_3b067, e2, Option.bind_some]
  refine hs_bind (P := fun r => r.2 = δ ∧ r.1 = tx_b k i) (hs_gd (fun _ => hs_gp (fun _ => hs_some ⟨rfl, ?_⟩))) (fun r hr => hs_gp (fun _ => hs_some hr))
  rw [ix]
  exact e3
theorem h7_wordIs {N : Nat} {g : gp} {t bt k st : Nat} (hk : k < 16) (ob : q_O g 7 0 t = some bt) (hst : st ≤ 500) : ∀ (m i : Nat) (x : Int32) (δ : dp), x.toInt = (i : Int) → i ≤ tx_n k → (q_I δ 7 4 t).toInt = (st : Int) → (∀ j, j < i → q_R δ bt (st + j) = tx_b k j) → hs (L_X7_wordIs_20 N g t k m x δ) (fun r => r.2 = δ ∧ (r.1 = 1 ∧ (∀ j, j < tx_n k → q_R δ bt (st + j) = tx_b k j) ∨ r.1 = 0 ∧ ¬ ∀ j, j < tx_n k → q_R δ bt (st + j) = tx_b k j)) := by
  have hb := tx_le hk
  intro m
  induction m with
  | zero => intro i x δ _ _ _ _; exact hs_none
  | succ m ih =>
    intro i x δ hx hi hs4 hj
    unfold L_X7_wordIs_20
    refine hs_bind (h0_length hk) (fun r hr => ?_)
    obtain ⟨r1, r2⟩ := hr
    rw [r1]
    refine hs_ite (fun c => ?_) (fun c => ?_)
    · have c1 := o_le c
      exact hs_gp (fun _ => hs_some ⟨rfl, Or.inl ⟨rfl, fun j h => hj j (by omega)⟩⟩)
    · have c1 := o_nle c
      refine hs_at ob (hs_gd (fun gd => ?_))
      have a1 := te_add (q_I δ 7 4 t) x (by omega) (by omega)
      have a2 := ti_tn (q_I δ 7 4 t + x)
      have ix : (q_I δ 7 4 t + x).toNatClampNeg = st + i := by omega
      refine hs_bind (h0_charAt hk (i := i) (by omega) hx) (fun r3 hr3 => ?_)
      obtain ⟨q1, q2⟩ := hr3
      rw [ix, q1, q2]
      refine hs_ite (fun c2 => ?_) (fun c2 => ?_)
      · refine hs_biv (fun y ey => ?_)
        have y1 := te_addc (c := 1) (n := 1) rfl x (by omega) (by omega)
        rw [← ey] at y1
        refine ih (i + 1) y δ (by omega) (by omega) hs4 (fun j h => ?_)
        by_cases e : j = i
        · rw [e]; exact c2
        · exact hj j (by omega)
      · exact hs_gp (fun _ => hs_some ⟨rfl, Or.inr ⟨rfl, fun z => c2 (z i (by omega))⟩⟩)
theorem hD_wordIs {N : Nat} {g : gp} {t bt k p q : Nat} (hk : k < 16) (ob : q_O g 7 0 t = some bt) (hp : p ≤ 500) (hq : q ≤ 500) {δ : dp} (h4 : (q_I δ 7 4 t).toInt = (p : Int)) (h3 : (q_I δ 7 3 t).toInt = (q : Int)) : hs (D_X7_wordIs N g t k δ) (fun r => r.2 = δ ∧ (r.1 = 1 ∧ wI (q_R δ bt) p q k ∨ r.1 = 0 ∧ ¬ wI (q_R δ bt) p q k)) := by
  have hb := tx_le hk
  unfold D_X7_wordIs
  refine hs_bind (h0_length hk) (fun r hr => ?_)
  obtain ⟨r1, r2⟩ := hr
  rw [r1]
  have a1 := te_sub (q_I δ 7 3 t) (q_I δ 7 4 t) (by omega) (by omega)
  refine hs_ite (fun c => ?_) (fun c => ?_)
  · have c1 := o_eq c
    refine hs_mono (h7_wordIs hk ob hp N 0 0 δ rfl (Nat.zero_le _) h4 (fun j h => by omega)) (fun r hr => ⟨hr.1, ?_⟩)
    rcases hr.2 with ⟨a, b⟩ | ⟨a, b⟩
    · exact Or.inl ⟨a, by omega, b⟩
    · exact Or.inr ⟨a, fun z => b z.2⟩
  · have c1 := o_ne c
    exact hs_gp (fun _ => hs_some ⟨rfl, Or.inr ⟨rfl, fun z => by have := z.1; omega⟩⟩)
/-- the first fault counts -/
theorem hD_refuse {N : Nat} {g : gp} {t : Nat} {w : Int32} {δ : dp} : hs (D_X7_refuse N g t w δ) (fun r => kp [(7, 5), (7, 6)] δ r ∧ q_R r = q_R δ ∧ q_I r 7 5 t = if q_I δ 7 5 t = 0 then w else q_I δ 7 5 t) := by
  unfold D_X7_refuse J_X7_refuse_20
  refine hs_ite (fun c => ?_) (fun c => hs_some ⟨fun _ _ _ _ => rfl, rfl, by rw [if_neg c]⟩)
  refine hs_bdv (fun d e => hs_bdv (fun d2 e2 => hs_some ⟨kp_w (by decide) (kp_I (kp_I kp_r e) e2), by rw [e2, e]; rfl, ?_⟩))
  rw [e2, rI_o (by decide), e, rI_s, if_pos c]
theorem hD_needSign {N : Nat} {g : gp} {t bt n p : Nat} (hn : n ≤ 500) (ob : q_O g 7 0 t = some bt) {δ : dp} (hp : (q_I δ 7 3 t).toInt = (p : Int)) (hl : (q_I δ 7 2 t).toInt = (n : Int)) : hs (D_X7_needSign N g t 59 δ) (fun r => kp [(7, 3), (7, 4), (7, 5), (7, 6)] δ r ∧ q_R r = q_R δ ∧ (sp (q_R δ bt) n p < n ∧ q_R δ bt (sp (q_R δ bt) n p) = 59 ∧ q_I r 7 5 t = q_I δ 7 5 t ∧ (q_I r 7 3 t).toInt = (sp (q_R δ bt) n p : Int) + 1 ∨ ¬ (sp (q_R δ bt) n p < n ∧ q_R δ bt (sp (q_R δ bt) n p) = 59) ∧ q_I r 7 5 t = if q_I δ 7 5 t = 0 then 1 else q_I δ 7 5 t)) := by
  unfold D_X7_needSign D_X7_ahead J_X7_needSign_26
  refine hs_bind (h7_ahead hn ob N p δ hp hl) (fun r hr => ?_)
  obtain ⟨k1, k2, k3, k4, k5⟩ := hr
  have k55 := k1 7 5 t (by decide)
  refine hs_ite (fun c => ?_) (fun c => ?_)
  · refine hs_bdv (fun d e => hs_some ⟨kp_w (by decide) (kp_I k1 e), by rw [e]; exact k2, Or.inl ?_⟩)
    rw [k5] at c
    by_cases c2 : sp (q_R δ bt) n p < n
    · rw [if_pos c2] at c
      have a1 := te_addc (c := 1) (n := 1) rfl (q_I r.2 7 3 t) (by omega) (by omega)
      exact ⟨c2, c, by rw [e, rI_o (by decide), k55], by rw [e, rI_s]; omega⟩
    · rw [if_neg c2] at c
      exact absurd c (by decide)
  · refine hs_bind hD_refuse (fun r3 hr3 => hs_some ?_)
    obtain ⟨j1, j2, j3⟩ := hr3
    refine ⟨kp_w (by decide) (kp_t k1 j1), j2.trans k2, Or.inr ⟨fun z => c ?_, by rw [j3, k55]⟩⟩
    rw [k5, if_pos z.1]; exact z.2
theorem h9_min {N : Nat} {g : gp} {x y : Int32} {δ : dp} : hs (D_J9_min_7cf53 N g x y δ) (fun r => r.2 = δ ∧ (r.1 = y ∧ y.toInt < x.toInt ∨ r.1 = x ∧ x.toInt ≤ y.toInt)) := by
  unfold D_J9_min_7cf53 J_J9_min_7cf53_10
  refine hs_ite (fun c => hs_some ⟨rfl, Or.inl ⟨rfl, o_lt c⟩⟩) (fun c => hs_some ⟨rfl, Or.inr ⟨rfl, o_nlt c⟩⟩)
theorem h7_readNumber {N : Nat} {g : gp} {t bt n st : Nat} (hn : n ≤ 500) (ob : q_O g 7 0 t = some bt) {x1 x2 : Int32} : ∀ (m p v : Nat) (x : Int32) (δ : dp), (q_I δ 7 3 t).toInt = (p : Int) → (q_I δ 7 2 t).toInt = (n : Int) → (q_I δ 7 4 t).toInt = (st : Int) → (v < 1000000 ∧ x.toInt = (v : Int) ∨ 1000000 ≤ v ∧ x.toInt = 1000000) → hs (L_X7_readNumber_7 N g t x1 x2 m x δ) (fun r => kp [(7, 3), (7, 5), (7, 6)] δ r.2 ∧ q_R r.2 = q_R δ ∧ (q_I r.2 7 3 t).toInt = (de (q_R δ bt) n p : Int) ∧ (dV (q_R δ bt) n 501 p v < 1000000 ∧ r.1.toInt = (dV (q_R δ bt) n 501 p v : Int) ∨ 1000000 ≤ dV (q_R δ bt) n 501 p v ∧ r.1.toInt = 1000000) ∧ (de (q_R δ bt) n p = st ∧ q_I r.2 7 5 t = (if q_I δ 7 5 t = 0 then 1 else q_I δ 7 5 t) ∨ de (q_R δ bt) n p ≠ st ∧ (r.1.toInt < x1.toInt ∨ x2.toInt < r.1.toInt) ∧ q_I r.2 7 5 t = (if q_I δ 7 5 t = 0 then 2 else q_I δ 7 5 t) ∨ de (q_R δ bt) n p ≠ st ∧ x1.toInt ≤ r.1.toInt ∧ r.1.toInt ≤ x2.toInt ∧ q_I r.2 7 5 t = q_I δ 7 5 t)) := by
  intro m
  induction m with
  | zero => intro p v x δ _ _ _ _; exact hs_none
  | succ m ih =>
    intro p v x δ hp hl h4 hv
    have out : ¬ (p < n ∧ iD (q_R δ bt p) = true) → hs (J_X7_readNumber_82 N g t x1 x2 x δ) (fun r => kp [(7, 3), (7, 5), (7, 6)] δ r.2 ∧ q_R r.2 = q_R δ ∧ (q_I r.2 7 3 t).toInt = (de (q_R δ bt) n p : Int) ∧ (dV (q_R δ bt) n 501 p v < 1000000 ∧ r.1.toInt = (dV (q_R δ bt) n 501 p v : Int) ∨ 1000000 ≤ dV (q_R δ bt) n 501 p v ∧ r.1.toInt = 1000000) ∧ (de (q_R δ bt) n p = st ∧ q_I r.2 7 5 t = (if q_I δ 7 5 t = 0 then 1 else q_I δ 7 5 t) ∨ de (q_R δ bt) n p ≠ st ∧ (r.1.toInt < x1.toInt ∨ x2.toInt < r.1.toInt) ∧ q_I r.2 7 5 t = (if q_I δ 7 5 t = 0 then 2 else q_I δ 7 5 t) ∨ de (q_R δ bt) n p ≠ st ∧ x1.toInt ≤ r.1.toInt ∧ r.1.toInt ≤ x2.toInt ∧ q_I r.2 7 5 t = q_I δ 7 5 t)) := by
      intro hno
      have es : de (q_R δ bt) n p = p := by
        by_cases c : n - p < 501
        · exact rE_i c hno
        · exact absurd c (by omega)
      rw [es, dV_i hno]
      unfold J_X7_readNumber_82 J_X7_readNumber_116 J_X7_readNumber_111
      refine hs_ite (fun c => ?_) (fun c => ?_)
      · have c1 := o_eq c
        refine hs_bind hD_refuse (fun r hr => hs_some ⟨kp_w (by decide) hr.1, hr.2.1, by rw [hr.1 7 3 t (by decide)]; exact hp, hv, Or.inl ⟨by omega, hr.2.2⟩⟩)
      · have c1 := o_ne c
        refine hs_ite (fun c2 => ?_) (fun c2 => ?_)
        · have c3 := o_lt c2
          refine hs_bind hD_refuse (fun r hr => hs_some ⟨kp_w (by decide) hr.1, hr.2.1, by rw [hr.1 7 3 t (by decide)]; exact hp, hv, Or.inr (Or.inl ⟨by omega, Or.inl c3, hr.2.2⟩)⟩)
        · have c3 := o_nlt c2
          refine hs_ite (fun c4 => ?_) (fun c4 => ?_)
          · have c5 := o_le c4
            exact hs_some ⟨fun _ _ _ _ => rfl, rfl, hp, hv, Or.inr (Or.inr ⟨by omega, c3, c5, rfl⟩)⟩
          · have c5 := o_nle c4
            refine hs_bind hD_refuse (fun r hr => hs_some ⟨kp_w (by decide) hr.1, hr.2.1, by rw [hr.1 7 3 t (by decide)]; exact hp, hv, Or.inr (Or.inl ⟨by omega, Or.inr c5, hr.2.2⟩)⟩)
    unfold L_X7_readNumber_7
    have tn := ti_tn (q_I δ 7 3 t)
    have e48 : (48 : Int32).toInt = 48 := rfl
    have e57 : (57 : Int32).toInt = 57 := rfl
    have eM : (1000000 : Int32).toInt = 1000000 := rfl
    refine hs_ite (fun c => ?_) (fun c => ?_)
    · have c1 := o_le c
      exact out (fun z => by omega)
    · have c1 := o_nle c
      refine hs_at ob (hs_gd (fun gd => ?_))
      have ix : (q_I δ 7 3 t).toNatClampNeg = p := by omega
      rw [ix]
      refine hs_ite (fun c2 => ?_) (fun c2 => ?_)
      · have c3 := o_lt c2
        exact out (fun z => by have := of_decide_eq_true (show decide _ = true from z.2); omega)
      · have c3 := o_nlt c2
        refine hs_at ob (hs_gd (fun gd2 => ?_))
        refine hs_ite (fun c4 => ?_) (fun c4 => ?_)
        · have c5 := o_lt c4
          exact out (fun z => by have := of_decide_eq_true (show decide _ = true from z.2); omega)
        · have c5 := o_nlt c4
          refine hs_at ob (hs_gd (fun gd3 => ?_))
          have m1 := te_mulr (c := 10) (n := 10) rfl x (by omega) (by omega)
          have m2 := te_add (x * 10) (q_R δ bt p) (by omega) (by omega)
          have m3 := te_subc (c := 48) (n := 48) rfl (x * 10 + q_R δ bt p) (by omega) (by omega)
          refine hs_bind h9_min (fun r hr => ?_)
          obtain ⟨r1, r2⟩ := hr
          rw [r1]
          refine hs_bdv (fun d e => ?_)
          have a1 := te_addc (c := 1) (n := 1) rfl (q_I δ 7 3 t) (by omega) (by omega)
          have dR : q_R d = q_R δ := by rw [e]; rfl
          have hd : p < n ∧ iD (q_R δ bt p) = true := ⟨by omega, by unfold iD; exact decide_eq_true (by omega)⟩
          have es : de (q_R δ bt) n p = de (q_R δ bt) n (p + 1) := rE_s (by omega) hd
          have ev := dV_s (β := q_R δ bt) (n := n) 501 p v (by omega) hd
          rw [es, ev]
          have d5 : q_I d 7 5 t = q_I δ 7 5 t := by rw [e, rI_o (by decide)]
          refine hs_mono (ih (p + 1) (10 * v + ((q_R δ bt p).toInt - 48).toNat) r.1 d (by rw [e, rI_s]; omega) (by rw [e, rI_o (by decide)]; exact hl) (by rw [e, rI_o (by decide)]; exact h4) ?_) (fun q hq => ?_)
          · rcases r2 with ⟨r2, r3⟩ | ⟨r2, r3⟩
            · rw [r2]; omega
            · rw [r2]; omega
          · obtain ⟨h1, h2, h3, h5, h6⟩ := hq
            rw [dR] at h2 h3 h5 h6
            rw [d5] at h6
            exact ⟨kp_w (by decide) (kp_t (kp_I kp_r e) h1), h2, h3, h5, h6⟩
theorem hD_readNumber {N : Nat} {g : gp} {t bt n p : Nat} (hn : n ≤ 500) (ob : q_O g 7 0 t = some bt) {x1 x2 : Int32} {δ : dp} (hp : (q_I δ 7 3 t).toInt = (p : Int)) (hl : (q_I δ 7 2 t).toInt = (n : Int)) : hs (D_X7_readNumber N g t x1 x2 δ) (fun r => kp [(7, 3), (7, 4), (7, 5), (7, 6)] δ r.2 ∧ q_R r.2 = q_R δ ∧ (q_I r.2 7 3 t).toInt = (de (q_R δ bt) n (sp (q_R δ bt) n p) : Int) ∧ (dV (q_R δ bt) n 501 (sp (q_R δ bt) n p) 0 < 1000000 ∧ r.1.toInt = (dV (q_R δ bt) n 501 (sp (q_R δ bt) n p) 0 : Int) ∨ 1000000 ≤ dV (q_R δ bt) n 501 (sp (q_R δ bt) n p) 0 ∧ r.1.toInt = 1000000) ∧ (de (q_R δ bt) n (sp (q_R δ bt) n p) = sp (q_R δ bt) n p ∧ q_I r.2 7 5 t = (if q_I δ 7 5 t = 0 then 1 else q_I δ 7 5 t) ∨ de (q_R δ bt) n (sp (q_R δ bt) n p) ≠ sp (q_R δ bt) n p ∧ (r.1.toInt < x1.toInt ∨ x2.toInt < r.1.toInt) ∧ q_I r.2 7 5 t = (if q_I δ 7 5 t = 0 then 2 else q_I δ 7 5 t) ∨ de (q_R δ bt) n (sp (q_R δ bt) n p) ≠ sp (q_R δ bt) n p ∧ x1.toInt ≤ r.1.toInt ∧ r.1.toInt ≤ x2.toInt ∧ q_I r.2 7 5 t = q_I δ 7 5 t)) := by
  unfold D_X7_readNumber D_X7_ahead
  refine hs_bind (h7_ahead hn ob N p δ hp hl) (fun r hr => ?_)
  obtain ⟨k1, k2, k3, k4, _⟩ := hr
  have k55 := k1 7 5 t (by decide)
  refine hs_mono (h7_readNumber hn ob N (sp (q_R δ bt) n p) 0 0 r.2 k3 (by rw [k1 7 2 t (by decide)]; exact hl) (by rw [k4]; exact k3) (Or.inl ⟨by decide, rfl⟩)) (fun q hq => ?_)
  obtain ⟨h1, h2, h3, h5, h6⟩ := hq
  rw [k2] at h2 h3 h5 h6
  rw [k55] at h6
  exact ⟨kp_w (by decide) (kp_t k1 h1), h2, h3, h5, h6⟩
