/-! the PAST of a house of the class, forward and back -/
/-- what comes or goes when a CHANGE is made again or undone -/
def rpA (M : Int) (R : Nat → Int) (len x : Int) (M1 : Int) (R1 : Nat → Int) : Prop := (RE M R M1 R1 ∧ (len ≤ M ∨ ME M R x)) ∨ (¬ ME M R x ∧ ∃ p : Nat, PL M R x p ∧ IN M R x p M1 R1)
def rpR (M : Int) (R : Nat → Int) (x : Int) (M1 : Int) (R1 : Nat → Int) : Prop := (RE M R M1 R1 ∧ ¬ ME M R x) ∨ ∃ p : Nat, (p : Int) < M ∧ R p = x ∧ DE M R p M1 R1
theorem h2_replay {ad : List Nat} {h : hp} (L : Lay TLx ad h) {δ0 : dp} {N : Nat} (hN : 10000000 ≤ N) {K : Nat} (hK : K < 4) {a b t : Nat} {x2 x3 : Int32} (ka : q_K h.1 a = 3) (hb : q_O h.1 3 0 a = some b) {δ : dp} (I : CI ad h.1 δ0 δ) (S : SR (mM δ a) (mR δ b)) (ht : x2.toInt = (t : Int)) {X f : Int} (hc : cC ad δ K t = 2 * X + (1 - f)) (f01 : f = 0 ∨ f = 1) (X0 : 0 ≤ X) (h3 : x3 = 0 ∨ x3 = 1) : hs (D_X2_replay N h.1 (Ad ad (75 + 6 * K)) a x2 x3 δ) (fun r => fr3 a b δ r ∧ CI ad h.1 δ0 r ∧ q_V r = q_V δ ∧ (((f = 1 ↔ x3 = 0) ∧ rpA (mM δ a) (mR δ b) (q_N h.1 b) X (mM r a) (mR r b)) ∨ (¬ (f = 1 ↔ x3 = 0) ∧ rpR (mM δ a) (mR δ b) X (mM r a) (mR r b)))) := by
  have ix : x2.toNatClampNeg = t := by have := ti_tn x2; omega
  unfold cC at hc
  generalize hv : q_R δ (Ad ad (78 + 6 * K)) t = c at hc
  have bc := ti_b c
  have z2 : (2 : Int32).toInt = 2 := rfl
  have d1 := ti_div (c := 2) (n := 2) rfl (by decide) c (by omega)
  have d2 := te_mulr (c := 2) (n := 2) rfl (c / 2) (by omega) (by omega)
  have d3 := te_sub c (c / 2 * 2) (by omega) (by omega)
  have eX : (c / 2).toInt = X := by omega
  have add : (f = 1 ↔ x3 = 0) → hs ((D_X3_add N h.1 a (c / 2) δ).bind fun r_10 => J_X2_replay_53 N h.1 (Ad ad (75 + 6 * K)) a x2 x3 r_10.2) (fun r => fr3 a b δ r ∧ CI ad h.1 δ0 r ∧ q_V r = q_V δ ∧ (((f = 1 ↔ x3 = 0) ∧ rpA (mM δ a) (mR δ b) (q_N h.1 b) X (mM r a) (mR r b)) ∨ (¬ (f = 1 ↔ x3 = 0) ∧ rpR (mM δ a) (mR δ b) X (mM r a) (mR r b)))) := by
    intro hh
    refine hs_bind (h3_add L hN (x := c / 2) ka hb I S) (fun r hr => ?_)
    obtain ⟨g1, g2, g3, g4⟩ := hr
    rw [eX] at g4
    unfold J_X2_replay_53
    refine hs_some ⟨g1, g2, g3, Or.inl ⟨hh, ?_⟩⟩
    rcases g4 with ⟨_, e, q⟩ | ⟨_, q⟩
    · rw [e]; exact Or.inl ⟨RE.r, q⟩
    · exact Or.inr q
  have rem : ¬ (f = 1 ↔ x3 = 0) → hs ((D_X3_remove N h.1 a (c / 2) δ).bind fun r_10 => J_X2_replay_53 N h.1 (Ad ad (75 + 6 * K)) a x2 x3 r_10.2) (fun r => fr3 a b δ r ∧ CI ad h.1 δ0 r ∧ q_V r = q_V δ ∧ (((f = 1 ↔ x3 = 0) ∧ rpA (mM δ a) (mR δ b) (q_N h.1 b) X (mM r a) (mR r b)) ∨ (¬ (f = 1 ↔ x3 = 0) ∧ rpR (mM δ a) (mR δ b) X (mM r a) (mR r b)))) := by
    intro hh
    refine hs_bind (h3_remove L hN (x := c / 2) ka hb I S) (fun r hr => ?_)
    obtain ⟨g1, g2, g3, g4⟩ := hr
    rw [eX] at g4
    unfold J_X2_replay_53
    refine hs_some ⟨g1, g2, g3, Or.inr ⟨hh, ?_⟩⟩
    rcases g4 with ⟨_, e, q⟩ | ⟨_, q⟩
    · rw [e]; exact Or.inl ⟨RE.r, q⟩
    · exact Or.inr q
  unfold D_X2_replay
  refine hs_at (lk_2 L hK) (hs_gd (fun _ => ?_))
  rw [ix, hv]
  refine hs_ite (fun w => ?_) (fun w => ?_)
  · have w1 : (c - c / 2 * 2).toInt = 0 := by rw [w]; rfl
    have f1 : f = 1 := by omega
    unfold J_X2_replay_16
    refine hs_ite (fun y => ?_) (fun y => ?_)
    · refine hs_at (lk_2 L hK) (hs_gd (fun _ => ?_))
      rw [ix, hv]
      exact rem (fun z => by rw [← y] at z; exact absurd (z.mp f1) (by decide))
    · refine hs_at (lk_2 L hK) (hs_gd (fun _ => ?_))
      rw [ix, hv]
      exact add ⟨fun _ => by rcases h3 with h3 | h3; exact h3; exact absurd h3.symm y, fun _ => f1⟩
  · have w1 : (c - c / 2 * 2).toInt ≠ 0 := fun z => w (i_eq z)
    have f0 : f = 0 := by omega
    unfold J_X2_replay_16
    refine hs_ite (fun y => ?_) (fun y => ?_)
    · refine hs_at (lk_2 L hK) (hs_gd (fun _ => ?_))
      rw [ix, hv]
      exact rem (fun z => by have := z.mpr y.symm; omega)
    · refine hs_at (lk_2 L hK) (hs_gd (fun _ => ?_))
      rw [ix, hv]
      exact add ⟨fun z => by omega, fun z => absurd z.symm y⟩
/-- a row that holds what the first t CHANGES make -/
def SH (T F : Nat → Int) (t : Nat) (M : Int) (R : Nat → Int) : Prop := SR M R ∧ 0 ≤ M ∧ (∀ y, ME M R y ↔ St T F t y) ∧ M = Ct F t
theorem SH.u {T F : Nat → Int} {t : Nat} {M N : Int} {R Q : Nat → Int} (h : SH T F t M R) (g : SH T F t N Q) : RE M R N Q := rows_u h.1 g.1 h.2.1 g.2.1 (fun y => (h.2.2.1 y).trans (g.2.2.1 y).symm)
theorem SH.c {T F : Nat → Int} {t : Nat} {M N : Int} {R Q : Nat → Int} (h : SH T F t M R) (e : RE M R N Q) : SH T F t N Q := ⟨SR_c e h.1, by rw [e.1]; exact h.2.1, fun y => (ME_i e).symm.trans (h.2.2.1 y), by rw [e.1]; exact h.2.2.2⟩
theorem SH_0 {T F : Nat → Int} {M : Int} {R : Nat → Int} (h : M = 0) : SH T F 0 M R := ⟨fun i j _ hj => by omega, by omega, fun y => ⟨fun ⟨i, hi, _⟩ => by omega, fun z => z.elim⟩, h⟩
/-- one CHANGE on -/
theorem SH.f {T F : Nat → Int} {A : Int} {n t : Nat} (V : Vd A T F n) (ht : t < n) {M len N : Int} {R Q : Nat → Int} (h : SH T F t M R) (hl : (t : Int) < len) (g : (F t = 1 ∧ rpA M R len (T t) N Q) ∨ (F t = 0 ∧ rpR M R (T t) N Q)) : SH T F (t + 1) N Q := by
  obtain ⟨h1, h2, h3, h4⟩ := h
  have cl := Ct_le (cm := F) t
  obtain ⟨_, _, v⟩ := V t ht
  rcases g with ⟨f1, g⟩ | ⟨f0, g⟩
  · have nm : ¬ ME M R (T t) := by
      rcases v with ⟨_, v⟩ | ⟨z, _⟩
      · rw [h3]; exact v
      · omega
    rcases g with ⟨_, z | z⟩ | ⟨_, p, P, J⟩
    · omega
    · exact absurd z nm
    · exact ⟨IN_s h1 P nm J, by rw [J.1]; omega, fun y => by rw [St_put f1, ← h3]; exact IN_m P.1 J y, by rw [Ct_put f1, J.1, h4]⟩
  · have mm : ME M R (T t) := by
      rcases v with ⟨z, _⟩ | ⟨_, v⟩
      · omega
      · rw [h3]; exact v
    rcases g with ⟨_, z⟩ | ⟨p, P1, P2, J⟩
    · exact absurd mm z
    · exact ⟨DE_s h1 J, by rw [J.1]; omega, fun y => by rw [St_drop f0, ← h3]; exact DE_m h1 P1 P2 J y, by rw [Ct_drop f0, J.1, h4]⟩
/-- one CHANGE back -/
theorem SH.b {T F : Nat → Int} {A : Int} {n t : Nat} (V : Vd A T F n) (ht : t < n) {M len N : Int} {R Q : Nat → Int} (h : SH T F (t + 1) M R) (hl : (t : Int) + 1 < len) (g : (F t = 0 ∧ rpA M R len (T t) N Q) ∨ (F t = 1 ∧ rpR M R (T t) N Q)) : SH T F t N Q := by
  obtain ⟨h1, h2, h3, h4⟩ := h
  have cl := Ct_le (cm := F) (t + 1)
  obtain ⟨_, _, v⟩ := V t ht
  rcases g with ⟨f0, g⟩ | ⟨f1, g⟩
  · have vm : St T F t (T t) := by
      rcases v with ⟨z, _⟩ | ⟨_, v⟩
      · omega
      · exact v
    have nm : ¬ ME M R (T t) := by rw [h3, St_drop f0]; exact fun z => z.1 rfl
    rcases g with ⟨_, z | z⟩ | ⟨_, p, P, J⟩
    · omega
    · exact absurd z nm
    · rw [Ct_drop f0] at h4
      refine ⟨IN_s h1 P nm J, by rw [J.1]; omega, fun y => ?_, by rw [J.1, h4]; omega⟩
      rw [IN_m P.1 J y, h3, St_drop f0]
      constructor
      · rintro (z | ⟨_, z⟩)
        · rw [z]; exact vm
        · exact z
      · intro z
        by_cases e : y = T t
        · exact Or.inl e
        · exact Or.inr ⟨e, z⟩
  · have vn : ¬ St T F t (T t) := by
      rcases v with ⟨_, v⟩ | ⟨z, _⟩
      · exact v
      · omega
    have mm : ME M R (T t) := by rw [h3, St_put f1]; exact Or.inl rfl
    rcases g with ⟨_, z⟩ | ⟨p, P1, P2, J⟩
    · exact absurd mm z
    · rw [Ct_put f1] at h4
      refine ⟨DE_s h1 J, by rw [J.1]; omega, fun y => ?_, by rw [J.1, h4]; omega⟩
      rw [DE_m h1 P1 P2 J y, h3, St_put f1]
      constructor
      · rintro ⟨a, z | z⟩
        · exact absurd z a
        · exact z
      · intro z
        exact ⟨fun e => vn (by rw [← e]; exact z), Or.inr z⟩
/-- what house K is behind: its CHANGES are those of T, F -/
def HC (ad : List Nat) (A : Int) (T F : Nat → Int) (n : Nat) (δ : dp) (K : Nat) : Prop := Vd A T F n ∧ ∀ i : Nat, i < n → cC ad δ K i = 2 * T i + (1 - F i)
theorem HC.f {ad : List Nat} {A : Int} {T F : Nat → Int} {n : Nat} {δ : dp} {K t : Nat} (h : HC ad A T F n δ K) (ht : t < n) : F t = 0 ∨ F t = 1 := by
  rcases (h.1 t ht).2.2 with ⟨z, _⟩ | ⟨z, _⟩ <;> omega
/-- the PAST laid into row b -/
theorem h2_fill {ad : List Nat} {h : hp} (L : Lay TLx ad h) {δ0 : dp} {N : Nat} (hN : 10000000 ≤ N) {K : Nat} (hK : K < 4) {a b : Nat} {x2 : Int32} (ka : q_K h.1 a = 3) (hb : q_O h.1 3 0 a = some b) (nb : b ≠ Ad ad (78 + 6 * K)) (ln : q_N h.1 b = 2000) {A : Int} {T F : Nat → Int} {n : Nat} (hn : n ≤ 1000) (h2 : x2.toInt ≤ (n : Int)) : ∀ (m t : Nat) (x3 : Int32) (δ : dp), x3.toInt = (t : Int) → (t : Int) ≤ x2.toInt → CI ad h.1 δ0 δ → HC ad A T F n δ K → SH T F t (mM δ a) (mR δ b) → hs (L_X2_fillPast_6 N h.1 (Ad ad (75 + 6 * K)) a x2 m x3 δ) (fun r => fr3 a b δ r ∧ CI ad h.1 δ0 r ∧ SH T F x2.toInt.toNat (mM r a) (mR r b)) := by
  intro m
  induction m with
  | zero => intro t x3 δ _ _ _ _ _; exact hs_none
  | succ m ih =>
    intro t x3 δ ht h3 I C S
    unfold L_X2_fillPast_6
    refine hs_ite (fun c => ?_) (fun c => ?_)
    · have c1 := o_le c
      rw [show x2.toInt.toNat = t by omega]
      exact hs_some ⟨fr3.r, I, S⟩
    · have c1 := o_nle c
      have f := C.f (t := t) (by omega)
      refine hs_bind (h2_replay L hN hK (x2 := x3) (x3 := 0) ka hb I S.1 ht (C.2 t (by omega)) f (C.1 t (by omega)).1 (Or.inl rfl)) (fun r hr => ?_)
      obtain ⟨g1, g2, _, g4⟩ := hr
      refine hs_biv (fun w ew => ?_)
      have y1 := te_addc (c := 1) (n := 1) rfl x3 (by omega) (by omega)
      rw [← ew] at y1
      have C2 : HC ad A T F n r K := ⟨C.1, fun i hi => by unfold cC; rw [g1.2 _ nb.symm]; exact C.2 i hi⟩
      refine hs_mono (ih (t + 1) w r (by omega) (by omega) g2 C2 (S.f C.1 (by omega) (len := 2000) (by omega) ?_)) (fun q hq => ⟨g1.t hq.1, hq.2⟩)
      rw [ln] at g4
      rcases g4 with ⟨z, q⟩ | ⟨z, q⟩
      · exact Or.inl ⟨z.mpr rfl, q⟩
      · refine Or.inr ⟨?_, q⟩
        rcases f with f | f
        · exact f
        · exact absurd ⟨fun _ => rfl, fun _ => f⟩ z
theorem hD_fill {ad : List Nat} {h : hp} (L : Lay TLx ad h) {δ0 : dp} {N : Nat} (hN : 10000000 ≤ N) {K : Nat} (hK : K < 4) {a b : Nat} {x2 : Int32} (ka : q_K h.1 a = 3) (hb : q_O h.1 3 0 a = some b) (nb : b ≠ Ad ad (78 + 6 * K)) (ln : q_N h.1 b = 2000) {A : Int} {T F : Nat → Int} {n : Nat} (hn : n ≤ 1000) (h2 : x2.toInt ≤ (n : Int)) (h0 : 0 ≤ x2.toInt) {δ : dp} (I : CI ad h.1 δ0 δ) (C : HC ad A T F n δ K) : hs (D_X2_fillPast N h.1 (Ad ad (75 + 6 * K)) a x2 δ) (fun r => fr3 a b δ r ∧ CI ad h.1 δ0 r ∧ SH T F x2.toInt.toNat (mM r a) (mR r b)) := by
  unfold D_X2_fillPast
  refine hs_bind (hs_and (ok_h (k_X3_clear L hN ka I)) (Q := fun r => fr3 a b δ r) ?_) (fun r hr => ?_)
  · unfold D_X3_clear
    exact hs_bdv (fun d e => hs_some (fr3.M e))
  · obtain ⟨⟨g1, _, g3⟩, g4⟩ := hr
    refine hs_mono (h2_fill L hN hK ka hb nb ln hn h2 N 0 0 r rfl (by omega) g1 ⟨C.1, fun i hi => by unfold cC; rw [g4.2 _ nb.symm]; exact C.2 i hi⟩ (SH_0 g3)) (fun q hq => ⟨g4.t hq.1, hq.2⟩)
/-- house K goes back -/
theorem h2_back {ad : List Nat} {h : hp} (L : Lay TLx ad h) {δ0 : dp} {N : Nat} (hN : 10000000 ≤ N) {K : Nat} (hK : K < 4) {x1 : Int32} {A : Int} {T F : Nat → Int} {n : Nat} (hn : n ≤ 1000) (h0 : 0 ≤ x1.toInt) : ∀ (m t : Nat) (δ : dp), t ≤ n → x1.toInt ≤ (t : Int) → cN ad δ K = (t : Int) → CI ad h.1 δ0 δ → HC ad A T F n δ K → SH T F t (cM ad δ K) (cR ad δ K) → hs (L_X2_goBack_0 N h.1 (Ad ad (75 + 6 * K)) x1 m δ) (fun r => mf ad K δ r ∧ CI ad h.1 δ0 r ∧ cN ad r K = x1.toInt ∧ (∀ i, cC ad r K i = cC ad δ K i) ∧ SH T F x1.toInt.toNat (cM ad r K) (cR ad r K)) := by
  intro m
  induction m with
  | zero => intro t δ _ _ _ _ _ _; exact hs_none
  | succ m ih =>
    intro t δ htn h1 hc I C S
    have hc' : (q_I δ 2 4 (Ad ad (75 + 6 * K))).toInt = (t : Int) := hc
    unfold L_X2_goBack_0
    refine hs_ite (fun c => ?_) (fun c => ?_)
    · have c1 := o_le c
      rw [show x1.toInt.toNat = t by omega]
      exact hs_some ⟨mf.r, I, by rw [hc]; omega, fun _ => rfl, S⟩
    · have c1 := o_nle c
      have t1 := te_subc (c := 1) (n := 1) rfl (q_I δ 2 4 (Ad ad (75 + 6 * K))) (by omega) (by omega)
      refine hs_bdv (fun d e => hs_at (lk_0 L hK) ?_)
      have id : CI ad h.1 δ0 d := by rw [e]; exact cs_2_4 L I (kk_2 L hK) (by omega) (by omega)
      have md : mf ad K δ d := ⟨fun c k a _ _ _ m3 => by rw [e, qI_sI, if_neg m3], fun _ _ _ _ _ => by rw [e]; rfl⟩
      have e24 : (q_I d 2 4 (Ad ad (75 + 6 * K))).toInt = ((t - 1 : Nat) : Int) := by rw [e, rI_s]; omega
      have eM : mM d (Ad ad (76 + 6 * K)) = cM ad δ K := by unfold mM; rw [e, rI_o (by decide)]; rfl
      have eR : mR d (Ad ad (77 + 6 * K)) = cR ad δ K := by funext i; unfold mR; rw [e]; rfl
      have Sd : SH T F t (mM d (Ad ad (76 + 6 * K))) (mR d (Ad ad (77 + 6 * K))) := by rw [eM, eR]; exact S
      have Cd : ∀ i, cC ad d K i = cC ad δ K i := fun i => by unfold cC; rw [e]; rfl
      have f := C.f (t := t - 1) (by omega)
      refine hs_bind (h2_replay L hN hK (x2 := q_I d 2 4 (Ad ad (75 + 6 * K))) (x3 := 1) (kk_3 L hK) (lk_r L hK) id Sd.1 e24 (by rw [Cd]; exact C.2 (t - 1) (by omega)) f (C.1 (t - 1) (by omega)).1 (Or.inr rfl)) (fun r hr => ?_)
      obtain ⟨g1, g2, _, g4⟩ := hr
      have mr : mf ad K δ r := md.t ⟨fun c k a _ _ m2 _ => g1.1 c k a m2, fun b _ m1 _ _ => g1.2 b m1⟩
      have r24 : cN ad r K = ((t - 1 : Nat) : Int) := by unfold cN; rw [g1.1 2 4 _ (by omega)]; exact e24
      have rC : ∀ i, cC ad r K i = cC ad δ K i := fun i => by rw [← Cd]; unfold cC; rw [g1.2 _ (ad_ne L (by omega) (by omega) (by omega))]
      rw [show t = (t - 1) + 1 by omega] at Sd
      rw [lk_n L hK] at g4
      have Sr : SH T F (t - 1) (cM ad r K) (cR ad r K) := by
        refine Sd.b C.1 (by omega) (len := 2000) (by omega) ?_
        rcases g4 with ⟨z, q⟩ | ⟨z, q⟩
        · refine Or.inl ⟨?_, q⟩
          rcases f with f | f
          · exact f
          · exact absurd (z.mp f) (by decide)
        · refine Or.inr ⟨?_, q⟩
          rcases f with f | f
          · exact absurd ⟨fun y => by omega, fun y => absurd y (by decide)⟩ z
          · exact f
      refine hs_mono (ih (t - 1) r (by omega) (by omega) r24 g2 ⟨C.1, fun i hi => by rw [rC]; exact C.2 i hi⟩ Sr) (fun q hq => ?_)
      obtain ⟨q1, q2, q3, q4, q5⟩ := hq
      exact ⟨mr.t q1, q2, q3, fun i => by rw [q4, rC], q5⟩
