/-! the class: refusals, what is asked, put and drop -/
/-- nothing but row 59 (refusals), counts of touches and a THIEF's scratch has changed -/
def csm (ad : List Nat) (δ δ1 : dp) : Prop := (∀ c k a, c ≠ 1 → c ≠ 4 → q_I δ1 c k a = q_I δ c k a) ∧ ∀ b, b ≠ Ad ad 59 → q_R δ1 b = q_R δ b
theorem csm.r {ad : List Nat} {δ : dp} : csm ad δ δ := ⟨fun _ _ _ _ _ => rfl, fun _ _ => rfl⟩
theorem hc_59 {ad : List Nat} {h : hp} (L : Lay TLx ad h) : q_O h.1 11 13 (Ad ad 0) = some (Ad ad 59) := fO_0_13 L
theorem hc_needHouse {ad : List Nat} {h : hp} (L : Lay TLx ad h) {N : Nat} {x1 : Int32} {δ : dp} : hs (D_X11_needHouse N h.1 (Ad ad 0) x1 δ) (fun r => (r.1 = .inl () ∧ r.2 = δ ∧ ∃ H : Nat, H < 4 ∧ x1.toInt = (H : Int)) ∨ (r.1 = .inr 0 ∧ csm ad δ r.2 ∧ (x1.toInt < 0 ∨ 3 < x1.toInt))) := by
  have z0 : (0 : Int32).toInt = 0 := rfl
  have z4 : (4 : Int32).toInt = 4 := rfl
  have J : (x1.toInt < 0 ∨ 3 < x1.toInt) → hs (J_X11_needHouse_9 N h.1 (Ad ad 0) x1 δ) (fun r => (r.1 = .inl () ∧ r.2 = δ ∧ ∃ H : Nat, H < 4 ∧ x1.toInt = (H : Int)) ∨ (r.1 = .inr 0 ∧ csm ad δ r.2 ∧ (x1.toInt < 0 ∨ 3 < x1.toInt))) := by
    intro hx
    unfold J_X11_needHouse_9
    exact hs_at (hc_59 L) (hs_gd (fun _ => hs_gd (fun _ => hs_bdv (fun d e => hs_some (Or.inr ⟨rfl, ⟨fun c k a _ _ => by rw [e]; rfl, fun b n => by rw [e]; exact rR_o n⟩, hx⟩)))))
  unfold D_X11_needHouse
  refine hs_ite (fun c => ?_) (fun c => ?_)
  · have c1 := o_lt c
    exact J (by omega)
  · have c1 := o_nlt c
    refine hs_ite (fun d => ?_) (fun d => ?_)
    · have d1 := o_lt d
      exact hs_some (Or.inl ⟨rfl, rfl, x1.toInt.toNat, by omega, by omega⟩)
    · have d1 := o_nlt d
      exact J (by omega)
theorem hc_need {ad : List Nat} {h : hp} (L : Lay TLx ad h) {N : Nat} {x1 : Int32} {δ : dp} : hs (D_X11_need N h.1 (Ad ad 0) x1 δ) (fun r => (r.1 = .inl () ∧ r.2 = δ ∧ x1 ≠ 0) ∨ (r.1 = .inr 2 ∧ csm ad δ r.2 ∧ x1 = 0)) := by
  unfold D_X11_need
  refine hs_ite (fun c => ?_) (fun c => hs_some (Or.inl ⟨rfl, rfl, c⟩))
  exact hs_at (hc_59 L) (hs_gd (fun _ => hs_gd (fun _ => hs_bdv (fun d e => hs_some (Or.inr ⟨rfl, ⟨fun c k a _ _ => by rw [e]; rfl, fun b n => by rw [e]; exact rR_o n⟩, c⟩)))))
/-- 2 to the W, of the class -/
abbrev scA (ad : List Nat) (δ : dp) : Int := ((1 : Int32) <<< (q_I δ 5 0 (Ad ad 3) &&& 31)).toInt
theorem scA_b {ad : List Nat} {h : hp} (L : Lay TLx ad h) {δ0 δ : dp} (I : CI ad h.1 δ0 δ) : 4 ≤ scA ad δ ∧ scA ad δ ≤ 65536 := by
  have s := sh_b _ (cb_5_0 I (a := Ad ad 3) ((lay_knd L (by decide)).trans (by decide)))
  exact ⟨s.1, s.2.1⟩
theorem hc_isNumber {ad : List Nat} {h : hp} (L : Lay TLx ad h) {δ0 : dp} {N : Nat} {x1 : Int32} {δ : dp} (I : CI ad h.1 δ0 δ) : hs (D_X11_isNumber N h.1 (Ad ad 0) x1 δ) (fun r => r.2 = δ ∧ ((r.1 = 1 ∧ 0 ≤ x1.toInt ∧ x1.toInt < scA ad δ) ∨ (r.1 = 0 ∧ (x1.toInt < 0 ∨ scA ad δ ≤ x1.toInt)))) := by
  have z0 : (0 : Int32).toInt = 0 := rfl
  have ab := scA_b L I
  have eA : scA ad δ = ((1 : Int32) <<< (q_I δ 5 0 (Ad ad 3) &&& 31)).toInt := rfl
  rw [eA] at ab ⊢
  have t1 := te_subc (c := 1) (n := 1) rfl ((1 : Int32) <<< (q_I δ 5 0 (Ad ad 3) &&& 31)) (by omega) (by omega)
  unfold D_X11_isNumber J_X11_isNumber_19 J_X11_isNumber_20
  refine hs_ite (fun c => ?_) (fun c => ?_)
  · have c1 := o_lt c
    exact hs_gp (fun _ => hs_some ⟨rfl, Or.inr ⟨rfl, by omega⟩⟩)
  · have c1 := o_nlt c
    refine hs_at (fO_0_1 L) ?_
    unfold D_X5_greatest
    rw [Option.bind_some]
    refine hs_ite (fun d => ?_) (fun d => ?_)
    · have d1 := o_lt d
      dsimp only at d1
      exact hs_gp (fun _ => hs_some ⟨rfl, Or.inr ⟨rfl, by omega⟩⟩)
    · have d1 := o_nlt d
      dsimp only at d1
      exact hs_gp (fun _ => hs_some ⟨rfl, Or.inl ⟨rfl, by omega, by omega⟩⟩)
theorem hc_needNumber {ad : List Nat} {h : hp} (L : Lay TLx ad h) {δ0 : dp} {N : Nat} {x1 : Int32} {δ : dp} (I : CI ad h.1 δ0 δ) : hs (D_X11_needNumber N h.1 (Ad ad 0) x1 δ) (fun r => (r.1 = .inl () ∧ r.2 = δ ∧ 0 ≤ x1.toInt ∧ x1.toInt < scA ad δ) ∨ (r.1 = .inr 2 ∧ csm ad δ r.2 ∧ (x1.toInt < 0 ∨ scA ad δ ≤ x1.toInt))) := by
  unfold D_X11_needNumber
  refine hs_bind (hc_isNumber L (x1 := x1) I) (fun r hr => ?_)
  obtain ⟨e, hq⟩ := hr
  rw [e]
  refine hs_bxv (hc_need L) (fun n d hn => ?_) (fun d hn => hs_some ?_)
  · rcases hn with ⟨z, _⟩ | ⟨z1, z2, z3⟩
    · cases z
    · rcases hq with ⟨q, _⟩ | ⟨_, q⟩
      · exact absurd (q.symm.trans z3) (by decide)
      · exact Or.inr ⟨z1, z2, q⟩
  · rcases hn with ⟨_, z2, z3⟩ | ⟨z, _⟩
    · rcases hq with ⟨_, q⟩ | ⟨q, _⟩
      · exact Or.inl ⟨rfl, z2, q⟩
      · exact absurd q z3
    · cases z
theorem hc_mayAsk {ad : List Nat} {h : hp} (L : Lay TLx ad h) {δ0 : dp} {N : Nat} {x1 x2 : Int32} {δ : dp} (I : CI ad h.1 δ0 δ) : hs (D_X11_mayAsk N h.1 (Ad ad 0) x1 x2 δ) (fun r => r.2 = δ ∧ ((r.1 = 1 ∧ okA (scA ad δ) x1.toInt x2.toInt) ∨ (r.1 = 0 ∧ ¬ okA (scA ad δ) x1.toInt x2.toInt))) := by
  have z3 : (3 : Int32).toInt = 3 := rfl
  have z4 : (4 : Int32).toInt = 4 := rfl
  have zm : (-1 : Int32).toInt = -1 := by decide
  have ab := scA_b L I
  have eA : scA ad δ = ((1 : Int32) <<< (q_I δ 5 0 (Ad ad 3) &&& 31)).toInt := rfl
  have t1 := te_subc (c := 1) (n := 1) rfl ((1 : Int32) <<< (q_I δ 5 0 (Ad ad 3) &&& 31)) (by omega) (by omega)
  have t2 := te_addc (c := 1) (n := 1) rfl ((1 : Int32) <<< (q_I δ 5 0 (Ad ad 3) &&& 31) - 1) (by omega) (by omega)
  have y : ∀ d, okA (scA ad δ) x1.toInt x2.toInt → d = δ → hs (J_X11_mayAsk_36 N h.1 (Ad ad 0) x1 x2 d) (fun r => r.2 = δ ∧ ((r.1 = 1 ∧ okA (scA ad δ) x1.toInt x2.toInt) ∨ (r.1 = 0 ∧ ¬ okA (scA ad δ) x1.toInt x2.toInt))) := fun d o e => by
    unfold J_X11_mayAsk_36 J_X11_mayAsk_41
    exact hs_gp (fun _ => hs_some ⟨e, Or.inl ⟨rfl, o⟩⟩)
  have n : ∀ d, ¬ okA (scA ad δ) x1.toInt x2.toInt → d = δ → hs (J_X11_mayAsk_40 N h.1 (Ad ad 0) x1 x2 d) (fun r => r.2 = δ ∧ ((r.1 = 1 ∧ okA (scA ad δ) x1.toInt x2.toInt) ∨ (r.1 = 0 ∧ ¬ okA (scA ad δ) x1.toInt x2.toInt))) := fun d o e => by
    unfold J_X11_mayAsk_40 J_X11_mayAsk_41
    exact hs_gp (fun _ => hs_some ⟨e, Or.inr ⟨rfl, o⟩⟩)
  have j18 : (x2.toInt < 0 ∨ scA ad δ ≤ x2.toInt) → ¬ (x1.toInt = 3 ∧ x2.toInt = -1) → hs (J_X11_mayAsk_18 N h.1 (Ad ad 0) x1 x2 δ) (fun r => r.2 = δ ∧ ((r.1 = 1 ∧ okA (scA ad δ) x1.toInt x2.toInt) ∨ (r.1 = 0 ∧ ¬ okA (scA ad δ) x1.toInt x2.toInt))) := fun o m => by
    unfold J_X11_mayAsk_18
    refine hs_ite (fun c => ?_) (fun c => ?_)
    · have c1 := o_eq c
      refine hs_at (fO_0_1 L) ?_
      unfold D_X5_greatest
      rw [Option.bind_some]
      refine hs_ite (fun d => ?_) (fun d => ?_)
      · have d1 := o_eq d
        dsimp only at d1
        exact y _ (by unfold okA; omega) rfl
      · have d1 := o_ne d
        dsimp only at d1
        exact n _ (by unfold okA; omega) rfl
    · have c1 := o_ne c
      exact n _ (by unfold okA; omega) rfl
  unfold D_X11_mayAsk
  refine hs_bind (hc_isNumber L (x1 := x2) I) (fun r hr => ?_)
  obtain ⟨e, hq⟩ := hr
  rw [e]
  rcases hq with ⟨q1, q2⟩ | ⟨q1, q2⟩
  · rw [q1]
    exact hs_ite (fun z => absurd z (by decide)) (fun _ => y _ (Or.inl q2) rfl)
  · rw [q1]
    refine hs_ite (fun _ => ?_) (fun z => absurd rfl z)
    refine hs_ite (fun c => ?_) (fun c => ?_)
    · have c1 := o_eq c
      refine hs_ite (fun d => ?_) (fun d => ?_)
      · have d1 := o_eq d
        exact y _ (by unfold okA; omega) rfl
      · have d1 := o_ne d
        exact j18 q2 (by omega)
    · have c1 := o_ne c
      exact j18 q2 (by omega)
theorem inrc {n m : Nat} (h : (Sum.inr n : Unit ⊕ Nat) = .inr m) : (Sum.inr n : Int32 ⊕ Nat) = .inr m := by cases h; rfl
/-- what put (0) and drop (1) of the class leave -/
def hCP (ad : List Nat) (N : Nat) (g : gp) (call : Int) (x0 x1 x2 : Int32) (δ : dp) (v : Int32 ⊕ Nat) (d : dp) : Prop :=
  ((x1.toInt < 0 ∨ 3 < x1.toInt) ∧ v = .inr 0 ∧ csm ad δ d) ∨
  ∃ H : Nat, H < 4 ∧ x1.toInt = (H : Int) ∧
    (((x2.toInt < 0 ∨ scA ad δ ≤ x2.toInt) ∧ v = .inr 2 ∧ csm ad δ d) ∨
    (0 ≤ x2.toInt ∧ x2.toInt < scA ad δ ∧ ∃ w : Int32, v = .inl w ∧ chA (cM ad δ H) (cR ad δ H) (cN ad δ H) call x2.toInt w.toInt ∧
      ((w.toInt ≠ 1 ∧ csm ad δ d) ∨ (w.toInt = 1 ∧ ∃ (d0 : dp) (tv : Int32) (d1 : dp), csm ad δ d0 ∧ mf ad H d0 d ∧ D_X1_touchesOf N g (Ad ad (80 + 6 * H)) x0 x2 d0 = some (tv, d1) ∧ mk ad H call x2.toInt tv.toInt d0 d))))
theorem csm_forget {ad : List Nat} {N : Nat} {g : gp} {a : Nat} {δ : dp} : hs (D_X4_forget N g a δ) (fun d => csm ad δ d) := by
  unfold D_X4_forget
  exact hs_bdv (fun d e => hs_some ⟨fun c k a n1 n2 => by rw [e]; exact rI_o (fun z => n2 z.1), fun b _ => by rw [e]; rfl⟩)
theorem hc_put {ad : List Nat} {h : hp} (L : Lay TLx ad h) {δ0 : dp} {N : Nat} (hN : 10000000 ≤ N) {x1 x2 : Int32} {δ : dp} (I : CI ad h.1 δ0 δ) (S : ∀ K, K < 4 → SR (cM ad δ K) (cR ad δ K)) : hs (D_X11_put N h.1 (Ad ad 0) x1 x2 δ) (fun r => hCP ad N h.1 0 0 x1 x2 δ r.1 r.2) := by
  have ab := scA_b L I
  unfold D_X11_put
  refine hs_bxv (hc_needHouse L (x1 := x1)) (fun n d hn => ?_) (fun d hn => ?_)
  · rcases hn with ⟨z, _⟩ | ⟨z1, z2, z3⟩
    · cases z
    · exact Or.inl ⟨z3, inrc z1, z2⟩
  rcases hn with ⟨_, e, H, hH, hx⟩ | ⟨z, _⟩
  rotate_left
  · cases z
  dsimp only at e
  subst e
  refine hs_bxv (hc_needNumber L (x1 := x2) I) (fun n d1 hn => ?_) (fun d1 hn => ?_)
  · rcases hn with ⟨z, _⟩ | ⟨z1, z2, z3⟩
    · cases z
    · exact Or.inr ⟨H, hH, hx, Or.inl ⟨z3, inrc z1, z2⟩⟩
  rcases hn with ⟨_, e, v1, v2⟩ | ⟨z, _⟩
  rotate_left
  · cases z
  dsimp only at e
  subst e
  refine hs_at (fO_0_8 L) (hs_bind (hs_and (csm_forget (ad := ad)) (ok_h (k_X4_forget L hN (a0 := Ad ad 13) ((lay_knd L (by decide)).trans (by decide)) I))) (fun r9 h9 => ?_))
  obtain ⟨f1, I9, _⟩ := h9
  have tx : x1.toNatClampNeg = H := tnH hx
  refine hs_at (fO_0_6 L) (hs_gd (fun _ => ?_))
  rw [tx]
  refine hs_at (lk_e L hH) ?_
  have eM : cM ad r9 H = cM ad d1 H := by unfold cM; rw [f1.1 3 1 _ (by decide) (by decide)]
  have eR : cR ad r9 H = cR ad d1 H := by funext i; unfold cR; rw [f1.2 _ (ad_ne L (by omega) (by decide) (by omega))]
  have eN : cN ad r9 H = cN ad d1 H := by unfold cN; rw [f1.1 2 4 _ (by decide) (by decide)]
  refine hs_bind (h2_change L hN hH (x1 := 0) (x2 := x2) I9 (by rw [eM, eR]; exact S H hH) (by decide) (by decide) v1 (by omega)) (fun r hr => hs_some ?_)
  obtain ⟨g1, g2⟩ := hr
  rw [eM, eR, eN] at g1
  refine Or.inr ⟨H, hH, hx, Or.inr ⟨v1, v2, r.1, rfl, g1, ?_⟩⟩
  rcases g2 with ⟨n1, e⟩ | ⟨n1, m1, t, d2, m2, m3⟩
  · exact Or.inl ⟨n1, by rw [e]; exact f1⟩
  · exact Or.inr ⟨n1, r9, t, d2, f1, m1, m2, m3⟩
theorem hc_drop {ad : List Nat} {h : hp} (L : Lay TLx ad h) {δ0 : dp} {N : Nat} (hN : 10000000 ≤ N) {x1 x2 : Int32} {δ : dp} (I : CI ad h.1 δ0 δ) (S : ∀ K, K < 4 → SR (cM ad δ K) (cR ad δ K)) : hs (D_X11_drop N h.1 (Ad ad 0) x1 x2 δ) (fun r => hCP ad N h.1 1 1 x1 x2 δ r.1 r.2) := by
  have ab := scA_b L I
  unfold D_X11_drop
  refine hs_bxv (hc_needHouse L (x1 := x1)) (fun n d hn => ?_) (fun d hn => ?_)
  · rcases hn with ⟨z, _⟩ | ⟨z1, z2, z3⟩
    · cases z
    · exact Or.inl ⟨z3, inrc z1, z2⟩
  rcases hn with ⟨_, e, H, hH, hx⟩ | ⟨z, _⟩
  rotate_left
  · cases z
  dsimp only at e
  subst e
  refine hs_bxv (hc_needNumber L (x1 := x2) I) (fun n d1 hn => ?_) (fun d1 hn => ?_)
  · rcases hn with ⟨z, _⟩ | ⟨z1, z2, z3⟩
    · cases z
    · exact Or.inr ⟨H, hH, hx, Or.inl ⟨z3, inrc z1, z2⟩⟩
  rcases hn with ⟨_, e, v1, v2⟩ | ⟨z, _⟩
  rotate_left
  · cases z
  dsimp only at e
  subst e
  refine hs_at (fO_0_8 L) (hs_bind (hs_and (csm_forget (ad := ad)) (ok_h (k_X4_forget L hN (a0 := Ad ad 13) ((lay_knd L (by decide)).trans (by decide)) I))) (fun r9 h9 => ?_))
  obtain ⟨f1, I9, _⟩ := h9
  have tx : x1.toNatClampNeg = H := tnH hx
  refine hs_at (fO_0_6 L) (hs_gd (fun _ => ?_))
  rw [tx]
  refine hs_at (lk_e L hH) ?_
  have eM : cM ad r9 H = cM ad d1 H := by unfold cM; rw [f1.1 3 1 _ (by decide) (by decide)]
  have eR : cR ad r9 H = cR ad d1 H := by funext i; unfold cR; rw [f1.2 _ (ad_ne L (by omega) (by decide) (by omega))]
  have eN : cN ad r9 H = cN ad d1 H := by unfold cN; rw [f1.1 2 4 _ (by decide) (by decide)]
  refine hs_bind (h2_change L hN hH (x1 := 1) (x2 := x2) I9 (by rw [eM, eR]; exact S H hH) (by decide) (by decide) v1 (by omega)) (fun r hr => hs_some ?_)
  obtain ⟨g1, g2⟩ := hr
  rw [eM, eR, eN] at g1
  refine Or.inr ⟨H, hH, hx, Or.inr ⟨v1, v2, r.1, rfl, g1, ?_⟩⟩
  rcases g2 with ⟨n1, e⟩ | ⟨n1, m1, t, d2, m2, m3⟩
  · exact Or.inl ⟨n1, by rw [e]; exact f1⟩
  · exact Or.inr ⟨n1, r9, t, d2, f1, m1, m2, m3⟩
