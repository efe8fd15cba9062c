/-! shape: houses and images alike behind it -/
theorem rZ_le {β : Nat → Int32} {n : Nat} : ∀ (k : Nat) (x : PS) (e : Nat), rZ β n k x = .inl e → e ≤ 4 := by
  have sg : ∀ {q : Nat} {f : Nat → PS} {e : Nat}, sG β n q f = .inl e → e ≤ 4 := by
    intro q f e h
    unfold sG at h
    split at h
    · cases h
    · cases h; decide
  have ng : ∀ {q lo hi : Nat} {f : Nat → Nat → PS} {e : Nat}, nG β n q lo hi f = .inl e → e ≤ 4 := by
    intro q lo hi f e h
    unfold nG nM at h
    split at h
    · rename_i k hk
      split at hk
      · cases hk; cases h; decide
      · split at hk
        · cases hk; cases h; decide
        · cases hk
    · exact sg h
  have ug : ∀ {p q : Nat} {f : Nat → Int32 → PS} {e : Nat}, uG β n p q f = .inl e → e ≤ 4 := by
    intro p q f e h
    unfold uG at h
    split at h
    · exact sg h
    · split at h
      · exact sg h
      · cases h; decide
  have cz : ∀ {p q m : Nat} {w u v : Int32} {e : Nat}, cZ β n p q m w u v = .inl e → e ≤ 4 := by
    intro p q m w u v e h
    unfold cZ at h
    split at h
    · split at h
      · cases h; decide
      · exact ng h
    · split at h
      · split at h
        · cases h; decide
        · exact ug h
      · split at h
        · split at h
          · cases h; decide
          · exact ng h
        · cases h; decide
  intro k
  induction k with
  | zero => intro x e h; cases h
  | succ k ih =>
    intro x e h
    unfold rZ at h
    split at h
    · split at h
      · rename_i e' he
        cases h
        exact cz he
      · exact ih _ e h
    · cases h
/-- the class's houses are emptied -/
theorem hl_77h {ad : List Nat} {h : hp} (L : Lay TLx ad h) {δ0 : dp} {N : Nat} (hN : 10000000 ≤ N) {x1 : Int32} : ∀ (m i : Nat) (y : Int32) (δ : dp), y.toInt = (i : Int) → i ≤ 4 → CI ad h.1 δ0 δ → (∀ K, K < i → cM ad δ K = 0 ∧ cN ad δ K = 0) → hs (L_X11_shape_77 N h.1 (Ad ad 0) x1 m y δ) (fun r => ∀ K, K < 4 → cM ad r.2 K = 0 ∧ cN ad r.2 K = 0) := by
  have k0 : q_K h.1 (Ad ad 0) = 11 := (lay_knd L (by decide)).trans (by decide)
  intro m
  induction m with
  | zero => intro i y δ _ _ _ _; exact hs_none
  | succ m ih =>
    intro i y δ hy hi I hz
    have e4 : (4 : Int32).toInt = 4 := rfl
    unfold L_X11_shape_77
    refine hs_ite (fun c => ?_) (fun c => ?_)
    · have c1 := o_le c
      refine hs_bdv (fun d e => ?_)
      have gd : HG true true ad δ d := HG.I HG_r e (by decide) (by decide)
      obtain ⟨b8, o8, q8⟩ := gO_11_8 L k0
      refine hs_at o8 (hs_bind (hf_X4_forget L) (fun d2 h2 => ?_))
      obtain ⟨b9, o9, q9⟩ := gO_11_9 L k0
      refine hs_at o9 (hs_bind (hf_X10_forget L q9) (fun d3 h3 => ?_))
      obtain ⟨b10, o10, q10⟩ := gO_11_10 L k0
      refine hs_at o10 (hs_bind (hf_X0_forget L) (fun d4 h4 => ?_))
      refine hs_at (fO_0_1 L) (hs_some (fun K hK => ?_))
      have s := (csk_G (((gd.t h2).t h3).t h4)).1 K hK
      have := hz K (by omega)
      exact ⟨by show cM ad d4 K = 0; rw [s.1]; exact this.1, by show cN ad d4 K = 0; rw [s.2.2.1]; exact this.2⟩
    · have c1 := o_nle c
      have ty := ti_tn y
      refine hs_at (fO_0_6 L) (hs_gd (fun _ => ?_))
      rw [show y.toNatClampNeg = i by omega]
      refine hs_at (lk_e L (by omega)) ?_
      refine hs_bind (hs_and (ok_h (k_X2_clear L hN (kk_2 L (by omega)) I)) (Q := fun r => (∀ a, a ≠ Ad ad (76 + 6 * i) → q_I r 3 1 a = q_I δ 3 1 a) ∧ (∀ a, a ≠ Ad ad (75 + 6 * i) → q_I r 2 4 a = q_I δ 2 4 a) ∧ q_I r 3 1 (Ad ad (76 + 6 * i)) = 0 ∧ q_I r 2 4 (Ad ad (75 + 6 * i)) = 0) ?_) (fun d2 h2 => ?_)
      · unfold D_X2_clear D_X3_clear
        refine hs_at (lk_0 L (by omega)) (hs_bind (P := fun d => d = s_I δ 3 1 (Ad ad (76 + 6 * i)) 0) (hs_bdv (fun d e => hs_some e)) (fun d e => hs_bdv (fun d2 e2 => hs_some ⟨fun a n => ?_, fun a n => ?_, ?_, ?_⟩)))
        · rw [e2, rI_o (by decide), e, qI_sI, if_neg (fun z => n z.2.2)]
        · rw [e2, qI_sI, if_neg (fun z => n z.2.2), e, rI_o (by decide)]
        · rw [e2, rI_o (by decide), e, rI_s]
        · rw [e2, rI_s]
      obtain ⟨⟨i2, _⟩, s1, s2, s3, s4⟩ := h2
      refine hs_biv (fun w ew => ?_)
      have y1 := te_addc (c := 1) (n := 1) rfl y (by omega) (by omega)
      rw [← ew] at y1
      refine ih (i + 1) w d2 (by omega) (by omega) i2 (fun K hK => ?_)
      by_cases z : K = i
      · subst z
        exact ⟨by unfold cM; rw [s3]; rfl, by unfold cN; rw [s4]; rfl⟩
      · have := hz K (by omega)
        exact ⟨by unfold cM; rw [s1 _ (ad_ne L (by omega) (by omega) (by omega))]; exact this.1, by unfold cN; rw [s2 _ (ad_ne L (by omega) (by omega) (by omega))]; exact this.2⟩
set_option maxHeartbeats 4000000 in
theorem hc_shapeH {ad : List Nat} {h : hp} (L : Lay TLx ad h) {δ0 : dp} {N : Nat} (hN : 10000000 ≤ N) {x1 : Int32} {δ : dp} (I : CI ad h.1 δ0 δ) (hβ : ∀ i : Nat, (i : Int) < (q_I δ 7 1 (Ad ad 1)).toInt → 0 ≤ (q_R δ (Ad ad 2) i).toInt) : hs (D_X11_shape N h.1 (Ad ad 0) x1 δ) (fun r => match r.1 with | .inl _ => (match rZ (q_R δ (Ad ad 2)) x1.toInt.toNat 501 (0, 0, 8, 1, 1) with | .inl _ => csk ad δ r.2 | .inr _ => ∀ K, K < 4 → cM ad r.2 K = 0 ∧ cN ad r.2 K = 0) | .inr _ => csk ad δ r.2) := by
  have k0 : q_K h.1 (Ad ad 0) = 11 := (lay_knd L (by decide)).trans (by decide)
  have k1 : q_K h.1 (Ad ad 1) = 7 := (lay_knd L (by decide)).trans (by decide)
  have k3 : q_K h.1 (Ad ad 3) = 5 := (lay_knd L (by decide)).trans (by decide)
  have k4 : q_K h.1 (Ad ad 4) = 6 := (lay_knd L (by decide)).trans (by decide)
  have z0 : (0 : Int32).toInt = 0 := rfl
  have b71 := cb_7_1 I k1
  have no : hs (J_X11_shape_20 N h.1 (Ad ad 0) x1 (Ad ad 0) δ) (fun r => match r.1 with | .inl _ => (match rZ (q_R δ (Ad ad 2)) x1.toInt.toNat 501 (0, 0, 8, 1, 1) with | .inl _ => csk ad δ r.2 | .inr _ => ∀ K, K < 4 → cM ad r.2 K = 0 ∧ cN ad r.2 K = 0) | .inr _ => csk ad δ r.2) := by
    unfold J_X11_shape_20 J_X11_shape_21
    refine hs_bxv (hc_need L (x1 := 0)) (fun n d hd => ?_) (fun d hd => ?_)
    · rcases hd with ⟨z, _⟩ | ⟨_, z, _⟩
      · cases z
      · exact csk_m L z
    · rcases hd with ⟨_, _, z⟩ | ⟨z, _⟩
      · exact absurd rfl z
      · cases z
  unfold D_X11_shape
  refine hs_ite (fun _ => no) (fun c1 => ?_)
  have c2 := o_nlt c1
  refine hs_at (fO_0_0 L) (hs_ite (fun _ => no) (fun c3 => ?_))
  have c4 := o_nlt c3
  unfold J_X11_shape_21
  refine hs_bxv (hs_and (ok_h (k_X11_need L hN (x1 := 1) k0 I)) (hf_X11_need L (x1 := 1) k0)) (fun n d hd => ?_) (fun d hd => ?_)
  · exact csk_G hd.2
  obtain ⟨⟨id, ⟨ud, _⟩, _⟩, gd⟩ := hd
  have r2 : ∀ e, CI ad h.1 δ0 e → q_R e (Ad ad 2) = q_R δ (Ad ad 2) := fun e ie => (ie.2.2.2.2 2 (Or.inr rfl) (by decide)).trans (I.2.2.2.2 2 (Or.inr rfl) (by decide)).symm
  refine hs_at (fO_0_0 L) (hs_bind (hs_and (hs_and (ok_h (k_X7_open L hN (x1 := x1) k1 (by omega) (by omega) id)) (hf_X7_open L)) (Q := fun r => q_I r 7 2 (Ad ad 1) = x1 ∧ (q_I r 7 3 (Ad ad 1)).toInt = 0) ?_) (fun e he => ?_))
  · unfold D_X7_open
    refine hs_bdv (fun d1 e1 => hs_bdv (fun d2 e2 => hs_bdv (fun d3 e3 => hs_bdv (fun d4 e4 => hs_bdv (fun d5 e5 => hs_some ⟨?_, ?_⟩)))))
    · rw [e5, rI_o (by decide), e4, rI_o (by decide), e3, rI_o (by decide), e2, rI_s]
    · rw [e5, rI_o (by decide), e4, rI_o (by decide), e3, rI_s]; rfl
  obtain ⟨⟨⟨ie, ⟨ue, _, _⟩, e5, _⟩, ge⟩, e2, e3⟩ := he
  refine hs_at (fO_0_2 L) (hs_at (fO_0_0 L) ?_)
  have nb : Ad ad 2 ≠ Ad ad 5 := ad_ne L (by decide) (by decide) (by decide)
  refine hs_bind (hs_and (hs_and (ok_h (k_X6_read L hN k4 k1 ie)) (hf_X6_read L k4)) (hD_read6 (n := x1.toInt.toNat) (by omega) (fO_1_0 L) (fO_4_3 L) nb (fun j hj => by rw [r2 e ie]; exact hβ j (by omega)) e3 (by rw [e2]; omega) (i_eq e5))) (fun f hf => ?_)
  obtain ⟨⟨⟨jf, ⟨uf, _⟩, sf⟩, gf⟩, ce⟩ := hf
  rw [r2 e ie] at ce
  have gK : csk ad δ f := csk_G (v := false) (s := false) (((gd.w (by decide) (by decide)).t (ge.w (by decide) (by decide))).t (gf.w (by decide) (by decide)))
  refine hs_at (fO_0_0 L) ?_
  refine hs_bind (P := fun r => r.2 = f ∧ (r.1 = 1 ∧ q_I f 7 5 (Ad ad 1) = 0 ∨ r.1 = 0 ∧ q_I f 7 5 (Ad ad 1) ≠ 0)) ?_ (fun r hr => ?_)
  · unfold D_X7_isSound J_X7_isSound_12
    exact hs_ite (fun c => hs_gp (fun _ => hs_some ⟨rfl, Or.inl ⟨rfl, c⟩⟩)) (fun c => hs_gp (fun _ => hs_some ⟨rfl, Or.inr ⟨rfl, c⟩⟩))
  obtain ⟨g1, g2⟩ := hr
  rw [g1]
  refine hs_ite (fun c => ?_) (fun c => ?_)
  · refine hs_at (fO_0_0 L) (hs_some ?_)
    rcases g2 with ⟨a, _⟩ | ⟨_, b⟩
    · rw [a] at c; exact absurd c (by decide)
    cases hz : rZ (q_R δ (Ad ad 2)) x1.toInt.toNat 501 (0, 0, 8, 1, 1) with
    | inl k => exact gK
    | inr y =>
      rw [hz] at ce
      exact absurd ce.1 b
  · have f0 : q_I f 7 5 (Ad ad 1) = 0 := by
      rcases g2 with ⟨_, b⟩ | ⟨a, _⟩
      · exact b
      · exact absurd a c
    cases hz : rZ (q_R δ (Ad ad 2)) x1.toInt.toNat 501 (0, 0, 8, 1, 1) with
    | inl k =>
      rw [hz] at ce
      have := ce.1
      rw [f0] at this
      exact absurd (show (0 : Int) = k from this) (by have := ce.2; omega)
    | inr y =>
      obtain ⟨s1, s2, s3, s4⟩ := sf (by rw [f0]; rfl)
      refine hs_at (fO_0_1 L) (hs_at (fO_0_2 L) (hs_bind (ok_h (k_X5_take L hN k3 k4 s1 s2 s3 s4 jf)) (fun q hq => ?_)))
      refine hs_mono (hs_and (hl_77 L hN N 0 0 q rfl (by omega) hq.1) (hl_77h L hN N 0 0 q rfl (by omega) hq.1 (fun K hK => by omega))) (fun r hr => ?_)
      obtain ⟨⟨v, a1, _⟩, hr⟩ := hr
      rw [a1]
      exact hr
/-- the reference's shape: what is thrown, the houses -/
theorem hr_shapeH {ad : List Nat} {h : hp} (L : Lay TLx ad h) {δ0 : dp} {N : Nat} {x1 : Int32} {δ : dp} (I : RI ad h.1 δ0 δ) : hs (D_X12_shape N h.1 (Ad ad 99) x1 δ) (fun r => (0 ≤ x1.toInt ∧ x1.toInt ≤ (q_I δ 12 2 (Ad ad 99)).toInt ∧ q_I r.2 12 0 (Ad ad 99) = 0 ∧ ((r.1 = q_I r.2 12 6 (Ad ad 99) - 10 ∧ q_R r.2 (Ad ad 103) = q_R δ (Ad ad 103) ∧ q_R r.2 (Ad ad 106) = q_R δ (Ad ad 106)) ∨ (r.1 = q_I r.2 12 10 (Ad ad 99) ∧ ∀ K, K < 4 → (q_R r.2 (Ad ad 103) K).toInt = 0 ∧ (q_R r.2 (Ad ad 106) K).toInt = 0))) ∨ ((x1.toInt < 0 ∨ (q_I δ 12 2 (Ad ad 99)).toInt < x1.toInt) ∧ q_I r.2 12 0 (Ad ad 99) = 1 ∧ kr ad [100] δ r.2)) := by
  have ka : q_K h.1 (Ad ad 99) = 12 := (lay_knd L (by decide)).trans (by decide)
  have z0 : (0 : Int32).toInt = 0 := rfl
  unfold D_X12_shape
  refine hs_bdv (fun d e => ?_)
  have t0 : q_I d 12 0 (Ad ad 99) = 0 := by rw [e]; exact rI_s
  have dR : q_R d = q_R δ := by rw [e]; rfl
  have d2 : q_I d 12 2 (Ad ad 99) = q_I δ 12 2 (Ad ad 99) := by rw [e, rI_o (by decide)]
  have kr1 : ∀ {q}, kr ad [100] d q → kr ad [100] δ q := fun k i a b c => by rw [k i a b c, dR]
  have no : x1.toInt < 0 ∨ (q_I δ 12 2 (Ad ad 99)).toInt < x1.toInt → hs (J_X12_shape_22 N h.1 (Ad ad 99) x1 (Ad ad 99) d) (fun r => (0 ≤ x1.toInt ∧ x1.toInt ≤ (q_I δ 12 2 (Ad ad 99)).toInt ∧ q_I r.2 12 0 (Ad ad 99) = 0 ∧ ((r.1 = q_I r.2 12 6 (Ad ad 99) - 10 ∧ q_R r.2 (Ad ad 103) = q_R δ (Ad ad 103) ∧ q_R r.2 (Ad ad 106) = q_R δ (Ad ad 106)) ∨ (r.1 = q_I r.2 12 10 (Ad ad 99) ∧ ∀ K, K < 4 → (q_R r.2 (Ad ad 103) K).toInt = 0 ∧ (q_R r.2 (Ad ad 106) K).toInt = 0))) ∨ ((x1.toInt < 0 ∨ (q_I δ 12 2 (Ad ad 99)).toInt < x1.toInt) ∧ q_I r.2 12 0 (Ad ad 99) = 1 ∧ kr ad [100] δ r.2)) := by
    intro hx
    unfold J_X12_shape_22 J_X12_shape_23
    refine hs_bind (hr_may L (x1 := 0) (x2 := 1) (x3 := 2) ka t0 (by decide)) (fun r hr => ?_)
    rcases hr with ⟨z, _⟩ | ⟨_, g1, g2, g3⟩
    · exact absurd rfl z
    · rw [g1]
      exact hs_ite (fun _ => hs_some (Or.inr ⟨hx, g2, kr1 g3⟩)) (fun z => absurd rfl z)
  refine hs_ite (fun c => no (by have := o_lt c; omega)) (fun c1 => ?_)
  rw [d2]
  refine hs_ite (fun c => no (by have := o_lt c; omega)) (fun c2 => ?_)
  have c3 := o_nlt c1
  have c4 := o_nlt c2
  unfold J_X12_shape_23
  refine hs_bind (hr_may L (x1 := 1) (x2 := 1) (x3 := 2) ka t0 (by decide)) (fun r hr => ?_)
  rcases hr with ⟨_, g1, g2⟩ | ⟨z, _⟩
  · rw [g1, g2]
    refine hs_ite (fun z => absurd z (by decide)) (fun _ => ?_)
    refine hs_bind (hf_X12_begins L) (fun q hq => ?_)
    refine hs_mono (hl_X12_shape_49 L N 8 1 1 0 q) (fun r hr => ?_)
    obtain ⟨f1, f2⟩ := FIN_t hq hr
    refine Or.inl ⟨by omega, by omega, by rw [f1]; exact t0, ?_⟩
    rw [dR] at f2
    exact f2
  · exact absurd z (by decide)
theorem HE_0 {ad : List Nat} {A : Int} {δ : dp} {K : Nat} (c1 : cM ad δ K = 0) (c2 : cN ad δ K = 0) (r1 : hM ad δ K = 0) (r2 : hN ad δ K = 0) : HE ad A δ K := by
  unfold HE
  rw [c1, c2, r1, r2]
  refine ⟨⟨rfl, fun i hi => by omega⟩, rfl, Int.le_refl _, fun i j _ hj => by omega, Int.le_refl _, fun i hi => by omega, fun t ht => absurd ht (by show ¬ t < (0 : Int).toNat; omega), fun y => ⟨fun ⟨i, hi, _⟩ => by omega, fun z => z.elim⟩, rfl⟩
/-- shape -/
theorem stepS2 {ad : List Nat} {h : hp} (L : Lay TLx ad h) {N : Nat} (hN : 10000000 ≤ N) (kx : q_K h.1 (Ad ad 0) = 11) (km : q_K h.1 (Ad ad 99) = 12) (no : q_N h.1 (Ad ad 127) = 1) {δ : dp} (V : IY ad h.1 δ) {x : Int32} : ∃ d, (∃ (kk b : Int32) (δ1 : dp), D_L_shape N h.1 (Ad ad 0) x (Ad ad 127) δ = some (kk, δ1) ∧ D_X12_shape N h.1 (Ad ad 99) x δ1 = some (b, d) ∧ q_I d 12 0 (Ad ad 99) = kk ∧ (kk = 0 → q_J d (Ad ad 127) 0 = b.toInt64)) ∧ IY ad h.1 d := by
  obtain ⟨V, X⟩ := V
  obtain ⟨d, ⟨kk, b, δ1, e1, e2, e3⟩, W⟩ := stepS L hN kx km no V (x := x)
  obtain ⟨⟨V1, V2, V3, V4⟩, A⟩ := id V
  have i3 := IY.i3 (ad := ad) km V2
  have hβ : ∀ i : Nat, 0 ≤ (q_R δ (Ad ad 2) i).toInt := fun i => by rw [A.1]; exact A.2.1 i
  obtain ⟨c1, c2⟩ := ok_h (k_L_shape L hN (x1 := x) kx no V1) _ e1
  dsimp only at c1 c2
  have I1 := RI_re V2 c1
  have F := c1.2.2.2.1
  have cls : (0 ≤ x.toInt ∧ x.toInt ≤ (q_I δ 7 1 (Ad ad 1)).toInt ∧ kk = 0 ∧ (∃ v : Int32, q_J δ1 (Ad ad 127) 0 = v.toInt64 ∧ SE ad δ (rZ (q_R δ (Ad ad 2)) x.toInt.toNat 501 (0, 0, 8, 1, 1)) v δ1) ∧ (match rZ (q_R δ (Ad ad 2)) x.toInt.toNat 501 (0, 0, 8, 1, 1) with | .inl _ => csk ad δ δ1 | .inr _ => ∀ K, K < 4 → cM ad δ1 K = 0 ∧ cN ad δ1 K = 0)) ∨ ((x.toInt < 0 ∨ (q_I δ 7 1 (Ad ad 1)).toInt < x.toInt) ∧ kk = 1 ∧ csk ad δ δ1) := by
    have h1 := hL_shape L hN (x := x) kx no V1 (fun i => hβ i) _ e1
    dsimp only at h1
    have h2 : hs (D_L_shape N h.1 (Ad ad 0) x (Ad ad 127) δ) (fun r => (r.1 = 0 → match rZ (q_R δ (Ad ad 2)) x.toInt.toNat 501 (0, 0, 8, 1, 1) with | .inl _ => csk ad δ r.2 | .inr _ => ∀ K, K < 4 → cM ad r.2 K = 0 ∧ cN ad r.2 K = 0) ∧ (r.1 ≠ 0 → csk ad δ r.2)) := by
      unfold D_L_shape
      refine hs_bind (hs_and (ok_h (k_X11_shape L hN (x1 := x) kx V1)) (hc_shapeH L hN (x1 := x) V1 (fun i _ => hβ i))) (fun r hr => ?_)
      obtain ⟨⟨_, _, q1⟩, q2⟩ := hr
      obtain ⟨v | n, q⟩ := r
      · dsimp only at q2 ⊢
        exact hs_gd (fun _ => hs_some ⟨fun _ => q2, fun z => absurd rfl z⟩)
      · dsimp only at q1 q2 ⊢
        have e : n = 2 := q1.1
        subst e
        exact hs_gd (fun _ => hs_gd (fun _ => hs_some ⟨fun z => absurd z (by decide : ¬ ((1 : Int32) = 0)), fun _ => q2⟩))
    have h3 := h2 _ e1
    dsimp only at h3
    rcases h1 with ⟨a1, a2, a3, a4⟩ | ⟨a1, a2, _⟩
    · exact Or.inl ⟨a1, a2, a3, a4, h3.1 a3⟩
    · exact Or.inr ⟨a1, a2, h3.2 (by rw [a2]; decide)⟩
  obtain ⟨r1, ⟨u, _, w⟩, _⟩ := ok_h (k_X12_shape L hN (x1 := x) km I1) _ e2
  dsimp only at r1 u w
  have rs := hr_shape L hN (x1 := x) km I1 _ e2
  have rh := hr_shapeH L (N := N) (x1 := x) I1 _ e2
  dsimp only at rs rh
  obtain ⟨rs1, rs2⟩ := rs
  have e72 : (q_I δ1 12 2 (Ad ad 99)).toInt = (q_I δ 7 1 (Ad ad 1)).toInt := by rw [F 2]; exact V4.symm
  rw [e72] at rs1 rs2 rh
  have eb : q_R δ1 (Ad ad 101) = q_R δ (Ad ad 2) := (c1.2.2.2.2 101 (Or.inl (by decide)) (by decide)).trans A.1.symm
  rw [eb] at rs1
  have K2 := csk_R r1
  have b10 := cb_12_10 r1 km
  have b6 := cb_12_6 r1 km
  have eJ : q_J d = q_J δ1 := congrArg Prod.snd r1.2.2.2.2
  have old : csk ad δ δ1 → q_I d 12 18 (Ad ad 99) = q_I δ1 12 18 (Ad ad 99) → q_I d 12 10 (Ad ad 99) = q_I δ1 12 10 (Ad ad 99) → q_R d (Ad ad 103) = q_R δ1 (Ad ad 103) → q_R d (Ad ad 106) = q_R δ1 (Ad ad 106) → HX ad d := fun c s18 s10 s3 s6 =>
    (X.k i3 c (rsk_C c1)).k (by rw [F 18]; exact i3) K2 ⟨fun k hk => by rcases hk with rfl | rfl; exact s10; exact s18, bak_k (w 102 (by decide) (by decide) (by decide)) s3, fun i a b => by
      by_cases z : i = 106
      · rw [z]; exact s6
      · exact w i (by omega) (by omega) (by simp only [List.mem_cons, List.not_mem_nil, or_false]; omega)⟩
  have fin : q_I d 12 0 (Ad ad 99) = kk ∧ HX ad d := by
    rcases cls with ⟨x0, x1, k0, ⟨v, jv, se⟩, hh⟩ | ⟨xo, k1, hh⟩
    · rcases rh with ⟨_, _, t0, fh⟩ | ⟨z, _⟩
      · have rf := rs1 ⟨x0, x1⟩
        refine ⟨by rw [t0, k0], ?_⟩
        cases hz : rZ (q_R δ (Ad ad 2)) x.toInt.toNat 501 (0, 0, 8, 1, 1) with
        | inl k =>
          rw [hz] at se rf hh
          have kl := rZ_le _ _ _ hz
          obtain ⟨f1, f2, _, _, f5⟩ := rf
          dsimp only at f1 f2 f5
          rcases fh with ⟨_, s3, s6⟩ | ⟨s1, _⟩
          · exact old hh f5 f2 s3 s6
          · rw [s1] at f1; exfalso; omega
        | inr y =>
          rw [hz] at se rf hh
          obtain ⟨f1, f2, _, _, f5⟩ := rf
          dsimp only at f1 f2 f5
          rcases fh with ⟨s1, _⟩ | ⟨_, s2⟩
          · have t6 := te_subc (c := 10) (n := 10) rfl (q_I d 12 6 (Ad ad 99)) (by omega) (by omega)
            have : (q_I d 12 10 (Ad ad 99)).toInt = (q_I d 12 6 (Ad ad 99)).toInt - 10 := by rw [f2, ← f1, s1]; exact t6.1
            exfalso; omega
          · refine ⟨fun K hK => ?_, fun j hj => by rw [f5] at hj; exact absurd hj (by show ¬ (j : Int) < 0; omega)⟩
            obtain ⟨q1, q2, q3, q4, _⟩ := K2.1 K hK
            exact HE_0 (by rw [q1]; exact (hh K hK).1) (by rw [q3]; exact (hh K hK).2) (s2 K hK).1 (s2 K hK).2
      · exfalso; omega
    · rcases rh with ⟨z1, z2, _⟩ | ⟨_, t1, kr1⟩
      · exfalso; omega
      · obtain ⟨s10, _, _, s18⟩ := rs2 xo
        exact ⟨by rw [t1, k1], old hh s18 s10 (kr1 103 (by decide) (by decide) (by decide)) (kr1 106 (by decide) (by decide) (by decide))⟩
  exact ⟨d, ⟨kk, b, δ1, e1, e2, fin.1, fun z => by rw [eJ]; exact e3 z⟩, W, fin.2⟩
