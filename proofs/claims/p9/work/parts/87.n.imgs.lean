/-! image and restore: houses and images alike behind them -/
theorem le_i {ad : List Nat} {h : hp} (L : Lay TLx ad h) {J : Nat} (hJ : J < 3) : q_E h.1 (Ad ad 55) J = some (Ad ad (56 + J)) := by
  rcases (show J = 0 ∨ J = 1 ∨ J = 2 by omega) with rfl | rfl | rfl
  · exact fE_55_0 L
  · exact fE_55_1 L
  · exact fE_55_2 L
theorem IEa.r {n m M M2 : Int} {T F T1 F1 R T2 F2 R2 : Nat → Int} (h : IEa n T F m T1 F1 M R) (eT : ∀ i : Nat, (i : Int) < m → T2 i = T1 i ∧ F2 i = F1 i) (eR : RE M R M2 R2) : IEa n T F m T2 F2 M2 R2 := by
  obtain ⟨h1, h2, h3, h4, h5, h6, h7⟩ := h
  exact ⟨h1, h2, fun i hi => ⟨(eT i hi).1.trans (h3 i hi).1, (eT i hi).2.trans (h3 i hi).2⟩, SR_c eR h4, by rw [eR.1]; exact h5, fun y => (ME_i eR).symm.trans (h6 y), by rw [eR.1]; exact h7⟩
theorem IEa.S {n m M : Int} {T F T1 F1 R : Nat → Int} (h : IEa n T F m T1 F1 M R) : SH T F m.toNat M R := ⟨h.2.2.2.1, h.2.2.2.2.1, h.2.2.2.2.2.1, h.2.2.2.2.2.2⟩
/-- the class's image -/
theorem ic_12 {ad : List Nat} {h : hp} (L : Lay TLx ad h) {N J : Nat} (hJ : J ≤ 2) : ∀ (m i : Nat) (x : Int32) (δ : dp), x.toInt = (i : Int) → i ≤ 4 → (q_I δ 11 12 (Ad ad 0)).toInt = (J : Int) → hs (L_X11_image_12 N h.1 (Ad ad 0) m x δ) (fun r => (∀ K, i ≤ K → K < 4 → q_R r.2 (Ad ad (56 + J)) K = q_I δ 2 4 (Ad ad (75 + 6 * K))) ∧ (∀ K, K < i → q_R r.2 (Ad ad (56 + J)) K = q_R δ (Ad ad (56 + J)) K) ∧ (∀ b, b ≠ Ad ad (56 + J) → q_R r.2 b = q_R δ b) ∧ ∀ c k a, ¬ (c = 11 ∧ k = 12) → q_I r.2 c k a = q_I δ c k a) := by
  intro m
  induction m with
  | zero => intro i x δ _ _ _; exact hs_none
  | succ m ih =>
    intro i x δ ex hi hq
    have e4 : (4 : Int32).toInt = 4 := rfl
    unfold L_X11_image_12
    refine hs_ite (fun c => ?_) (fun c => ?_)
    · have c1 := o_le c
      refine hs_bdv (fun d e => hs_some ⟨fun K h1 h2 => by omega, fun K _ => by show q_R d _ K = _; rw [e]; rfl, fun b _ => by show q_R d b = _; rw [e]; rfl, fun c k a n => by show q_I d c k a = _; rw [e]; exact rI_o (fun z => n ⟨z.1, z.2⟩)⟩)
    · have c1 := o_nle c
      have t1 := ti_tn (q_I δ 11 12 (Ad ad 0))
      have t2 := ti_tn x
      have i1 : (q_I δ 11 12 (Ad ad 0)).toNatClampNeg = J := by omega
      have i2 : x.toNatClampNeg = i := by omega
      refine hs_at (fO_0_11 L) (hs_gd (fun _ => ?_))
      rw [i1]
      refine hs_at (le_i L (by omega)) (hs_at (fO_0_6 L) (hs_gd (fun _ => ?_)))
      rw [i2]
      refine hs_at (lk_e L (by omega)) (hs_gd (fun _ => hs_bdv (fun d e => hs_biv (fun w ew => ?_))))
      have y1 := te_addc (c := 1) (n := 1) rfl x (by omega) (by omega)
      rw [← ew] at y1
      refine hs_mono (ih (i + 1) w d (by omega) (by omega) (by rw [e]; exact hq)) (fun r hr => ?_)
      obtain ⟨h1, h2, h3, h4⟩ := hr
      refine ⟨fun K a b => ?_, fun K a => ?_, fun b n => by rw [h3 b n, e]; exact rR_o n, fun c k a n => by rw [h4 c k a n, e]; rfl⟩
      · by_cases z : K = i
        · subst z
          rw [h2 K (by omega), sR_at e K, if_pos rfl]
        · rw [h1 K (by omega) b, e]; rfl
      · rw [h2 K (by omega), sR_at e K, if_neg (by omega)]
/-- the reference's image, whole -/
theorem ir_image {ad : List Nat} {h : hp} (L : Lay TLx ad h) {N : Nat} {δ : dp} (i0 : 0 ≤ (q_I δ 12 18 (Ad ad 99)).toInt) (i3 : (q_I δ 12 18 (Ad ad 99)).toInt ≤ 3) : hs (D_X12_image N h.1 (Ad ad 99) δ) (fun r => ((q_I δ 12 18 (Ad ad 99)).toInt = 3 ∧ q_R r.2 = q_R δ) ∨ ∃ J : Nat, J ≤ 2 ∧ (q_I δ 12 18 (Ad ad 99)).toInt = (J : Int) ∧ cpO ad 8000 J 8000 102 107 0 δ r.2 ∧ cpO ad 4000 J 4000 104 109 0 δ r.2 ∧ cpO ad 4000 J 4000 105 110 0 δ r.2 ∧ cpO ad 4 J 4 103 108 0 δ r.2 ∧ cpO ad 4 J 4 106 111 0 δ r.2 ∧ ∀ b, b ≠ Ad ad 107 → b ≠ Ad ad 108 → b ≠ Ad ad 109 → b ≠ Ad ad 110 → b ≠ Ad ad 111 → q_R r.2 b = q_R δ b) := by
  have z3 : (3 : Int32).toInt = 3 := rfl
  have ne : ∀ i j, i < 128 → j < 128 → i ≠ j → Ad ad i ≠ Ad ad j := fun i j a b c => ad_ne L a b c
  unfold D_X12_image
  refine hs_bdv (fun d e => ?_)
  have e18 : q_I d 12 18 (Ad ad 99) = q_I δ 12 18 (Ad ad 99) := by rw [e, rI_o (by decide)]
  have eR : q_R d = q_R δ := by rw [e]; rfl
  rw [e18]
  refine hs_ite (fun c => hs_some (Or.inl ⟨by rw [c]; rfl, eR⟩)) (fun c => ?_)
  have c1 := o_ne c
  have hJ : (q_I d 12 18 (Ad ad 99)).toInt = (((q_I δ 12 18 (Ad ad 99)).toInt.toNat : Nat) : Int) := by rw [e18]; omega
  refine im_image_17 L (J := (q_I δ 12 18 (Ad ad 99)).toInt.toNat) (by omega) N 0 0 d rfl (by omega) hJ (fun r1 p1 q1 I1 => ?_)
  refine im_image_53 L (J := (q_I δ 12 18 (Ad ad 99)).toInt.toNat) (by omega) N 0 0 r1 rfl (by omega) (by rw [I1]; exact hJ) (fun r2 p2 p2' q2 I2 => ?_)
  refine im_image_110 L (J := (q_I δ 12 18 (Ad ad 99)).toInt.toNat) (by omega) N 0 0 r2 rfl (by omega) (by rw [I2, I1]; exact hJ) (fun r3 p3 p3' q3 I3 => ?_)
  refine hs_bdv (fun r4 e4 => hs_some (Or.inr ⟨(q_I δ 12 18 (Ad ad 99)).toInt.toNat, by omega, by omega, fun i => ?_, fun i => ?_, fun i => ?_, fun i => ?_, fun i => ?_, fun b n7 n8 n9 n10 n11 => ?_⟩))
  · show q_R r4 _ i = _
    rw [show q_R r4 = q_R r3 by rw [e4]; rfl, q3 _ (ne _ _ (by decide) (by decide) (by decide)) (ne _ _ (by decide) (by decide) (by decide)), q2 _ (ne _ _ (by decide) (by decide) (by decide)) (ne _ _ (by decide) (by decide) (by decide)), p1 i, eR]
  · show q_R r4 _ i = _
    rw [show q_R r4 = q_R r3 by rw [e4]; rfl, q3 _ (ne _ _ (by decide) (by decide) (by decide)) (ne _ _ (by decide) (by decide) (by decide)), p2 i, q1 _ (ne _ _ (by decide) (by decide) (by decide)), q1 _ (ne _ _ (by decide) (by decide) (by decide)), eR]
  · show q_R r4 _ i = _
    rw [show q_R r4 = q_R r3 by rw [e4]; rfl, q3 _ (ne _ _ (by decide) (by decide) (by decide)) (ne _ _ (by decide) (by decide) (by decide)), p2' i, q1 _ (ne _ _ (by decide) (by decide) (by decide)), q1 _ (ne _ _ (by decide) (by decide) (by decide)), eR]
  · show q_R r4 _ i = _
    rw [show q_R r4 = q_R r3 by rw [e4]; rfl, p3 i, q2 _ (ne _ _ (by decide) (by decide) (by decide)) (ne _ _ (by decide) (by decide) (by decide)), q2 _ (ne _ _ (by decide) (by decide) (by decide)) (ne _ _ (by decide) (by decide) (by decide)), q1 _ (ne _ _ (by decide) (by decide) (by decide)), q1 _ (ne _ _ (by decide) (by decide) (by decide)), eR]
  · show q_R r4 _ i = _
    rw [show q_R r4 = q_R r3 by rw [e4]; rfl, p3' i, q2 _ (ne _ _ (by decide) (by decide) (by decide)) (ne _ _ (by decide) (by decide) (by decide)), q2 _ (ne _ _ (by decide) (by decide) (by decide)) (ne _ _ (by decide) (by decide) (by decide)), q1 _ (ne _ _ (by decide) (by decide) (by decide)), q1 _ (ne _ _ (by decide) (by decide) (by decide)), eR]
  · show q_R r4 b = _
    rw [show q_R r4 = q_R r3 by rw [e4]; rfl, q3 b n8 n11, q2 b n9 n10, q1 b n7, eR]
/-- image -/
theorem HX_img {ad : List Nat} {δ d : dp} {J : Nat} (X : HX ad δ) (hJ : J ≤ 2) (e18 : (q_I δ 12 18 (Ad ad 99)).toInt = (J : Int)) (f18 : (q_I d 12 18 (Ad ad 99)).toInt = (J : Int) + 1) (f10 : q_I d 12 10 (Ad ad 99) = q_I δ 12 10 (Ad ad 99)) (bN : ∀ K, K < 4 → hN ad δ K ≤ 1000) (bM : ∀ K, K < 4 → hM ad δ K ≤ 2000) (bI : ∀ j K, iN ad δ j K ≤ 1000 ∧ iM ad δ j K ≤ 2000)
    (cs : ∀ K, K < 4 → cM ad d K = cM ad δ K ∧ cR ad d K = cR ad δ K ∧ cN ad d K = cN ad δ K ∧ cC ad d K = cC ad δ K) (ci : ∀ K, K < 4 → (q_R d (Ad ad (56 + J)) K).toInt = cN ad δ K) (co : ∀ j, j < 3 → j ≠ J → q_R d (Ad ad (56 + j)) = q_R δ (Ad ad (56 + j)))
    (rs : ∀ i, 102 ≤ i → i < 107 → q_R d (Ad ad i) = q_R δ (Ad ad i)) (p1 : cpO ad 8000 J 8000 102 107 0 δ d) (p2 : cpO ad 4000 J 4000 104 109 0 δ d) (p3 : cpO ad 4000 J 4000 105 110 0 δ d) (p4 : cpO ad 4 J 4 103 108 0 δ d) (p5 : cpO ad 4 J 4 106 111 0 δ d) : HX ad d := by
  obtain ⟨X1, X2⟩ := X
  have eA : shA (Ad ad 99) d = shA (Ad ad 99) δ := by unfold shA; rw [f10]
  have r2 := rs 102 (by decide) (by decide)
  have r3 := rs 103 (by decide) (by decide)
  have r4 := rs 104 (by decide) (by decide)
  have r5 := rs 105 (by decide) (by decide)
  have r6 := rs 106 (by decide) (by decide)
  have eM : ∀ K, hM ad d K = hM ad δ K := fun K => by unfold hM; rw [r3]
  have eR : ∀ K, hR ad d K = hR ad δ K := fun K => by funext i; unfold hR; rw [r2]
  have eT : ∀ K, nT ad d K = nT ad δ K := fun K => by funext i; unfold nT; rw [r4]
  have eF : ∀ K, cF ad d K = cF ad δ K := fun K => by funext i; unfold cF; rw [r5]
  have eN : ∀ K, hN ad d K = hN ad δ K := fun K => by unfold hN; rw [r6]
  refine ⟨fun K hK => ?_, fun j hj K hK => ?_⟩
  · obtain ⟨c1, c2, c3, c4⟩ := cs K hK
    rw [eA]
    unfold HE
    rw [c1, c2, c3, c4, eM, eR, eT, eF, eN]
    exact X1 K hK
  · rw [f18] at hj ⊢
    have oN : ∀ j, j < J → iN ad d j K = iN ad δ j K := fun j hj => by unfold iN; rw [p5, if_neg (by omega)]
    have nN : iN ad d J K = hN ad δ K := by unfold iN; rw [p5, if_pos (by omega), show 4 * J + K - 4 * J = K by omega]; rfl
    by_cases z : j = J
    · subst z
      obtain ⟨h1, h2, h3, h4, h5, h6, h7, h8, h9⟩ := X1 K hK
      have b1 := bN K hK
      have b2 := bM K hK
      rw [nN]
      refine ⟨by rw [ci K hK]; exact h2, ?_, fun j' a b => by omega⟩
      rw [eN, eT, eF]
      refine ⟨h3, Int.le_refl _, fun i hi => ⟨?_, ?_⟩, ?_, ?_, ?_, ?_⟩
      · unfold iT; rw [p2, if_pos (by omega), show 4000 * j + (1000 * K + i) - 4000 * j = 1000 * K + i by omega]; rfl
      · unfold iF; rw [p3, if_pos (by omega), show 4000 * j + (1000 * K + i) - 4000 * j = 1000 * K + i by omega]; rfl
      all_goals
        have q : RE (hM ad δ K) (hR ad δ K) (iM ad d j K) (iR ad d j K) := ⟨by unfold iM; rw [p4, if_pos (by omega), show 4 * j + K - 4 * j = K by omega]; rfl, fun i hi => by unfold iR; rw [p1, if_pos (by omega), show 8000 * j + (2000 * K + i) - 8000 * j = 2000 * K + i by omega]; rfl⟩
      · exact SR_c q h4
      · rw [q.1]; exact h5
      · exact fun y => (ME_i q).symm.trans (h8 y)
      · rw [q.1]; exact h9
    · have jl : j < J := by omega
      obtain ⟨h1, h2, h3⟩ := X2 j (by omega) K hK
      have b1 := bI j K
      rw [oN j jl, co j (by omega) z, eN, eT, eF]
      refine ⟨h1, h2.r (fun i hi => ⟨?_, ?_⟩) ⟨?_, fun i hi => ?_⟩, fun j' a b => ?_⟩
      · unfold iT; rw [p2, if_neg (by omega)]
      · unfold iF; rw [p3, if_neg (by omega)]
      · unfold iM; rw [p4, if_neg (by omega)]
      · unfold iR; rw [p1, if_neg (by omega)]
      · by_cases y : j' = J
        · subst y
          rw [nN]; exact h2.2.1
        · rw [oN j' (by omega)]; exact h3 j' a (by omega)
theorem stepM {ad : List Nat} {h : hp} (L : Lay TLx ad h) {N : Nat} (hNN : 10000000 ≤ N) (kx : q_K h.1 (Ad ad 0) = 11) (km : q_K h.1 (Ad ad 99) = 12) {δ : dp} (V : IY ad h.1 δ) : ∃ d, (∃ (b : Int32) (δ1 : dp), D_X11_image N h.1 (Ad ad 0) δ = some (b, δ1) ∧ D_X12_image N h.1 (Ad ad 99) δ1 = some (b, d)) ∧ IY ad h.1 d := by
  obtain ⟨V, X⟩ := V
  obtain ⟨⟨V1, V2, V3, V4⟩, A⟩ := id V
  obtain ⟨d, ⟨b, δ1, e1, e2⟩, W⟩ := stepI V (P := pIm) (o1 := D_X11_image N h.1 (Ad ad 0) δ) (f := fun δ1 => D_X12_image N h.1 (Ad ad 99) δ1) pIm_u (ok_mono (k_X11_image L hNN kx V1) (fun r hr => ⟨hr.1, by rw [hr.2.1.1 7 1 (Ad ad 1) (by decide)], fun a => ⟨hr.2.1.1 5 0 a (by decide), hr.2.1.1 5 1 a (by decide), hr.2.1.1 5 2 a (by decide)⟩, by have p1 := hr.2.2.1; have p2 := hr.2.2.2; unfold pIm; omega⟩)) (fun δ1 I1 O1 => ok_mono (ok_and (o_image L hNN km I1 O1) (k_X12_image L hNN km I1)) (fun r hr => ⟨hr.1, by have p1 := hr.2.2.2.1; have p2 := hr.2.2.2.2; unfold pIm; omega⟩))
  refine ⟨d, ⟨b, δ1, e1, e2⟩, W, ?_⟩
  obtain ⟨c1, ⟨u1, _⟩, p1, p2⟩ := ok_h (k_X11_image L hNN kx V1) _ e1
  dsimp only at c1 u1 p1 p2
  have I1 := RI_re V2 c1
  have F := c1.2.2.2.1
  have FR := c1.2.2.2.2
  obtain ⟨r1, ⟨u2, _, w2⟩, s1, s2⟩ := ok_h (k_X12_image L hNN km I1) _ e2
  dsimp only at r1 u2 w2 s1 s2
  have b18 := cb_12_18 I1 km
  have ir := ir_image L (N := N) b18.1 b18.2 _ e2
  dsimp only at ir
  have K2 := csk_R r1
  have i3 := IY.i3 (ad := ad) km V2
  have a3 := A.2.2.1
  have z3 : (3 : Int32).toInt = 3 := rfl
  rcases ir with ⟨t3, eR⟩ | ⟨J, hJ, tJ, q1, q2, q3, q4, q5, q6⟩
  · rw [F 18] at t3
    have e11 : δ1 = δ := by
      have : hs (D_X11_image N h.1 (Ad ad 0) δ) (fun r => r.2 = δ) := by
        unfold D_X11_image
        refine hs_ite (fun c => by have := o_lt c; omega) (fun _ => hs_some rfl)
      exact this _ e1
    subst e11
    refine X.k i3 ⟨fun K hK => K2.1 K hK, K2.2⟩ ⟨fun k hk => ?_, bak_k (by rw [eR]) (by rw [eR]), fun i _ _ => by rw [eR]⟩
    rcases hk with rfl | rfl
    · exact u2 12 10 _ (by decide)
    · exact i_eq (s2 (by omega)).2
  · have tJ0 : (q_I δ 12 18 (Ad ad 99)).toInt = (J : Int) := by rw [← F 18]; exact tJ
    have cl : hs (D_X11_image N h.1 (Ad ad 0) δ) (fun r => (∀ K, K < 4 → q_R r.2 (Ad ad (56 + J)) K = q_I δ 2 4 (Ad ad (75 + 6 * K))) ∧ (∀ b, b ≠ Ad ad (56 + J) → q_R r.2 b = q_R δ b) ∧ ∀ c k a, ¬ (c = 11 ∧ k = 12) → q_I r.2 c k a = q_I δ c k a) := by
      unfold D_X11_image
      refine hs_ite (fun c => ?_) (fun c => by have := o_nlt c; omega)
      exact hs_mono (ic_12 L hJ N 0 0 δ rfl (by omega) (by omega)) (fun r hr => ⟨fun K hK => hr.1 K (Nat.zero_le _) hK, hr.2.2.1, hr.2.2.2⟩)
    obtain ⟨g1, g2, g3⟩ := cl _ e1
    dsimp only at g1 g2 g3
    have sm : ∀ K, K < 4 → cM ad δ1 K = cM ad δ K ∧ cR ad δ1 K = cR ad δ K ∧ cN ad δ1 K = cN ad δ K ∧ cC ad δ1 K = cC ad δ K := fun K hK => by
      refine ⟨?_, ?_, ?_, ?_⟩
      · unfold cM; rw [g3 3 1 _ (by decide)]
      · funext i; unfold cR; rw [g2 _ (ad_ne L (by omega) (by omega) (by omega))]
      · unfold cN; rw [g3 2 4 _ (by decide)]
      · funext i; unfold cC; rw [g2 _ (ad_ne L (by omega) (by omega) (by omega))]
    have ref : ∀ i, 100 ≤ i → i < 127 → q_R δ1 (Ad ad i) = q_R δ (Ad ad i) := fun i a b => FR i (Or.inl a) b
    have cp : ∀ {B n src dst : Nat}, 100 ≤ src → src < 127 → 100 ≤ dst → dst < 127 → cpO ad B J n src dst 0 δ1 d → cpO ad B J n src dst 0 δ d := fun a b c e q i => by rw [q i, ref _ a b, ref _ c e]
    refine HX_img X hJ tJ0 (by rw [(s1 (by omega)).2, tJ]) (by rw [u2 12 10 _ (by decide), F 10]) (fun K _ => (rb_106 L V2 K).2) (fun K _ => (rb_103 L V2 K).2) (fun j K => ⟨(rb_111 L V2 _).2, (rb_108 L V2 _).2⟩) (fun K hK => ?_) (fun K hK => ?_) (fun j hj n => ?_) (fun i a b => ?_) (cp (by decide) (by decide) (by decide) (by decide) q1) (cp (by decide) (by decide) (by decide) (by decide) q2) (cp (by decide) (by decide) (by decide) (by decide) q3) (cp (by decide) (by decide) (by decide) (by decide) q4) (cp (by decide) (by decide) (by decide) (by decide) q5)
    · obtain ⟨y1, y2, y3, y4, _⟩ := K2.1 K hK
      obtain ⟨x1, x2, x3, x4⟩ := sm K hK
      exact ⟨by rw [y1, x1], by rw [y2, x2], by rw [y3, x3], by rw [y4, x4]⟩
    · rw [K2.2 J (by omega), g1 K hK]; rfl
    · rw [K2.2 j hj, g2 _ (ad_ne L (by omega) (by omega) (by omega))]
    · rw [q6 _ (ad_ne L (by omega) (by decide) (by omega)) (ad_ne L (by omega) (by decide) (by omega)) (ad_ne L (by omega) (by decide) (by omega)) (ad_ne L (by omega) (by decide) (by omega)) (ad_ne L (by omega) (by decide) (by omega)), ref i (by omega) (by omega)]
/-- the class's restore -/
theorem rc_21 {ad : List Nat} {h : hp} (L : Lay TLx ad h) {δ0 : dp} {N : Nat} (hNN : 10000000 ≤ N) {J : Nat} (hJ : J ≤ 2) {A : Int} {T F C0 : Nat → Nat → Int} {n v : Nat → Nat} (hn : ∀ K, K < 4 → v K ≤ n K ∧ n K ≤ 1000) (hC : ∀ K, K < 4 → Vd A (T K) (F K) (n K) ∧ ∀ i : Nat, i < n K → C0 K i = 2 * T K i + (1 - F K i)) : ∀ (m i : Nat) (x : Int32) (δ : dp), x.toInt = (i : Int) → i ≤ 4 → CI ad h.1 δ0 δ → (q_I δ 11 12 (Ad ad 0)).toInt = (J : Int) → (∀ K, K < 4 → (q_R δ (Ad ad (56 + J)) K).toInt = (v K : Int)) → (∀ K, K < 4 → (∀ j, cC ad δ K j = C0 K j) ∧ (K < i → cN ad δ K = (v K : Int) ∧ SH (T K) (F K) (v K) (cM ad δ K) (cR ad δ K)) ∧ (i ≤ K → cN ad δ K = (n K : Int) ∧ SH (T K) (F K) (n K) (cM ad δ K) (cR ad δ K))) → hs (L_X11_restore_21 N h.1 (Ad ad 0) m x δ) (fun r => (∀ K, K < 4 → (∀ j, cC ad r.2 K j = C0 K j) ∧ cN ad r.2 K = (v K : Int) ∧ SH (T K) (F K) (v K) (cM ad r.2 K) (cR ad r.2 K)) ∧ ∀ j, j < 3 → q_R r.2 (Ad ad (56 + j)) = q_R δ (Ad ad (56 + j))) := by
  intro m
  induction m with
  | zero => intro i x δ _ _ _ _ _ _; exact hs_none
  | succ m ih =>
    intro i x δ ex hi I hq hv H
    have e4 : (4 : Int32).toInt = 4 := rfl
    unfold L_X11_restore_21
    refine hs_ite (fun c => ?_) (fun c => ?_)
    · have c1 := o_le c
      refine hs_at (fO_0_8 L) (hs_bind (csm_forget (ad := ad)) (fun d hd => hs_some ?_))
      have k := csk_m L hd
      refine ⟨fun K hK => ?_, fun j hj => k.2 j hj⟩
      obtain ⟨q1, q2, q3, q4, _⟩ := k.1 K hK
      obtain ⟨h1, h2, _⟩ := H K hK
      show (∀ j, cC ad d K j = _) ∧ cN ad d K = _ ∧ SH _ _ _ (cM ad d K) (cR ad d K)
      rw [q1, q2, q3, q4]
      exact ⟨h1, h2 (by omega)⟩
    · have c1 := o_nle c
      have t1 := ti_tn (q_I δ 11 12 (Ad ad 0))
      have t2 := ti_tn x
      have i1 : (q_I δ 11 12 (Ad ad 0)).toNatClampNeg = J := by omega
      have i2 : x.toNatClampNeg = i := by omega
      have hi4 : i < 4 := by omega
      refine hs_at (fO_0_6 L) (hs_gd (fun _ => ?_))
      rw [i2]
      refine hs_at (lk_e L hi4) (hs_at (fO_0_11 L) (hs_gd (fun _ => ?_)))
      rw [i1]
      refine hs_at (le_i L (by omega)) (hs_gd (fun _ => ?_))
      have vi := hv i hi4
      obtain ⟨H1, _, H3⟩ := H i hi4
      obtain ⟨H3, H4⟩ := H3 (Nat.le_refl _)
      have ni := hn i hi4
      refine hs_bind (P := fun r => mf ad i δ r ∧ CI ad h.1 δ0 r ∧ cN ad r i = (v i : Int) ∧ (∀ j, cC ad r i j = cC ad δ i j) ∧ SH (T i) (F i) (v i) (cM ad r i) (cR ad r i)) ?_ (fun r hr => ?_)
      · unfold D_X2_goBack
        have b := h2_back L hNN hi4 (x1 := q_R δ (Ad ad (56 + J)) i) (A := A) (T := T i) (F := F i) (n := n i) ni.2 (by omega) N (n i) δ (Nat.le_refl _) (by omega) H3 I ⟨(hC i hi4).1, fun j hj => by rw [H1]; exact (hC i hi4).2 j hj⟩ H4
        rw [vi] at b
        exact b
      · obtain ⟨g1, g2, g3, g4, g5⟩ := hr
        have o := mf_o L hi4 g1
        refine hs_biv (fun w ew => ?_)
        have y1 := te_addc (c := 1) (n := 1) rfl x (by omega) (by omega)
        rw [← ew] at y1
        refine hs_mono (ih (i + 1) w r (by omega) (by omega) g2 (by rw [g1.1 11 12 _ (by decide) (by decide) (fun z => by omega) (fun z => by omega)]; exact hq) (fun K hK => by rw [o.2 J (by omega)]; exact hv K hK) (fun K hK => ?_)) (fun q hq => ⟨hq.1, fun j hj => by rw [hq.2 j hj, o.2 j hj]⟩)
        obtain ⟨a1, a2, a3⟩ := H K hK
        by_cases z : K = i
        · subst z
          exact ⟨fun j => by rw [g4, a1], fun _ => ⟨g3, g5⟩, fun y => by omega⟩
        · obtain ⟨o1, o2, o3, o4, _⟩ := o.1 K hK z
          rw [o1, o2, o3, o4]
          exact ⟨a1, fun y => a2 (by omega), fun y => a3 (by omega)⟩
theorem ir_restore {ad : List Nat} {h : hp} (L : Lay TLx ad h) {N : Nat} {δ : dp} (i0 : 0 ≤ (q_I δ 12 18 (Ad ad 99)).toInt) (i3 : (q_I δ 12 18 (Ad ad 99)).toInt ≤ 3) : hs (D_X12_restore N h.1 (Ad ad 99) δ) (fun r => ((q_I δ 12 18 (Ad ad 99)).toInt = 0 ∧ q_R r.2 = q_R δ) ∨ ∃ J : Nat, J ≤ 2 ∧ (q_I δ 12 18 (Ad ad 99)).toInt = (J : Int) + 1 ∧ cpI ad 8000 J 8000 107 102 0 δ r.2 ∧ cpI ad 4000 J 4000 109 104 0 δ r.2 ∧ cpI ad 4000 J 4000 110 105 0 δ r.2 ∧ cpI ad 4 J 4 108 103 0 δ r.2 ∧ cpI ad 4 J 4 111 106 0 δ r.2 ∧ ∀ b, b ≠ Ad ad 102 → b ≠ Ad ad 103 → b ≠ Ad ad 104 → b ≠ Ad ad 105 → b ≠ Ad ad 106 → q_R r.2 b = q_R δ b) := by
  have z0 : (0 : Int32).toInt = 0 := rfl
  have ne : ∀ i j, i < 128 → j < 128 → i ≠ j → Ad ad i ≠ Ad ad j := fun i j a b c => ad_ne L a b c
  unfold D_X12_restore
  refine hs_bdv (fun d0 e0 => ?_)
  have e18 : q_I d0 12 18 (Ad ad 99) = q_I δ 12 18 (Ad ad 99) := by rw [e0, rI_o (by decide)]
  rw [e18]
  refine hs_ite (fun c => hs_some (Or.inl ⟨by rw [c]; rfl, by show q_R d0 = _; rw [e0]; rfl⟩)) (fun c => ?_)
  have c1 := o_ne c
  have t1 := te_subc (c := 1) (n := 1) rfl (q_I δ 12 18 (Ad ad 99)) (by omega) (by omega)
  refine hs_bdv (fun d e => ?_)
  have eR : q_R d = q_R δ := by rw [e, e0]; rfl
  have hJ : (q_I d 12 18 (Ad ad 99)).toInt = ((((q_I δ 12 18 (Ad ad 99)).toInt - 1).toNat : Nat) : Int) := by rw [e, rI_s]; omega
  refine im_restore_26 L (J := ((q_I δ 12 18 (Ad ad 99)).toInt - 1).toNat) (by omega) N 0 0 d rfl (by omega) hJ (fun r1 p1 q1 I1 => ?_)
  refine im_restore_62 L (J := ((q_I δ 12 18 (Ad ad 99)).toInt - 1).toNat) (by omega) N 0 0 r1 rfl (by omega) (by rw [I1]; exact hJ) (fun r2 p2 p2' q2 I2 => ?_)
  refine im_restore_119 L (J := ((q_I δ 12 18 (Ad ad 99)).toInt - 1).toNat) (by omega) N 0 0 r2 rfl (by omega) (by rw [I2, I1]; exact hJ) (fun r3 p3 p3' q3 I3 => ?_)
  refine hs_some (Or.inr ⟨((q_I δ 12 18 (Ad ad 99)).toInt - 1).toNat, by omega, by omega, fun i => ?_, fun i => ?_, fun i => ?_, fun i => ?_, fun i => ?_, fun b n7 n8 n9 n10 n11 => ?_⟩)
  · show q_R r3 _ i = _
    rw [q3 _ (ne _ _ (by decide) (by decide) (by decide)) (ne _ _ (by decide) (by decide) (by decide)), q2 _ (ne _ _ (by decide) (by decide) (by decide)) (ne _ _ (by decide) (by decide) (by decide)), p1 i, eR]
  · show q_R r3 _ i = _
    rw [q3 _ (ne _ _ (by decide) (by decide) (by decide)) (ne _ _ (by decide) (by decide) (by decide)), p2 i, q1 _ (ne _ _ (by decide) (by decide) (by decide)), q1 _ (ne _ _ (by decide) (by decide) (by decide)), eR]
  · show q_R r3 _ i = _
    rw [q3 _ (ne _ _ (by decide) (by decide) (by decide)) (ne _ _ (by decide) (by decide) (by decide)), p2' i, q1 _ (ne _ _ (by decide) (by decide) (by decide)), q1 _ (ne _ _ (by decide) (by decide) (by decide)), eR]
  · show q_R r3 _ i = _
    rw [p3 i, q2 _ (ne _ _ (by decide) (by decide) (by decide)) (ne _ _ (by decide) (by decide) (by decide)), q2 _ (ne _ _ (by decide) (by decide) (by decide)) (ne _ _ (by decide) (by decide) (by decide)), q1 _ (ne _ _ (by decide) (by decide) (by decide)), q1 _ (ne _ _ (by decide) (by decide) (by decide)), eR]
  · show q_R r3 _ i = _
    rw [p3' i, q2 _ (ne _ _ (by decide) (by decide) (by decide)) (ne _ _ (by decide) (by decide) (by decide)), q2 _ (ne _ _ (by decide) (by decide) (by decide)) (ne _ _ (by decide) (by decide) (by decide)), q1 _ (ne _ _ (by decide) (by decide) (by decide)), q1 _ (ne _ _ (by decide) (by decide) (by decide)), eR]
  · show q_R r3 b = _
    rw [q3 b n8 n11, q2 b n9 n10, q1 b n7, eR]
theorem HX_res {ad : List Nat} {δ d : dp} {J : Nat} (X : HX ad δ) (hJ : J ≤ 2) (e18 : (q_I δ 12 18 (Ad ad 99)).toInt = (J : Int) + 1) (f18 : (q_I d 12 18 (Ad ad 99)).toInt = (J : Int)) (f10 : q_I d 12 10 (Ad ad 99) = q_I δ 12 10 (Ad ad 99)) (bI : ∀ j K, iN ad δ j K ≤ 1000 ∧ iM ad δ j K ≤ 2000)
    (cs : ∀ K, K < 4 → (∀ j, cC ad d K j = cC ad δ K j) ∧ cN ad d K = iN ad δ J K ∧ SH (nT ad δ K) (cF ad δ K) (iN ad δ J K).toNat (cM ad d K) (cR ad d K)) (co : ∀ j, j < 3 → q_R d (Ad ad (56 + j)) = q_R δ (Ad ad (56 + j)))
    (rs : ∀ i, 107 ≤ i → i < 112 → q_R d (Ad ad i) = q_R δ (Ad ad i)) (p1 : cpI ad 8000 J 8000 107 102 0 δ d) (p2 : cpI ad 4000 J 4000 109 104 0 δ d) (p3 : cpI ad 4000 J 4000 110 105 0 δ d) (p4 : cpI ad 4 J 4 108 103 0 δ d) (p5 : cpI ad 4 J 4 111 106 0 δ d) : HX ad d := by
  obtain ⟨X1, X2⟩ := X
  have eA : shA (Ad ad 99) d = shA (Ad ad 99) δ := by unfold shA; rw [f10]
  have r7 := rs 107 (by decide) (by decide)
  have r8 := rs 108 (by decide) (by decide)
  have r9 := rs 109 (by decide) (by decide)
  have r10 := rs 110 (by decide) (by decide)
  have r11 := rs 111 (by decide) (by decide)
  have eN : ∀ j K, iN ad d j K = iN ad δ j K := fun j K => by unfold iN; rw [r11]
  have eT : ∀ j K, iT ad d j K = iT ad δ j K := fun j K => by funext i; unfold iT; rw [r9]
  have eF : ∀ j K, iF ad d j K = iF ad δ j K := fun j K => by funext i; unfold iF; rw [r10]
  have eM : ∀ j K, iM ad d j K = iM ad δ j K := fun j K => by unfold iM; rw [r8]
  have eR : ∀ j K, iR ad d j K = iR ad δ j K := fun j K => by funext i; unfold iR; rw [r7]
  have nN : ∀ K, K < 4 → hN ad d K = iN ad δ J K := fun K hK => by unfold hN iN; rw [p5, if_pos (by omega)]
  have nT' : ∀ K, K < 4 → ∀ i : Nat, (i : Int) < iN ad δ J K → nT ad d K i = nT ad δ K i ∧ cF ad d K i = cF ad δ K i := fun K hK i hi => by
    have b := (bI J K).1
    obtain ⟨_, h2, _⟩ := X2 J (by omega) K hK
    have h3 := h2.2.2.1 i hi
    refine ⟨?_, ?_⟩
    · rw [← h3.1]; unfold nT iT; rw [p2, if_pos (by omega)]
    · rw [← h3.2]; unfold cF iF; rw [p3, if_pos (by omega)]
  refine ⟨fun K hK => ?_, fun j hj K hK => ?_⟩
  · obtain ⟨c1, c2, c3⟩ := cs K hK
    obtain ⟨_, h2, _⟩ := X2 J (by omega) K hK
    obtain ⟨g1, g2, g3, g4, g5, g6, g7, g8, g9⟩ := X1 K hK
    have b := bI J K
    have q : RE (iM ad δ J K) (iR ad δ J K) (hM ad d K) (hR ad d K) := ⟨by unfold hM iM; rw [p4, if_pos (by omega)], fun i hi => by unfold hR iR; rw [p1, if_pos (by omega)]⟩
    have hn := nN K hK
    have S := h2.S.c q
    have T' := nT' K hK
    have T2 : ∀ t, t < (iN ad δ J K).toNat → nT ad d K t = nT ad δ K t ∧ cF ad d K t = cF ad δ K t := fun t ht => T' t (by omega)
    rw [eA]
    unfold HE
    refine ⟨S.u c3, by rw [hn]; exact c2, by rw [hn]; exact h2.1, S.1, S.2.1, fun i hi => ?_, ?_, fun y => ?_, ?_⟩
    · rw [hn] at hi
      rw [c1, (T' i hi).1, (T' i hi).2]
      exact g6 i (by have := h2.2.1; omega)
    · rw [hn]; exact Vd_c T2 (Vd_w (by have := h2.2.1; omega) g7)
    · rw [hn, St_c _ T2]; exact S.2.2.1 y
    · rw [hn, Ct_c _ (fun t ht => (T2 t ht).2)]; exact S.2.2.2
  · rw [f18] at hj ⊢
    obtain ⟨h1, h2, h3⟩ := X2 j (by omega) K hK
    have mj := h3 J (by omega) (by omega)
    rw [eN, eT, eF, eM, eR, co j (by omega), nN K hK]
    exact ⟨h1, h2.g mj (fun i hi => nT' K hK i (by omega)), fun j' a b => by rw [eN]; exact h3 j' a (by omega)⟩
theorem stepW {ad : List Nat} {h : hp} (L : Lay TLx ad h) {N : Nat} (hNN : 10000000 ≤ N) (kx : q_K h.1 (Ad ad 0) = 11) (km : q_K h.1 (Ad ad 99) = 12) {δ : dp} (V : IY ad h.1 δ) : ∃ d, (∃ (b : Int32) (δ1 : dp), D_X11_restore N h.1 (Ad ad 0) δ = some (b, δ1) ∧ D_X12_restore N h.1 (Ad ad 99) δ1 = some (b, d)) ∧ IY ad h.1 d := by
  obtain ⟨V, X⟩ := V
  obtain ⟨⟨V1, V2, V3, V4⟩, A⟩ := id V
  obtain ⟨d, ⟨b, δ1, e1, e2⟩, W⟩ := stepI V (P := pRs) (o1 := D_X11_restore N h.1 (Ad ad 0) δ) (f := fun δ1 => D_X12_restore N h.1 (Ad ad 99) δ1) pRs_u (ok_mono (k_X11_restore L hNN kx V1) (fun r hr => ⟨hr.1, by rw [hr.2.1.1 7 1 (Ad ad 1) (by decide)], fun a => ⟨hr.2.1.1 5 0 a (by decide), hr.2.1.1 5 1 a (by decide), hr.2.1.1 5 2 a (by decide)⟩, by have p1 := hr.2.2.1; have p2 := hr.2.2.2; unfold pRs; omega⟩)) (fun δ1 I1 O1 => ok_mono (ok_and (o_restore L hNN km I1 O1) (k_X12_restore L hNN km I1)) (fun r hr => ⟨hr.1, by have p1 := hr.2.2.2.1; have p2 := hr.2.2.2.2; unfold pRs; omega⟩))
  refine ⟨d, ⟨b, δ1, e1, e2⟩, W, ?_⟩
  obtain ⟨c1, ⟨u1, _⟩, p1, p2⟩ := ok_h (k_X11_restore L hNN kx V1) _ e1
  dsimp only at c1 u1 p1 p2
  have I1 := RI_re V2 c1
  have F := c1.2.2.2.1
  have FR := c1.2.2.2.2
  obtain ⟨r1, ⟨u2, _, w2⟩, s1, s2⟩ := ok_h (k_X12_restore L hNN km I1) _ e2
  dsimp only at r1 u2 w2 s1 s2
  have b18 := cb_12_18 I1 km
  have ir := ir_restore L (N := N) b18.1 b18.2 _ e2
  dsimp only at ir
  have K2 := csk_R r1
  have i3 := IY.i3 (ad := ad) km V2
  have a3 := A.2.2.1
  have z0 : (0 : Int32).toInt = 0 := rfl
  rcases ir with ⟨t3, eR⟩ | ⟨J, hJ, tJ, q1, q2, q3, q4, q5, q6⟩
  · rw [F 18] at t3
    have e11 : δ1 = δ := by
      have : hs (D_X11_restore N h.1 (Ad ad 0) δ) (fun r => r.2 = δ) := by
        unfold D_X11_restore
        refine hs_ite (fun c => by have := o_lt c; omega) (fun _ => hs_some rfl)
      exact this _ e1
    subst e11
    refine X.k i3 ⟨fun K hK => K2.1 K hK, K2.2⟩ ⟨fun k hk => ?_, bak_k (by rw [eR]) (by rw [eR]), fun i _ _ => by rw [eR]⟩
    rcases hk with rfl | rfl
    · exact u2 12 10 _ (by decide)
    · exact i_eq (s2 (by omega)).2
  · have tJ0 : (q_I δ 12 18 (Ad ad 99)).toInt = (J : Int) + 1 := by rw [← F 18]; exact tJ
    have HI : ∀ K, K < 4 → (q_R δ (Ad ad (56 + J)) K).toInt = iN ad δ J K ∧ 0 ≤ iN ad δ J K ∧ iN ad δ J K ≤ hN ad δ K := fun K hK => by
      obtain ⟨h1, h2, _⟩ := X.2 J (by omega) K hK
      exact ⟨h1, h2.1, h2.2.1⟩
    have cl : hs (D_X11_restore N h.1 (Ad ad 0) δ) (fun r => (∀ K, K < 4 → (∀ j, cC ad r.2 K j = cC ad δ K j) ∧ cN ad r.2 K = (((iN ad δ J K).toNat : Nat) : Int) ∧ SH (nT ad δ K) (cF ad δ K) (iN ad δ J K).toNat (cM ad r.2 K) (cR ad r.2 K)) ∧ ∀ j, j < 3 → q_R r.2 (Ad ad (56 + j)) = q_R δ (Ad ad (56 + j))) := by
      unfold D_X11_restore
      refine hs_ite (fun c => ?_) (fun c => by have := o_nlt c; omega)
      have t1 := te_subc (c := 1) (n := 1) rfl (q_I δ 11 12 (Ad ad 0)) (by omega) (by omega)
      refine hs_bdv (fun d e => ?_)
      have id : CI ad h.1 δ d := by rw [e]; exact cs_11_12 L V1 kx (by omega) (by omega)
      have eM : ∀ K, cM ad d K = cM ad δ K := fun K => by unfold cM; rw [e, rI_o (by decide)]
      have eR : ∀ K, cR ad d K = cR ad δ K := fun K => by funext i; unfold cR; rw [e]; rfl
      have eN : ∀ K, cN ad d K = cN ad δ K := fun K => by unfold cN; rw [e, rI_o (by decide)]
      have eC : ∀ K, cC ad d K = cC ad δ K := fun K => by funext i; unfold cC; rw [e]; rfl
      refine hs_mono (rc_21 L hNN hJ (A := shA (Ad ad 99) δ) (T := fun K => nT ad δ K) (F := fun K => cF ad δ K) (C0 := fun K => cC ad δ K) (n := fun K => (hN ad δ K).toNat) (v := fun K => (iN ad δ J K).toNat) (fun K hK => ?_) (fun K hK => ?_) N 0 0 d rfl (by omega) id (by rw [e, rI_s]; omega) (fun K hK => ?_) (fun K hK => ?_)) (fun r hr => ⟨hr.1, fun j hj => by rw [hr.2 j hj, e]; rfl⟩)
      · have := HI K hK
        have := (rb_106 L V2 K).2
        have hh : (q_R δ (Ad ad 106) K).toInt = hN ad δ K := rfl
        show (iN ad δ J K).toNat ≤ (hN ad δ K).toNat ∧ (hN ad δ K).toNat ≤ 1000
        omega
      · obtain ⟨g1, g2, g3, g4, g5, g6, g7, g8, g9⟩ := X.1 K hK
        exact ⟨g7, fun i hi => g6 i (by omega)⟩
      · rw [e]
        show (q_R δ (Ad ad (56 + J)) K).toInt = _
        have := HI K hK
        rw [this.1]; omega
      · obtain ⟨g1, g2, g3, g4, g5, g6, g7, g8, g9⟩ := X.1 K hK
        rw [eM, eR, eN, eC]
        refine ⟨fun _ => rfl, fun y => absurd y (Nat.not_lt_zero _), fun _ => ⟨by omega, ?_⟩⟩
        exact (SH.c (T := nT ad δ K) (F := cF ad δ K) (t := (hN ad δ K).toNat) ⟨g4, g5, g8, g9⟩ g1)
    obtain ⟨g1, g2⟩ := cl _ e1
    dsimp only at g1 g2
    have ref : ∀ i, 100 ≤ i → i < 127 → q_R δ1 (Ad ad i) = q_R δ (Ad ad i) := fun i a b => FR i (Or.inl a) b
    have cp : ∀ {B n src dst : Nat}, 100 ≤ src → src < 127 → 100 ≤ dst → dst < 127 → cpI ad B J n src dst 0 δ1 d → cpI ad B J n src dst 0 δ d := fun a b c e q i => by rw [q i, ref _ a b, ref _ c e]
    refine HX_res X hJ tJ0 (by rw [(s1 (by omega)).2, tJ]; omega) (by rw [u2 12 10 _ (by decide), F 10]) (fun j K => ⟨(rb_111 L V2 _).2, (rb_108 L V2 _).2⟩) (fun K hK => ?_) (fun j hj => ?_) (fun i a b => ?_) (cp (by decide) (by decide) (by decide) (by decide) q1) (cp (by decide) (by decide) (by decide) (by decide) q2) (cp (by decide) (by decide) (by decide) (by decide) q3) (cp (by decide) (by decide) (by decide) (by decide) q4) (cp (by decide) (by decide) (by decide) (by decide) q5)
    · obtain ⟨y1, y2, y3, y4, _⟩ := K2.1 K hK
      obtain ⟨x1, x2, x3⟩ := g1 K hK
      have := HI K hK
      rw [y1, y2, y3, y4]
      exact ⟨x1, by rw [x2]; omega, x3⟩
    · rw [K2.2 j hj, g2 j hj]
    · rw [q6 _ (ad_ne L (by omega) (by decide) (by omega)) (ad_ne L (by omega) (by decide) (by omega)) (ad_ne L (by omega) (by decide) (by omega)) (ad_ne L (by omega) (by decide) (by omega)) (ad_ne L (by omega) (by decide) (by omega)), ref i (by omega) (by omega)]
