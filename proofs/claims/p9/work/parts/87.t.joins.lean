/-! joins and split: alike -/
theorem hs_rg {ad : List Nat} {a0 : Nat} {δ : dp} {K : Nat} (H : hok ad a0 δ K) {i : Nat} (hi : (i : Int) < hM ad δ K) : 0 ≤ hR ad δ K i ∧ hR ad δ K i < shA a0 δ := H.2 (q_R δ (Ad ad 102) (2000 * K + i)) ⟨i, hi, rfl⟩
theorem IY_al {ad : List Nat} {δ : dp} (A : AL ad δ) : scA ad δ = shA (Ad ad 99) δ := by
  show ((1 : Int32) <<< (q_I δ 5 0 (Ad ad 3) &&& 31)).toInt = ((1 : Int32) <<< (q_I δ 12 10 (Ad ad 99) &&& 31)).toInt
  rw [A.2.2.2.1]
theorem IY_bd {ad : List Nat} {h : hp} (L : Lay TLx ad h) {δ : dp} (V : IY ad h.1 δ) : Bd ad δ := by
  obtain ⟨⟨V, A⟩, X⟩ := V
  have eA := IY_al A
  have sb := scA_b L V.1
  intro K hK i hi
  obtain ⟨h1, _⟩ := X.1 K hK
  have g := hs_rg (V.2.2.1.1 K hK) (i := i) (by rw [← h1.1]; exact hi)
  rw [h1.2 i (by rw [← h1.1]; exact hi)]
  omega
theorem JL_m {how M N A : Int} {R Q : Nat → Int} (hR : ∀ i : Nat, (i : Int) < M → 0 ≤ R i ∧ R i < A) (hQ : ∀ i : Nat, (i : Int) < N → 0 ≤ Q i ∧ Q i < A) : ∀ p ∈ JL how M R N Q, 0 ≤ p.2 ∧ p.2 < A := by
  unfold JL
  by_cases c : how = 0
  · rw [if_pos c]
    exact lst_m _ 0 (fun j a b => hQ j (by omega))
  · rw [if_neg c]
    by_cases d : how = 1
    · rw [if_pos d]
      exact lsf_m _ 0 (fun j a b => hR j (by omega))
    · rw [if_neg d]
      exact lst_m _ 0 (fun j a b => hQ j (by omega))
/-- what the law's helper says of joins of the class -/
def hLJ (ad : List Nat) (τ : TAU) (x1 x2 x3 : Int32) (o : Nat) (δ : dp) (kk : Int32) (d : dp) : Prop :=
  ((x1.toInt < 0 ∨ 3 < x1.toInt ∨ x2.toInt < 0 ∨ 3 < x2.toInt) ∧ kk = 1 ∧ csm ad δ d) ∨
  ∃ A B : Nat, A < 4 ∧ B < 4 ∧ x1.toInt = (A : Int) ∧ x2.toInt = (B : Int) ∧
    (((A = B ∨ x3.toInt < 0 ∨ 2 < x3.toInt) ∧ kk = 2 ∧ csm ad δ d) ∨ (A ≠ B ∧ 0 ≤ x3.toInt ∧ x3.toInt ≤ 2 ∧ kk = 0 ∧ ∃ w : Int32, q_J d o 0 = w.toInt64 ∧ hJ3 ad τ x3.toInt A B δ w d))
theorem hL_joins {ad : List Nat} {h : hp} (L : Lay TLx ad h) {δ0 : dp} {N : Nat} (hN : 10000000 ≤ N) {τ : TAU} {x1 x2 x3 : Int32} {o : Nat} {δ : dp} (HT : ∀ K, K < 4 → HTc ad N h δ0 δ K τ) (I : CI ad h.1 δ0 δ) (S : ∀ K, K < 4 → SR (cM ad δ K) (cR ad δ K)) (bd : Bd ad δ) : hs (D_L_joins N h.1 (Ad ad 0) x1 x2 x3 o δ) (fun r => hLJ ad τ x1 x2 x3 o δ r.1 r.2) := by
  unfold D_L_joins
  refine hs_bind (hc_joins L hN (x1 := x1) (x2 := x2) (x3 := x3) HT I S bd) (fun r hr => ?_)
  obtain ⟨v, d⟩ := r
  rcases hr with ⟨h1, h2, h3⟩ | ⟨A, B, hA, hB, hx, hy, ⟨h1, h2, h3⟩ | ⟨h1, h2, h3, w, h4, h5⟩⟩
  · dsimp only at h2 h3
    subst h2
    exact hs_ite (fun _ => hs_some (Or.inl ⟨h1, rfl, h3⟩)) (fun z => absurd rfl z)
  · dsimp only at h2 h3
    subst h2
    exact hs_ite (fun z => absurd z (by decide)) (fun _ => hs_ite (fun z => absurd z (by decide)) (fun _ => hs_some (Or.inr ⟨A, B, hA, hB, hx, hy, Or.inl ⟨h1, rfl, h3⟩⟩)))
  · dsimp only at h4 h5
    subst h4
    exact hs_gd (fun _ => hs_some (Or.inr ⟨A, B, hA, hB, hx, hy, Or.inr ⟨h1, h2, h3, rfl, w, jup, h5⟩⟩))
/-- the end of a call that changes houses -/
theorem IY_end {ad : List Nat} {h : hp} {δ δ1 d : dp} (V : IX ad h.1 δ) (m1 : CI ad h.1 δ δ1) (m2 : (q_I δ1 7 1 (Ad ad 1)).toInt = (q_I δ 7 1 (Ad ad 1)).toInt) (m3 : ∀ a, q_I δ1 5 0 a = q_I δ 5 0 a ∧ q_I δ1 5 1 a = q_I δ 5 1 a ∧ q_I δ1 5 2 a = q_I δ 5 2 a ∧ q_I δ1 11 12 a = q_I δ 11 12 a) (r : OR ad h.1 (Ad ad 99) δ1 δ1 d ∧ q_I d 12 18 (Ad ad 99) = q_I δ1 12 18 (Ad ad 99)) (X : HX ad d) : IY ad h.1 d := by
  obtain ⟨V, A⟩ := V
  obtain ⟨⟨r1, r2, r3, r4, r5, r6, r7⟩, r8⟩ := r
  have F := m1.2.2.2.1
  refine ⟨⟨IV_end V m1 r1 r2 ?_, ?_⟩, X⟩
  · rw [m2, r3, F 2 (Ad ad 99)]; exact V.2.2.2
  · obtain ⟨t1, t2⟩ := AL_t A m1 r1 r4
    have G := r1.2.2.1
    obtain ⟨a1, a2, a3, a4, a5, a6⟩ := A
    refine ⟨t1, t2, ?_, ?_, ?_, ?_⟩
    · rw [G 11 12 _ (by decide), (m3 _).2.2.2, r8, F 18]; exact a3
    · rw [G 5 0 _ (by decide), (m3 _).1, r5, F 10]; exact a4
    · rw [G 5 1 _ (by decide), (m3 _).2.1, r7, F 12]; exact a5
    · rw [G 5 2 _ (by decide), (m3 _).2.2.1, r6, F 11]; exact a6
theorem HEs_of {ad : List Nat} {A : Int} {δ d : dp} {K : Nat} (h : HE ad A δ K) (e : eqr (sRf ad δ K) (sRf ad d K)) : HEs A (sCl ad δ K) (sRf ad d K) := HEa.c h rfl RE.r rfl (fun _ _ => rfl) e.1 e.2.1 e.2.2
/-- two calls of a row that is changed, or not: alike -/
theorem stepJ {ad : List Nat} {h : hp} (L : Lay TLx ad h) (km : q_K h.1 (Ad ad 99) = 12) {δ : dp} (V : IY ad h.1 δ) {o1 : Option (Int32 × dp)} {f : dp → Option (Int32 × dp)} {τ : TAU} {x1 x2 x3 : Int32} {o : Nat} {Z : Prop}
    (fn : Z → ∀ (c x M N : Int) (R Q : Nat → Int) (t u : Int32), (c = 0 ∨ c = 1) → (∀ i : Nat, (i : Int) < M → 0 ≤ R i ∧ R i < shA (Ad ad 99) δ) → RE N Q M R → τ c x M R t → τ c x N Q u → t = u)
    (C : ok o1 (fun r => CI ad h.1 δ r.2 ∧ (q_I r.2 7 1 (Ad ad 1)).toInt = (q_I δ 7 1 (Ad ad 1)).toInt ∧ ∀ a, q_I r.2 5 0 a = q_I δ 5 0 a ∧ q_I r.2 5 1 a = q_I δ 5 1 a ∧ q_I r.2 5 2 a = q_I δ 5 2 a ∧ q_I r.2 11 12 a = q_I δ 11 12 a))
    (GL : hs o1 (fun r => hLJ ad τ x1 x2 x3 o δ r.1 r.2))
    (R : ∀ δ1, RI ad h.1 δ1 δ1 → OI ad (Ad ad 99) δ1 → ok (f δ1) (fun r => OR ad h.1 (Ad ad 99) δ1 δ1 r.2 ∧ q_I r.2 12 18 (Ad ad 99) = q_I δ1 12 18 (Ad ad 99)))
    (RS : ∀ δ1, RI ad h.1 δ1 δ1 → OI ad (Ad ad 99) δ1 → r3s δ δ1 (Ad ad 99) → hs (f δ1) (fun r => hRJ ad τ x1 x2 x3 δ1 r.1 r.2)) :
    ∃ d, (∃ (kk b : Int32) (δ1 : dp), o1 = some (kk, δ1) ∧ f δ1 = some (b, d) ∧ q_I d 12 0 (Ad ad 99) = kk ∧ (Z → kk = 0 → q_J d o 0 = b.toInt64)) ∧ IY ad h.1 d := by
  obtain ⟨V, X⟩ := V
  obtain ⟨⟨kk, δ1⟩, e1, ⟨m1, m2, m3⟩, m5⟩ := ok_hs C GL
  dsimp only at m1 m2 m3 m5
  have I1 := RI_re V.1.2.1 m1
  have O1 := OI_re V.1.2.2.1 m1
  obtain ⟨⟨b, d⟩, e2, rr, r9⟩ := ok_hs (R δ1 I1 O1) (RS δ1 I1 O1 ⟨m1.2.2.2.1 10 _, m1.2.2.2.1 11 _, m1.2.2.2.1 12 _⟩)
  dsimp only at rr r9
  obtain ⟨⟨r1, r2, r3, r4, r5, r6, r7⟩, r8⟩ := id rr
  have F := m1.2.2.2.1
  have FR := m1.2.2.2.2
  have i3 := IY.i3 (ad := ad) km V.1.2.1
  have eJ : q_J d = q_J δ1 := congrArg Prod.snd r1.2.2.2.2
  have K2 := csk_R r1
  obtain ⟨eM, eR, eN, eT, eF⟩ := hr_same (ad := ad) (V := []) (δ := δ) (d := δ1) (fun i a b _ => FR i (Or.inl a) b) (fun i _ z => by cases z)
  have same : csm ad δ δ1 → kr ad [100, 125] δ1 d → HX ad d := fun c k => by
    have X1 : HX ad δ1 := X.k i3 (csk_m L c) (rsk_C m1)
    exact X1.k (by rw [F 18]; exact i3) K2 ⟨fun q hq => by rcases hq with rfl | rfl; exact r5; exact r8, bak_k (k 102 (by decide) (by decide) (by decide)) (k 103 (by decide) (by decide) (by decide)), fun i a b => k i (by omega) (by omega) (by simp only [List.mem_cons, List.not_mem_nil, or_false]; omega)⟩
  have fin : (q_I d 12 0 (Ad ad 99) = kk ∧ (Z → kk = 0 → q_J d o 0 = b.toInt64)) ∧ HX ad d := by
    rcases m5 with ⟨g1, g2, g3⟩ | ⟨A, B, hA, hB, hx, hy, g⟩
    · rcases r9 with ⟨s1, s2, s3⟩ | ⟨A, B, hA, hB, hx, hy, _⟩
      · exact ⟨⟨by rw [s2, g2], fun _ z => by rw [g2] at z; exact absurd z (by decide)⟩, same g3 (kr_w (by decide) s3)⟩
      · exfalso; omega
    · rcases r9 with ⟨s1, _⟩ | ⟨A', B', hA', hB', hx', hy', s⟩
      · exfalso; omega
      · obtain rfl : A' = A := by omega
        obtain rfl : B' = B := by omega
        rcases g with ⟨g1, g2, g3⟩ | ⟨ne, g1, g1', g2, w, g4, g5⟩ <;> rcases s with ⟨s1, s2, s3⟩ | ⟨_, s1, s1', s2, s3⟩
        · exact ⟨⟨by rw [s2, g2], fun _ z => by rw [g2] at z; exact absurd z (by decide)⟩, same g3 (kr_w (by decide) s3)⟩
        · exfalso; omega
        · exfalso; omega
        · have HA := X.1 A' hA
          have HB := X.1 B' hB
          obtain ⟨qa1, qa2, _⟩ := HA
          obtain ⟨qb1, qb2, _⟩ := HB
          have jf := JF_c (how := x3.toInt) qa1 qb1
          have jl := JL_c (how := x3.toInt) qa1 qb1
          have mm := qa1.1
          unfold hJ3 at g5
          unfold rJ3 sRf at s3
          simp only [eM, eR, eN, eT, eF] at s3
          rw [jf, jl] at g5
          have ans : ∀ {w' : Int32}, w = w' → b = w' → q_I d 12 0 (Ad ad 99) = kk ∧ (Z → kk = 0 → q_J d o 0 = b.toInt64) := fun h1 h2 => ⟨by rw [s2, g2], fun _ _ => by rw [eJ, g4, h1, h2]⟩
          rcases g5 with ⟨a1, a2, a3, a4⟩ | ⟨a1, a2, a3, a4⟩ | ⟨a1, a2, a3, ts, a4, a5⟩ <;> rcases s3 with ⟨b1, b2, b3, b4⟩ | ⟨b1, b2, b3, b4⟩ | ⟨b1, b2, b3, b3', us, b4, b5⟩
          · exact ⟨ans a3 b3, same a4 (kr_w (by decide) b4)⟩
          · exfalso; omega
          · exfalso; omega
          · exfalso; omega
          · exact ⟨ans a3 b3, same a4 (kr_w (by decide) b4)⟩
          · exfalso; omega
          · exfalso; omega
          · exfalso; omega
          · -- the calls
            have mem := JL_m (how := x3.toInt) (A := shA (Ad ad 99) δ) (fun i hi => hs_rg (V.1.2.2.1.1 A' hA) hi) (fun i hi => hs_rg (V.1.2.2.1.1 B' hB) hi)
            have H0 : HEs (shA (Ad ad 99) δ) (sCl ad δ A') (hM ad δ A', hR ad δ A', hN ad δ A', nT ad δ A', cF ad δ A') := X.1 A' hA
            have H1 := ch_HE _ _ _ _ _ _ _ mem a4 b4 H0
            have gg := ch_g _ _ _ _ b4
            have eA : shA (Ad ad 99) d = shA (Ad ad 99) δ := by unfold shA; rw [r5, F 10]
            refine ⟨⟨by rw [s2, g2], fun hz _ => ?_⟩, fun K hK => ?_, X.2.g i3 (by rw [r8, F 18]) (fun j hj => ?_) (fun i a b => ?_) (fun K hK => ?_)⟩
            · rw [eJ, g4, a5, b5, ch_ts (fn hz) _ _ _ _ _ _ _ mem a4 b4 H0]
            · rw [eA]
              by_cases c : K = A'
              · subst c
                obtain ⟨y1, y2, y3, y4, _⟩ := K2.1 K hK
                unfold HE
                rw [y1, y2, y3, y4]
                exact H1
              · obtain ⟨y1, y2, y3, y4, _⟩ := K2.1 K hK
                obtain ⟨z1, z2, z3, z4, _⟩ := (mf_o L hA a3).1 K hK c
                have ee := mfr_s L I1 b3' (J := K) c
                have es : sRf ad δ1 K = sRf ad δ K := by unfold sRf; rw [eM, eR, eN, eT, eF]
                rw [es] at ee
                unfold HE
                rw [y1, y2, y3, y4, z1, z2, z3, z4]
                exact HEs_of (X.1 K hK) ee
            · rw [K2.2 j hj, (mf_o L hA a3).2 j hj]
            · rw [b3 i (by omega) (by omega) (by simp only [List.mem_cons, List.not_mem_nil, or_false]; omega), FR i (Or.inl (by omega)) (by omega)]
            · by_cases c : K = A'
              · subst c
                exact gg
              · obtain ⟨p1, p2, p3, p4⟩ := b3' K c
                rw [eN] at p2
                have bN := (rb_106 L V.1.2.1 K).2
                have vN : (q_R δ (Ad ad 106) K).toInt = hN ad δ K := rfl
                refine ⟨by rw [p2]; exact Int.le_refl _, fun i hi => ?_⟩
                have := p4 i (by omega)
                rw [eT, eF] at this
                exact this
  exact ⟨d, ⟨kk, b, δ1, e1, e2, fin.1.1, fin.1.2⟩, IY_end V m1 m2 m3 rr fin.2⟩
theorem mf2_o {ad : List Nat} {h : hp} (L : Lay TLx ad h) {A B : Nat} (hA : A < 4) (hB : B < 4) {δ d : dp} (m : mf2 ad A B δ d) : (∀ K, K < 4 → K ≠ A → K ≠ B → cM ad d K = cM ad δ K ∧ cR ad d K = cR ad δ K ∧ cN ad d K = cN ad δ K ∧ cC ad d K = cC ad δ K) ∧ ∀ j, j < 3 → q_R d (Ad ad (56 + j)) = q_R δ (Ad ad (56 + j)) := by
  obtain ⟨m1, m2⟩ := m
  have rw1 : ∀ j, j < 128 → j ≠ 59 → (∀ K, K = A ∨ K = B → j ≠ 77 + 6 * K ∧ j ≠ 78 + 6 * K ∧ j ≠ 79 + 6 * K) → q_R d (Ad ad j) = q_R δ (Ad ad j) := fun j hj n1 n2 => by
    obtain ⟨a1, a2, a3⟩ := n2 A (Or.inl rfl)
    obtain ⟨b1, b2, b3⟩ := n2 B (Or.inr rfl)
    exact m2 _ (ad_ne L hj (by decide) n1) (ad_ne L hj (by omega) a1) (ad_ne L hj (by omega) a2) (ad_ne L hj (by omega) a3) (ad_ne L hj (by omega) b1) (ad_ne L hj (by omega) b2) (ad_ne L hj (by omega) b3)
  have im1 : ∀ {c k j : Nat}, c ≠ 1 → c ≠ 4 → j < 128 → (∀ K, K = A ∨ K = B → j ≠ 76 + 6 * K ∧ j ≠ 75 + 6 * K) → q_I d c k (Ad ad j) = q_I δ c k (Ad ad j) := fun {c k j} n1 n4 hj n2 => by
    obtain ⟨a1, a2⟩ := n2 A (Or.inl rfl)
    obtain ⟨b1, b2⟩ := n2 B (Or.inr rfl)
    refine m1 c k _ n1 n4 (fun z => ?_) (fun z => ?_)
    · rcases z.2.2 with y | y
      · exact ad_ne L hj (by omega) a1 y
      · exact ad_ne L hj (by omega) b1 y
    · rcases z.2.2 with y | y
      · exact ad_ne L hj (by omega) a2 y
      · exact ad_ne L hj (by omega) b2 y
  refine ⟨fun K hK nA nB => ⟨?_, ?_, ?_, ?_⟩, fun j hj => rw1 _ (by omega) (by omega) (fun J hJ => by omega)⟩
  · unfold cM; rw [im1 (by decide) (by decide) (by omega) (fun J hJ => by omega)]
  · funext i; unfold cR; rw [rw1 _ (by omega) (by omega) (fun J hJ => by omega)]
  · unfold cN; rw [im1 (by decide) (by decide) (by omega) (fun J hJ => by omega)]
  · funext i; unfold cC; rw [rw1 _ (by omega) (by omega) (fun J hJ => by omega)]
/-- what the law's helper says of split of the class -/
def hLS (ad : List Nat) (τ : TAU) (x1 x2 x3 : Int32) (o : Nat) (δ : dp) (kk : Int32) (d : dp) : Prop :=
  ((x1.toInt < 0 ∨ 3 < x1.toInt ∨ x2.toInt < 0 ∨ 3 < x2.toInt) ∧ kk = 1 ∧ csm ad δ d) ∨
  ∃ A B : Nat, A < 4 ∧ B < 4 ∧ x1.toInt = (A : Int) ∧ x2.toInt = (B : Int) ∧
    (((A = B ∨ x3.toInt < 0 ∨ scA ad δ ≤ x3.toInt) ∧ kk = 2 ∧ csm ad δ d) ∨ (A ≠ B ∧ 0 ≤ x3.toInt ∧ x3.toInt < scA ad δ ∧ kk = 0 ∧ ∃ (w : Int32) (p : Nat), q_J d o 0 = w.toInt64 ∧ PL (cM ad δ A) (cR ad δ A) x3.toInt p ∧ hS3 ad τ p A B δ w d))
theorem hL_split {ad : List Nat} {h : hp} (L : Lay TLx ad h) {δ0 : dp} {N : Nat} (hN : 10000000 ≤ N) {τ : TAU} {x1 x2 x3 : Int32} {o : Nat} {δ : dp} (HT : ∀ K, K < 4 → HTc ad N h δ0 δ K τ) (I : CI ad h.1 δ0 δ) (S : ∀ K, K < 4 → SR (cM ad δ K) (cR ad δ K)) (bd : Bd ad δ) : hs (D_L_split N h.1 (Ad ad 0) x1 x2 x3 o δ) (fun r => hLS ad τ x1 x2 x3 o δ r.1 r.2) := by
  unfold D_L_split
  refine hs_bind (hc_split L hN (x1 := x1) (x2 := x2) (x3 := x3) HT I S bd) (fun r hr => ?_)
  obtain ⟨v, d⟩ := r
  rcases hr with ⟨h1, h2, h3⟩ | ⟨A, B, hA, hB, hx, hy, ⟨h1, h2, h3⟩ | ⟨h1, h2, h3, w, p, h4, h5, h6⟩⟩
  · dsimp only at h2 h3
    subst h2
    exact hs_ite (fun _ => hs_some (Or.inl ⟨h1, rfl, h3⟩)) (fun z => absurd rfl z)
  · dsimp only at h2 h3
    subst h2
    exact hs_ite (fun z => absurd z (by decide)) (fun _ => hs_ite (fun z => absurd z (by decide)) (fun _ => hs_some (Or.inr ⟨A, B, hA, hB, hx, hy, Or.inl ⟨h1, rfl, h3⟩⟩)))
  · dsimp only at h4 h6
    subst h4
    exact hs_gd (fun _ => hs_some (Or.inr ⟨A, B, hA, hB, hx, hy, Or.inr ⟨h1, h2, h3, rfl, w, p, jup, h5, h6⟩⟩))
/-- split: alike -/
theorem stepV {ad : List Nat} {h : hp} (L : Lay TLx ad h) (km : q_K h.1 (Ad ad 99) = 12) {δ : dp} (V : IY ad h.1 δ) {o1 : Option (Int32 × dp)} {f : dp → Option (Int32 × dp)} {τ : TAU} {x1 x2 x3 : Int32} {o : Nat} {Z : Prop}
    (fn : Z → ∀ (c x M N : Int) (R Q : Nat → Int) (t u : Int32), (c = 0 ∨ c = 1) → (∀ i : Nat, (i : Int) < M → 0 ≤ R i ∧ R i < shA (Ad ad 99) δ) → RE N Q M R → τ c x M R t → τ c x N Q u → t = u)
    (C : ok o1 (fun r => CI ad h.1 δ r.2 ∧ (q_I r.2 7 1 (Ad ad 1)).toInt = (q_I δ 7 1 (Ad ad 1)).toInt ∧ ∀ a, q_I r.2 5 0 a = q_I δ 5 0 a ∧ q_I r.2 5 1 a = q_I δ 5 1 a ∧ q_I r.2 5 2 a = q_I δ 5 2 a ∧ q_I r.2 11 12 a = q_I δ 11 12 a))
    (GL : hs o1 (fun r => hLS ad τ x1 x2 x3 o δ r.1 r.2))
    (R : ∀ δ1, RI ad h.1 δ1 δ1 → OI ad (Ad ad 99) δ1 → ok (f δ1) (fun r => OR ad h.1 (Ad ad 99) δ1 δ1 r.2 ∧ q_I r.2 12 18 (Ad ad 99) = q_I δ1 12 18 (Ad ad 99)))
    (RS : ∀ δ1, RI ad h.1 δ1 δ1 → OI ad (Ad ad 99) δ1 → r3s δ δ1 (Ad ad 99) → hs (f δ1) (fun r => hRS ad τ x1 x2 x3 δ1 r.1 r.2)) :
    ∃ d, (∃ (kk b : Int32) (δ1 : dp), o1 = some (kk, δ1) ∧ f δ1 = some (b, d) ∧ q_I d 12 0 (Ad ad 99) = kk ∧ (Z → kk = 0 → q_J d o 0 = b.toInt64)) ∧ IY ad h.1 d := by
  obtain ⟨V, X⟩ := V
  obtain ⟨⟨kk, δ1⟩, e1, ⟨m1, m2, m3⟩, m5⟩ := ok_hs C GL
  dsimp only at m1 m2 m3 m5
  have I1 := RI_re V.1.2.1 m1
  have O1 := OI_re V.1.2.2.1 m1
  obtain ⟨⟨b, d⟩, e2, rr, r9⟩ := ok_hs (R δ1 I1 O1) (RS δ1 I1 O1 ⟨m1.2.2.2.1 10 _, m1.2.2.2.1 11 _, m1.2.2.2.1 12 _⟩)
  dsimp only at rr r9
  obtain ⟨⟨r1, r2, r3, r4, r5, r6, r7⟩, r8⟩ := id rr
  have F := m1.2.2.2.1
  have FR := m1.2.2.2.2
  have i3 := IY.i3 (ad := ad) km V.1.2.1
  have eJ : q_J d = q_J δ1 := congrArg Prod.snd r1.2.2.2.2
  have K2 := csk_R r1
  have eAl := IY_al V.2
  have eA1 : shA (Ad ad 99) δ1 = shA (Ad ad 99) δ := by unfold shA; rw [F 10]
  obtain ⟨eM, eR, eN, eT, eF⟩ := hr_same (ad := ad) (V := []) (δ := δ) (d := δ1) (fun i a b _ => FR i (Or.inl a) b) (fun i _ z => by cases z)
  have same : csm ad δ δ1 → kr ad [100, 125] δ1 d → HX ad d := fun c k => by
    have X1 : HX ad δ1 := X.k i3 (csk_m L c) (rsk_C m1)
    exact X1.k (by rw [F 18]; exact i3) K2 ⟨fun q hq => by rcases hq with rfl | rfl; exact r5; exact r8, bak_k (k 102 (by decide) (by decide) (by decide)) (k 103 (by decide) (by decide) (by decide)), fun i a b => k i (by omega) (by omega) (by simp only [List.mem_cons, List.not_mem_nil, or_false]; omega)⟩
  have fin : (q_I d 12 0 (Ad ad 99) = kk ∧ (Z → kk = 0 → q_J d o 0 = b.toInt64)) ∧ HX ad d := by
    rcases m5 with ⟨g1, g2, g3⟩ | ⟨A, B, hA, hB, hx, hy, g⟩
    · rcases r9 with ⟨s1, s2, s3⟩ | ⟨A, B, hA, hB, hx, hy, _⟩
      · exact ⟨⟨by rw [s2, g2], fun _ z => by rw [g2] at z; exact absurd z (by decide)⟩, same g3 (kr_w (by decide) s3)⟩
      · exfalso; omega
    · rcases r9 with ⟨s1, _⟩ | ⟨A', B', hA', hB', hx', hy', s⟩
      · exfalso; omega
      · obtain rfl : A' = A := by omega
        obtain rfl : B' = B := by omega
        rw [eA1, ← eAl] at s
        rcases g with ⟨g1, g2, g3⟩ | ⟨ne, g1, g1', g2, w, p, g4, gp, g5⟩ <;> rcases s with ⟨s1, s2, s3⟩ | ⟨_, s1, s1', s2, p', sp, s3⟩
        · exact ⟨⟨by rw [s2, g2], fun _ z => by rw [g2] at z; exact absurd z (by decide)⟩, same g3 (kr_w (by decide) s3)⟩
        · exfalso; omega
        · exfalso; omega
        · obtain ⟨qa1, qa2, _⟩ := X.1 A' hA
          obtain ⟨qb1, qb2, _⟩ := X.1 B' hB
          have pm := gp.1
          have mm := qa1.1
          have mb := qb1.1
          rw [eM, eR] at sp
          obtain rfl : p' = p := PL_u sp (PL_c qa1.s gp)
          have en : (cM ad δ A').toNat - p' = (hM ad δ A').toNat - p' := by rw [mm]
          have ef : cn (fun j => ¬ ME (cM ad δ B') (cR ad δ B') (cR ad δ A' (p' + j))) 0 ((hM ad δ A').toNat - p') = cn (fun j => ¬ ME (hM ad δ B') (hR ad δ B') (hR ad δ A' (p' + j))) 0 ((hM ad δ A').toNat - p') := cn_congr _ 0 (fun j _ _ => by rw [qa1.2 (p' + j) (by omega), ← ME_i qb1])
          have el : ∀ c, lst c (fun j => cR ad δ A' (p' + j)) ((hM ad δ A').toNat - p') 0 = lst c (fun j => hR ad δ A' (p' + j)) ((hM ad δ A').toNat - p') 0 := fun c => lst_c _ 0 (fun j _ _ => qa1.2 (p' + j) (by omega))
          unfold hS3 at g5
          dsimp only at g5
          rw [en, ef, el, el] at g5
          unfold rS3 sRf at s3
          simp only [eM, eR, eN, eT, eF] at s3
          have ans : ∀ {w' : Int32}, w = w' → b = w' → q_I d 12 0 (Ad ad 99) = kk ∧ (Z → kk = 0 → q_J d o 0 = b.toInt64) := fun h1 h2 => ⟨by rw [s2, g2], fun _ _ => by rw [eJ, g4, h1, h2]⟩
          rcases g5 with ⟨a1, a3, a4⟩ | ⟨a1, a2, a3, a4⟩ | ⟨a1, a2, a2', a3, ts, us, a4, a4', a5⟩ <;> rcases s3 with ⟨b1, b3, b4⟩ | ⟨b1, b2, b3, b4⟩ | ⟨b1, b2, b2', b3, b3', ts', us', b4, b4', b5⟩
          · exact ⟨ans a3 b3, same a4 (kr_w (by decide) b4)⟩
          · exfalso; omega
          · exfalso; omega
          · exfalso; omega
          · exact ⟨ans a3 b3, same a4 (kr_w (by decide) b4)⟩
          · exfalso; omega
          · exfalso; omega
          · exfalso; omega
          · -- the calls
            have rgA : ∀ j, 0 ≤ j → j < 0 + ((hM ad δ A').toNat - p') → 0 ≤ hR ad δ A' (p' + j) ∧ hR ad δ A' (p' + j) < shA (Ad ad 99) δ := fun j _ hj => hs_rg (V.1.2.2.1.1 A' hA) (by omega)
            have mem1 := lst_m (call := 1) (Y := fun j => hR ad δ A' (p' + j)) _ 0 rgA
            have mem0 := lst_m (call := 0) (Y := fun j => hR ad δ A' (p' + j)) _ 0 rgA
            have HA0 : HEs (shA (Ad ad 99) δ) (sCl ad δ A') (hM ad δ A', hR ad δ A', hN ad δ A', nT ad δ A', cF ad δ A') := X.1 A' hA
            have HB0 : HEs (shA (Ad ad 99) δ) (sCl ad δ B') (hM ad δ B', hR ad δ B', hN ad δ B', nT ad δ B', cF ad δ B') := X.1 B' hB
            have HA1 := ch_HE _ _ _ _ _ _ _ mem1 a4 b4 HA0
            have HB1 := ch_HE _ _ _ _ _ _ _ mem0 a4' b4' HB0
            have ggA := ch_g _ _ _ _ b4
            have ggB := ch_g _ _ _ _ b4'
            have eA : shA (Ad ad 99) d = shA (Ad ad 99) δ := by unfold shA; rw [r5, F 10]
            refine ⟨⟨by rw [s2, g2], fun hz _ => ?_⟩, fun K hK => ?_, X.2.g i3 (by rw [r8, F 18]) (fun j hj => ?_) (fun i a b => ?_) (fun K hK => ?_)⟩
            · rw [eJ, g4, a5, b5, ch_ts (fn hz) _ _ _ _ _ _ _ mem1 a4 b4 HA0, ch_ts (fn hz) _ _ _ _ _ _ _ mem0 a4' b4' HB0]
            · rw [eA]
              obtain ⟨y1, y2, y3, y4, _⟩ := K2.1 K hK
              unfold HE
              rw [y1, y2, y3, y4]
              by_cases c : K = A'
              · subst c
                exact HA1
              · by_cases c' : K = B'
                · subst c'
                  exact HB1
                · obtain ⟨z1, z2, z3, z4⟩ := (mf2_o L hA hB a3).1 K hK c c'
                  obtain ⟨p1, p2, p3, p4⟩ := b3' K c c'
                  rw [eM] at p1
                  rw [eN] at p2
                  rw [eR] at p3
                  rw [eT, eF] at p4
                  have bN := (rb_106 L V.1.2.1 K).2
                  have vN : (q_R δ (Ad ad 106) K).toInt = hN ad δ K := rfl
                  have bM := (rb_103 L V.1.2.1 K).2
                  have vM : (q_R δ (Ad ad 103) K).toInt = hM ad δ K := rfl
                  rw [z1, z2, z3, z4]
                  exact (X.1 K hK).c rfl RE.r rfl (fun _ _ => rfl) ⟨p1, fun i hi => p3 i (by omega)⟩ p2 (fun i hi => p4 i (by omega))
            · rw [K2.2 j hj, (mf2_o L hA hB a3).2 j hj]
            · rw [b3 i (by omega) (by omega) (by simp only [List.mem_cons, List.not_mem_nil, or_false]; omega), FR i (Or.inl (by omega)) (by omega)]
            · by_cases c : K = A'
              · subst c
                exact ggA
              · by_cases c' : K = B'
                · subst c'
                  exact ggB
                · obtain ⟨p1, p2, p3, p4⟩ := b3' K c c'
                  rw [eN] at p2
                  rw [eT, eF] at p4
                  have bN := (rb_106 L V.1.2.1 K).2
                  have vN : (q_R δ (Ad ad 106) K).toInt = hN ad δ K := rfl
                  exact ⟨by rw [p2]; exact Int.le_refl _, fun i hi => p4 i (by omega)⟩
  exact ⟨d, ⟨kk, b, δ1, e1, e2, fin.1.1, fin.1.2⟩, IY_end V m1 m2 m3 rr fin.2⟩
