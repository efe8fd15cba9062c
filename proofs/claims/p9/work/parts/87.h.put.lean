/-! put and drop: alike -/
theorem mra_g {call x M n M1 n1 : Int} {R T F R1 T1 F1 : Nat → Int} (r : mra call x M R n T F M1 R1 n1 T1 F1) : n ≤ n1 ∧ ∀ i : Nat, (i : Int) < n → T1 i = T i ∧ F1 i = F i := by
  rcases r with ⟨_, _, _, r3, r4⟩ | ⟨_, _, _, r3, r4⟩ | ⟨_, _, _, r3, r4⟩ | ⟨_, _, _, r3, r4⟩
  · exact ⟨by omega, r4⟩
  · refine ⟨by omega, fun i hi => ?_⟩
    have := r4 i (by omega)
    rw [if_neg (by omega), if_neg (by omega)] at this
    exact this
  · exact ⟨by omega, r4⟩
  · refine ⟨by omega, fun i hi => ?_⟩
    have := r4 i (by omega)
    rw [if_neg (by omega), if_neg (by omega)] at this
    exact this
theorem chA_u {M N n m c x v w : Int} {R Q : Nat → Int} (e : RE M R N Q) (en : m = n) (h : chA M R n c x v) (g : chA N Q m c x w) : v = w := by
  have mi := ME_i (x := x) e
  have e1 := e.1
  rcases h with ⟨h1, h2, h3⟩ | ⟨h1, h2, h3⟩ | ⟨h1, h2⟩ <;> rcases g with ⟨g1, g2, g3⟩ | ⟨g1, g2, g3⟩ | ⟨g1, g2⟩
  · rw [h3, g3]
  · rw [h3, g3]
  · exact absurd (mi.mp h2) (g1.mp h1)
  · rw [h3, g3]
  · rw [h3, g3]
  · exact absurd (g1.mpr (fun z => h2 (mi.mpr z))) (by omega)
  · exact absurd (mi.mpr g2) (h1.mp g1)
  · exact absurd (h1.mpr (fun z => g2 (mi.mp z))) (by omega)
  · rcases h2 with ⟨a, b, c⟩ | ⟨a, b, c⟩ | ⟨a, b, c⟩ <;> rcases g2 with ⟨a', b', c'⟩ | ⟨a', b', c'⟩ | ⟨a', b', c'⟩ <;> omega
theorem chA_k {M n c x v : Int} {R : Nat → Int} (h : chA M R n c x v) (hv : v = 1) : n < 1000 := by
  rcases h with ⟨_, _, h3⟩ | ⟨_, _, h3⟩ | ⟨_, ⟨_, _, h3⟩ | ⟨_, _, h3⟩ | ⟨_, h3, _⟩⟩ <;> omega
theorem HX_m {ad : List Nat} {δ d : dp} {H : Nat} {call x : Int} (X : HX ad δ) (i3 : (q_I δ 12 18 (Ad ad 99)).toInt ≤ 3) (hH : H < 4) (x0 : 0 ≤ x) (xA : x < shA (Ad ad 99) δ) (bN : ∀ K, K < 4 → hN ad δ K ≤ 1000) (bM : ∀ K, K < 4 → hM ad δ K ≤ 2000)
    (cm : mka call x (cM ad δ H) (cR ad δ H) (cN ad δ H) (cC ad δ H) (cM ad d H) (cR ad d H) (cN ad d H) (cC ad d H)) (co : ∀ K, K < 4 → K ≠ H → cM ad d K = cM ad δ K ∧ cR ad d K = cR ad δ K ∧ cN ad d K = cN ad δ K ∧ cC ad d K = cC ad δ K) (ci : ∀ j, j < 3 → q_R d (Ad ad (56 + j)) = q_R δ (Ad ad (56 + j)))
    (rm : mr ad H call x δ d) (ro : mfr ad H δ d) (r18 : q_I d 12 18 (Ad ad 99) = q_I δ 12 18 (Ad ad 99)) (r10 : q_I d 12 10 (Ad ad 99) = q_I δ 12 10 (Ad ad 99)) (ri : ∀ i, 107 ≤ i → i < 112 → q_R d (Ad ad i) = q_R δ (Ad ad i)) : HX ad d := by
  obtain ⟨X1, X2⟩ := X
  have eA : shA (Ad ad 99) d = shA (Ad ad 99) δ := by unfold shA; rw [r10]
  refine ⟨fun K hK => ?_, X2.g i3 r18 ci ri (fun K hK => ?_)⟩
  · rw [eA]
    by_cases c : K = H
    · subst c
      exact (X1 K hK).m x0 xA cm rm
    · obtain ⟨o1, o2, o3, o4⟩ := co K hK c
      obtain ⟨p1, p2, p3, p4⟩ := ro K c
      unfold HE
      rw [o1, o2, o3, o4]
      have b1 := bN K hK
      have b2 := bM K hK
      exact (X1 K hK).c rfl RE.r rfl (fun _ _ => rfl) ⟨p1, fun i hi => p3 i (by omega)⟩ p2 (fun i hi => p4 i (by omega))
  · by_cases c : K = H
    · subst c
      exact mra_g rm
    · obtain ⟨p1, p2, p3, p4⟩ := ro K c
      have b1 := bN K hK
      exact ⟨by rw [p2]; exact Int.le_refl _, fun i hi => p4 i (by omega)⟩
theorem mf_o {ad : List Nat} {h : hp} (L : Lay TLx ad h) {H : Nat} (hH : H < 4) {δ d : dp} (m : mf ad H δ d) : (∀ K, K < 4 → K ≠ H → cM ad d K = cM ad δ K ∧ cR ad d K = cR ad δ K ∧ cN ad d K = cN ad δ K ∧ cC ad d K = cC ad δ K ∧ cT ad d K = cT ad δ K) ∧ ∀ j, j < 3 → q_R d (Ad ad (56 + j)) = q_R δ (Ad ad (56 + j)) := by
  obtain ⟨m1, m2⟩ := m
  refine ⟨fun K hK n => ⟨?_, ?_, ?_, ?_, ?_⟩, fun j hj => m2 _ (ad_ne L (by omega) (by decide) (by omega)) (ad_ne L (by omega) (by omega) (by omega)) (ad_ne L (by omega) (by omega) (by omega)) (ad_ne L (by omega) (by omega) (by omega))⟩
  · unfold cM; rw [m1 3 1 _ (by decide) (by decide) (fun z => ad_ne L (by omega) (by omega) (by omega) z.2.2) (fun z => by omega)]
  · funext i; unfold cR; rw [m2 _ (ad_ne L (by omega) (by decide) (by omega)) (ad_ne L (by omega) (by omega) (by omega)) (ad_ne L (by omega) (by omega) (by omega)) (ad_ne L (by omega) (by omega) (by omega))]
  · unfold cN; rw [m1 2 4 _ (by decide) (by decide) (fun z => by omega) (fun z => ad_ne L (by omega) (by omega) (by omega) z.2.2)]
  · funext i; unfold cC; rw [m2 _ (ad_ne L (by omega) (by decide) (by omega)) (ad_ne L (by omega) (by omega) (by omega)) (ad_ne L (by omega) (by omega) (by omega)) (ad_ne L (by omega) (by omega) (by omega))]
  · funext i; unfold cT; rw [m2 _ (ad_ne L (by omega) (by decide) (by omega)) (ad_ne L (by omega) (by omega) (by omega)) (ad_ne L (by omega) (by omega) (by omega)) (ad_ne L (by omega) (by omega) (by omega))]
/-- what the law's helper says of put and drop of the class -/
def hLP (ad : List Nat) (N : Nat) (g : gp) (call : Int) (x0 x1 x2 : Int32) (o : Nat) (δ : dp) (kk : Int32) (d : dp) : Prop :=
  ((x1.toInt < 0 ∨ 3 < x1.toInt) ∧ kk = 1 ∧ csm ad δ d) ∨
  ∃ H : Nat, H < 4 ∧ x1.toInt = (H : Int) ∧
    (((x2.toInt < 0 ∨ scA ad δ ≤ x2.toInt) ∧ kk = 2 ∧ csm ad δ d) ∨
    (0 ≤ x2.toInt ∧ x2.toInt < scA ad δ ∧ kk = 0 ∧ ∃ w : Int32, q_J d o 0 = w.toInt64 ∧ chA (cM ad δ H) (cR ad δ H) (cN ad δ H) call x2.toInt w.toInt ∧
      ((w.toInt ≠ 1 ∧ csm ad δ d) ∨ (w.toInt = 1 ∧ ∃ (d0 : dp) (tv : Int32) (d1 : dp), csm ad δ d0 ∧ mf ad H d0 d ∧ D_X1_touchesOf N g (Ad ad (80 + 6 * H)) x0 x2 d0 = some (tv, d1) ∧ mk ad H call x2.toInt tv.toInt d0 d))))
theorem jup {δ : dp} {o : Nat} {v : Int64} : q_J (s_J δ o 0 v) o 0 = v := by
  show va_up (q_J δ) o (vp_updL (q_J δ o) 0 v) o 0 = _
  simp [va_up, vp_updL]
theorem hLP_of {ad : List Nat} {N : Nat} {g : gp} {call : Int} {x0 x1 x2 : Int32} {o : Nat} {δ : dp} {X : Option ((Int32 ⊕ Nat) × dp)} (H : hs X (fun r => hCP ad N g call x0 x1 x2 δ r.1 r.2)) {f : (Int32 ⊕ Nat) × dp → Option (Int32 × dp)} (hf1 : ∀ v d, hs (f (.inl v, d)) (fun r => r = (0, s_J d o 0 v.toInt64))) (hf2 : ∀ d, hs (f (.inr 0, d)) (fun r => r = (1, d))) (hf3 : ∀ d, hs (f (.inr 2, d)) (fun r => r = (2, d))) : hs (X.bind f) (fun r => hLP ad N g call x0 x1 x2 o δ r.1 r.2) := by
  refine hs_bind H (fun r hr => ?_)
  obtain ⟨v, d⟩ := r
  rcases hr with ⟨h1, h2, h3⟩ | ⟨K, hK, hx, ⟨h1, h2, h3⟩ | ⟨h1, h2, w, h3, h4, h5⟩⟩
  · dsimp only at h2 h3
    subst h2
    exact hs_mono (hf2 d) (fun r e => by rw [e]; exact Or.inl ⟨h1, rfl, h3⟩)
  · dsimp only at h2 h3
    subst h2
    exact hs_mono (hf3 d) (fun r e => by rw [e]; exact Or.inr ⟨K, hK, hx, Or.inl ⟨h1, rfl, h3⟩⟩)
  · dsimp only at h3 h5
    subst h3
    refine hs_mono (hf1 w d) (fun r e => by rw [e]; exact Or.inr ⟨K, hK, hx, Or.inr ⟨h1, h2, rfl, w, jup, h4, h5⟩⟩)
theorem hL_put {ad : List Nat} {h : hp} (L : Lay TLx ad h) {δ0 : dp} {N : Nat} (hN : 10000000 ≤ N) {x1 x2 : Int32} {o : Nat} {δ : dp} (I : CI ad h.1 δ0 δ) (S : ∀ K, K < 4 → SR (cM ad δ K) (cR ad δ K)) : hs (D_L_put N h.1 (Ad ad 0) x1 x2 o δ) (fun r => hLP ad N h.1 0 0 x1 x2 o δ r.1 r.2) := by
  unfold D_L_put
  refine hLP_of (hc_put L hN (x1 := x1) (x2 := x2) I S) (fun v d => ?_) (fun d => ?_) (fun d => ?_)
  · exact hs_gd (fun _ => hs_some rfl)
  · exact hs_ite (fun _ => hs_some rfl) (fun z => absurd rfl z)
  · exact hs_ite (fun z => absurd z (by decide)) (fun _ => hs_ite (fun z => absurd z (by decide)) (fun _ => hs_some rfl))
theorem hL_drop {ad : List Nat} {h : hp} (L : Lay TLx ad h) {δ0 : dp} {N : Nat} (hN : 10000000 ≤ N) {x1 x2 : Int32} {o : Nat} {δ : dp} (I : CI ad h.1 δ0 δ) (S : ∀ K, K < 4 → SR (cM ad δ K) (cR ad δ K)) : hs (D_L_drop N h.1 (Ad ad 0) x1 x2 o δ) (fun r => hLP ad N h.1 1 1 x1 x2 o δ r.1 r.2) := by
  unfold D_L_drop
  refine hLP_of (hc_drop L hN (x1 := x1) (x2 := x2) I S) (fun v d => ?_) (fun d => ?_) (fun d => ?_)
  · exact hs_gd (fun _ => hs_some rfl)
  · exact hs_ite (fun _ => hs_some rfl) (fun z => absurd rfl z)
  · exact hs_ite (fun z => absurd z (by decide)) (fun _ => hs_ite (fun z => absurd z (by decide)) (fun _ => hs_some rfl))
theorem HX.S {ad : List Nat} {δ : dp} (X : HX ad δ) {K : Nat} (hK : K < 4) : SR (cM ad δ K) (cR ad δ K) := by
  obtain ⟨h1, _, _, h4, _⟩ := X.1 K hK
  exact SR_c h1 h4
theorem HX.T {ad : List Nat} {δ : dp} (X : HX ad δ) {K : Nat} (hK : K < 4) : hsr ad δ K := by
  obtain ⟨_, _, _, h4, h5, _⟩ := X.1 K hK
  exact ⟨h5, h4⟩
/-- put and drop -/
theorem stepP {ad : List Nat} {h : hp} (L : Lay TLx ad h) {N : Nat} (km : q_K h.1 (Ad ad 99) = 12) {δ : dp} (V : IY ad h.1 δ) {o1 : Option (Int32 × dp)} {f : dp → Option (Int32 × dp)} {call : Int} {x0 x1 x2 : Int32} {o : Nat} {V12 : List Nat} (hV : ∀ i ∈ [107, 108, 109, 110, 111], i ∉ V12)
    (C : ok o1 (fun r => CI ad h.1 δ r.2 ∧ (q_I r.2 7 1 (Ad ad 1)).toInt = (q_I δ 7 1 (Ad ad 1)).toInt ∧ ∀ a, q_I r.2 5 0 a = q_I δ 5 0 a ∧ q_I r.2 5 1 a = q_I δ 5 1 a ∧ q_I r.2 5 2 a = q_I δ 5 2 a ∧ q_I r.2 11 12 a = q_I δ 11 12 a))
    (GL : hs o1 (fun r => hLP ad N h.1 call x0 x1 x2 o δ r.1 r.2))
    (R : ∀ δ1, RI ad h.1 δ1 δ1 → OI ad (Ad ad 99) δ1 → ok (f δ1) (fun r => OR ad h.1 (Ad ad 99) δ1 δ1 r.2 ∧ q_I r.2 12 18 (Ad ad 99) = q_I δ1 12 18 (Ad ad 99)))
    (RS : ∀ δ1, RI ad h.1 δ1 δ1 → OI ad (Ad ad 99) δ1 → hs (f δ1) (fun r => hRP ad (Ad ad 99) call x1 x2 δ1 r.1 r.2 ∧ kr ad V12 δ1 r.2)) :
    ∃ d, (∃ (kk b : Int32) (δ1 : dp), o1 = some (kk, δ1) ∧ f δ1 = some (b, d) ∧ q_I d 12 0 (Ad ad 99) = kk ∧ (kk = 0 → q_J d o 0 = b.toInt64)) ∧ IY ad h.1 d := by
  obtain ⟨⟨V, A⟩, X⟩ := V
  obtain ⟨⟨kk, δ1⟩, e1, ⟨m1, m2, m3⟩, m5⟩ := ok_hs C GL
  dsimp only at m1 m2 m3 m5
  have I1 := RI_re V.2.1 m1
  have O1 := OI_re V.2.2.1 m1
  obtain ⟨⟨b, d⟩, e2, ⟨⟨r1, r2, r3, r4, r5, r6, r7⟩, r8⟩, r9, r10⟩ := ok_hs (R δ1 I1 O1) (RS δ1 I1 O1)
  dsimp only at r1 r2 r3 r4 r5 r6 r7 r8 r9 r10
  have F := m1.2.2.2.1
  have FR := m1.2.2.2.2
  have i3 := IY.i3 (ad := ad) km V.2.1
  have a4 : q_I δ 5 0 (Ad ad 3) = q_I δ1 12 10 (Ad ad 99) := A.2.2.2.1.trans (F 10 _).symm
  have eA : scA ad δ = shA (Ad ad 99) δ1 := by show ((1 : Int32) <<< (q_I δ 5 0 (Ad ad 3) &&& 31)).toInt = ((1 : Int32) <<< (q_I δ1 12 10 (Ad ad 99) &&& 31)).toInt; rw [a4]
  have eA0 : shA (Ad ad 99) δ1 = shA (Ad ad 99) δ := by unfold shA; rw [F 10]
  have w2 : q_R δ1 (Ad ad 102) = q_R δ (Ad ad 102) := FR 102 (Or.inl (by decide)) (by decide)
  have w3 : q_R δ1 (Ad ad 103) = q_R δ (Ad ad 103) := FR 103 (Or.inl (by decide)) (by decide)
  have w4 : q_R δ1 (Ad ad 104) = q_R δ (Ad ad 104) := FR 104 (Or.inl (by decide)) (by decide)
  have w5 : q_R δ1 (Ad ad 105) = q_R δ (Ad ad 105) := FR 105 (Or.inl (by decide)) (by decide)
  have w6 : q_R δ1 (Ad ad 106) = q_R δ (Ad ad 106) := FR 106 (Or.inl (by decide)) (by decide)
  have M1 : ∀ J, hM ad δ1 J = hM ad δ J := fun J => by unfold hM; rw [w3]
  have R1 : ∀ J, hR ad δ1 J = hR ad δ J := fun J => by funext i; unfold hR; rw [w2]
  have N1 : ∀ J, hN ad δ1 J = hN ad δ J := fun J => by unfold hN; rw [w6]
  have T1 : ∀ J, nT ad δ1 J = nT ad δ J := fun J => by funext i; unfold nT; rw [w4]
  have F1 : ∀ J, cF ad δ1 J = cF ad δ J := fun J => by funext i; unfold cF; rw [w5]
  have eJ : q_J d = q_J δ1 := congrArg Prod.snd r1.2.2.2.2
  have K2 := csk_R r1
  have fin : (q_I d 12 0 (Ad ad 99) = kk ∧ (kk = 0 → q_J d o 0 = b.toInt64)) ∧ HX ad d := by
    have same : csm ad δ δ1 → kr ad [100] δ1 d → HX ad d := fun c k => by
      have X1 : HX ad δ1 := X.k i3 (csk_m L c) (rsk_C m1)
      exact X1.k (by rw [F 18]; exact i3) K2 ⟨fun q hq => by rcases hq with rfl | rfl; exact r5; exact r8, bak_k (k 102 (by decide) (by decide) (by decide)) (k 103 (by decide) (by decide) (by decide)), fun i a b => k i (by omega) (by omega) (by simp only [List.mem_cons, List.not_mem_nil, or_false]; omega)⟩
    rcases m5 with ⟨g1, g2, g3⟩ | ⟨H, hH, hx, g⟩
    · rcases r9 with ⟨s1, s2, s3⟩ | ⟨H, hH, hx, _⟩
      · exact ⟨⟨by rw [s2, g2], fun z => by rw [g2] at z; exact absurd z (by decide)⟩, same g3 s3⟩
      · exfalso; omega
    · rcases r9 with ⟨s1, _⟩ | ⟨H', hH', hx', s⟩
      · exfalso; omega
      · obtain rfl : H' = H := by omega
        rw [← eA, M1, R1, N1] at s
        obtain ⟨q1, q2, q3, q4, q5, q6, q7, q8, q9⟩ := X.1 H' hH
        rcases g with ⟨g1, g2, g3⟩ | ⟨g1, g1', g2, w, g3, g4, g5⟩ <;> rcases s with ⟨s1, s2, s3⟩ | ⟨s1, s1', s2, s3, s4⟩
        · exact ⟨⟨by rw [s2, g2], fun z => by rw [g2] at z; exact absurd z (by decide)⟩, same g3 s3⟩
        · exfalso; omega
        · exfalso; omega
        · have vw : w.toInt = b.toInt := chA_u q1.s (by omega) g4 s3
          refine ⟨⟨by rw [s2, g2], fun _ => by rw [eJ, g3]; exact i64 vw⟩, ?_⟩
          rcases g5 with ⟨n1, c⟩ | ⟨n1, d0, tv, d1, c0, c1, c2, c3⟩ <;> rcases s4 with ⟨n2, k⟩ | ⟨n2, k1, k2⟩
          · exact same c k
          · exfalso; omega
          · exfalso; omega
          · have co := mf_o L hH c1
            have cc := csk_m L c0
            obtain ⟨z1, z2, z3, z4, _⟩ := cc.1 H' hH
            obtain ⟨y1, y2, y3, y4, _⟩ := K2.1 H' hH
            have mm := mk_a c3
            rw [z1, z2, z3, z4] at mm
            refine HX_m X i3 hH g1 (by rw [← eA0, ← eA]; exact g1') (fun K _ => (rb_106 L V.2.1 K).2) (fun K _ => (rb_103 L V.2.1 K).2) (by rw [y1, y2, y3, y4]; exact mm) (fun K hK n => ?_) (fun j hj => ?_) ?_ (fun J nJ => ?_) (by rw [r8, F 18]) (by rw [r5, F 10]) (fun i a b => ?_)
            · obtain ⟨a1, a2, a3, a4, _⟩ := K2.1 K hK
              obtain ⟨b1, b2, b3, b4, _⟩ := co.1 K hK n
              obtain ⟨e1, e2, e3, e4, _⟩ := cc.1 K hK
              exact ⟨by rw [a1, b1, e1], by rw [a2, b2, e2], by rw [a3, b3, e3], by rw [a4, b4, e4]⟩
            · rw [K2.2 j hj, co.2 j hj, cc.2 j hj]
            · unfold mr at k1 ⊢
              rw [M1, R1, N1, T1, F1] at k1; exact k1
            · have := k2 J nJ
              rw [M1, R1, N1, T1, F1] at this; exact this
            · rw [r10 i (by omega) (by omega) (hV i (by simp only [List.mem_cons, List.not_mem_nil, or_false]; omega)), FR i (Or.inl (by omega)) (by omega)]
  refine ⟨d, ⟨kk, b, δ1, e1, e2, fin.1.1, fin.1.2⟩, ⟨IV_end V m1 r1 r2 ?_, ?_⟩, fin.2⟩
  · rw [m2, r3, F 2 (Ad ad 99)]; exact V.2.2.2
  · obtain ⟨t1, t2⟩ := AL_t A m1 r1 r4
    have G := r1.2.2.1
    obtain ⟨a1, a2, a3, a4, a5, a6⟩ := A
    refine ⟨t1, t2, ?_, ?_, ?_, ?_⟩
    · rw [G 11 12 _ (by decide), (m3 _).2.2.2, r8, F 18]; exact a3
    · rw [G 5 0 _ (by decide), (m3 _).1, r5, F 10]; exact a4
    · rw [G 5 1 _ (by decide), (m3 _).2.1, r7, F 12]; exact a5
    · rw [G 5 2 _ (by decide), (m3 _).2.2.1, r6, F 11]; exact a6
