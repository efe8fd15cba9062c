/-! all houses and images alike -/
def iT (ad : List Nat) (δ : dp) (j K i : Nat) : Int := (q_R δ (Ad ad 109) (4000 * j + (1000 * K + i))).toInt
def iF (ad : List Nat) (δ : dp) (j K i : Nat) : Int := (q_R δ (Ad ad 110) (4000 * j + (1000 * K + i))).toInt
def iN (ad : List Nat) (δ : dp) (j K : Nat) : Int := (q_R δ (Ad ad 111) (4 * j + K)).toInt
def iM (ad : List Nat) (δ : dp) (j K : Nat) : Int := (q_R δ (Ad ad 108) (4 * j + K)).toInt
def iR (ad : List Nat) (δ : dp) (j K i : Nat) : Int := (q_R δ (Ad ad 107) (8000 * j + (2000 * K + i))).toInt
/-- an IMAGE of a house: a time of its PAST -/
def IEa (n : Int) (T F : Nat → Int) (m : Int) (T1 F1 : Nat → Int) (M : Int) (R : Nat → Int) : Prop := 0 ≤ m ∧ m ≤ n ∧ (∀ i : Nat, (i : Int) < m → T1 i = T i ∧ F1 i = F i) ∧ SR M R ∧ 0 ≤ M ∧ (∀ y, ME M R y ↔ St T F m.toNat y) ∧ M = Ct F m.toNat
theorem IEa.g {n m M n2 : Int} {T F T1 F1 R T2 F2 : Nat → Int} (h : IEa n T F m T1 F1 M R) (hn : m ≤ n2) (e : ∀ i : Nat, (i : Int) < m → T2 i = T i ∧ F2 i = F i) : IEa n2 T2 F2 m T1 F1 M R := by
  obtain ⟨h1, h2, h3, h4, h5, h6, h7⟩ := h
  refine ⟨h1, hn, fun i hi => ?_, h4, h5, fun y => ?_, ?_⟩
  · rw [(e i hi).1, (e i hi).2]; exact h3 i hi
  · rw [h6 y]; exact (St_c _ (fun t ht => e t (by omega)) y).symm
  · rw [h7]; exact (Ct_c _ (fun t ht => (e t (by omega)).2)).symm
def IE (ad : List Nat) (δ : dp) : Prop := ∀ j : Nat, (j : Int) < (q_I δ 12 18 (Ad ad 99)).toInt → ∀ K, K < 4 → (q_R δ (Ad ad (56 + j)) K).toInt = iN ad δ j K ∧ IEa (hN ad δ K) (nT ad δ K) (cF ad δ K) (iN ad δ j K) (iT ad δ j K) (iF ad δ j K) (iM ad δ j K) (iR ad δ j K) ∧ ∀ j' : Nat, j < j' → (j' : Int) < (q_I δ 12 18 (Ad ad 99)).toInt → iN ad δ j K ≤ iN ad δ j' K
def HX (ad : List Nat) (δ : dp) : Prop := (∀ K, K < 4 → HE ad (shA (Ad ad 99) δ) δ K) ∧ IE ad δ
/-- images: rows as they were, CHANGES at most more -/
theorem IE.g {ad : List Nat} {δ d : dp} (E : IE ad δ) (i3 : (q_I δ 12 18 (Ad ad 99)).toInt ≤ 3) (e18 : q_I d 12 18 (Ad ad 99) = q_I δ 12 18 (Ad ad 99)) (ec : ∀ j, j < 3 → q_R d (Ad ad (56 + j)) = q_R δ (Ad ad (56 + j))) (er : ∀ i, 107 ≤ i → i < 112 → q_R d (Ad ad i) = q_R δ (Ad ad i)) (eg : ∀ K, K < 4 → hN ad δ K ≤ hN ad d K ∧ ∀ i : Nat, (i : Int) < hN ad δ K → nT ad d K i = nT ad δ K i ∧ cF ad d K i = cF ad δ K i) : IE ad d := by
  have r7 := er 107 (by decide) (by decide)
  have r8 := er 108 (by decide) (by decide)
  have r9 := er 109 (by decide) (by decide)
  have r10 := er 110 (by decide) (by decide)
  have r11 := er 111 (by decide) (by decide)
  intro j hj K hK
  rw [e18] at hj ⊢
  obtain ⟨h1, h2, h3⟩ := E j hj K hK
  obtain ⟨g1, g2⟩ := eg K hK
  have eN : ∀ j, iN ad d j K = iN ad δ j K := fun j => by unfold iN; rw [r11]
  have eT : iT ad d j K = iT ad δ j K := by funext i; unfold iT; rw [r9]
  have eF : iF ad d j K = iF ad δ j K := by funext i; unfold iF; rw [r10]
  have eM : iM ad d j K = iM ad δ j K := by unfold iM; rw [r8]
  have eR : iR ad d j K = iR ad δ j K := by funext i; unfold iR; rw [r7]
  rw [eN, eT, eF, eM, eR, ec j (by omega)]
  exact ⟨h1, h2.g (Int.le_trans h2.2.1 g1) (fun i hi => g2 i (Int.lt_of_lt_of_le hi h2.2.1)), fun j' a b => by rw [eN]; exact h3 j' a b⟩
/-- the class's part untouched -/
def csk (ad : List Nat) (δ d : dp) : Prop := (∀ K, K < 4 → cM ad d K = cM ad δ K ∧ cR ad d K = cR ad δ K ∧ cN ad d K = cN ad δ K ∧ cC ad d K = cC ad δ K ∧ cT ad d K = cT ad δ K) ∧ ∀ j, j < 3 → q_R d (Ad ad (56 + j)) = q_R δ (Ad ad (56 + j))
theorem csk_G {v s : Bool} {ad : List Nat} {δ d : dp} (G : HG v s ad δ d) : csk ad δ d := by
  obtain ⟨⟨g1, g2, g3⟩, _⟩ := G
  refine ⟨fun K hK => ⟨?_, ?_, ?_, ?_, ?_⟩, fun j hj => ?_⟩
  · unfold cM; rw [g1 _ (k4 (P := fun K => 76 + 6 * K ∈ hcl) hK (by decide) (by decide) (by decide) (by decide))]
  · funext i; unfold cR; rw [g3 _ (k4 (P := fun K => 77 + 6 * K ∈ PRS) hK (by decide) (by decide) (by decide) (by decide))]
  · unfold cN; rw [g2]
  · funext i; unfold cC; rw [g3 _ (k4 (P := fun K => 78 + 6 * K ∈ PRS) hK (by decide) (by decide) (by decide) (by decide))]
  · funext i; unfold cT; rw [g3 _ (k4 (P := fun K => 79 + 6 * K ∈ PRS) hK (by decide) (by decide) (by decide) (by decide))]
  · rcases (show j = 0 ∨ j = 1 ∨ j = 2 by omega) with rfl | rfl | rfl
    · exact g3 56 (by decide)
    · exact g3 57 (by decide)
    · exact g3 58 (by decide)
theorem csk_m {ad : List Nat} {h : hp} (L : Lay TLx ad h) {δ d : dp} (G : csm ad δ d) : csk ad δ d := by
  obtain ⟨g1, g2⟩ := G
  refine ⟨fun K hK => ⟨?_, ?_, ?_, ?_, ?_⟩, fun j hj => ?_⟩
  · unfold cM; rw [g1 3 1 _ (by decide) (by decide)]
  · funext i; unfold cR; rw [g2 _ (ad_ne L (by omega) (by decide) (by omega))]
  · unfold cN; rw [g1 2 4 _ (by decide) (by decide)]
  · funext i; unfold cC; rw [g2 _ (ad_ne L (by omega) (by decide) (by omega))]
  · funext i; unfold cT; rw [g2 _ (ad_ne L (by omega) (by decide) (by omega))]
  · exact g2 _ (ad_ne L (by omega) (by decide) (by omega))
/-- the reference's part untouched -/
def rsk (ad : List Nat) (δ d : dp) : Prop := (∀ k, k = 10 ∨ k = 18 → q_I d 12 k (Ad ad 99) = q_I δ 12 k (Ad ad 99)) ∧ bak ad δ d ∧ ∀ i, 104 ≤ i → i < 112 → q_R d (Ad ad i) = q_R δ (Ad ad i)
theorem rsk_C {ad : List Nat} {g : gp} {δ d : dp} (C : CI ad g δ d) : rsk ad δ d := by
  obtain ⟨_, _, _, j4, j5⟩ := C
  exact ⟨fun k _ => j4 k _, bak_k (j5 102 (Or.inl (by decide)) (by decide)) (j5 103 (Or.inl (by decide)) (by decide)), fun i a b => j5 i (Or.inl (by omega)) (by omega)⟩
theorem csk_R {ad : List Nat} {g : gp} {δ d : dp} (R : RI ad g δ d) : csk ad δ d := by
  obtain ⟨_, _, j3, j4, _⟩ := R
  refine ⟨fun K hK => ⟨?_, ?_, ?_, ?_, ?_⟩, fun j hj => j4 _ (by omega)⟩
  · unfold cM; rw [j3 3 1 _ (by decide)]
  · funext i; unfold cR; rw [j4 _ (by omega)]
  · unfold cN; rw [j3 2 4 _ (by decide)]
  · funext i; unfold cC; rw [j4 _ (by omega)]
  · funext i; unfold cT; rw [j4 _ (by omega)]
theorem rsk_k {ad : List Nat} {W : List (Nat × Nat)} {V : List Nat} {δ d : dp} (u : kp W δ d) (w : kr ad V δ d) (h0 : (12, 10) ∉ W ∧ (12, 18) ∉ W) (hV : ∀ i ∈ [104, 105, 106, 107, 108, 109, 110, 111], i ∉ V) (B : bak ad δ d) : rsk ad δ d := ⟨fun k hk => by
  rcases hk with rfl | rfl
  · exact u 12 10 _ h0.1
  · exact u 12 18 _ h0.2, B, fun i a b => w i (by omega) (by omega) (hV i (by simp only [List.mem_cons, List.not_mem_nil, or_false]; omega))⟩
theorem HX.k {ad : List Nat} {δ d : dp} (H : HX ad δ) (i3 : (q_I δ 12 18 (Ad ad 99)).toInt ≤ 3) (c : csk ad δ d) (r : rsk ad δ d) : HX ad d := by
  obtain ⟨H1, H2⟩ := H
  obtain ⟨c1, c2⟩ := c
  obtain ⟨r1, r2, r3⟩ := r
  have eA : shA (Ad ad 99) d = shA (Ad ad 99) δ := by unfold shA; rw [r1 10 (Or.inl rfl)]
  have r4 := r3 104 (by decide) (by decide)
  have r5 := r3 105 (by decide) (by decide)
  have r6 := r3 106 (by decide) (by decide)
  have eT : ∀ K, nT ad d K = nT ad δ K := fun K => by funext i; unfold nT; rw [r4]
  have eF : ∀ K, cF ad d K = cF ad δ K := fun K => by funext i; unfold cF; rw [r5]
  have eN : ∀ K, hN ad d K = hN ad δ K := fun K => by unfold hN; rw [r6]
  refine ⟨fun K hK => ?_, H2.g i3 (r1 18 (Or.inr rfl)) c2 (fun i a b => r3 i (by omega) b) (fun K hK => ⟨by rw [eN]; exact Int.le_refl _, fun i _ => by rw [eT, eF]; exact ⟨rfl, rfl⟩⟩)⟩
  obtain ⟨q1, q2, q3, q4, _⟩ := c1 K hK
  obtain ⟨b1, b2⟩ := r2 K hK
  rw [eA]
  unfold HE
  rw [q1, q2, q3, q4, eT, eF, eN]
  exact (H1 K hK).c rfl RE.r rfl (fun _ _ => rfl) ⟨b1, b2⟩ rfl (fun _ _ => ⟨rfl, rfl⟩)
def IY (ad : List Nat) (g : gp) (δ : dp) : Prop := IX ad g δ ∧ HX ad δ
theorem IY.i3 {ad : List Nat} {h : hp} (km : q_K h.1 (Ad ad 99) = 12) {δ : dp} (R : RI ad h.1 δ δ) : (q_I δ 12 18 (Ad ad 99)).toInt ≤ 3 := (cb_12_18 R km).2
theorem i64 {v w : Int32} (h : v.toInt = w.toInt) : v.toInt64 = w.toInt64 := by rw [i_eq h]
/-- what the law's helper says of a call of the class -/
def OL (c1 c2 : Prop) (Q : Int → Prop) (o : Nat) (kk : Int32) (d : dp) : Prop := (c1 ∧ kk = 1) ∨ (¬ c1 ∧ c2 ∧ kk = 2) ∨ (¬ c1 ∧ ¬ c2 ∧ kk = 0 ∧ ∃ w : Int32, q_J d o 0 = w.toInt64 ∧ Q w.toInt)
/-- what a call of the reference says -/
def OM (c1 c2 : Prop) (Q : Int → Prop) (a0 : Nat) (b : Int32) (d : dp) : Prop := (c1 ∧ q_I d 12 0 a0 = 1) ∨ (¬ c1 ∧ c2 ∧ q_I d 12 0 a0 = 2) ∨ (¬ c1 ∧ ¬ c2 ∧ q_I d 12 0 a0 = 0 ∧ Q b.toInt)
theorem OLM {c1 c2 d1 d2 : Prop} {Q P : Int → Prop} {o a0 : Nat} {kk b : Int32} {δ1 d : dp} (eJ : q_J d = q_J δ1) (e1 : c1 ↔ d1) (e2 : ¬ c1 → (c2 ↔ d2)) (hq : ¬ c1 → ¬ c2 → ∀ v w, Q v → P w → v = w) (h : OL c1 c2 Q o kk δ1) (g : OM d1 d2 P a0 b d) : q_I d 12 0 a0 = kk ∧ (kk = 0 → q_J d o 0 = b.toInt64) := by
  rw [eJ]
  rcases h with ⟨h1, h2⟩ | ⟨h1, h3, h2⟩ | ⟨h1, h3, h2, w, h4, h5⟩ <;> rcases g with ⟨g1, g2⟩ | ⟨g1, g3, g2⟩ | ⟨g1, g3, g2, g4⟩
  · exact ⟨by rw [g2, h2], fun z => by rw [h2] at z; exact absurd z (by decide)⟩
  · exact absurd (e1.mp h1) g1
  · exact absurd (e1.mp h1) g1
  · exact absurd (e1.mpr g1) h1
  · exact ⟨by rw [g2, h2], fun z => by rw [h2] at z; exact absurd z (by decide)⟩
  · exact absurd ((e2 h1).mp h3) g3
  · exact absurd (e1.mpr g1) h1
  · exact absurd ((e2 h1).mpr g3) h3
  · exact ⟨by rw [g2, h2], fun _ => by rw [h4]; exact i64 (hq h1 h3 _ _ h5 g4)⟩
/-- a call that leaves the houses, compared -/
theorem stepR {ad : List Nat} {h : hp} (km : q_K h.1 (Ad ad 99) = 12) {δ : dp} (V : IY ad h.1 δ) {o1 : Option (Int32 × dp)} {f : dp → Option (Int32 × dp)} {v s : Bool} {c1 c2 : Prop} {d1 d2 : dp → Prop} {Q : Int → Prop} {P : dp → Int → Prop} {o : Nat}
    (C : ok o1 (fun r => CI ad h.1 δ r.2 ∧ (q_I r.2 7 1 (Ad ad 1)).toInt = (q_I δ 7 1 (Ad ad 1)).toInt ∧ ∀ a, q_I r.2 5 0 a = q_I δ 5 0 a ∧ q_I r.2 5 1 a = q_I δ 5 1 a ∧ q_I r.2 5 2 a = q_I δ 5 2 a ∧ q_I r.2 11 12 a = q_I δ 11 12 a))
    (G : hs o1 (fun r => HG v s ad δ r.2)) (GL : hs o1 (fun r => OL c1 c2 Q o r.1 r.2))
    (R : ∀ δ1, RI ad h.1 δ1 δ1 → OI ad (Ad ad 99) δ1 → ok (f δ1) (fun r => OR ad h.1 (Ad ad 99) δ1 δ1 r.2 ∧ q_I r.2 12 18 (Ad ad 99) = q_I δ1 12 18 (Ad ad 99)))
    (RS : ∀ δ1, RI ad h.1 δ1 δ1 → OI ad (Ad ad 99) δ1 → HX ad δ1 → hs (f δ1) (fun r => rsk ad δ1 r.2 ∧ OM (d1 δ1) (d2 δ1) (P δ1) (Ad ad 99) r.1 r.2))
    (U : ∀ δ1, HX ad δ1 → csk ad δ δ1 → scA ad δ = shA (Ad ad 99) δ1 → (q_I δ 5 0 (Ad ad 3) = q_I δ1 12 10 (Ad ad 99)) → (c1 ↔ d1 δ1) ∧ (¬ c1 → (c2 ↔ d2 δ1)) ∧ (¬ c1 → ¬ c2 → ∀ v w, Q v → P δ1 w → v = w)) :
    ∃ d, (∃ (kk b : Int32) (δ1 : dp), o1 = some (kk, δ1) ∧ f δ1 = some (b, d) ∧ q_I d 12 0 (Ad ad 99) = kk ∧ (kk = 0 → q_J d o 0 = b.toInt64)) ∧ IY ad h.1 d := by
  obtain ⟨⟨V, A⟩, X⟩ := V
  obtain ⟨⟨kk, δ1⟩, e1, ⟨⟨m1, m2, m3⟩, m4⟩, m5⟩ := ok_hs (ok_hs C G) GL
  dsimp only at m1 m2 m3 m4 m5
  have I1 := RI_re V.2.1 m1
  have O1 := OI_re V.2.2.1 m1
  have X1 : HX ad δ1 := X.k (IY.i3 km V.2.1) (csk_G m4) (rsk_C m1)
  obtain ⟨⟨b, d⟩, e2, ⟨⟨r1, r2, r3, r4, r5, r6, r7⟩, r8⟩, r9, r10⟩ := ok_hs (R δ1 I1 O1) (RS δ1 I1 O1 X1)
  dsimp only at r1 r2 r3 r4 r5 r6 r7 r8 r9 r10
  have F := m1.2.2.2.1
  have X2 : HX ad d := X1.k (IY.i3 km I1) (csk_R r1) r9
  have a4 : q_I δ 5 0 (Ad ad 3) = q_I δ1 12 10 (Ad ad 99) := A.2.2.2.1.trans (F 10 _).symm
  have eA : scA ad δ = shA (Ad ad 99) δ1 := by show ((1 : Int32) <<< (q_I δ 5 0 (Ad ad 3) &&& 31)).toInt = ((1 : Int32) <<< (q_I δ1 12 10 (Ad ad 99) &&& 31)).toInt; rw [a4]
  obtain ⟨u1, u2, u3⟩ := U δ1 X1 (csk_G m4) eA a4
  have fin := OLM (congrArg Prod.snd r1.2.2.2.2) u1 u2 u3 m5 r10
  refine ⟨d, ⟨kk, b, δ1, e1, e2, fin.1, fin.2⟩, ⟨IV_end V m1 r1 r2 ?_, ?_⟩, X2⟩
  · rw [m2, r3, F 2 (Ad ad 99)]; exact V.2.2.2
  · obtain ⟨t1, t2⟩ := AL_t A m1 r1 r4
    have G := r1.2.2.1
    obtain ⟨a1, a2, a3, a4, a5, a6⟩ := A
    refine ⟨t1, t2, ?_, ?_, ?_, ?_⟩
    · rw [G 11 12 _ (by decide), (m3 _).2.2.2, r8, F 18]; exact a3
    · rw [G 5 0 _ (by decide), (m3 _).1, r5, F 10]; exact a4
    · rw [G 5 1 _ (by decide), (m3 _).2.1, r7, F 12]; exact a5
    · rw [G 5 2 _ (by decide), (m3 _).2.2.1, r6, F 11]; exact a6
/-- a call that leaves the houses, not compared -/
theorem stepN {ad : List Nat} {h : hp} (km : q_K h.1 (Ad ad 99) = 12) {δ : dp} (V : IY ad h.1 δ) {o1 : Option (Int32 × dp)} {f : dp → Option (Int32 × dp)} {v s : Bool}
    (C : ok o1 (fun r => CI ad h.1 δ r.2 ∧ (q_I r.2 7 1 (Ad ad 1)).toInt = (q_I δ 7 1 (Ad ad 1)).toInt ∧ ∀ a, q_I r.2 5 0 a = q_I δ 5 0 a ∧ q_I r.2 5 1 a = q_I δ 5 1 a ∧ q_I r.2 5 2 a = q_I δ 5 2 a ∧ q_I r.2 11 12 a = q_I δ 11 12 a))
    (G : hs o1 (fun r => HG v s ad δ r.2))
    (R : ∀ δ1, RI ad h.1 δ1 δ1 → OI ad (Ad ad 99) δ1 → ok (f δ1) (fun r => OR ad h.1 (Ad ad 99) δ1 δ1 r.2 ∧ q_I r.2 12 18 (Ad ad 99) = q_I δ1 12 18 (Ad ad 99)))
    (RS : ∀ δ1, RI ad h.1 δ1 δ1 → OI ad (Ad ad 99) δ1 → hs (f δ1) (fun r => rsk ad δ1 r.2)) :
    ∃ d, (∃ (kk b : Int32) (δ1 : dp), o1 = some (kk, δ1) ∧ f δ1 = some (b, d)) ∧ IY ad h.1 d := by
  obtain ⟨⟨V, A⟩, X⟩ := V
  obtain ⟨⟨kk, δ1⟩, e1, ⟨m1, m2, m3⟩, m4⟩ := ok_hs C G
  dsimp only at m1 m2 m3 m4
  have I1 := RI_re V.2.1 m1
  have O1 := OI_re V.2.2.1 m1
  have X1 : HX ad δ1 := X.k (IY.i3 km V.2.1) (csk_G m4) (rsk_C m1)
  obtain ⟨⟨b, d⟩, e2, ⟨⟨r1, r2, r3, r4, r5, r6, r7⟩, r8⟩, r9⟩ := ok_hs (R δ1 I1 O1) (RS δ1 I1 O1)
  dsimp only at r1 r2 r3 r4 r5 r6 r7 r8 r9
  have F := m1.2.2.2.1
  have X2 : HX ad d := X1.k (IY.i3 km I1) (csk_R r1) r9
  refine ⟨d, ⟨kk, b, δ1, e1, e2⟩, ⟨IV_end V m1 r1 r2 ?_, ?_⟩, X2⟩
  · rw [m2, r3, F 2 (Ad ad 99)]; exact V.2.2.2
  · obtain ⟨t1, t2⟩ := AL_t A m1 r1 r4
    have G := r1.2.2.1
    obtain ⟨a1, a2, a3, a4, a5, a6⟩ := A
    refine ⟨t1, t2, ?_, ?_, ?_, ?_⟩
    · rw [G 11 12 _ (by decide), (m3 _).2.2.2, r8, F 18]; exact a3
    · rw [G 5 0 _ (by decide), (m3 _).1, r5, F 10]; exact a4
    · rw [G 5 1 _ (by decide), (m3 _).2.1, r7, F 12]; exact a5
    · rw [G 5 2 _ (by decide), (m3 _).2.2.1, r6, F 11]; exact a6
