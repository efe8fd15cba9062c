/-! the invariant with tapes, images and SHAPES alike -/
theorem RI_rf {ad : List Nat} {g : gp} {δ δ1 : dp} (I : RI ad g δ δ) (j4 : ∀ k a, q_I δ1 12 k a = q_I δ 12 k a) (j5 : ∀ i, 100 ≤ i → i < 127 → q_R δ1 (Ad ad i) = q_R δ (Ad ad i)) : RI ad g δ1 δ1 := by
  obtain ⟨i1, i2, i3, i4, i5⟩ := I
  refine ⟨fun k a hk => ?_, fun b i => ?_, fun _ _ _ _ => rfl, fun _ _ => rfl, rfl⟩
  · rw [j4 k a]; exact i1 k a hk
  · by_cases hn : ∃ j, 100 ≤ j ∧ j < 127 ∧ b = Ad ad j
    · obtain ⟨j, h1, h2, e⟩ := hn
      rw [e, j5 j h1 h2]; exact i2 _ i
    · rw [bQ_o hn]; exact ti_b _
theorem OI_rf {ad : List Nat} {a0 : Nat} {δ δ1 : dp} (O : OI ad a0 δ) (j4 : ∀ k a, q_I δ1 12 k a = q_I δ 12 k a) (r : ∀ c, 100 ≤ c → c < 127 → q_R δ1 (Ad ad c) = q_R δ (Ad ad c)) : OI ad a0 δ1 :=
  ⟨fun K hK => (bak_k (r 102 (by decide) (by decide)) (r 103 (by decide) (by decide))).o (j4 10 a0) hK (O.1 K hK), TH_k O.2.1 (j4 24 a0) (r 112 (by decide) (by decide)) (r 113 (by decide) (by decide)) (r 114 (by decide) (by decide)) (r 115 (by decide) (by decide)) (r 116 (by decide) (by decide)), O.2.2.c (j4 10 a0) (j4 18 a0) (r 107 (by decide) (by decide)) (r 108 (by decide) (by decide))⟩
/-- a feed leaves the class in order -/
theorem CI_2 {ad : List Nat} {h : hp} (L : Lay TLx ad h) {δ r : dp} (I : CI ad h.1 δ δ) (k : kp [(7, 1)] δ r) (hm : ∀ a, q_K h.1 a = 7 → 0 ≤ (q_I r 7 1 a).toInt ∧ (q_I r 7 1 a).toInt ≤ 500) (hr : ∀ b, b ≠ Ad ad 2 → q_R r b = q_R δ b) : CI ad h.1 r r := by
  obtain ⟨i1, i2, i3, i4, i5⟩ := I
  have ne : ∀ j, j < 128 → j ≠ 2 → Ad ad j ≠ Ad ad 2 := fun j h1 h2 => ad_ne L h1 (by decide) h2
  refine ⟨fun c q a hk => ?_, fun b i => ?_, fun j hj i hi => ?_, fun _ _ => rfl, fun _ _ _ => rfl⟩
  · by_cases e : c = 7 ∧ q = 1
    · obtain ⟨rfl, rfl⟩ := e
      have := hm a hk
      simpa [b_I] using this
    · rw [k c q a (by intro z; simp only [List.mem_cons, List.not_mem_nil, or_false, Prod.mk.injEq] at z; exact e z)]
      exact i1 c q a hk
  · by_cases e : b = Ad ad 2
    · have : b_R ad b = (-2147483648, 2147483647) := by
        unfold b_R
        rw [e]
        repeat rw [if_neg (fun z => by rw [Ad_eq L _ _ (by decide) (by decide)] at z; exact absurd z (by decide))]
      rw [this]; exact ti_b _
    · rw [hr b e]; exact i2 b i
  · rw [k 8 2 _ (by decide)] at hi
    rw [hr _ (ne _ (by omega) (by omega)), hr _ (ne _ (by omega) (by omega))]
    exact i3 j hj i hi
/-- tapes, images, SHAPES alike -/
def AL (ad : List Nat) (δ : dp) : Prop := q_R δ (Ad ad 2) = q_R δ (Ad ad 101) ∧ (∀ i, 0 ≤ (q_R δ (Ad ad 101) i).toInt) ∧ (q_I δ 11 12 (Ad ad 0)).toInt = (q_I δ 12 18 (Ad ad 99)).toInt ∧ q_I δ 5 0 (Ad ad 3) = q_I δ 12 10 (Ad ad 99) ∧ q_I δ 5 1 (Ad ad 3) = q_I δ 12 12 (Ad ad 99) ∧ q_I δ 5 2 (Ad ad 3) = q_I δ 12 11 (Ad ad 99)
def IX (ad : List Nat) (g : gp) (δ : dp) : Prop := IV ad g δ ∧ AL ad δ
theorem AL_t {ad : List Nat} {g : gp} {δ δ1 δ2 : dp} (A : AL ad δ) (C : CI ad g δ δ1) (R : RI ad g δ1 δ2) (r : q_R δ2 (Ad ad 101) = q_R δ1 (Ad ad 101)) : q_R δ2 (Ad ad 2) = q_R δ2 (Ad ad 101) ∧ ∀ i, 0 ≤ (q_R δ2 (Ad ad 101) i).toInt := by
  have e1 : q_R δ2 (Ad ad 101) = q_R δ (Ad ad 101) := r.trans (C.2.2.2.2 101 (Or.inl (by decide)) (by decide))
  have e2 : q_R δ2 (Ad ad 2) = q_R δ (Ad ad 2) := (R.2.2.2.1 2 (by decide)).trans (C.2.2.2.2 2 (Or.inr rfl) (by decide))
  rw [e1, e2]
  exact ⟨A.1, A.2.1⟩
/-- most calls -/
theorem stepA {ad : List Nat} {g : gp} {δ : dp} (V : IX ad g δ) {o1 : Option (Int32 × dp)} {f : dp → Option (Int32 × dp)} (C : ok o1 (fun r => CI ad g δ r.2 ∧ (q_I r.2 7 1 (Ad ad 1)).toInt = (q_I δ 7 1 (Ad ad 1)).toInt ∧ ∀ a, q_I r.2 5 0 a = q_I δ 5 0 a ∧ q_I r.2 5 1 a = q_I δ 5 1 a ∧ q_I r.2 5 2 a = q_I δ 5 2 a ∧ q_I r.2 11 12 a = q_I δ 11 12 a)) (R : ∀ δ1, RI ad g δ1 δ1 → OI ad (Ad ad 99) δ1 → ok (f δ1) (fun r => OR ad g (Ad ad 99) δ1 δ1 r.2 ∧ q_I r.2 12 18 (Ad ad 99) = q_I δ1 12 18 (Ad ad 99))) : ∃ d, (∃ (kk b : Int32) (δ1 : dp), o1 = some (kk, δ1) ∧ f δ1 = some (b, d)) ∧ IX ad g d := by
  obtain ⟨V, A⟩ := V
  obtain ⟨⟨kk, δ1⟩, e1, c1, c2, c3⟩ := C
  dsimp only at c1 c2 c3
  obtain ⟨⟨b, d⟩, e2, ⟨r1, r2, r3, r4, r5, r6, r7⟩, r8⟩ := R δ1 (RI_re V.2.1 c1) (OI_re V.2.2.1 c1)
  dsimp only at r1 r2 r3 r4 r5 r6 r7 r8
  have F := c1.2.2.2.1
  refine ⟨d, ⟨kk, b, δ1, e1, e2⟩, IV_end V c1 r1 r2 ?_, ?_⟩
  · rw [c2, r3, F 2 (Ad ad 99)]; exact V.2.2.2
  · obtain ⟨t1, t2⟩ := AL_t A c1 r1 r4
    have G := r1.2.2.1
    obtain ⟨a1, a2, a3, a4, a5, a6⟩ := A
    refine ⟨t1, t2, ?_, ?_, ?_, ?_⟩
    · rw [G 11 12 _ (by decide), (c3 _).2.2.2, r8, F 18]; exact a3
    · rw [G 5 0 _ (by decide), (c3 _).1, r5, F 10]; exact a4
    · rw [G 5 1 _ (by decide), (c3 _).2.1, r7, F 12]; exact a5
    · rw [G 5 2 _ (by decide), (c3 _).2.2.1, r6, F 11]; exact a6
/-- thief -/
theorem stepT {ad : List Nat} {h : hp} (L : Lay TLx ad h) {N : Nat} (hN : 10000000 ≤ N) (kx : q_K h.1 (Ad ad 0) = 11) (km : q_K h.1 (Ad ad 99) = 12) (no : q_N h.1 (Ad ad 127) = 1) {δ : dp} (V : IX ad h.1 δ) {x : Int32} : ∃ d, (∃ (kk b : Int32) (δ1 : dp), D_L_thief N h.1 (Ad ad 0) x (Ad ad 127) δ = some (kk, δ1) ∧ D_X12_thief N h.1 (Ad ad 99) x δ1 = some (b, d)) ∧ IX ad h.1 d := by
  obtain ⟨V, A⟩ := V
  obtain ⟨⟨kk, δ1⟩, e1, c1, c2, c3⟩ := k_L_thief L hN (x1 := x) kx no V.1
  dsimp only at c1 c2 c3
  have I1 := RI_re V.2.1 c1
  obtain ⟨⟨b, d⟩, e2, ⟨r1, r2, r3, r4⟩, ⟨_, ⟨u, _, w⟩, _⟩⟩ := ok_and (o_thief L hN (x1 := x) km I1 (OI_re V.2.2.1 c1)) (k_X12_thief L hN (x1 := x) km I1)
  dsimp only at r1 r2 r3 r4 u w
  have F := c1.2.2.2.1
  have h0 := V.2.2.2
  rw [F 2 (Ad ad 99), ← h0] at r3 r4
  refine ⟨d, ⟨kk, b, δ1, e1, e2⟩, IV_end V c1 r1 r2 ?_, ?_⟩
  · rcases c2 with ⟨a, b, c⟩ | ⟨a, c⟩
    · rw [c, r3 ⟨a, b⟩]
    · rw [c, r4 a]
  · obtain ⟨t1, t2⟩ := AL_t A c1 r1 (w 101 (by decide) (by decide) (by decide))
    have G := r1.2.2.1
    obtain ⟨a1, a2, a3, a4, a5, a6⟩ := A
    refine ⟨t1, t2, ?_, ?_, ?_, ?_⟩
    · rw [G 11 12 _ (by decide), (c3 _).2.2.2, u 12 18 _ (by decide), F 18]; exact a3
    · rw [G 5 0 _ (by decide), (c3 _).1, u 12 10 _ (by decide), F 10]; exact a4
    · rw [G 5 1 _ (by decide), (c3 _).2.1, u 12 12 _ (by decide), F 12]; exact a5
    · rw [G 5 2 _ (by decide), (c3 _).2.2.1, u 12 11 _ (by decide), F 11]; exact a6
/-- what the law's helper says of the class's shape -/
theorem hL_shape {ad : List Nat} {h : hp} (L : Lay TLx ad h) {δ0 : dp} {N : Nat} (hN : 10000000 ≤ N) (kx : q_K h.1 (Ad ad 0) = 11) (no : q_N h.1 (Ad ad 127) = 1) {x : Int32} {δ : dp} (I : CI ad h.1 δ0 δ) (hβ : ∀ i : Nat, 0 ≤ (q_R δ (Ad ad 2) i).toInt) : hs (D_L_shape N h.1 (Ad ad 0) x (Ad ad 127) δ) (fun r => 0 ≤ x.toInt ∧ x.toInt ≤ (q_I δ 7 1 (Ad ad 1)).toInt ∧ r.1 = 0 ∧ (∃ v : Int32, q_J r.2 (Ad ad 127) 0 = v.toInt64 ∧ SE ad δ (rZ (q_R δ (Ad ad 2)) x.toInt.toNat 501 (0, 0, 8, 1, 1)) v r.2) ∨ (x.toInt < 0 ∨ (q_I δ 7 1 (Ad ad 1)).toInt < x.toInt) ∧ r.1 = 1 ∧ KS ad δ r.2) := by
  unfold D_L_shape
  refine hs_bind (hs_and (ok_h (k_X11_shape L hN (x1 := x) kx I)) (hc_shape L hN (x1 := x) I (fun i _ => hβ i))) (fun r hr => ?_)
  obtain ⟨⟨_, _, h1⟩, h2⟩ := hr
  obtain ⟨v | n, d⟩ := r
  · dsimp only at h1 h2 ⊢
    refine hs_gd (fun _ => hs_some (Or.inl ⟨h1.2.1, h1.2.2, rfl, v, ?_, ?_⟩))
    · show va_up (q_J d) (Ad ad 127) (vp_updL (q_J d (Ad ad 127)) 0 v.toInt64) (Ad ad 127) 0 = _
      simp [va_up, vp_updL]
    · cases hz : rZ (q_R δ (Ad ad 2)) x.toInt.toNat 501 (0, 0, 8, 1, 1) with
      | inl k => rw [hz] at h2; exact h2
      | inr y => rw [hz] at h2; exact h2
  · dsimp only at h1 h2 ⊢
    have q : n = 2 := h1.1
    subst q
    refine hs_gd (fun _ => hs_gd (fun _ => hs_some (Or.inr ⟨h1.2.2, rfl, h2⟩)))
/-- shape -/
theorem stepS {ad : List Nat} {h : hp} (L : Lay TLx ad h) {N : Nat} (hN : 10000000 ≤ N) (kx : q_K h.1 (Ad ad 0) = 11) (km : q_K h.1 (Ad ad 99) = 12) (no : q_N h.1 (Ad ad 127) = 1) {δ : dp} (V : IX ad h.1 δ) {x : Int32} : ∃ d, (∃ (kk b : Int32) (δ1 : dp), D_L_shape N h.1 (Ad ad 0) x (Ad ad 127) δ = some (kk, δ1) ∧ D_X12_shape N h.1 (Ad ad 99) x δ1 = some (b, d) ∧ (kk = 0 → q_J δ1 (Ad ad 127) 0 = b.toInt64)) ∧ IX ad h.1 d := by
  obtain ⟨V, A⟩ := V
  have hβ : ∀ i : Nat, 0 ≤ (q_R δ (Ad ad 2) i).toInt := fun i => by rw [A.1]; exact A.2.1 i
  obtain ⟨⟨kk, δ1⟩, e1, ⟨c1, c2⟩, c3⟩ := ok_hs (k_L_shape L hN (x1 := x) kx no V.1) (hL_shape L hN (x := x) kx no V.1 hβ)
  dsimp only at c1 c2 c3
  have I1 := RI_re V.2.1 c1
  obtain ⟨⟨b, d⟩, e2, ⟨⟨r1, r2, r3, r4⟩, ⟨_, ⟨u, _, w⟩, _⟩⟩, r5, r6⟩ := ok_hs (ok_and (o_shape L hN (x1 := x) km I1 (OI_re V.2.2.1 c1)) (k_X12_shape L hN (x1 := x) km I1)) (hr_shape L hN (x1 := x) km I1)
  dsimp only at r1 r2 r3 r4 u w r5 r6
  have F := c1.2.2.2.1
  have h0 := V.2.2.2
  rw [F 2 (Ad ad 99), ← h0] at r3 r4 r5 r6
  obtain ⟨t1, t2⟩ := AL_t A c1 r1 (w 101 (by decide) (by decide) (by decide))
  have G := r1.2.2.1
  obtain ⟨a1, a2, a3, a4, a5, a6⟩ := A
  have eb : q_R δ1 (Ad ad 101) = q_R δ (Ad ad 2) := (c1.2.2.2.2 101 (Or.inl (by decide)) (by decide)).trans a1.symm
  rw [eb] at r5
  have fin : (kk = 0 → q_J δ1 (Ad ad 127) 0 = b.toInt64) ∧ (q_I d 11 12 (Ad ad 0)).toInt = (q_I d 12 18 (Ad ad 99)).toInt ∧ q_I d 5 0 (Ad ad 3) = q_I d 12 10 (Ad ad 99) ∧ q_I d 5 1 (Ad ad 3) = q_I d 12 12 (Ad ad 99) ∧ q_I d 5 2 (Ad ad 3) = q_I d 12 11 (Ad ad 99) := by
    rw [G 11 12 _ (by decide), G 5 0 _ (by decide), G 5 1 _ (by decide), G 5 2 _ (by decide)]
    rcases c3 with ⟨x0, x1', k0, v, jv, se⟩ | ⟨x0, k1, ks⟩
    · have rf := r5 ⟨x0, x1'⟩
      cases hz : rZ (q_R δ (Ad ad 2)) x.toInt.toNat 501 (0, 0, 8, 1, 1) with
      | inl k =>
        rw [hz] at se rf
        obtain ⟨s1, s2, s3, s4, s5⟩ := se
        obtain ⟨f1, f2, f3, f4, f5⟩ := rf
        dsimp only at f1 f2 f3 f4 f5
        refine ⟨fun _ => ?_, ?_, ?_, ?_, ?_⟩
        · rw [jv, show v = b from i_eq (by rw [s1, f1])]
        · rw [s5, f5, F 18]; exact a3
        · rw [s2, f2, F 10]; exact a4
        · rw [s3, f4, F 12]; exact a5
        · rw [s4, f3, F 11]; exact a6
      | inr y =>
        rw [hz] at se rf
        obtain ⟨s1, s2, s3, s4, s5⟩ := se
        obtain ⟨f1, f2, f3, f4, f5⟩ := rf
        dsimp only at f1 f2 f3 f4 f5
        refine ⟨fun _ => ?_, ?_, ?_, ?_, ?_⟩
        · rw [jv, s1, f1]
        · rw [s5, f5]
        · rw [s2, f2]
        · rw [s3, f4]
        · rw [s4, f3]
    · obtain ⟨f2, f3, f4, f5⟩ := r6 x0
      obtain ⟨s2, s3, s4, s5⟩ := ks
      refine ⟨fun z => by rw [k1] at z; exact absurd z (by decide), ?_, ?_, ?_, ?_⟩
      · rw [s5, f5, F 18]; exact a3
      · rw [s2, f2, F 10]; exact a4
      · rw [s3, f4, F 12]; exact a5
      · rw [s4, f3, F 11]; exact a6
  refine ⟨d, ⟨kk, b, δ1, e1, e2, fin.1⟩, IV_end V c1 r1 r2 ?_, t1, t2, fin.2⟩
  rcases c2 with ⟨a, b, c⟩ | ⟨a, c⟩
  · rw [c, r3 ⟨a, b⟩]
  · rw [c, r4 a]
/-- feed -/
theorem stepF {ad : List Nat} {h : hp} (L : Lay TLx ad h) {N : Nat} (hN : 10000000 ≤ N) (km : q_K h.1 (Ad ad 99) = 12) {δ : dp} (V : IX ad h.1 δ) {x1 x2 x3 x4 x5 : Int32} : ∃ d, (∃ (b : Int32) (δ1 : dp), D_X11_feed N h.1 (Ad ad 0) x1 x2 x3 x4 x5 δ = some (b, δ1) ∧ D_X12_feed N h.1 (Ad ad 99) x1 x2 x3 x4 x5 δ1 = some (b, d)) ∧ IX ad h.1 d := by
  obtain ⟨⟨V1, V2, V3, V4⟩, A⟩ := V
  have k1 : q_K h.1 (Ad ad 1) = 7 := (lay_knd L (by decide)).trans (by decide)
  have b71 := cb_7_1 V1 k1
  obtain ⟨⟨b1, δ1⟩, e1, c1, c2, c3, c4⟩ := fc_feed L hN (x1 := x1) (x2 := x2) (x3 := x3) (x4 := x4) (x5 := x5) V1
  dsimp only at c1 c2 c3 c4
  have ne : ∀ i, 100 ≤ i → i < 127 → Ad ad i ≠ Ad ad 2 := fun i h1 h2 => ad_ne L (by omega) (by decide) (by omega)
  have F : ∀ k a, q_I δ1 12 k a = q_I δ 12 k a := fun k a => c1 12 k a (by simp)
  have FR : ∀ i, 100 ≤ i → i < 127 → q_R δ1 (Ad ad i) = q_R δ (Ad ad i) := fun i h1 h2 => c3 _ (ne i h1 h2)
  have one : ∀ a, q_K h.1 a = 7 → a = Ad ad 1 := fun a ka => by
    obtain ⟨q, hq, rfl⟩ := lay_cel L (by rw [ka]; decide)
    rw [lay_knd L hq] at ka
    have H : ∀ i : Fin 128, knd i.val = 7 → i.val = 1 := by decide +kernel
    have e := H ⟨q, hq⟩ ka
    dsimp only at e
    rw [e]
  have C1 : CI ad h.1 δ1 δ1 := CI_2 L V1 c1 (fun a ka => by rw [one a ka]; rcases c4 with ⟨a1, a2, a3, _⟩ | ⟨_, _, rfl⟩ <;> omega) c3
  have I1 := RI_rf V2 F FR
  obtain ⟨bt, ob, _⟩ := gO_12_9 L km
  obtain rfl := gS_12_9 L km ob
  have b2 := cb_12_2 I1 km
  obtain ⟨⟨b, d⟩, e2, ⟨⟨r1, r2, r3, r4⟩, ⟨_, ⟨u, _, w⟩, _⟩⟩, r5, r6⟩ := ok_hs (ok_and (o_feed L hN (x1 := x1) (x2 := x2) (x3 := x3) (x4 := x4) (x5 := x5) km I1 (OI_rf V3 F FR)) (k_X12_feed L hN (x1 := x1) (x2 := x2) (x3 := x3) (x4 := x4) (x5 := x5) km I1)) (hr_feed (T := (q_I δ1 12 2 (Ad ad 99)).toInt.toNat) ob (x1 := x1) (x2 := x2) (x3 := x3) (x4 := x4) (x5 := x5) (δ := δ1) (by omega) (by omega))
  dsimp only at r1 r2 r3 r4 u w r5 r6
  have eT : (q_I δ1 12 2 (Ad ad 99)).toInt = (q_I δ 7 1 (Ad ad 1)).toInt := by rw [F 2, V4]
  rw [eT] at r3 r4 r5 r6
  have G := r1.2.2.1
  have R2 : q_R d (Ad ad 2) = q_R δ1 (Ad ad 2) := r1.2.2.2.1 2 (by decide)
  have q101 : q_R δ1 (Ad ad 101) = q_R δ (Ad ad 101) := FR 101 (by decide) (by decide)
  have CE2 := CI_re C1 r1
  have RE2 : RI ad h.1 d d := by
    obtain ⟨j1, j2, j3, j4, j5⟩ := r1
    exact ⟨j1, j2, fun _ _ _ _ => rfl, fun _ _ => rfl, rfl⟩
  obtain ⟨a1, a2, a3, a4, a5, a6⟩ := A
  have tail : (q_I d 11 12 (Ad ad 0)).toInt = (q_I d 12 18 (Ad ad 99)).toInt ∧ q_I d 5 0 (Ad ad 3) = q_I d 12 10 (Ad ad 99) ∧ q_I d 5 1 (Ad ad 3) = q_I d 12 12 (Ad ad 99) ∧ q_I d 5 2 (Ad ad 3) = q_I d 12 11 (Ad ad 99) := by
    rw [G 11 12 _ (by decide), G 5 0 _ (by decide), G 5 1 _ (by decide), G 5 2 _ (by decide), c1 11 12 _ (by decide), c1 5 0 _ (by decide), c1 5 1 _ (by decide), c1 5 2 _ (by decide), u 12 18 _ (by decide), u 12 10 _ (by decide), u 12 12 _ (by decide), u 12 11 _ (by decide), F 18, F 10, F 12, F 11]
    exact ⟨a3, a4, a5, a6⟩
  rcases c4 with ⟨g1, g2, g3, g4⟩ | ⟨g1, g2, g3⟩
  · have eb : b = b1 := i_eq (by rw [(r3 g1).1, g2])
    subst eb
    have rows : q_R d (Ad ad 2) = q_R d (Ad ad 101) := by
      funext i
      rw [R2, g4, r5 (by omega), q101, a1]
    refine ⟨d, ⟨b, δ1, e1, e2⟩, ⟨CE2, RE2, r2, by rw [G 7 1 _ (by decide), g3, (r3 g1).2]⟩, rows, fun i => ?_, tail⟩
    rw [r5 (by omega), q101]
    by_cases z : (q_I δ 7 1 (Ad ad 1)).toInt.toNat ≤ i ∧ i < (q_I δ 7 1 (Ad ad 1)).toInt.toNat + 20
    · rw [if_pos z]; unfold bY; exact bz_0 _ _
    · rw [if_neg z]; exact a2 i
  · have eb : b = b1 := i_eq (by rw [(r4 g1).1, g2])
    subst eb
    have q6 := r6 (by omega)
    rw [g3] at e1 R2
    refine ⟨d, ⟨b, δ, e1, by rw [← g3]; exact e2⟩, ⟨CE2, RE2, r2, by rw [G 7 1 _ (by decide), g3, (r4 g1).2]⟩, by rw [R2, q6, q101]; exact a1, fun i => by rw [q6, q101]; exact a2 i, tail⟩
/-- image and restore: the same answer -/
theorem stepI {ad : List Nat} {g : gp} {δ : dp} (V : IX ad g δ) {o1 : Option (Int32 × dp)} {f : dp → Option (Int32 × dp)} {P : Int → Int → Int → Prop} (hP : ∀ t a b c d, P t a b → P t c d → a = c ∧ b = d) (C : ok o1 (fun r => CI ad g δ r.2 ∧ (q_I r.2 7 1 (Ad ad 1)).toInt = (q_I δ 7 1 (Ad ad 1)).toInt ∧ (∀ a, q_I r.2 5 0 a = q_I δ 5 0 a ∧ q_I r.2 5 1 a = q_I δ 5 1 a ∧ q_I r.2 5 2 a = q_I δ 5 2 a) ∧ P (q_I δ 11 12 (Ad ad 0)).toInt r.1.toInt (q_I r.2 11 12 (Ad ad 0)).toInt)) (R : ∀ δ1, RI ad g δ1 δ1 → OI ad (Ad ad 99) δ1 → ok (f δ1) (fun r => OR ad g (Ad ad 99) δ1 δ1 r.2 ∧ P (q_I δ1 12 18 (Ad ad 99)).toInt r.1.toInt (q_I r.2 12 18 (Ad ad 99)).toInt)) : ∃ d, (∃ (b : Int32) (δ1 : dp), o1 = some (b, δ1) ∧ f δ1 = some (b, d)) ∧ IX ad g d := by
  obtain ⟨V, A⟩ := V
  obtain ⟨⟨kk, δ1⟩, e1, c1, c2, c3, c4⟩ := C
  dsimp only at c1 c2 c3 c4
  obtain ⟨⟨b, d⟩, e2, ⟨r1, r2, r3, r4, r5, r6, r7⟩, r8⟩ := R δ1 (RI_re V.2.1 c1) (OI_re V.2.2.1 c1)
  dsimp only at r1 r2 r3 r4 r5 r6 r7 r8
  have F := c1.2.2.2.1
  obtain ⟨t1, t2⟩ := AL_t A c1 r1 r4
  have G := r1.2.2.1
  obtain ⟨a1, a2, a3, a4, a5, a6⟩ := A
  rw [F 18, ← a3] at r8
  obtain ⟨h1, h2⟩ := hP _ _ _ _ _ c4 r8
  have eb : kk = b := i_eq h1
  subst eb
  refine ⟨d, ⟨kk, δ1, e1, e2⟩, IV_end V c1 r1 r2 ?_, t1, t2, ?_, ?_, ?_, ?_⟩
  · rw [c2, r3, F 2 (Ad ad 99)]; exact V.2.2.2
  · rw [G 11 12 _ (by decide)]; exact h2
  · rw [G 5 0 _ (by decide), (c3 _).1, r5, F 10]; exact a4
  · rw [G 5 1 _ (by decide), (c3 _).2.1, r7, F 12]; exact a5
  · rw [G 5 2 _ (by decide), (c3 _).2.2, r6, F 11]; exact a6
def pIm (t v w : Int) : Prop := t < 3 ∧ v = t + 1 ∧ w = t + 1 ∨ 3 ≤ t ∧ v = -1 ∧ w = t
def pRs (t v w : Int) : Prop := 0 < t ∧ v = t - 1 ∧ w = t - 1 ∨ t ≤ 0 ∧ v = -1 ∧ w = t
theorem pIm_u : ∀ t a b c d, pIm t a b → pIm t c d → a = c ∧ b = d := by
  intro t a b c d h k
  unfold pIm at h k
  omega
theorem pRs_u : ∀ t a b c d, pRs t a b → pRs t c d → a = c ∧ b = d := by
  intro t a b c d h k
  unfold pRs at h k
  omega
