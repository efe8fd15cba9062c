/-! what holds of the reference between two calls -/
/-- a house: its numbers rise, and are the SHAPE's -/
def HK (ρ μ : Nat → Int32) (A : Int) (o m : Nat) : Prop := 0 ≤ (μ m).toInt ∧ (∀ i j : Nat, i < j → (j : Int) < (μ m).toInt → (ρ (o + i)).toInt < (ρ (o + j)).toInt) ∧ ∀ i : Nat, (i : Int) < (μ m).toInt → 0 ≤ (ρ (o + i)).toInt ∧ (ρ (o + i)).toInt < A
theorem HK.c {ρ μ ρ' μ' : Nat → Int32} {A A' : Int} {o m o' m' : Nat} (H : HK ρ μ A o m) (eA : A' = A) (em : (μ' m').toInt = (μ m).toInt) (er : ∀ i : Nat, (i : Int) < (μ m).toInt → ρ' (o' + i) = ρ (o + i)) : HK ρ' μ' A' o' m' := by
  obtain ⟨h1, h2, h3⟩ := H
  refine ⟨by rw [em]; exact h1, fun i j hij hj => ?_, fun i hi => ?_⟩
  · rw [em] at hj
    rw [er i (by omega), er j hj]
    exact h2 i j hij hj
  · rw [em] at hi
    rw [er i hi, eA]
    exact h3 i hi
abbrev shA (a0 : Nat) (δ : dp) : Int := ((1 : Int32) <<< (q_I δ 12 10 a0 &&& 31)).toInt
theorem HK.h {ad : List Nat} {a0 : Nat} {δ : dp} {K : Nat} (S : hok ad a0 δ K) : HK (q_R δ (Ad ad 102)) (q_R δ (Ad ad 103)) (shA a0 δ) (2000 * K) K := by
  obtain ⟨⟨s1, s2⟩, s3⟩ := S
  exact ⟨s1, s2, fun i hi => s3 (q_R δ (Ad ad 102) (2000 * K + i)) ⟨i, hi, rfl⟩⟩
theorem HK.k {ad : List Nat} {a0 : Nat} {δ : dp} {K : Nat} (H : HK (q_R δ (Ad ad 102)) (q_R δ (Ad ad 103)) (shA a0 δ) (2000 * K) K) : hok ad a0 δ K := by
  obtain ⟨h1, h2, h3⟩ := H
  refine ⟨⟨h1, h2⟩, fun y hy => ?_⟩
  obtain ⟨i, hi, e⟩ := hy
  have := h3 i hi
  have e' : (q_R δ (Ad ad 102) (2000 * K + i)).toInt = y.toInt := e
  rw [e'] at this
  exact this
/-- the images -/
def IM (ad : List Nat) (a0 : Nat) (δ : dp) : Prop := ∀ j : Nat, (j : Int) < (q_I δ 12 18 a0).toInt → ∀ K, K < 4 → HK (q_R δ (Ad ad 107)) (q_R δ (Ad ad 108)) (shA a0 δ) (8000 * j + 2000 * K) (4 * j + K)
def OI (ad : List Nat) (a0 : Nat) (δ : dp) : Prop := (∀ K, K < 4 → hok ad a0 δ K) ∧ TH ad a0 δ ∧ IM ad a0 δ
theorem IM.c {ad : List Nat} {a0 : Nat} {δ d : dp} (M : IM ad a0 δ) (e10 : q_I d 12 10 a0 = q_I δ 12 10 a0) (e18 : q_I d 12 18 a0 = q_I δ 12 18 a0) (r7 : q_R d (Ad ad 107) = q_R δ (Ad ad 107)) (r8 : q_R d (Ad ad 108) = q_R δ (Ad ad 108)) : IM ad a0 d := by
  intro j hj K hK
  rw [e18] at hj
  have eA : shA a0 d = shA a0 δ := by unfold shA; rw [e10]
  rw [r7, r8, eA]
  exact M j hj K hK
theorem OI.h {ad : List Nat} {a0 : Nat} {δ : dp} (O : OI ad a0 δ) {K : Nat} (hK : K < 4) : 0 ≤ hM ad δ K := (O.1 K hK).1.1
/-- the rows and fields that OI speaks of, houses aside -/
theorem OI.s {ad : List Nat} {a0 : Nat} {δ d : dp} (O : OI ad a0 δ) {W : List (Nat × Nat)} {V : List Nat} (u : kp W δ d) (w : kr ad V δ d) (hW : ∀ k ∈ [10, 18, 24], (12, k) ∉ W) (hV : ∀ c ∈ [107, 108, 112, 113, 114, 115, 116], c ∉ V) (S : ∀ K, K < 4 → hok ad a0 d K) : OI ad a0 d :=
  ⟨S, TH_k O.2.1 (u 12 24 a0 (hW 24 (by decide))) (w 112 (by decide) (by decide) (hV 112 (by decide))) (w 113 (by decide) (by decide) (hV 113 (by decide))) (w 114 (by decide) (by decide) (hV 114 (by decide))) (w 115 (by decide) (by decide) (hV 115 (by decide))) (w 116 (by decide) (by decide) (hV 116 (by decide))), O.2.2.c (u 12 10 a0 (hW 10 (by decide))) (u 12 18 a0 (hW 18 (by decide))) (w 107 (by decide) (by decide) (hV 107 (by decide))) (w 108 (by decide) (by decide) (hV 108 (by decide)))⟩
theorem OI.b {ad : List Nat} {a0 : Nat} {δ d : dp} (O : OI ad a0 δ) {W : List (Nat × Nat)} {V : List Nat} (u : kp W δ d) (w : kr ad V δ d) (hW : ∀ k ∈ [10, 18, 24], (12, k) ∉ W) (hV : ∀ c ∈ [107, 108, 112, 113, 114, 115, 116], c ∉ V) (B : bak ad δ d) : OI ad a0 d := O.s u w hW hV (fun K hK => B.o (u 12 10 a0 (hW 10 (by decide))) hK (O.1 K hK))
theorem OI.n {ad : List Nat} {a0 : Nat} {δ d : dp} (O : OI ad a0 δ) {W : List (Nat × Nat)} {V : List Nat} (u : kp W δ d) (w : kr ad V δ d) (hW : ∀ k ∈ [10, 18, 24], (12, k) ∉ W) (hV : ∀ c ∈ [107, 108, 112, 113, 114, 115, 116], c ∉ V) (h2 : 102 ∉ V) (h3 : 103 ∉ V) : OI ad a0 d := O.b u w hW hV (bak_k (w 102 (by decide) (by decide) h2) (w 103 (by decide) (by decide) h3))
/-- what a call of the reference leaves: its tape is as long -/
def OR (ad : List Nat) (g : gp) (a0 : Nat) (δ0 δ r : dp) : Prop := RI ad g δ0 r ∧ OI ad a0 r ∧ (q_I r 12 2 a0).toInt = (q_I δ 12 2 a0).toInt ∧ q_R r (Ad ad 101) = q_R δ (Ad ad 101) ∧ q_I r 12 10 a0 = q_I δ 12 10 a0 ∧ q_I r 12 11 a0 = q_I δ 12 11 a0 ∧ q_I r 12 12 a0 = q_I δ 12 12 a0
theorem o_shape {ad : List Nat} {h : hp} (L : Lay TLx ad h) {δ0 : dp} {N : Nat} (hN : 10000000 ≤ N) {a0 : Nat} {x1 : Int32} (k_a0 : q_K h.1 a0 = 12) {δ : dp} (I : RI ad h.1 δ0 δ) (O : OI ad a0 δ) : ok (D_X12_shape N h.1 a0 x1 δ) (fun r => RI ad h.1 δ0 r.2 ∧ OI ad a0 r.2 ∧ (0 ≤ x1.toInt ∧ x1.toInt ≤ (q_I δ 12 2 a0).toInt → (q_I r.2 12 2 a0).toInt = 0) ∧ (x1.toInt < 0 ∨ (q_I δ 12 2 a0).toInt < x1.toInt → (q_I r.2 12 2 a0).toInt = (q_I δ 12 2 a0).toInt)) := by
  refine ok_mono (k_X12_shape L hN (x1 := x1) k_a0 I) (fun r hr => ?_)
  obtain ⟨i, ⟨u, v, w⟩, s, t1, t2⟩ := hr
  have T : TH ad a0 r.2 := TH_k O.2.1 (u 12 24 a0 (by decide)) (w 112 (by decide) (by decide) (by decide)) (w 113 (by decide) (by decide) (by decide)) (w 114 (by decide) (by decide) (by decide)) (w 115 (by decide) (by decide) (by decide)) (w 116 (by decide) (by decide) (by decide))
  refine ⟨i, ?_, t1, t2⟩
  rcases s with s | s
  · exact ⟨fun K hK => (bak_k (w 102 (by decide) (by decide) (by decide)) s.1).o s.2.1 hK (O.1 K hK), T, O.2.2.c s.2.1 s.2.2 (w 107 (by decide) (by decide) (by decide)) (w 108 (by decide) (by decide) (by decide))⟩
  · refine ⟨fun K hK => HK.k ?_, T, fun j hj => ?_⟩
    · have z := s.2 K hK
      exact ⟨by omega, fun i j _ hj => by omega, fun i hi => by omega⟩
    · rw [s.1] at hj; omega
theorem o_thief {ad : List Nat} {h : hp} (L : Lay TLx ad h) {δ0 : dp} {N : Nat} (hN : 10000000 ≤ N) {a0 : Nat} {x1 : Int32} (k_a0 : q_K h.1 a0 = 12) {δ : dp} (I : RI ad h.1 δ0 δ) (O : OI ad a0 δ) : ok (D_X12_thief N h.1 a0 x1 δ) (fun r => RI ad h.1 δ0 r.2 ∧ OI ad a0 r.2 ∧ (0 ≤ x1.toInt ∧ x1.toInt ≤ (q_I δ 12 2 a0).toInt → (q_I r.2 12 2 a0).toInt = 0) ∧ (x1.toInt < 0 ∨ (q_I δ 12 2 a0).toInt < x1.toInt → (q_I r.2 12 2 a0).toInt = (q_I δ 12 2 a0).toInt)) := by
  refine ok_mono (k_X12_thief L hN (x1 := x1) k_a0 I) (fun r hr => ?_)
  obtain ⟨i, ⟨u, v, w⟩, s, t1, t2⟩ := hr
  exact ⟨i, ⟨fun K hK => (bak_k (w 102 (by decide) (by decide) (by decide)) (w 103 (by decide) (by decide) (by decide))).o (u 12 10 a0 (by decide)) hK (O.1 K hK), s (fun t _ => (rb_112 L I t).2) O.2.1, O.2.2.c (u 12 10 a0 (by decide)) (u 12 18 a0 (by decide)) (w 107 (by decide) (by decide) (by decide)) (w 108 (by decide) (by decide) (by decide))⟩, t1, t2⟩
theorem o_feed {ad : List Nat} {h : hp} (L : Lay TLx ad h) {δ0 : dp} {N : Nat} (hN : 10000000 ≤ N) {a0 : Nat} {x1 x2 x3 x4 x5 : Int32} (k_a0 : q_K h.1 a0 = 12) {δ : dp} (I : RI ad h.1 δ0 δ) (O : OI ad a0 δ) : ok (D_X12_feed N h.1 a0 x1 x2 x3 x4 x5 δ) (fun r => RI ad h.1 δ0 r.2 ∧ OI ad a0 r.2 ∧ ((q_I δ 12 2 a0).toInt + 20 ≤ 500 → (r.1).toInt = (q_I δ 12 2 a0).toInt + 20 ∧ (q_I r.2 12 2 a0).toInt = (q_I δ 12 2 a0).toInt + 20) ∧ (500 < (q_I δ 12 2 a0).toInt + 20 → (r.1).toInt = -1 ∧ (q_I r.2 12 2 a0).toInt = (q_I δ 12 2 a0).toInt)) := by
  refine ok_mono (k_X12_feed L hN (x1 := x1) (x2 := x2) (x3 := x3) (x4 := x4) (x5 := x5) k_a0 I) (fun r hr => ?_)
  obtain ⟨i, ⟨u, v, w⟩, t1, t2⟩ := hr
  exact ⟨i, O.n u w (by decide) (by decide) (by decide) (by decide), t1, t2⟩
theorem f_image {ad : List Nat} {h : hp} (L : Lay TLx ad h) {δ0 : dp} {N : Nat} (hN : 10000000 ≤ N) {a0 : Nat} (k_a0 : q_K h.1 a0 = 12) {δ : dp} (I : RI ad h.1 δ0 δ) : ok (D_X12_image N h.1 a0 δ) (fun r => (q_I r.2 12 18 a0 = q_I δ 12 18 a0 ∧ q_R r.2 = q_R δ) ∨ ∃ J : Nat, J ≤ 2 ∧ (q_I δ 12 18 a0).toInt = (J : Int) ∧ PI ad a0 J 0 δ r.2) := by
  have b := cb_12_18 I k_a0
  have z0 : (3 : Int32).toInt = 3 := rfl
  unfold D_X12_image
  refine ok_bdv (fun d e => ?_)
  have e18 : q_I d 12 18 a0 = q_I δ 12 18 a0 := by rw [e, rI_o (by decide)]
  refine ok_ite (fun c => ok_some (Or.inl ⟨e18, by rw [e]; rfl⟩)) (fun c => ?_)
  have c1 := o_ne c
  rw [e18] at c1
  refine ok_mono (fl_image_17 L hN k_a0 (J := (q_I δ 12 18 a0).toInt.toNat) (by omega) N 0 0 d rfl (by omega) (by rw [e18]; omega) (by omega)) (fun r hr => Or.inr ⟨(q_I δ 12 18 a0).toInt.toNat, by omega, by omega, ?_⟩)
  obtain ⟨h1, h2, h3⟩ := hr
  refine ⟨h1, fun i => ?_, fun i => ?_⟩
  · rw [h2, e]; rfl
  · rw [h3, e]; rfl
theorem o_image {ad : List Nat} {h : hp} (L : Lay TLx ad h) {δ0 : dp} {N : Nat} (hN : 10000000 ≤ N) {a0 : Nat} (k_a0 : q_K h.1 a0 = 12) {δ : dp} (I : RI ad h.1 δ0 δ) (O : OI ad a0 δ) : ok (D_X12_image N h.1 a0 δ) (fun r => OR ad h.1 a0 δ0 δ r.2) := by
  refine ok_mono (ok_and (k_X12_image L hN k_a0 I) (f_image L hN k_a0 I)) (fun r hr => ?_)
  obtain ⟨⟨i, ⟨u, v, w⟩, _⟩, f⟩ := hr
  have e10 := u 12 10 a0 (by decide)
  have eA : shA a0 r.2 = shA a0 δ := by unfold shA; rw [e10]
  refine ⟨i, ⟨fun K hK => (bak_k (w 102 (by decide) (by decide) (by decide)) (w 103 (by decide) (by decide) (by decide))).o e10 hK (O.1 K hK), TH_k O.2.1 (u 12 24 a0 (by decide)) (w 112 (by decide) (by decide) (by decide)) (w 113 (by decide) (by decide) (by decide)) (w 114 (by decide) (by decide) (by decide)) (w 115 (by decide) (by decide) (by decide)) (w 116 (by decide) (by decide) (by decide)), ?_⟩, by rw [u 12 2 a0 (by decide)], w 101 (by decide) (by decide) (by decide), u 12 10 a0 (by decide), u 12 11 a0 (by decide), u 12 12 a0 (by decide)⟩
  rcases f with ⟨e, er⟩ | ⟨J, hJ, eJ, h1, h2, h3⟩
  · exact O.2.2.c e10 e (by rw [er]) (by rw [er])
  · intro j hj K hK
    rw [h1] at hj
    by_cases c : j = J
    · subst c
      have b := rb_103 L I K
      refine (HK.h (O.1 K hK)).c eA ?_ (fun i hi => ?_)
      · rw [h3, if_pos (by omega), show 4 * j + K - 4 * j = K by omega]
      · rw [h2, if_pos (by omega), show 8000 * j + 2000 * K + i - 8000 * j = 2000 * K + i by omega]
    · have b := rb_108 L I (4 * j + K)
      refine (O.2.2 j (by omega) K hK).c eA ?_ (fun i hi => ?_)
      · rw [h3, if_neg (by omega)]
      · rw [h2, if_neg (by omega)]
theorem f_restore {ad : List Nat} {h : hp} (L : Lay TLx ad h) {δ0 : dp} {N : Nat} (hN : 10000000 ≤ N) {a0 : Nat} (k_a0 : q_K h.1 a0 = 12) {δ : dp} (I : RI ad h.1 δ0 δ) : ok (D_X12_restore N h.1 a0 δ) (fun r => (q_I r.2 12 18 a0 = q_I δ 12 18 a0 ∧ q_R r.2 = q_R δ) ∨ ∃ J : Nat, (q_I δ 12 18 a0).toInt = (J : Int) + 1 ∧ (q_I r.2 12 18 a0).toInt = (J : Int) ∧ (∀ i, i < 8000 → q_R r.2 (Ad ad 102) i = q_R δ (Ad ad 107) (8000 * J + i)) ∧ ∀ i, i < 4 → q_R r.2 (Ad ad 103) i = q_R δ (Ad ad 108) (4 * J + i)) := by
  have b := cb_12_18 I k_a0
  have z0 : (0 : Int32).toInt = 0 := rfl
  unfold D_X12_restore
  refine ok_bdv (fun d e => ?_)
  have e18 : q_I d 12 18 a0 = q_I δ 12 18 a0 := by rw [e, rI_o (by decide)]
  refine ok_ite (fun c => ok_some (Or.inl ⟨e18, by rw [e]; rfl⟩)) (fun c => ?_)
  have c1 := o_ne c
  rw [e18] at c1
  refine ok_bdv (fun d2 e2 => ?_)
  have s1 := te_subc (c := 1) (n := 1) rfl (q_I δ 12 18 a0) (by omega) (by omega)
  have f18 : (q_I d2 12 18 a0).toInt = (((q_I δ 12 18 a0).toInt - 1).toNat : Int) := by rw [e2, rI_s, e18]; omega
  refine ok_mono (fl_restore_26 L hN k_a0 (J := ((q_I δ 12 18 a0).toInt - 1).toNat) (by omega) N 0 0 d2 rfl (by omega) f18 (by omega)) (fun r hr => Or.inr ⟨((q_I δ 12 18 a0).toInt - 1).toNat, by omega, ?_⟩)
  obtain ⟨h1, h2, _, h4⟩ := hr
  refine ⟨by rw [h1]; exact f18, fun i hi => ?_, fun i hi => ?_⟩
  · rw [h2 i (Nat.zero_le _) hi, e2, e]; rfl
  · rw [h4 i hi, e2, e]; rfl
theorem o_restore {ad : List Nat} {h : hp} (L : Lay TLx ad h) {δ0 : dp} {N : Nat} (hN : 10000000 ≤ N) {a0 : Nat} (k_a0 : q_K h.1 a0 = 12) {δ : dp} (I : RI ad h.1 δ0 δ) (O : OI ad a0 δ) : ok (D_X12_restore N h.1 a0 δ) (fun r => OR ad h.1 a0 δ0 δ r.2) := by
  refine ok_mono (ok_and (k_X12_restore L hN k_a0 I) (f_restore L hN k_a0 I)) (fun r hr => ?_)
  obtain ⟨⟨i, ⟨u, v, w⟩, _⟩, f⟩ := hr
  have e10 := u 12 10 a0 (by decide)
  have eA : shA a0 r.2 = shA a0 δ := by unfold shA; rw [e10]
  have T : TH ad a0 r.2 := TH_k O.2.1 (u 12 24 a0 (by decide)) (w 112 (by decide) (by decide) (by decide)) (w 113 (by decide) (by decide) (by decide)) (w 114 (by decide) (by decide) (by decide)) (w 115 (by decide) (by decide) (by decide)) (w 116 (by decide) (by decide) (by decide))
  have r7 := w 107 (by decide) (by decide) (by decide)
  have r8 := w 108 (by decide) (by decide) (by decide)
  refine ⟨i, ?_, by rw [u 12 2 a0 (by decide)], w 101 (by decide) (by decide) (by decide), u 12 10 a0 (by decide), u 12 11 a0 (by decide), u 12 12 a0 (by decide)⟩
  rcases f with ⟨e, er⟩ | ⟨J, eJ, fJ, h2, h3⟩
  · exact ⟨fun K hK => (bak_k (by rw [er]) (by rw [er])).o e10 hK (O.1 K hK), T, O.2.2.c e10 e r7 r8⟩
  · refine ⟨fun K hK => HK.k ?_, T, fun j hj K hK => ?_⟩
    · have b := rb_108 L I (4 * J + K)
      refine (O.2.2 J (by omega) K hK).c eA ?_ (fun i hi => ?_)
      · rw [h3 K hK]
      · rw [h2 _ (by omega), show 8000 * J + (2000 * K + i) = 8000 * J + 2000 * K + i by omega]
    · rw [fJ] at hj
      rw [r7, r8, eA]
      exact O.2.2 j (by omega) K hK
