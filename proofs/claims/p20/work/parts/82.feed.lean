section
/-! feed on both sides: the same bytes -/
/-- the j-th byte of x -/
def bz (x : Int32) (j : Nat) : Int32 := (x >>> ((Int32.ofInt (24 - 8 * (j : Int))) &&& 31)) &&& 255
theorem bz_0 (x : Int32) (j : Nat) : 0 ≤ (bz x j).toInt := (an_le (a := x >>> ((Int32.ofInt (24 - 8 * (j : Int))) &&& 31)) (b := 255) (by decide)).1
theorem of_i {x : Int32} {v : Int} (h : x.toInt = v) : x = Int32.ofInt v := by rw [← h, Int32.ofInt_toInt]
theorem f7_take {N : Nat} {g : gp} {t bt T : Nat} (ob : q_O g 7 0 t = some bt) (nb : q_N g bt = 500) (hT : T + 4 ≤ 500) {x : Int32} : ∀ (m j : Nat) (y : Int32) (δ : dp), y.toInt = 24 - 8 * (j : Int) → j ≤ 4 → (q_I δ 7 1 t).toInt = ((T + j : Nat) : Int) → 4 - j < m → ok (L_X7_take_3 N g t x m y δ) (fun r => kp [(7, 1)] δ r ∧ q_V r = q_V δ ∧ (∀ b, b ≠ bt → q_R r b = q_R δ b) ∧ (q_I r 7 1 t).toInt = ((T + 4 : Nat) : Int) ∧ ∀ i, q_R r bt i = if T + j ≤ i ∧ i < T + 4 then bz x (i - T) else q_R δ bt i) := by
  intro m
  induction m with
  | zero => intro j y δ _ _ _ hm; omega
  | succ m ih =>
    intro j y δ hy hj hq hm
    have z0 : (0 : Int32).toInt = 0 := rfl
    have z5 : (500 : Int32).toInt = 500 := rfl
    unfold L_X7_take_3 J_X7_take_49
    refine ok_ite (fun c => ?_) (fun c => ?_)
    · have c1 := o_lt c
      obtain rfl : j = 4 := by omega
      exact ok_some ⟨fun _ _ _ _ => rfl, rfl, fun _ _ => rfl, hq, fun i => by rw [if_neg (by omega)]⟩
    · have c1 := o_nlt c
      refine ok_ite (fun c => by have := o_le c; omega) (fun _ => ?_)
      have tn := ti_tn (q_I δ 7 1 t)
      refine ok_at ob (ok_gd (fun z => ?_) ?_)
      · rcases z with z | z
        · have := o_lt z; omega
        · rw [nb] at z; omega
      have ix : (q_I δ 7 1 t).toNatClampNeg = T + j := by omega
      rw [ix]
      refine ok_bdv (fun d e => ok_bdv (fun d2 e2 => ok_biv (fun w ew => ?_)))
      have y1 := te_addc (c := -8) (n := -8) (by decide) y (by omega) (by omega)
      rw [← ew] at y1
      have d7 : q_I d 7 1 t = q_I δ 7 1 t := by rw [e]; rfl
      have a1 := te_addc (c := 1) (n := 1) rfl (q_I d 7 1 t) (by rw [d7]; omega) (by rw [d7]; omega)
      rw [d7] at a1
      refine ok_mono (ih (j + 1) w d2 (by omega) (by omega) (by rw [e2, rI_s, d7]; omega) (by omega)) (fun r hr => ?_)
      obtain ⟨h1, h2, h3, h4, h5⟩ := hr
      have kd : kp [(7, 1)] δ d2 := kp_w (by decide) (kp_I (kp_N (W := []) kp_r (show q_I d = q_I δ by rw [e]; rfl)) e2)
      refine ⟨kp_w (by decide) (kp_t kd h1), by rw [h2, e2, e]; rfl, fun b hb => ?_, h4, fun i => ?_⟩
      · rw [h3 b hb, e2, e]
        show q_R (s_R δ bt (T + j) _) b = _
        exact rR_o hb
      · rw [h5]
        have r2 : q_R d2 bt i = if i = T + j then (x >>> (y &&& 31)) &&& 255 else q_R δ bt i := by
          rw [e2, e]
          show q_R (s_R δ bt (T + j) _) bt i = _
          rw [qR_sR]
          by_cases z : i = T + j
          · rw [if_pos ⟨rfl, z⟩, if_pos z]
          · rw [if_neg (fun q => z q.2), if_neg z]
        rw [r2]
        by_cases z : i = T + j
        · subst z
          rw [if_neg (by omega), if_pos rfl, if_pos (by omega), of_i hy]
          unfold bz
          rw [show T + j - T = j by omega]
        · by_cases z2 : T + (j + 1) ≤ i ∧ i < T + 4
          · rw [if_pos z2, if_pos (by omega)]
          · rw [if_neg z2, if_neg z, if_neg (by omega)]
theorem fD_take {N : Nat} (hN : 10000000 ≤ N) {g : gp} {t bt T : Nat} (ob : q_O g 7 0 t = some bt) (nb : q_N g bt = 500) (hT : T + 4 ≤ 500) {x : Int32} {δ : dp} (hq : (q_I δ 7 1 t).toInt = (T : Int)) : ok (D_X7_take N g t x δ) (fun r => kp [(7, 1)] δ r ∧ q_V r = q_V δ ∧ (∀ b, b ≠ bt → q_R r b = q_R δ b) ∧ (q_I r 7 1 t).toInt = ((T + 4 : Nat) : Int) ∧ ∀ i, q_R r bt i = if T ≤ i ∧ i < T + 4 then bz x (i - T) else q_R δ bt i) := f7_take ob nb hT N 0 24 δ rfl (by omega) (by rw [hq]; rfl) (by omega)
/-- the k-th byte of a feed -/
def bY (x1 x2 x3 x4 x5 : Int32) (k : Nat) : Int32 := bz (if k < 4 then x1 else if k < 8 then x2 else if k < 12 then x3 else if k < 16 then x4 else x5) (k % 4)
theorem fc_feed {ad : List Nat} {h : hp} (L : Lay TLx ad h) {N : Nat} (hN : 10000000 ≤ N) {x1 x2 x3 x4 x5 : Int32} {δ : dp} (I : CI ad h.1 δ δ) : ok (D_X11_feed N h.1 (Ad ad 0) x1 x2 x3 x4 x5 δ) (fun r => kp [(7, 1)] δ r.2 ∧ q_V r.2 = q_V δ ∧ (∀ b, b ≠ Ad ad 2 → q_R r.2 b = q_R δ b) ∧ ((q_I δ 7 1 (Ad ad 1)).toInt + 20 ≤ 500 ∧ r.1.toInt = (q_I δ 7 1 (Ad ad 1)).toInt + 20 ∧ (q_I r.2 7 1 (Ad ad 1)).toInt = (q_I δ 7 1 (Ad ad 1)).toInt + 20 ∧ (∀ i, q_R r.2 (Ad ad 2) i = if (q_I δ 7 1 (Ad ad 1)).toInt.toNat ≤ i ∧ i < (q_I δ 7 1 (Ad ad 1)).toInt.toNat + 20 then bY x1 x2 x3 x4 x5 (i - (q_I δ 7 1 (Ad ad 1)).toInt.toNat) else q_R δ (Ad ad 2) i) ∨ 500 < (q_I δ 7 1 (Ad ad 1)).toInt + 20 ∧ r.1.toInt = -1 ∧ r.2 = δ)) := by
  have kt : q_K h.1 (Ad ad 1) = 7 := (lay_knd L (by decide)).trans (by decide)
  have b := cb_7_1 I kt
  have ob := fO_1_0 L
  have nb : q_N h.1 (Ad ad 2) = 500 := fN_2 L
  obtain ⟨T, hT⟩ : ∃ T : Nat, (q_I δ 7 1 (Ad ad 1)).toInt = (T : Int) := ⟨(q_I δ 7 1 (Ad ad 1)).toInt.toNat, by omega⟩
  rw [hT]
  unfold D_X11_feed
  refine ok_at (fO_0_0 L) ?_
  refine ok_bind (k_X7_hasPlace L hN kt I) (fun r3 h3 => ?_)
  obtain ⟨g1, g2, g3, g4⟩ := h3
  rw [g1]
  have bo3 := bo_t g2
  refine ok_ite (fun c => ?_) (fun c => ?_)
  · have c1 := o_eq c
    have z0 : (0 : Int32).toInt = 0 := rfl
    exact ok_some ⟨fun _ _ _ _ => rfl, rfl, fun _ _ => rfl, Or.inr ⟨by omega, rfl, rfl⟩⟩
  · have c1 := o_ne c
    have z0 : (0 : Int32).toInt = 0 := rfl
    have hT20 : T + 20 ≤ 500 := by omega
    refine ok_at (fO_0_0 L) (ok_bind (fD_take hN ob nb (by omega) hT) (fun d1 q1 => ?_))
    obtain ⟨a1, a2, a3, a4, a5⟩ := q1
    refine ok_at (fO_0_0 L) (ok_bind (fD_take hN ob nb (by omega) a4) (fun d2 q2 => ?_))
    obtain ⟨b1, b2, b3, b4, b5⟩ := q2
    refine ok_at (fO_0_0 L) (ok_bind (fD_take hN ob nb (by omega) b4) (fun d3 q3 => ?_))
    obtain ⟨c1', c2, c3, c4, c5⟩ := q3
    refine ok_at (fO_0_0 L) (ok_bind (fD_take hN ob nb (by omega) c4) (fun d4 q4 => ?_))
    obtain ⟨e1, e2, e3, e4, e5⟩ := q4
    refine ok_at (fO_0_0 L) (ok_bind (fD_take hN ob nb (by omega) e4) (fun d5 q5 => ?_))
    obtain ⟨f1, f2, f3, f4, f5⟩ := q5
    refine ok_at (fO_0_0 L) (ok_some ⟨kp_w (by decide) (kp_t (kp_t (kp_t (kp_t a1 b1) c1') e1) f1), f2.trans (e2.trans (c2.trans (b2.trans a2))), fun b hb => (f3 b hb).trans ((e3 b hb).trans ((c3 b hb).trans ((b3 b hb).trans (a3 b hb)))), Or.inl ⟨by omega, ?_, ?_, fun i => ?_⟩⟩)
    · show (q_I d5 7 1 (Ad ad 1)).toInt = _
      rw [f4]; omega
    · rw [f4]; omega
    · rw [show ((T : Int)).toNat = T by omega]
      rw [f5, e5, c5, b5, a5]
      by_cases w : T ≤ i ∧ i < T + 20
      · rw [if_pos w]
        unfold bY
        obtain ⟨k, rfl⟩ : ∃ k, i = T + k := ⟨i - T, by omega⟩
        rw [show T + k - T = k by omega]
        by_cases k4 : k < 4
        · rw [if_neg (by omega), if_neg (by omega), if_neg (by omega), if_neg (by omega), if_pos (by omega), if_pos k4, show k % 4 = k by omega]
        · by_cases k8 : k < 8
          · rw [if_neg (by omega), if_neg (by omega), if_neg (by omega), if_pos (by omega), if_neg k4, if_pos k8, show T + k - (T + 4) = k % 4 by omega]
          · by_cases k12 : k < 12
            · rw [if_neg (by omega), if_neg (by omega), if_pos (by omega), if_neg k4, if_neg k8, if_pos k12, show T + k - (T + 4 + 4) = k % 4 by omega]
            · by_cases k16 : k < 16
              · rw [if_neg (by omega), if_pos (by omega), if_neg k4, if_neg k8, if_neg k12, if_pos k16, show T + k - (T + 4 + 4 + 4) = k % 4 by omega]
              · rw [if_pos (by omega), if_neg k4, if_neg k8, if_neg k12, if_neg k16, show T + k - (T + 4 + 4 + 4 + 4) = k % 4 by omega]
      · rw [if_neg w, if_neg (by omega), if_neg (by omega), if_neg (by omega), if_neg (by omega), if_neg (by omega)]
theorem r_feed {N : Nat} {g : gp} {t bt T : Nat} (ob : q_O g 12 9 t = some bt) {x1 x2 x3 x4 x5 : Int32} : ∀ (m k : Nat) (y : Int32) (δ : dp), y.toInt = (k : Int) → k ≤ 20 → T ≤ 480 → (q_I δ 12 2 t).toInt = ((T + k : Nat) : Int) → hs (L_X12_feed_23 N g t x1 x2 x3 x4 x5 m y δ) (fun r => ∀ i, q_R r.2 bt i = if T + k ≤ i ∧ i < T + 20 then bY x1 x2 x3 x4 x5 (i - T) else q_R δ bt i) := by
  intro m
  induction m with
  | zero => intro k y δ _ _ _ _; exact hs_none
  | succ m ih =>
    intro k y δ hy hk hT hq
    have z0 : (0 : Int32).toInt = 0 := rfl
    have e4 : (4 : Int32).toInt = 4 := rfl
    have e8 : (8 : Int32).toInt = 8 := rfl
    have e12 : (12 : Int32).toInt = 12 := rfl
    have e16 : (16 : Int32).toInt = 16 := rfl
    have e20 : (20 : Int32).toInt = 20 := rfl
    have go : k < 20 → ∀ x : Int32, x = (if k < 4 then x1 else if k < 8 then x2 else if k < 12 then x3 else if k < 16 then x4 else x5) → hs (J_X12_feed_76 N g t x1 x2 x3 x4 x5 (L_X12_feed_23 N g t x1 x2 x3 x4 x5 m) x y δ) (fun r => ∀ i, q_R r.2 bt i = if T + k ≤ i ∧ i < T + 20 then bY x1 x2 x3 x4 x5 (i - T) else q_R δ bt i) := by
      intro hk20 x hx
      unfold J_X12_feed_76
      refine hs_at ob (hs_gd (fun _ => hs_bdv (fun d e => hs_bdv (fun d2 e2 => hs_biv (fun w ew => ?_)))))
      have tn := ti_tn (q_I δ 12 2 t)
      have ix : (q_I δ 12 2 t).toNatClampNeg = T + k := by omega
      have d7 : q_I d 12 2 t = q_I δ 12 2 t := by rw [e]; rfl
      have a1 := te_addc (c := 1) (n := 1) rfl (q_I d 12 2 t) (by rw [d7]; omega) (by rw [d7]; omega)
      rw [d7] at a1
      have y1 := te_addc (c := 1) (n := 1) rfl y (by omega) (by omega)
      rw [← ew] at y1
      have dv := ti_div (c := 4) (n := 4) rfl (by decide) y (by omega)
      have mu := te_mulr (c := 4) (n := 4) rfl (y / 4) (by omega) (by omega)
      have su := te_sub y (y / 4 * 4) (by omega) (by omega)
      have m8 := te_mulc (c := 8) (n := 8) rfl (y - y / 4 * 4) (by omega) (by omega)
      have s8 := te_csub (c := 24) (n := 24) rfl ((8 : Int32) * (y - y / 4 * 4)) (by omega) (by omega)
      refine hs_mono (ih (k + 1) w d2 (by omega) (by omega) hT (by rw [e2, rI_s, d7]; omega)) (fun r hr i => ?_)
      rw [hr i]
      have r2 : q_R d2 bt i = if i = T + k then bz x (k % 4) else q_R δ bt i := by
        rw [e2, e, ix]
        show q_R (s_R δ bt (T + k) _) bt i = _
        rw [qR_sR]
        by_cases z : i = T + k
        · rw [if_pos ⟨rfl, z⟩, if_pos z]
          unfold bz
          rw [of_i (v := 24 - 8 * ((k % 4 : Nat) : Int)) (x := (24 : Int32) - ((8 : Int32) * (y - y / 4 * 4))) (by omega)]
        · rw [if_neg (fun q => z q.2), if_neg z]
      rw [r2]
      by_cases z : i = T + k
      · subst z
        rw [if_neg (by omega), if_pos rfl, if_pos (by omega)]
        unfold bY
        rw [show T + k - T = k by omega, hx]
      · by_cases z2 : T + (k + 1) ≤ i ∧ i < T + 20
        · rw [if_pos z2, if_pos (by omega)]
        · rw [if_neg z2, if_neg z, if_neg (by omega)]
    unfold L_X12_feed_23
    refine hs_ite (fun c => hs_some (fun i => ?_)) (fun c => ?_)
    · have := o_le c
      rw [if_neg (by omega)]
    · have c1 := o_nle c
      refine hs_ite (fun a => ?_) (fun a => ?_)
      · have a1 := o_le a
        refine hs_ite (fun b => ?_) (fun b => ?_)
        · have b1 := o_le b
          refine hs_ite (fun c => ?_) (fun c => ?_)
          · have c1 := o_le c
            refine hs_ite (fun d => ?_) (fun d => ?_)
            · have d1 := o_le d
              exact go (by omega) _ (by rw [if_neg (by omega), if_neg (by omega), if_neg (by omega), if_neg (by omega)])
            · have d1 := o_nle d
              exact go (by omega) _ (by rw [if_neg (by omega), if_neg (by omega), if_neg (by omega), if_pos (by omega)])
          · have c1 := o_nle c
            exact go (by omega) _ (by rw [if_neg (by omega), if_neg (by omega), if_pos (by omega)])
        · have b1 := o_nle b
          exact go (by omega) _ (by rw [if_neg (by omega), if_pos (by omega)])
      · have a1 := o_nle a
        exact go (by omega) _ (by rw [if_pos (by omega)])
theorem hr_feed {N : Nat} {g : gp} {t bt T : Nat} (ob : q_O g 12 9 t = some bt) {x1 x2 x3 x4 x5 : Int32} {δ : dp} (hq : (q_I δ 12 2 t).toInt = (T : Int)) (hT : T ≤ 500) : hs (D_X12_feed N g t x1 x2 x3 x4 x5 δ) (fun r => (T + 20 ≤ 500 → ∀ i, q_R r.2 bt i = if T ≤ i ∧ i < T + 20 then bY x1 x2 x3 x4 x5 (i - T) else q_R δ bt i) ∧ (500 < T + 20 → q_R r.2 bt = q_R δ bt)) := by
  have e500 : (500 : Int32).toInt = 500 := rfl
  unfold D_X12_feed
  refine hs_bdv (fun d e => ?_)
  have d2 : q_I d 12 2 t = q_I δ 12 2 t := by rw [e, rI_o (by decide)]
  have dR : q_R d = q_R δ := by rw [e]; rfl
  have a1 := te_addc (c := 20) (n := 20) rfl (q_I d 12 2 t) (by rw [d2]; omega) (by rw [d2]; omega)
  rw [d2] at a1
  rw [d2]
  refine hs_ite (fun c => ?_) (fun c => ?_)
  · have c1 := o_le c
    refine hs_mono (r_feed (T := T) ob N 0 0 d rfl (by omega) (by omega) (by rw [d2, hq]; rfl)) (fun r hr => ⟨fun _ i => ?_, fun z => by omega⟩)
    rw [hr i, dR]; rfl
  · have c1 := o_nle c
    exact hs_some ⟨fun z => by omega, fun _ => by rw [dR]⟩
end
section
/-! shape on both sides: the same answer, the same SHAPE -/
theorem hs_bxv {ρ : Type} {F : Option ((Unit ⊕ Nat) × dp)} {tw : Nat → dp → ρ} {o : dp → Option ρ} {P : (Unit ⊕ Nat) × dp → Prop} {Q : ρ → Prop} (h : hs F P) (k1 : ∀ n δ, P (.inr n, δ) → Q (tw n δ)) (k2 : ∀ δ, P (.inl (), δ) → hs (o δ) Q) : hs (bxv F tw o) Q := by
  unfold bxv
  refine hs_bind h (fun r hr => ?_)
  obtain ⟨c | n, d⟩ := r
  · cases c; exact k2 d hr
  · exact hs_some (k1 n d hr)
/-- the class's SHAPE and the number of its images -/
def KS (ad : List Nat) (δ r : dp) : Prop := q_I r 5 0 (Ad ad 3) = q_I δ 5 0 (Ad ad 3) ∧ q_I r 5 1 (Ad ad 3) = q_I δ 5 1 (Ad ad 3) ∧ q_I r 5 2 (Ad ad 3) = q_I δ 5 2 (Ad ad 3) ∧ q_I r 11 12 (Ad ad 0) = q_I δ 11 12 (Ad ad 0)
theorem KS.k {ad : List Nat} {δ r : dp} {W : List (Nat × Nat)} (k : kp W δ r) (h0 : (5, 0) ∉ W) (h1 : (5, 1) ∉ W) (h2 : (5, 2) ∉ W) (h3 : (11, 12) ∉ W) : KS ad δ r := ⟨k 5 0 _ h0, k 5 1 _ h1, k 5 2 _ h2, k 11 12 _ h3⟩
/-- what the class's shape leaves -/
def SE (ad : List Nat) (δ : dp) (o : Nat ⊕ PS) (v : Int32) (r : dp) : Prop := match o with
  | .inl k => v.toInt = (k : Int) - 10 ∧ KS ad δ r
  | .inr y => v = y.2.2.1 ∧ q_I r 5 0 (Ad ad 3) = y.2.2.1 ∧ q_I r 5 1 (Ad ad 3) = y.2.2.2.1 ∧ q_I r 5 2 (Ad ad 3) = y.2.2.2.2 ∧ q_I r 11 12 (Ad ad 0) = 0
theorem hl_77 {ad : List Nat} {h : hp} (L : Lay TLx ad h) {δ0 : dp} {N : Nat} (hN : 10000000 ≤ N) {x1 : Int32} : ∀ (m i : Nat) (y : Int32) (δ : dp), y.toInt = (i : Int) → i ≤ 4 → CI ad h.1 δ0 δ → hs (L_X11_shape_77 N h.1 (Ad ad 0) x1 m y δ) (fun r => ∃ v, r.1 = .inl v ∧ v = q_I δ 5 0 (Ad ad 3) ∧ q_I r.2 5 0 (Ad ad 3) = q_I δ 5 0 (Ad ad 3) ∧ q_I r.2 5 1 (Ad ad 3) = q_I δ 5 1 (Ad ad 3) ∧ q_I r.2 5 2 (Ad ad 3) = q_I δ 5 2 (Ad ad 3) ∧ q_I r.2 11 12 (Ad ad 0) = 0) := by
  have k0 : q_K h.1 (Ad ad 0) = 11 := (lay_knd L (by decide)).trans (by decide)
  intro m
  induction m with
  | zero => intro i y δ _ _ _; exact hs_none
  | succ m ih =>
    intro i y δ hy hi I
    have e4 : (4 : Int32).toInt = 4 := rfl
    unfold L_X11_shape_77
    refine hs_ite (fun c => ?_) (fun c => ?_)
    · refine hs_bdv (fun d e => ?_)
      have id : CI ad h.1 δ0 d := by rw [e]; exact cs_11_12 L I k0 (by decide) (by decide)
      have kd : kp [(11, 12)] δ d := kp_w (by decide) (kp_I kp_r e)
      obtain ⟨b8, o8, q8⟩ := gO_11_8 L k0
      refine hs_at o8 (hs_bind (ok_h (k_X4_forget L hN q8 id)) (fun d2 h2 => ?_))
      obtain ⟨i2, ⟨u2, _⟩⟩ := h2
      obtain ⟨b9, o9, q9⟩ := gO_11_9 L k0
      refine hs_at o9 (hs_bind (ok_h (k_X10_forget L hN q9 i2)) (fun d3 h3 => ?_))
      obtain ⟨i3, ⟨u3, _⟩⟩ := h3
      obtain ⟨b10, o10, q10⟩ := gO_11_10 L k0
      refine hs_at o10 (hs_bind (ok_h (k_X0_forget L hN q10 i3)) (fun d4 h4 => ?_))
      obtain ⟨i4, ⟨u4, _⟩⟩ := h4
      refine hs_at (fO_0_1 L) (hs_some ?_)
      have K : kp [(0, 4), (0, 6), (4, 16), (11, 12)] δ d4 := kp_w (by decide) (kp_t (kp_t (kp_t kd u2) u3) u4)
      have K2 : kp [(0, 4), (0, 6), (4, 16)] d d4 := kp_w (by decide) (kp_t (kp_t u2 u3) u4)
      exact ⟨_, rfl, K 5 0 _ (by decide), K 5 0 _ (by decide), K 5 1 _ (by decide), K 5 2 _ (by decide), by rw [K2 11 12 _ (by decide), e, rI_s]⟩
    · have c1 := o_nle c
      have ty := ti_tn y
      obtain ⟨b6, o6, q6⟩ := gO_11_6 L k0
      refine hs_at o6 (hs_gd (fun _ => ?_))
      obtain ⟨d, od, qd⟩ := gE_11_6 L k0 o6 (i := y.toNatClampNeg) (by omega)
      refine hs_at od (hs_bind (ok_h (k_X2_clear L hN (by first | exact qd | exact qd.1) I)) (fun d2 h2 => ?_))
      obtain ⟨i2, ⟨u2, _⟩⟩ := h2
      refine hs_biv (fun w ew => ?_)
      have y1 := te_addc (c := 1) (n := 1) rfl y (by omega) (by omega)
      rw [← ew] at y1
      refine hs_mono (ih (i + 1) w d2 (by omega) (by omega) i2) (fun r hr => ?_)
      obtain ⟨v, a1, a2, a3, a4, a5, a6⟩ := hr
      exact ⟨v, a1, a2.trans (u2 5 0 _ (by decide)), a3.trans (u2 5 0 _ (by decide)), a4.trans (u2 5 1 _ (by decide)), a5.trans (u2 5 2 _ (by decide)), a6⟩
set_option maxHeartbeats 4000000 in
theorem hc_shape {ad : List Nat} {h : hp} (L : Lay TLx ad h) {δ0 : dp} {N : Nat} (hN : 10000000 ≤ N) {x1 : Int32} {δ : dp} (I : CI ad h.1 δ0 δ) (hβ : ∀ i : Nat, (i : Int) < (q_I δ 7 1 (Ad ad 1)).toInt → 0 ≤ (q_R δ (Ad ad 2) i).toInt) : hs (D_X11_shape N h.1 (Ad ad 0) x1 δ) (fun r => match r.1 with | .inl v => SE ad δ (rZ (q_R δ (Ad ad 2)) x1.toInt.toNat 501 (0, 0, 8, 1, 1)) v r.2 | .inr _ => KS ad δ r.2) := by
  have k0 : q_K h.1 (Ad ad 0) = 11 := (lay_knd L (by decide)).trans (by decide)
  have k1 : q_K h.1 (Ad ad 1) = 7 := (lay_knd L (by decide)).trans (by decide)
  have k3 : q_K h.1 (Ad ad 3) = 5 := (lay_knd L (by decide)).trans (by decide)
  have k4 : q_K h.1 (Ad ad 4) = 6 := (lay_knd L (by decide)).trans (by decide)
  have z0 : (0 : Int32).toInt = 0 := rfl
  have b71 := cb_7_1 I k1
  have no : hs (J_X11_shape_20 N h.1 (Ad ad 0) x1 (Ad ad 0) δ) (fun r => match r.1 with | .inl v => SE ad δ (rZ (q_R δ (Ad ad 2)) x1.toInt.toNat 501 (0, 0, 8, 1, 1)) v r.2 | .inr _ => KS ad δ r.2) := by
    unfold J_X11_shape_20 J_X11_shape_21
    refine hs_bxv (ok_h (k_X11_need L hN (x1 := 0) k0 I)) (fun n d hd => ?_) (fun d hd => ?_)
    · exact KS.k hd.2.1.1 (by decide) (by decide) (by decide) (by decide)
    · exact absurd z0 (show (0 : Int32).toInt ≠ 0 from hd.2.2)
  unfold D_X11_shape
  refine hs_ite (fun _ => no) (fun c1 => ?_)
  have c2 := o_nlt c1
  refine hs_at (fO_0_0 L) (hs_ite (fun _ => no) (fun c3 => ?_))
  have c4 := o_nlt c3
  unfold J_X11_shape_21
  refine hs_bxv (ok_h (k_X11_need L hN (x1 := 1) k0 I)) (fun n d hd => ?_) (fun d hd => ?_)
  · exact KS.k hd.2.1.1 (by decide) (by decide) (by decide) (by decide)
  obtain ⟨id, ⟨ud, _⟩, _⟩ := hd
  have r2 : ∀ e, CI ad h.1 δ0 e → q_R e (Ad ad 2) = q_R δ (Ad ad 2) := fun e ie => (ie.2.2.2.2 2 (Or.inr rfl) (by decide)).trans (I.2.2.2.2 2 (Or.inr rfl) (by decide)).symm
  refine hs_at (fO_0_0 L) (hs_bind (hs_and (ok_h (k_X7_open L hN (x1 := x1) k1 (by omega) (by omega) id)) (Q := fun r => q_I r 7 2 (Ad ad 1) = x1 ∧ (q_I r 7 3 (Ad ad 1)).toInt = 0) ?_) (fun e he => ?_))
  · unfold D_X7_open
    refine hs_bdv (fun d1 e1 => hs_bdv (fun d2 e2 => hs_bdv (fun d3 e3 => hs_bdv (fun d4 e4 => hs_bdv (fun d5 e5 => hs_some ⟨?_, ?_⟩)))))
    · rw [e5, rI_o (by decide), e4, rI_o (by decide), e3, rI_o (by decide), e2, rI_s]
    · rw [e5, rI_o (by decide), e4, rI_o (by decide), e3, rI_s]; rfl
  obtain ⟨⟨ie, ⟨ue, _, _⟩, e5, _⟩, e2, e3⟩ := he
  refine hs_at (fO_0_2 L) (hs_at (fO_0_0 L) ?_)
  have nb : Ad ad 2 ≠ Ad ad 5 := ad_ne L (by decide) (by decide) (by decide)
  refine hs_bind (hs_and (ok_h (k_X6_read L hN k4 k1 ie)) (hD_read6 (n := x1.toInt.toNat) (by omega) (fO_1_0 L) (fO_4_3 L) nb (fun j hj => by rw [r2 e ie]; exact hβ j (by omega)) e3 (by rw [e2]; omega) (i_eq e5))) (fun f hf => ?_)
  obtain ⟨⟨jf, ⟨uf, _⟩, sf⟩, ce⟩ := hf
  rw [r2 e ie] at ce
  have kf : kp [(6, 0), (6, 1), (6, 2), (7, 1), (7, 2), (7, 3), (7, 4), (7, 5), (7, 6)] δ f := kp_w (by decide) (kp_t (kp_t ud ue) uf)
  refine hs_at (fO_0_0 L) ?_
  refine hs_bind (P := fun r => r.2 = f ∧ (r.1 = 1 ∧ q_I f 7 5 (Ad ad 1) = 0 ∨ r.1 = 0 ∧ q_I f 7 5 (Ad ad 1) ≠ 0)) ?_ (fun r hr => ?_)
  · unfold D_X7_isSound J_X7_isSound_12
    exact hs_ite (fun c => hs_gp (fun _ => hs_some ⟨rfl, Or.inl ⟨rfl, c⟩⟩)) (fun c => hs_gp (fun _ => hs_some ⟨rfl, Or.inr ⟨rfl, c⟩⟩))
  obtain ⟨g1, g2⟩ := hr
  rw [g1]
  refine hs_ite (fun c => ?_) (fun c => ?_)
  · refine hs_at (fO_0_0 L) (hs_some ?_)
    rcases g2 with ⟨a, _⟩ | ⟨_, b⟩
    · rw [a] at c; exact absurd c (by decide)
    show SE ad δ _ _ _
    cases hz : rZ (q_R δ (Ad ad 2)) x1.toInt.toNat 501 (0, 0, 8, 1, 1) with
    | inl k =>
      rw [hz] at ce
      obtain ⟨ce1, ce2⟩ := ce
      have bk := ti_b (q_I f 7 5 (Ad ad 1))
      refine ⟨?_, KS.k kf (by decide) (by decide) (by decide) (by decide)⟩
      have s1 := te_subc (c := 10) (n := 10) rfl (q_I f 7 5 (Ad ad 1)) (by omega) (by omega)
      omega
    | inr y =>
      rw [hz] at ce
      exact absurd ce.1 b
  · have f0 : q_I f 7 5 (Ad ad 1) = 0 := by
      rcases g2 with ⟨_, b⟩ | ⟨a, _⟩
      · exact b
      · exact absurd a c
    cases hz : rZ (q_R δ (Ad ad 2)) x1.toInt.toNat 501 (0, 0, 8, 1, 1) with
    | inl k =>
      rw [hz] at ce
      have := ce.1
      rw [f0] at this
      exact absurd (show (0 : Int) = k from this) (by have := ce.2; omega)
    | inr y =>
      rw [hz] at ce
      obtain ⟨_, w1, w2, w3⟩ := ce
      obtain ⟨s1, s2, s3, s4⟩ := sf (by rw [f0]; rfl)
      refine hs_at (fO_0_1 L) (hs_at (fO_0_2 L) (hs_bind (hs_and (ok_h (k_X5_take L hN k3 k4 s1 s2 s3 s4 jf)) (Q := fun q => q_I q 5 0 (Ad ad 3) = q_I f 6 0 (Ad ad 4) ∧ q_I q 5 1 (Ad ad 3) = q_I f 6 1 (Ad ad 4) ∧ q_I q 5 2 (Ad ad 3) = q_I f 6 2 (Ad ad 4)) ?_) (fun q hq => ?_)))
      · unfold D_X5_take
        refine hs_bdv (fun d1 e1 => hs_gp (fun _ => hs_bdv (fun d2 e2 => hs_bdv (fun d3 e3 => hs_some ⟨?_, ?_, ?_⟩))))
        · rw [e3, rI_o (by decide), e2, rI_o (by decide), e1, rI_s]
        · rw [e3, rI_o (by decide), e2, rI_s, e1, rI_o (by decide)]
        · rw [e3, rI_s, e2, rI_o (by decide), e1, rI_o (by decide)]
      obtain ⟨⟨iq, _⟩, t0, t1, t2⟩ := hq
      refine hs_mono (hl_77 L hN N 0 0 q rfl (by omega) iq) (fun r hr => ?_)
      obtain ⟨v, a1, a2, a3, a4, a5, a6⟩ := hr
      rw [a1]
      show SE ad δ (.inr y) v r.2
      exact ⟨by rw [a2, t0, w1], by rw [a3, t0, w1], by rw [a4, t1, w2], by rw [a5, t2, w3], a6⟩
/-- the reference's shape -/
theorem hr_shape {ad : List Nat} {h : hp} (L : Lay TLx ad h) {δ0 : dp} {N : Nat} (hN : 10000000 ≤ N) {x1 : Int32} {t : Nat} (kt : q_K h.1 t = 12) {δ : dp} (I : RI ad h.1 δ0 δ) : hs (D_X12_shape N h.1 t x1 δ) (fun r => (0 ≤ x1.toInt ∧ x1.toInt ≤ (q_I δ 12 2 t).toInt → RF t δ (rZ (q_R δ (Ad ad 101)) x1.toInt.toNat 501 (0, 0, 8, 1, 1)) r) ∧ ((x1.toInt < 0 ∨ (q_I δ 12 2 t).toInt < x1.toInt) → q_I r.2 12 10 t = q_I δ 12 10 t ∧ q_I r.2 12 11 t = q_I δ 12 11 t ∧ q_I r.2 12 12 t = q_I δ 12 12 t ∧ q_I r.2 12 18 t = q_I δ 12 18 t)) := by
  have z0 : (0 : Int32).toInt = 0 := rfl
  have b2 := cb_12_2 I kt
  obtain ⟨bt, ob, _⟩ := gO_12_9 L kt
  have eb := gS_12_9 L kt ob
  unfold D_X12_shape
  refine hs_bdv (fun d e => ?_)
  have id : RI ad h.1 δ0 d := by rw [e]; exact cs_12_0 L I
  have kd : kp [(12, 0)] δ d := kp_w (by decide) (kp_I kp_r e)
  have dR : q_R d = q_R δ := by rw [e]; rfl
  have d2 := kd 12 2 t (by decide)
  have no : x1.toInt < 0 ∨ (q_I δ 12 2 t).toInt < x1.toInt → hs (J_X12_shape_22 N h.1 t x1 t d) (fun r => (0 ≤ x1.toInt ∧ x1.toInt ≤ (q_I δ 12 2 t).toInt → RF t δ (rZ (q_R δ (Ad ad 101)) x1.toInt.toNat 501 (0, 0, 8, 1, 1)) r) ∧ ((x1.toInt < 0 ∨ (q_I δ 12 2 t).toInt < x1.toInt) → q_I r.2 12 10 t = q_I δ 12 10 t ∧ q_I r.2 12 11 t = q_I δ 12 11 t ∧ q_I r.2 12 12 t = q_I δ 12 12 t ∧ q_I r.2 12 18 t = q_I δ 12 18 t)) := by
    intro hx
    unfold J_X12_shape_22 J_X12_shape_23
    refine hs_bind (ok_h (k_X12_may L hN (a0 := t) (x1 := 0) (x2 := 1) (x3 := 2) kt (by decide) (by decide) (by decide) id)) (fun r hr => ?_)
    obtain ⟨i4, ⟨u4, _, _⟩, b4, g4, _⟩ := hr
    have K : kp [(12, 0)] δ r.2 := kp_w (by decide) (kp_t kd u4)
    refine hs_ite (fun _ => hs_some ⟨fun z => by omega, fun _ => ⟨K 12 10 _ (by decide), K 12 11 _ (by decide), K 12 12 _ (by decide), K 12 18 _ (by decide)⟩⟩) (fun c => ?_)
    have n4 := bo_l b4
    have m4 := o_ne c
    exact absurd z0 (g4 (by omega))
  refine hs_ite (fun c => no (by have := o_lt c; omega)) (fun c1 => ?_)
  rw [d2]
  refine hs_ite (fun c => no (by have := o_lt c; omega)) (fun c2 => ?_)
  have c3 := o_nlt c1
  have c4 := o_nlt c2
  unfold J_X12_shape_23
  refine hs_bind (ok_h (k_X12_may L hN (a0 := t) (x1 := 1) (x2 := 1) (x3 := 2) kt (by decide) (by decide) (by decide) id)) (fun r hr => ?_)
  obtain ⟨i4, ⟨u4, _, w4⟩, b4, _, g5⟩ := hr
  have K : kp [(12, 0)] δ r.2 := kp_w (by decide) (kp_t kd u4)
  refine hs_ite (fun c => ?_) (fun _ => ?_)
  · have := g5 (by rw [e, rI_s]; rfl) (o_eq c)
    exact absurd this (by decide)
  have r101 : q_R r.2 (Ad ad 101) = q_R δ (Ad ad 101) := by rw [w4 101 (by decide) (by decide) (by decide), dR]
  refine hs_bind (P := fun q => kp [(12, 2), (12, 3), (12, 4), (12, 5), (12, 7), (12, 8)] r.2 q ∧ q_R q = q_R r.2 ∧ RS t x1.toInt.toNat 0 q) ?_ (fun q hq => ?_)
  · unfold D_X12_begins
    refine hs_bdv (fun d1 e1 => hs_bdv (fun d2 e2 => hs_bdv (fun d3 e3 => hs_bdv (fun d4 e4 => hs_bdv (fun d5 e5 => hs_bdv (fun d6 e6 => hs_some ⟨kp_w (by decide) (kp_I (kp_I (kp_I (kp_I (kp_I (kp_I kp_r e1) e2) e3) e4) e5) e6), by rw [e6, e5, e4, e3, e2, e1]; rfl, ?_, ?_, ?_⟩))))))
    · rw [e6, rI_o (by decide), e5, rI_o (by decide), e4, rI_s]; rfl
    · rw [e6, rI_o (by decide), e5, rI_o (by decide), e4, rI_o (by decide), e3, rI_s]; omega
    · rw [e6, rI_o (by decide), e5, rI_s]
  · obtain ⟨q1, q2, q3⟩ := hq
    have qb : q_R q bt = q_R δ (Ad ad 101) := by rw [q2, eb]; exact r101
    refine hs_mono (rl_49 hN (by omega) ob N 501 0 0 8 1 1 q (Nat.zero_le _) (by decide) (by omega) qb q3) (fun y hy => ⟨fun _ => ?_, fun z => by omega⟩)
    exact (hy.k q1 (by decide) (by decide) (by decide) (by decide)).k K (by decide) (by decide) (by decide) (by decide)
end
section
/-! the invariant with tapes, images and SHAPES alike -/
theorem RI_rf {ad : List Nat} {g : gp} {δ δ1 : dp} (I : RI ad g δ δ) (j4 : ∀ k a, q_I δ1 12 k a = q_I δ 12 k a) (j5 : ∀ i, 100 ≤ i → i < 127 → q_R δ1 (Ad ad i) = q_R δ (Ad ad i)) : RI ad g δ1 δ1 := by
  obtain ⟨i1, i2, i3, i4, i5⟩ := I
  refine ⟨fun k a hk => ?_, fun b i => ?_, fun _ _ _ _ => rfl, fun _ _ => rfl, rfl⟩
  · rw [j4 k a]; exact i1 k a hk
  · by_cases hn : ∃ j, 100 ≤ j ∧ j < 127 ∧ b = Ad ad j
    · obtain ⟨j, h1, h2, e⟩ := hn
      rw [e, j5 j h1 h2]; exact i2 _ i
    · rw [bQ_o hn]; exact ti_b _
theorem OI_rf {ad : List Nat} {a0 : Nat} {δ δ1 : dp} (O : OI ad a0 δ) (j4 : ∀ k a, q_I δ1 12 k a = q_I δ 12 k a) (r : ∀ c, 100 ≤ c → c < 127 → q_R δ1 (Ad ad c) = q_R δ (Ad ad c)) : OI ad a0 δ1 :=
  ⟨fun K hK => (bak_k (r 102 (by decide) (by decide)) (r 103 (by decide) (by decide))).o (j4 10 a0) hK (O.1 K hK), TH_k O.2.1 (j4 24 a0) (r 112 (by decide) (by decide)) (r 113 (by decide) (by decide)) (r 114 (by decide) (by decide)) (r 115 (by decide) (by decide)) (r 116 (by decide) (by decide)), O.2.2.c (j4 10 a0) (j4 18 a0) (r 107 (by decide) (by decide)) (r 108 (by decide) (by decide))⟩
/-- a feed leaves the class in order -/
theorem CI_2 {ad : List Nat} {h : hp} (L : Lay TLx ad h) {δ r : dp} (I : CI ad h.1 δ δ) (k : kp [(7, 1)] δ r) (hm : ∀ a, q_K h.1 a = 7 → 0 ≤ (q_I r 7 1 a).toInt ∧ (q_I r 7 1 a).toInt ≤ 500) (hr : ∀ b, b ≠ Ad ad 2 → q_R r b = q_R δ b) : CI ad h.1 r r := by
  obtain ⟨i1, i2, i3, i4, i5⟩ := I
  have ne : ∀ j, j < 128 → j ≠ 2 → Ad ad j ≠ Ad ad 2 := fun j h1 h2 => ad_ne L h1 (by decide) h2
  refine ⟨fun c q a hk => ?_, fun b i => ?_, fun j hj i hi => ?_, fun _ _ => rfl, fun _ _ _ => rfl⟩
  · by_cases e : c = 7 ∧ q = 1
    · obtain ⟨rfl, rfl⟩ := e
      have := hm a hk
      simpa [b_I] using this
    · rw [k c q a (by intro z; simp only [List.mem_cons, List.not_mem_nil, or_false, Prod.mk.injEq] at z; exact e z)]
      exact i1 c q a hk
  · by_cases e : b = Ad ad 2
    · have : b_R ad b = (-2147483648, 2147483647) := by
        unfold b_R
        rw [e]
        repeat rw [if_neg (fun z => by rw [Ad_eq L _ _ (by decide) (by decide)] at z; exact absurd z (by decide))]
      rw [this]; exact ti_b _
    · rw [hr b e]; exact i2 b i
  · rw [k 8 2 _ (by decide)] at hi
    rw [hr _ (ne _ (by omega) (by omega)), hr _ (ne _ (by omega) (by omega))]
    exact i3 j hj i hi
/-- tapes, images, SHAPES alike -/
def AL (ad : List Nat) (δ : dp) : Prop := q_R δ (Ad ad 2) = q_R δ (Ad ad 101) ∧ (∀ i, 0 ≤ (q_R δ (Ad ad 101) i).toInt) ∧ (q_I δ 11 12 (Ad ad 0)).toInt = (q_I δ 12 18 (Ad ad 99)).toInt ∧ q_I δ 5 0 (Ad ad 3) = q_I δ 12 10 (Ad ad 99) ∧ q_I δ 5 1 (Ad ad 3) = q_I δ 12 12 (Ad ad 99) ∧ q_I δ 5 2 (Ad ad 3) = q_I δ 12 11 (Ad ad 99)
def IX (ad : List Nat) (g : gp) (δ : dp) : Prop := IV ad g δ ∧ AL ad δ
theorem AL_t {ad : List Nat} {g : gp} {δ δ1 δ2 : dp} (A : AL ad δ) (C : CI ad g δ δ1) (R : RI ad g δ1 δ2) (r : q_R δ2 (Ad ad 101) = q_R δ1 (Ad ad 101)) : q_R δ2 (Ad ad 2) = q_R δ2 (Ad ad 101) ∧ ∀ i, 0 ≤ (q_R δ2 (Ad ad 101) i).toInt := by
  have e1 : q_R δ2 (Ad ad 101) = q_R δ (Ad ad 101) := r.trans (C.2.2.2.2 101 (Or.inl (by decide)) (by decide))
  have e2 : q_R δ2 (Ad ad 2) = q_R δ (Ad ad 2) := (R.2.2.2.1 2 (by decide)).trans (C.2.2.2.2 2 (Or.inr rfl) (by decide))
  rw [e1, e2]
  exact ⟨A.1, A.2.1⟩
/-- most calls -/
theorem stepA {ad : List Nat} {g : gp} {δ : dp} (V : IX ad g δ) {o1 : Option (Int32 × dp)} {f : dp → Option (Int32 × dp)} (C : ok o1 (fun r => CI ad g δ r.2 ∧ (q_I r.2 7 1 (Ad ad 1)).toInt = (q_I δ 7 1 (Ad ad 1)).toInt ∧ ∀ a, q_I r.2 5 0 a = q_I δ 5 0 a ∧ q_I r.2 5 1 a = q_I δ 5 1 a ∧ q_I r.2 5 2 a = q_I δ 5 2 a ∧ q_I r.2 11 12 a = q_I δ 11 12 a)) (R : ∀ δ1, RI ad g δ1 δ1 → OI ad (Ad ad 99) δ1 → ok (f δ1) (fun r => OR ad g (Ad ad 99) δ1 δ1 r.2 ∧ q_I r.2 12 18 (Ad ad 99) = q_I δ1 12 18 (Ad ad 99))) : ∃ d, (∃ (kk b : Int32) (δ1 : dp), o1 = some (kk, δ1) ∧ f δ1 = some (b, d)) ∧ IX ad g d := by
  obtain ⟨V, A⟩ := V
  obtain ⟨⟨kk, δ1⟩, e1, c1, c2, c3⟩ := C
  dsimp only at c1 c2 c3
  obtain ⟨⟨b, d⟩, e2, ⟨r1, r2, r3, r4, r5, r6, r7⟩, r8⟩ := R δ1 (RI_re V.2.1 c1) (OI_re V.2.2.1 c1)
  dsimp only at r1 r2 r3 r4 r5 r6 r7 r8
  have F := c1.2.2.2.1
  refine ⟨d, ⟨kk, b, δ1, e1, e2⟩, IV_end V c1 r1 r2 ?_, ?_⟩
  · rw [c2, r3, F 2 (Ad ad 99)]; exact V.2.2.2
  · obtain ⟨t1, t2⟩ := AL_t A c1 r1 r4
    have G := r1.2.2.1
    obtain ⟨a1, a2, a3, a4, a5, a6⟩ := A
    refine ⟨t1, t2, ?_, ?_, ?_, ?_⟩
    · rw [G 11 12 _ (by decide), (c3 _).2.2.2, r8, F 18]; exact a3
    · rw [G 5 0 _ (by decide), (c3 _).1, r5, F 10]; exact a4
    · rw [G 5 1 _ (by decide), (c3 _).2.1, r7, F 12]; exact a5
    · rw [G 5 2 _ (by decide), (c3 _).2.2.1, r6, F 11]; exact a6
/-- thief -/
theorem stepT {ad : List Nat} {h : hp} (L : Lay TLx ad h) {N : Nat} (hN : 10000000 ≤ N) (kx : q_K h.1 (Ad ad 0) = 11) (km : q_K h.1 (Ad ad 99) = 12) (no : q_N h.1 (Ad ad 127) = 1) {δ : dp} (V : IX ad h.1 δ) {x : Int32} : ∃ d, (∃ (kk b : Int32) (δ1 : dp), D_L_thief N h.1 (Ad ad 0) x (Ad ad 127) δ = some (kk, δ1) ∧ D_X12_thief N h.1 (Ad ad 99) x δ1 = some (b, d)) ∧ IX ad h.1 d := by
  obtain ⟨V, A⟩ := V
  obtain ⟨⟨kk, δ1⟩, e1, c1, c2, c3⟩ := k_L_thief L hN (x1 := x) kx no V.1
  dsimp only at c1 c2 c3
  have I1 := RI_re V.2.1 c1
  obtain ⟨⟨b, d⟩, e2, ⟨r1, r2, r3, r4⟩, ⟨_, ⟨u, _, w⟩, _⟩⟩ := ok_and (o_thief L hN (x1 := x) km I1 (OI_re V.2.2.1 c1)) (k_X12_thief L hN (x1 := x) km I1)
  dsimp only at r1 r2 r3 r4 u w
  have F := c1.2.2.2.1
  have h0 := V.2.2.2
  rw [F 2 (Ad ad 99), ← h0] at r3 r4
  refine ⟨d, ⟨kk, b, δ1, e1, e2⟩, IV_end V c1 r1 r2 ?_, ?_⟩
  · rcases c2 with ⟨a, b, c⟩ | ⟨a, c⟩
    · rw [c, r3 ⟨a, b⟩]
    · rw [c, r4 a]
  · obtain ⟨t1, t2⟩ := AL_t A c1 r1 (w 101 (by decide) (by decide) (by decide))
    have G := r1.2.2.1
    obtain ⟨a1, a2, a3, a4, a5, a6⟩ := A
    refine ⟨t1, t2, ?_, ?_, ?_, ?_⟩
    · rw [G 11 12 _ (by decide), (c3 _).2.2.2, u 12 18 _ (by decide), F 18]; exact a3
    · rw [G 5 0 _ (by decide), (c3 _).1, u 12 10 _ (by decide), F 10]; exact a4
    · rw [G 5 1 _ (by decide), (c3 _).2.1, u 12 12 _ (by decide), F 12]; exact a5
    · rw [G 5 2 _ (by decide), (c3 _).2.2.1, u 12 11 _ (by decide), F 11]; exact a6
/-- what the law's helper says of the class's shape -/
theorem hL_shape {ad : List Nat} {h : hp} (L : Lay TLx ad h) {δ0 : dp} {N : Nat} (hN : 10000000 ≤ N) (kx : q_K h.1 (Ad ad 0) = 11) (no : q_N h.1 (Ad ad 127) = 1) {x : Int32} {δ : dp} (I : CI ad h.1 δ0 δ) (hβ : ∀ i : Nat, 0 ≤ (q_R δ (Ad ad 2) i).toInt) : hs (D_L_shape N h.1 (Ad ad 0) x (Ad ad 127) δ) (fun r => 0 ≤ x.toInt ∧ x.toInt ≤ (q_I δ 7 1 (Ad ad 1)).toInt ∧ r.1 = 0 ∧ (∃ v : Int32, q_J r.2 (Ad ad 127) 0 = v.toInt64 ∧ SE ad δ (rZ (q_R δ (Ad ad 2)) x.toInt.toNat 501 (0, 0, 8, 1, 1)) v r.2) ∨ (x.toInt < 0 ∨ (q_I δ 7 1 (Ad ad 1)).toInt < x.toInt) ∧ r.1 = 1 ∧ KS ad δ r.2) := by
  unfold D_L_shape
  refine hs_bind (hs_and (ok_h (k_X11_shape L hN (x1 := x) kx I)) (hc_shape L hN (x1 := x) I (fun i _ => hβ i))) (fun r hr => ?_)
  obtain ⟨⟨_, _, h1⟩, h2⟩ := hr
  obtain ⟨v | n, d⟩ := r
  · dsimp only at h1 h2 ⊢
    refine hs_gd (fun _ => hs_some (Or.inl ⟨h1.2.1, h1.2.2, rfl, v, ?_, ?_⟩))
    · show va_up (q_J d) (Ad ad 127) (vp_updL (q_J d (Ad ad 127)) 0 v.toInt64) (Ad ad 127) 0 = _
      simp [va_up, vp_updL]
    · cases hz : rZ (q_R δ (Ad ad 2)) x.toInt.toNat 501 (0, 0, 8, 1, 1) with
      | inl k => rw [hz] at h2; exact h2
      | inr y => rw [hz] at h2; exact h2
  · dsimp only at h1 h2 ⊢
    have q : n = 2 := h1.1
    subst q
    refine hs_gd (fun _ => hs_gd (fun _ => hs_some (Or.inr ⟨h1.2.2, rfl, h2⟩)))
/-- shape -/
theorem stepS {ad : List Nat} {h : hp} (L : Lay TLx ad h) {N : Nat} (hN : 10000000 ≤ N) (kx : q_K h.1 (Ad ad 0) = 11) (km : q_K h.1 (Ad ad 99) = 12) (no : q_N h.1 (Ad ad 127) = 1) {δ : dp} (V : IX ad h.1 δ) {x : Int32} : ∃ d, (∃ (kk b : Int32) (δ1 : dp), D_L_shape N h.1 (Ad ad 0) x (Ad ad 127) δ = some (kk, δ1) ∧ D_X12_shape N h.1 (Ad ad 99) x δ1 = some (b, d) ∧ (kk = 0 → q_J δ1 (Ad ad 127) 0 = b.toInt64)) ∧ IX ad h.1 d := by
  obtain ⟨V, A⟩ := V
  have hβ : ∀ i : Nat, 0 ≤ (q_R δ (Ad ad 2) i).toInt := fun i => by rw [A.1]; exact A.2.1 i
  obtain ⟨⟨kk, δ1⟩, e1, ⟨c1, c2⟩, c3⟩ := ok_hs (k_L_shape L hN (x1 := x) kx no V.1) (hL_shape L hN (x := x) kx no V.1 hβ)
  dsimp only at c1 c2 c3
  have I1 := RI_re V.2.1 c1
  obtain ⟨⟨b, d⟩, e2, ⟨⟨r1, r2, r3, r4⟩, ⟨_, ⟨u, _, w⟩, _⟩⟩, r5, r6⟩ := ok_hs (ok_and (o_shape L hN (x1 := x) km I1 (OI_re V.2.2.1 c1)) (k_X12_shape L hN (x1 := x) km I1)) (hr_shape L hN (x1 := x) km I1)
  dsimp only at r1 r2 r3 r4 u w r5 r6
  have F := c1.2.2.2.1
  have h0 := V.2.2.2
  rw [F 2 (Ad ad 99), ← h0] at r3 r4 r5 r6
  obtain ⟨t1, t2⟩ := AL_t A c1 r1 (w 101 (by decide) (by decide) (by decide))
  have G := r1.2.2.1
  obtain ⟨a1, a2, a3, a4, a5, a6⟩ := A
  have eb : q_R δ1 (Ad ad 101) = q_R δ (Ad ad 2) := (c1.2.2.2.2 101 (Or.inl (by decide)) (by decide)).trans a1.symm
  rw [eb] at r5
  have fin : (kk = 0 → q_J δ1 (Ad ad 127) 0 = b.toInt64) ∧ (q_I d 11 12 (Ad ad 0)).toInt = (q_I d 12 18 (Ad ad 99)).toInt ∧ q_I d 5 0 (Ad ad 3) = q_I d 12 10 (Ad ad 99) ∧ q_I d 5 1 (Ad ad 3) = q_I d 12 12 (Ad ad 99) ∧ q_I d 5 2 (Ad ad 3) = q_I d 12 11 (Ad ad 99) := by
    rw [G 11 12 _ (by decide), G 5 0 _ (by decide), G 5 1 _ (by decide), G 5 2 _ (by decide)]
    rcases c3 with ⟨x0, x1', k0, v, jv, se⟩ | ⟨x0, k1, ks⟩
    · have rf := r5 ⟨x0, x1'⟩
      cases hz : rZ (q_R δ (Ad ad 2)) x.toInt.toNat 501 (0, 0, 8, 1, 1) with
      | inl k =>
        rw [hz] at se rf
        obtain ⟨s1, s2, s3, s4, s5⟩ := se
        obtain ⟨f1, f2, f3, f4, f5⟩ := rf
        dsimp only at f1 f2 f3 f4 f5
        refine ⟨fun _ => ?_, ?_, ?_, ?_, ?_⟩
        · rw [jv, show v = b from i_eq (by rw [s1, f1])]
        · rw [s5, f5, F 18]; exact a3
        · rw [s2, f2, F 10]; exact a4
        · rw [s3, f4, F 12]; exact a5
        · rw [s4, f3, F 11]; exact a6
      | inr y =>
        rw [hz] at se rf
        obtain ⟨s1, s2, s3, s4, s5⟩ := se
        obtain ⟨f1, f2, f3, f4, f5⟩ := rf
        dsimp only at f1 f2 f3 f4 f5
        refine ⟨fun _ => ?_, ?_, ?_, ?_, ?_⟩
        · rw [jv, s1, f1]
        · rw [s5, f5]
        · rw [s2, f2]
        · rw [s3, f4]
        · rw [s4, f3]
    · obtain ⟨f2, f3, f4, f5⟩ := r6 x0
      obtain ⟨s2, s3, s4, s5⟩ := ks
      refine ⟨fun z => by rw [k1] at z; exact absurd z (by decide), ?_, ?_, ?_, ?_⟩
      · rw [s5, f5, F 18]; exact a3
      · rw [s2, f2, F 10]; exact a4
      · rw [s3, f4, F 12]; exact a5
      · rw [s4, f3, F 11]; exact a6
  refine ⟨d, ⟨kk, b, δ1, e1, e2, fin.1⟩, IV_end V c1 r1 r2 ?_, t1, t2, fin.2⟩
  rcases c2 with ⟨a, b, c⟩ | ⟨a, c⟩
  · rw [c, r3 ⟨a, b⟩]
  · rw [c, r4 a]
/-- feed -/
theorem stepF {ad : List Nat} {h : hp} (L : Lay TLx ad h) {N : Nat} (hN : 10000000 ≤ N) (km : q_K h.1 (Ad ad 99) = 12) {δ : dp} (V : IX ad h.1 δ) {x1 x2 x3 x4 x5 : Int32} : ∃ d, (∃ (b : Int32) (δ1 : dp), D_X11_feed N h.1 (Ad ad 0) x1 x2 x3 x4 x5 δ = some (b, δ1) ∧ D_X12_feed N h.1 (Ad ad 99) x1 x2 x3 x4 x5 δ1 = some (b, d)) ∧ IX ad h.1 d := by
  obtain ⟨⟨V1, V2, V3, V4⟩, A⟩ := V
  have k1 : q_K h.1 (Ad ad 1) = 7 := (lay_knd L (by decide)).trans (by decide)
  have b71 := cb_7_1 V1 k1
  obtain ⟨⟨b1, δ1⟩, e1, c1, c2, c3, c4⟩ := fc_feed L hN (x1 := x1) (x2 := x2) (x3 := x3) (x4 := x4) (x5 := x5) V1
  dsimp only at c1 c2 c3 c4
  have ne : ∀ i, 100 ≤ i → i < 127 → Ad ad i ≠ Ad ad 2 := fun i h1 h2 => ad_ne L (by omega) (by decide) (by omega)
  have F : ∀ k a, q_I δ1 12 k a = q_I δ 12 k a := fun k a => c1 12 k a (by simp)
  have FR : ∀ i, 100 ≤ i → i < 127 → q_R δ1 (Ad ad i) = q_R δ (Ad ad i) := fun i h1 h2 => c3 _ (ne i h1 h2)
  have one : ∀ a, q_K h.1 a = 7 → a = Ad ad 1 := fun a ka => by
    obtain ⟨q, hq, rfl⟩ := lay_cel L (by rw [ka]; decide)
    rw [lay_knd L hq] at ka
    have H : ∀ i : Fin 128, knd i.val = 7 → i.val = 1 := by decide +kernel
    have e := H ⟨q, hq⟩ ka
    dsimp only at e
    rw [e]
  have C1 : CI ad h.1 δ1 δ1 := CI_2 L V1 c1 (fun a ka => by rw [one a ka]; rcases c4 with ⟨a1, a2, a3, _⟩ | ⟨_, _, rfl⟩ <;> omega) c3
  have I1 := RI_rf V2 F FR
  obtain ⟨bt, ob, _⟩ := gO_12_9 L km
  obtain rfl := gS_12_9 L km ob
  have b2 := cb_12_2 I1 km
  obtain ⟨⟨b, d⟩, e2, ⟨⟨r1, r2, r3, r4⟩, ⟨_, ⟨u, _, w⟩, _⟩⟩, r5, r6⟩ := ok_hs (ok_and (o_feed L hN (x1 := x1) (x2 := x2) (x3 := x3) (x4 := x4) (x5 := x5) km I1 (OI_rf V3 F FR)) (k_X12_feed L hN (x1 := x1) (x2 := x2) (x3 := x3) (x4 := x4) (x5 := x5) km I1)) (hr_feed (T := (q_I δ1 12 2 (Ad ad 99)).toInt.toNat) ob (x1 := x1) (x2 := x2) (x3 := x3) (x4 := x4) (x5 := x5) (δ := δ1) (by omega) (by omega))
  dsimp only at r1 r2 r3 r4 u w r5 r6
  have eT : (q_I δ1 12 2 (Ad ad 99)).toInt = (q_I δ 7 1 (Ad ad 1)).toInt := by rw [F 2, V4]
  rw [eT] at r3 r4 r5 r6
  have G := r1.2.2.1
  have R2 : q_R d (Ad ad 2) = q_R δ1 (Ad ad 2) := r1.2.2.2.1 2 (by decide)
  have q101 : q_R δ1 (Ad ad 101) = q_R δ (Ad ad 101) := FR 101 (by decide) (by decide)
  have CE2 := CI_re C1 r1
  have RE2 : RI ad h.1 d d := by
    obtain ⟨j1, j2, j3, j4, j5⟩ := r1
    exact ⟨j1, j2, fun _ _ _ _ => rfl, fun _ _ => rfl, rfl⟩
  obtain ⟨a1, a2, a3, a4, a5, a6⟩ := A
  have tail : (q_I d 11 12 (Ad ad 0)).toInt = (q_I d 12 18 (Ad ad 99)).toInt ∧ q_I d 5 0 (Ad ad 3) = q_I d 12 10 (Ad ad 99) ∧ q_I d 5 1 (Ad ad 3) = q_I d 12 12 (Ad ad 99) ∧ q_I d 5 2 (Ad ad 3) = q_I d 12 11 (Ad ad 99) := by
    rw [G 11 12 _ (by decide), G 5 0 _ (by decide), G 5 1 _ (by decide), G 5 2 _ (by decide), c1 11 12 _ (by decide), c1 5 0 _ (by decide), c1 5 1 _ (by decide), c1 5 2 _ (by decide), u 12 18 _ (by decide), u 12 10 _ (by decide), u 12 12 _ (by decide), u 12 11 _ (by decide), F 18, F 10, F 12, F 11]
    exact ⟨a3, a4, a5, a6⟩
  rcases c4 with ⟨g1, g2, g3, g4⟩ | ⟨g1, g2, g3⟩
  · have eb : b = b1 := i_eq (by rw [(r3 g1).1, g2])
    subst eb
    have rows : q_R d (Ad ad 2) = q_R d (Ad ad 101) := by
      funext i
      rw [R2, g4, r5 (by omega), q101, a1]
    refine ⟨d, ⟨b, δ1, e1, e2⟩, ⟨CE2, RE2, r2, by rw [G 7 1 _ (by decide), g3, (r3 g1).2]⟩, rows, fun i => ?_, tail⟩
    rw [r5 (by omega), q101]
    by_cases z : (q_I δ 7 1 (Ad ad 1)).toInt.toNat ≤ i ∧ i < (q_I δ 7 1 (Ad ad 1)).toInt.toNat + 20
    · rw [if_pos z]; unfold bY; exact bz_0 _ _
    · rw [if_neg z]; exact a2 i
  · have eb : b = b1 := i_eq (by rw [(r4 g1).1, g2])
    subst eb
    have q6 := r6 (by omega)
    rw [g3] at e1 R2
    refine ⟨d, ⟨b, δ, e1, by rw [← g3]; exact e2⟩, ⟨CE2, RE2, r2, by rw [G 7 1 _ (by decide), g3, (r4 g1).2]⟩, by rw [R2, q6, q101]; exact a1, fun i => by rw [q6, q101]; exact a2 i, tail⟩
/-- image and restore: the same answer -/
theorem stepI {ad : List Nat} {g : gp} {δ : dp} (V : IX ad g δ) {o1 : Option (Int32 × dp)} {f : dp → Option (Int32 × dp)} {P : Int → Int → Int → Prop} (hP : ∀ t a b c d, P t a b → P t c d → a = c ∧ b = d) (C : ok o1 (fun r => CI ad g δ r.2 ∧ (q_I r.2 7 1 (Ad ad 1)).toInt = (q_I δ 7 1 (Ad ad 1)).toInt ∧ (∀ a, q_I r.2 5 0 a = q_I δ 5 0 a ∧ q_I r.2 5 1 a = q_I δ 5 1 a ∧ q_I r.2 5 2 a = q_I δ 5 2 a) ∧ P (q_I δ 11 12 (Ad ad 0)).toInt r.1.toInt (q_I r.2 11 12 (Ad ad 0)).toInt)) (R : ∀ δ1, RI ad g δ1 δ1 → OI ad (Ad ad 99) δ1 → ok (f δ1) (fun r => OR ad g (Ad ad 99) δ1 δ1 r.2 ∧ P (q_I δ1 12 18 (Ad ad 99)).toInt r.1.toInt (q_I r.2 12 18 (Ad ad 99)).toInt)) : ∃ d, (∃ (b : Int32) (δ1 : dp), o1 = some (b, δ1) ∧ f δ1 = some (b, d)) ∧ IX ad g d := by
  obtain ⟨V, A⟩ := V
  obtain ⟨⟨kk, δ1⟩, e1, c1, c2, c3, c4⟩ := C
  dsimp only at c1 c2 c3 c4
  obtain ⟨⟨b, d⟩, e2, ⟨r1, r2, r3, r4, r5, r6, r7⟩, r8⟩ := R δ1 (RI_re V.2.1 c1) (OI_re V.2.2.1 c1)
  dsimp only at r1 r2 r3 r4 r5 r6 r7 r8
  have F := c1.2.2.2.1
  obtain ⟨t1, t2⟩ := AL_t A c1 r1 r4
  have G := r1.2.2.1
  obtain ⟨a1, a2, a3, a4, a5, a6⟩ := A
  rw [F 18, ← a3] at r8
  obtain ⟨h1, h2⟩ := hP _ _ _ _ _ c4 r8
  have eb : kk = b := i_eq h1
  subst eb
  refine ⟨d, ⟨kk, δ1, e1, e2⟩, IV_end V c1 r1 r2 ?_, t1, t2, ?_, ?_, ?_, ?_⟩
  · rw [c2, r3, F 2 (Ad ad 99)]; exact V.2.2.2
  · rw [G 11 12 _ (by decide)]; exact h2
  · rw [G 5 0 _ (by decide), (c3 _).1, r5, F 10]; exact a4
  · rw [G 5 1 _ (by decide), (c3 _).2.1, r7, F 12]; exact a5
  · rw [G 5 2 _ (by decide), (c3 _).2.2, r6, F 11]; exact a6
def pIm (t v w : Int) : Prop := t < 3 ∧ v = t + 1 ∧ w = t + 1 ∨ 3 ≤ t ∧ v = -1 ∧ w = t
def pRs (t v w : Int) : Prop := 0 < t ∧ v = t - 1 ∧ w = t - 1 ∨ t ≤ 0 ∧ v = -1 ∧ w = t
theorem pIm_u : ∀ t a b c d, pIm t a b → pIm t c d → a = c ∧ b = d := by
  intro t a b c d h k
  unfold pIm at h k
  omega
theorem pRs_u : ∀ t a b c d, pRs t a b → pRs t c d → a = c ∧ b = d := by
  intro t a b c d h k
  unfold pRs at h k
  omega
end
section
/-! what the class's calls leave untouched: houses, images, q_V, refusals (by gen_frame.py) -/
def hcl : List Nat := [76, 82, 88, 94]
def PRS : List Nat := [56, 57, 58, 77, 78, 79, 83, 84, 85, 89, 90, 91, 95, 96, 97]
def HG (v s : Bool) (ad : List Nat) (δ δ1 : dp) : Prop := ((∀ i ∈ hcl, q_I δ1 3 1 (Ad ad i) = q_I δ 3 1 (Ad ad i)) ∧ (∀ a, q_I δ1 2 4 a = q_I δ 2 4 a) ∧ ∀ i ∈ PRS, q_R δ1 (Ad ad i) = q_R δ (Ad ad i)) ∧ (v = true → q_V δ1 = q_V δ) ∧ (s = true → q_R δ1 (Ad ad 59) = q_R δ (Ad ad 59))
def nh (ad : List Nat) (a : Nat) : Prop := ∀ i ∈ hcl, Ad ad i ≠ a
def nq (ad : List Nat) (b : Nat) : Prop := ∀ i ∈ PRS, Ad ad i ≠ b
def nr (ad : List Nat) (b : Nat) : Prop := nq ad b ∧ Ad ad 59 ≠ b
def VT (g : gp) (δ : dp) : Prop := ∀ a b, q_K g a = 9 → q_V δ 9 1 a = some b → q_K g b = 8
theorem VT_k {g : gp} {δ δ1 : dp} (h : VT g δ) (e : q_V δ1 = q_V δ) : VT g δ1 := fun a b ha hb => h a b ha (by rw [← e]; exact hb)
theorem HG_r {v s : Bool} {ad : List Nat} {δ : dp} : HG v s ad δ δ := ⟨⟨fun _ _ => rfl, fun _ => rfl, fun _ _ => rfl⟩, fun _ => rfl, fun _ => rfl⟩
theorem HG.t {v s : Bool} {ad : List Nat} {δ δ1 δ2 : dp} (h : HG v s ad δ δ1) (k : HG v s ad δ1 δ2) : HG v s ad δ δ2 := ⟨⟨fun i hi => (k.1.1 i hi).trans (h.1.1 i hi), fun a => (k.1.2.1 a).trans (h.1.2.1 a), fun i hi => (k.1.2.2 i hi).trans (h.1.2.2 i hi)⟩, fun e => (k.2.1 e).trans (h.2.1 e), fun e => (k.2.2 e).trans (h.2.2 e)⟩
theorem HG.w {v s v1 s1 : Bool} {ad : List Nat} {δ δ1 : dp} (h : HG v s ad δ δ1) (hv : v1 = true → v = true) (hs : s1 = true → s = true) : HG v1 s1 ad δ δ1 := ⟨h.1, fun e => h.2.1 (hv e), fun e => h.2.2 (hs e)⟩
theorem HG.I {v s : Bool} {ad : List Nat} {δ δ1 δ2 : dp} {c k a : Nat} {x : Int32} (h : HG v s ad δ δ1) (e : δ2 = s_I δ1 c k a x) (n1 : ¬ (3 = c ∧ 1 = k)) (n2 : ¬ (2 = c ∧ 4 = k)) : HG v s ad δ δ2 := h.t ⟨⟨fun i _ => by rw [e]; exact rI_o n1, fun a => by rw [e]; exact rI_o n2, fun i _ => by rw [e]; rfl⟩, fun _ => by rw [e]; rfl, fun _ => by rw [e]; rfl⟩
theorem HG.M {v s : Bool} {ad : List Nat} {δ δ1 δ2 : dp} {a : Nat} {x : Int32} (h : HG v s ad δ δ1) (e : δ2 = s_I δ1 3 1 a x) (n : nh ad a) : HG v s ad δ δ2 := h.t ⟨⟨fun i hi => by rw [e, qI_sI, if_neg (fun z => n i hi z.2.2)], fun a => by rw [e]; exact rI_o (by decide), fun i _ => by rw [e]; rfl⟩, fun _ => by rw [e]; rfl, fun _ => by rw [e]; rfl⟩
theorem HG.R {v s : Bool} {ad : List Nat} {δ δ1 δ2 : dp} {b i : Nat} {x : Int32} (h : HG v s ad δ δ1) (e : δ2 = s_R δ1 b i x) (n : nr ad b) : HG v s ad δ δ2 := h.t ⟨⟨fun i _ => by rw [e]; rfl, fun a => by rw [e]; rfl, fun i hi => by rw [e]; exact rR_o (n.1 i hi)⟩, fun _ => by rw [e]; rfl, fun _ => by rw [e]; exact rR_o n.2⟩
theorem HG.Z {v : Bool} {ad : List Nat} {δ δ1 δ2 : dp} {b i : Nat} {x : Int32} (h : HG v false ad δ δ1) (e : δ2 = s_R δ1 b i x) (n : nq ad b) : HG v false ad δ δ2 := h.t ⟨⟨fun i _ => by rw [e]; rfl, fun a => by rw [e]; rfl, fun i hi => by rw [e]; exact rR_o (n i hi)⟩, fun _ => by rw [e]; rfl, fun z => absurd z (by decide)⟩
theorem HG.C {v s : Bool} {ad : List Nat} {δ δ1 δ2 : dp} {a b i j n : Nat} (h : HG v s ad δ δ1) (e : δ2 = s_C δ1 a b i j n) (nn : nr ad b) : HG v s ad δ δ2 := h.t ⟨⟨fun i _ => by rw [e]; rfl, fun a => by rw [e]; rfl, fun i hi => by rw [e]; exact va_up_ne _ _ (nn.1 i hi)⟩, fun _ => by rw [e]; rfl, fun _ => by rw [e]; exact va_up_ne _ _ nn.2⟩
theorem HG.J {v s : Bool} {ad : List Nat} {δ δ1 δ2 : dp} {a i : Nat} {x : Int64} (h : HG v s ad δ δ1) (e : δ2 = s_J δ1 a i x) : HG v s ad δ δ2 := h.t ⟨⟨fun i _ => by rw [e]; rfl, fun a => by rw [e]; rfl, fun i hi => by rw [e]; rfl⟩, fun _ => by rw [e]; rfl, fun _ => by rw [e]; rfl⟩
theorem HG.V {s : Bool} {ad : List Nat} {δ δ1 δ2 : dp} {c k a : Nat} {x : Option Nat} (h : HG false s ad δ δ1) (e : δ2 = s_V δ1 c k a x) : HG false s ad δ δ2 := h.t ⟨⟨fun i _ => by rw [e]; rfl, fun a => by rw [e]; rfl, fun i hi => by rw [e]; rfl⟩, fun z => absurd z (by decide), fun _ => by rw [e]; rfl⟩
theorem nq_i {ad : List Nat} {h : hp} (L : Lay TLx ad h) {i : Nat} (hi : i < 128) (hn : i ∉ PRS) : nq ad (Ad ad i) := fun j hj => ad_ne L ((by decide : ∀ j ∈ PRS, j < 128) j hj) hi (fun e => hn (e ▸ hj))
theorem nr_i {ad : List Nat} {h : hp} (L : Lay TLx ad h) {i : Nat} (hi : i < 128) (hn : i ∉ 59 :: PRS) : nr ad (Ad ad i) := ⟨nq_i L hi (fun z => hn (List.mem_cons_of_mem _ z)), ad_ne L (by decide) hi (fun e => hn (e ▸ List.mem_cons_self))⟩
theorem nh_i {ad : List Nat} {h : hp} (L : Lay TLx ad h) {i : Nat} (hi : i < 128) (hn : i ∉ hcl) : nh ad (Ad ad i) := fun j hj => ad_ne L ((by decide : ∀ j ∈ hcl, j < 128) j hj) hi (fun e => hn (e ▸ hj))
theorem nr3 {ad : List Nat} {h : hp} (L : Lay TLx ad h) {a b : Nat} (ka : q_K h.1 a = 3 ∧ nh ad a) (hb : q_O h.1 3 0 a = some b) : nr ad b := by
  obtain ⟨ka, n⟩ := ka
  obtain ⟨i, hi, rfl⟩ := lay_cel L (by rw [ka]; decide)
  rw [lay_knd L hi] at ka
  have H : ∀ i : Fin 128, knd i.val = 3 → i.val ∈ [11, 14, 20, 43, 76, 82, 88, 94] := by decide +kernel
  have hm := H ⟨i, hi⟩ ka
  simp only [List.mem_cons, List.not_mem_nil, or_false] at hm
  rcases hm with rfl | rfl | rfl | rfl | rfl | rfl | rfl | rfl
  · rw [fO_11_0 L] at hb; obtain rfl := Option.some.inj hb; exact nr_i L (by decide) (by decide)
  · rw [fO_14_0 L] at hb; obtain rfl := Option.some.inj hb; exact nr_i L (by decide) (by decide)
  · rw [fO_20_0 L] at hb; obtain rfl := Option.some.inj hb; exact nr_i L (by decide) (by decide)
  · rw [fO_43_0 L] at hb; obtain rfl := Option.some.inj hb; exact nr_i L (by decide) (by decide)
  · exact absurd rfl (n 76 (by decide))
  · exact absurd rfl (n 82 (by decide))
  · exact absurd rfl (n 88 (by decide))
  · exact absurd rfl (n 94 (by decide))
theorem hs_ob {β : Type} {o : Option Nat} {f : Nat → Option β} {Q : β → Prop} (k : ∀ b, o = some b → hs (f b) Q) : hs (o.bind f) Q := by
  cases o with
  | none => exact hs_none
  | some b => exact k b rfl
theorem hs_blv {ρ : Type} {v : Int64} {f : Int64 → Option ρ} {Q : ρ → Prop} (k : ∀ x, x = v → hs (f x) Q) : hs (bl v f) Q := k v rfl
theorem hs_bx {ρ : Type} {o : Option ((Int32 ⊕ Nat) × dp)} {tw : Nat → dp → ρ} {f : Int32 → dp → Option ρ} {P : (Int32 ⊕ Nat) × dp → Prop} {Q : ρ → Prop} (h : hs o P) (k1 : ∀ n δ, P (.inr n, δ) → Q (tw n δ)) (k2 : ∀ v δ, P (.inl v, δ) → hs (f v δ) Q) : hs (bx o tw f) Q := by
  cases o with
  | none => exact hs_none
  | some r =>
    have hp := h r rfl
    obtain ⟨v | n, d⟩ := r
    · exact k2 v d hp
    · exact hs_some (k1 n d hp)
theorem nq_11_13 {ad : List Nat} {h : hp} (L : Lay TLx ad h) {a b : Nat} (ka : q_K h.1 a = 11) (hb : q_O h.1 11 13 a = some b) : nq ad b := by
  obtain ⟨i, hi, rfl⟩ := lay_cel L (by rw [ka]; decide)
  rw [lay_knd L hi] at ka
  have H : ∀ i : Fin 128, knd i.val = 11 → i.val ∈ [0] := by decide +kernel
  have hm := H ⟨i, hi⟩ ka
  simp only [List.mem_cons, List.not_mem_nil, or_false] at hm
  rcases hm with rfl
  · rw [fO_0_13 L] at hb; obtain rfl := Option.some.inj hb; exact nq_i L (by decide) (by decide)
theorem nrE_10_4 {ad : List Nat} {h : hp} (L : Lay TLx ad h) {a b e z : Nat} (ka : q_K h.1 a = 10) (hb : q_O h.1 10 4 a = some b) (hz : z < q_N h.1 b) (he : q_E h.1 b z = some e) : nr ad e := by
  obtain ⟨i, hi, rfl⟩ := lay_cel L (by rw [ka]; decide)
  rw [lay_knd L hi] at ka
  have H : ∀ i : Fin 128, knd i.val = 10 → i.val ∈ [19] := by decide +kernel
  have hm := H ⟨i, hi⟩ ka
  simp only [List.mem_cons, List.not_mem_nil, or_false] at hm
  rcases hm with rfl
  · rw [fO_19_4 L] at hb
    obtain rfl := Option.some.inj hb
    rw [fN_23 L] at hz
    rcases (show z = 0 ∨ z = 1 ∨ z = 2 ∨ z = 3 ∨ z = 4 by omega) with rfl | rfl | rfl | rfl | rfl
    · rw [fE_23_0 L] at he; obtain rfl := Option.some.inj he; exact nr_i L (by decide) (by decide)
    · rw [fE_23_1 L] at he; obtain rfl := Option.some.inj he; exact nr_i L (by decide) (by decide)
    · rw [fE_23_2 L] at he; obtain rfl := Option.some.inj he; exact nr_i L (by decide) (by decide)
    · rw [fE_23_3 L] at he; obtain rfl := Option.some.inj he; exact nr_i L (by decide) (by decide)
    · rw [fE_23_4 L] at he; obtain rfl := Option.some.inj he; exact nr_i L (by decide) (by decide)
theorem nrE_10_5 {ad : List Nat} {h : hp} (L : Lay TLx ad h) {a b e z : Nat} (ka : q_K h.1 a = 10) (hb : q_O h.1 10 5 a = some b) (hz : z < q_N h.1 b) (he : q_E h.1 b z = some e) : nr ad e := by
  obtain ⟨i, hi, rfl⟩ := lay_cel L (by rw [ka]; decide)
  rw [lay_knd L hi] at ka
  have H : ∀ i : Fin 128, knd i.val = 10 → i.val ∈ [19] := by decide +kernel
  have hm := H ⟨i, hi⟩ ka
  simp only [List.mem_cons, List.not_mem_nil, or_false] at hm
  rcases hm with rfl
  · rw [fO_19_5 L] at hb
    obtain rfl := Option.some.inj hb
    rw [fN_29 L] at hz
    rcases (show z = 0 ∨ z = 1 ∨ z = 2 ∨ z = 3 ∨ z = 4 by omega) with rfl | rfl | rfl | rfl | rfl
    · rw [fE_29_0 L] at he; obtain rfl := Option.some.inj he; exact nr_i L (by decide) (by decide)
    · rw [fE_29_1 L] at he; obtain rfl := Option.some.inj he; exact nr_i L (by decide) (by decide)
    · rw [fE_29_2 L] at he; obtain rfl := Option.some.inj he; exact nr_i L (by decide) (by decide)
    · rw [fE_29_3 L] at he; obtain rfl := Option.some.inj he; exact nr_i L (by decide) (by decide)
    · rw [fE_29_4 L] at he; obtain rfl := Option.some.inj he; exact nr_i L (by decide) (by decide)
theorem c3O_10_1 {ad : List Nat} {h : hp} (L : Lay TLx ad h) {a b : Nat} (ka : q_K h.1 a = 10) (hb : q_O h.1 10 1 a = some b) : q_K h.1 b = 3 ∧ nh ad b := by
  obtain ⟨i, hi, rfl⟩ := lay_cel L (by rw [ka]; decide)
  rw [lay_knd L hi] at ka
  have H : ∀ i : Fin 128, knd i.val = 10 → i.val ∈ [19] := by decide +kernel
  have hm := H ⟨i, hi⟩ ka
  simp only [List.mem_cons, List.not_mem_nil, or_false] at hm
  rcases hm with rfl
  · rw [fO_19_1 L] at hb; obtain rfl := Option.some.inj hb; exact ⟨(lay_knd L (by decide)).trans (by decide), nh_i L (by decide) (by decide)⟩
theorem nrO_10_3 {ad : List Nat} {h : hp} (L : Lay TLx ad h) {a b : Nat} (ka : q_K h.1 a = 10) (hb : q_O h.1 10 3 a = some b) : nr ad b := by
  obtain ⟨i, hi, rfl⟩ := lay_cel L (by rw [ka]; decide)
  rw [lay_knd L hi] at ka
  have H : ∀ i : Fin 128, knd i.val = 10 → i.val ∈ [19] := by decide +kernel
  have hm := H ⟨i, hi⟩ ka
  simp only [List.mem_cons, List.not_mem_nil, or_false] at hm
  rcases hm with rfl
  · rw [fO_19_3 L] at hb; obtain rfl := Option.some.inj hb; exact nr_i L (by decide) (by decide)
theorem kO_11_9 {ad : List Nat} {h : hp} (L : Lay TLx ad h) {a b : Nat} (ka : q_K h.1 a = 11) (hb : q_O h.1 11 9 a = some b) : q_K h.1 b = 10 := by
  obtain ⟨i, hi, rfl⟩ := lay_cel L (by rw [ka]; decide)
  rw [lay_knd L hi] at ka
  have H : ∀ i : Fin 128, knd i.val = 11 → i.val ∈ [0] := by decide +kernel
  have hm := H ⟨i, hi⟩ ka
  simp only [List.mem_cons, List.not_mem_nil, or_false] at hm
  rcases hm with rfl
  · rw [fO_0_9 L] at hb; obtain rfl := Option.some.inj hb; exact (lay_knd L (by decide)).trans (by decide)
theorem c3O_11_7 {ad : List Nat} {h : hp} (L : Lay TLx ad h) {a b : Nat} (ka : q_K h.1 a = 11) (hb : q_O h.1 11 7 a = some b) : q_K h.1 b = 3 ∧ nh ad b := by
  obtain ⟨i, hi, rfl⟩ := lay_cel L (by rw [ka]; decide)
  rw [lay_knd L hi] at ka
  have H : ∀ i : Fin 128, knd i.val = 11 → i.val ∈ [0] := by decide +kernel
  have hm := H ⟨i, hi⟩ ka
  simp only [List.mem_cons, List.not_mem_nil, or_false] at hm
  rcases hm with rfl
  · rw [fO_0_7 L] at hb; obtain rfl := Option.some.inj hb; exact ⟨(lay_knd L (by decide)).trans (by decide), nh_i L (by decide) (by decide)⟩
theorem c3O_4_1 {ad : List Nat} {h : hp} (L : Lay TLx ad h) {a b : Nat} (ka : q_K h.1 a = 4) (hb : q_O h.1 4 1 a = some b) : q_K h.1 b = 3 ∧ nh ad b := by
  obtain ⟨i, hi, rfl⟩ := lay_cel L (by rw [ka]; decide)
  rw [lay_knd L hi] at ka
  have H : ∀ i : Fin 128, knd i.val = 4 → i.val ∈ [13] := by decide +kernel
  have hm := H ⟨i, hi⟩ ka
  simp only [List.mem_cons, List.not_mem_nil, or_false] at hm
  rcases hm with rfl
  · rw [fO_13_1 L] at hb; obtain rfl := Option.some.inj hb; exact ⟨(lay_knd L (by decide)).trans (by decide), nh_i L (by decide) (by decide)⟩
theorem nrO_4_3 {ad : List Nat} {h : hp} (L : Lay TLx ad h) {a b : Nat} (ka : q_K h.1 a = 4) (hb : q_O h.1 4 3 a = some b) : nr ad b := by
  obtain ⟨i, hi, rfl⟩ := lay_cel L (by rw [ka]; decide)
  rw [lay_knd L hi] at ka
  have H : ∀ i : Fin 128, knd i.val = 4 → i.val ∈ [13] := by decide +kernel
  have hm := H ⟨i, hi⟩ ka
  simp only [List.mem_cons, List.not_mem_nil, or_false] at hm
  rcases hm with rfl
  · rw [fO_13_3 L] at hb; obtain rfl := Option.some.inj hb; exact nr_i L (by decide) (by decide)
theorem nrO_4_4 {ad : List Nat} {h : hp} (L : Lay TLx ad h) {a b : Nat} (ka : q_K h.1 a = 4) (hb : q_O h.1 4 4 a = some b) : nr ad b := by
  obtain ⟨i, hi, rfl⟩ := lay_cel L (by rw [ka]; decide)
  rw [lay_knd L hi] at ka
  have H : ∀ i : Fin 128, knd i.val = 4 → i.val ∈ [13] := by decide +kernel
  have hm := H ⟨i, hi⟩ ka
  simp only [List.mem_cons, List.not_mem_nil, or_false] at hm
  rcases hm with rfl
  · rw [fO_13_4 L] at hb; obtain rfl := Option.some.inj hb; exact nr_i L (by decide) (by decide)
theorem kO_11_8 {ad : List Nat} {h : hp} (L : Lay TLx ad h) {a b : Nat} (ka : q_K h.1 a = 11) (hb : q_O h.1 11 8 a = some b) : q_K h.1 b = 4 := by
  obtain ⟨i, hi, rfl⟩ := lay_cel L (by rw [ka]; decide)
  rw [lay_knd L hi] at ka
  have H : ∀ i : Fin 128, knd i.val = 11 → i.val ∈ [0] := by decide +kernel
  have hm := H ⟨i, hi⟩ ka
  simp only [List.mem_cons, List.not_mem_nil, or_false] at hm
  rcases hm with rfl
  · rw [fO_0_8 L] at hb; obtain rfl := Option.some.inj hb; exact (lay_knd L (by decide)).trans (by decide)
theorem nrE_0_3 {ad : List Nat} {h : hp} (L : Lay TLx ad h) {a b e z : Nat} (ka : q_K h.1 a = 0) (hb : q_O h.1 0 3 a = some b) (hz : z < q_N h.1 b) (he : q_E h.1 b z = some e) : nr ad e := by
  obtain ⟨i, hi, rfl⟩ := lay_cel L (by rw [ka]; decide)
  rw [lay_knd L hi] at ka
  have H : ∀ i : Fin 128, knd i.val = 0 → i.val ∈ [42] := by decide +kernel
  have hm := H ⟨i, hi⟩ ka
  simp only [List.mem_cons, List.not_mem_nil, or_false] at hm
  rcases hm with rfl
  · rw [fO_42_3 L] at hb
    obtain rfl := Option.some.inj hb
    rw [fN_45 L] at hz
    rcases (show z = 0 ∨ z = 1 ∨ z = 2 ∨ z = 3 ∨ z = 4 ∨ z = 5 ∨ z = 6 by omega) with rfl | rfl | rfl | rfl | rfl | rfl | rfl
    · rw [fE_45_0 L] at he; obtain rfl := Option.some.inj he; exact nr_i L (by decide) (by decide)
    · rw [fE_45_1 L] at he; obtain rfl := Option.some.inj he; exact nr_i L (by decide) (by decide)
    · rw [fE_45_2 L] at he; obtain rfl := Option.some.inj he; exact nr_i L (by decide) (by decide)
    · rw [fE_45_3 L] at he; obtain rfl := Option.some.inj he; exact nr_i L (by decide) (by decide)
    · rw [fE_45_4 L] at he; obtain rfl := Option.some.inj he; exact nr_i L (by decide) (by decide)
    · rw [fE_45_5 L] at he; obtain rfl := Option.some.inj he; exact nr_i L (by decide) (by decide)
    · rw [fE_45_6 L] at he; obtain rfl := Option.some.inj he; exact nr_i L (by decide) (by decide)
theorem c3O_0_1 {ad : List Nat} {h : hp} (L : Lay TLx ad h) {a b : Nat} (ka : q_K h.1 a = 0) (hb : q_O h.1 0 1 a = some b) : q_K h.1 b = 3 ∧ nh ad b := by
  obtain ⟨i, hi, rfl⟩ := lay_cel L (by rw [ka]; decide)
  rw [lay_knd L hi] at ka
  have H : ∀ i : Fin 128, knd i.val = 0 → i.val ∈ [42] := by decide +kernel
  have hm := H ⟨i, hi⟩ ka
  simp only [List.mem_cons, List.not_mem_nil, or_false] at hm
  rcases hm with rfl
  · rw [fO_42_1 L] at hb; obtain rfl := Option.some.inj hb; exact ⟨(lay_knd L (by decide)).trans (by decide), nh_i L (by decide) (by decide)⟩
theorem nrO_0_5 {ad : List Nat} {h : hp} (L : Lay TLx ad h) {a b : Nat} (ka : q_K h.1 a = 0) (hb : q_O h.1 0 5 a = some b) : nr ad b := by
  obtain ⟨i, hi, rfl⟩ := lay_cel L (by rw [ka]; decide)
  rw [lay_knd L hi] at ka
  have H : ∀ i : Fin 128, knd i.val = 0 → i.val ∈ [42] := by decide +kernel
  have hm := H ⟨i, hi⟩ ka
  simp only [List.mem_cons, List.not_mem_nil, or_false] at hm
  rcases hm with rfl
  · rw [fO_42_5 L] at hb; obtain rfl := Option.some.inj hb; exact nr_i L (by decide) (by decide)
theorem kO_11_10 {ad : List Nat} {h : hp} (L : Lay TLx ad h) {a b : Nat} (ka : q_K h.1 a = 11) (hb : q_O h.1 11 10 a = some b) : q_K h.1 b = 0 := by
  obtain ⟨i, hi, rfl⟩ := lay_cel L (by rw [ka]; decide)
  rw [lay_knd L hi] at ka
  have H : ∀ i : Fin 128, knd i.val = 11 → i.val ∈ [0] := by decide +kernel
  have hm := H ⟨i, hi⟩ ka
  simp only [List.mem_cons, List.not_mem_nil, or_false] at hm
  rcases hm with rfl
  · rw [fO_0_10 L] at hb; obtain rfl := Option.some.inj hb; exact (lay_knd L (by decide)).trans (by decide)
theorem nrO_8_0 {ad : List Nat} {h : hp} (L : Lay TLx ad h) {a b : Nat} (ka : q_K h.1 a = 8) (hb : q_O h.1 8 0 a = some b) : nr ad b := by
  obtain ⟨i, hi, rfl⟩ := lay_cel L (by rw [ka]; decide)
  rw [lay_knd L hi] at ka
  have H : ∀ i : Fin 128, knd i.val = 8 → i.val ∈ [60, 63, 66, 69, 72] := by decide +kernel
  have hm := H ⟨i, hi⟩ ka
  simp only [List.mem_cons, List.not_mem_nil, or_false] at hm
  rcases hm with rfl | rfl | rfl | rfl | rfl
  · rw [fO_60_0 L] at hb; obtain rfl := Option.some.inj hb; exact nr_i L (by decide) (by decide)
  · rw [fO_63_0 L] at hb; obtain rfl := Option.some.inj hb; exact nr_i L (by decide) (by decide)
  · rw [fO_66_0 L] at hb; obtain rfl := Option.some.inj hb; exact nr_i L (by decide) (by decide)
  · rw [fO_69_0 L] at hb; obtain rfl := Option.some.inj hb; exact nr_i L (by decide) (by decide)
  · rw [fO_72_0 L] at hb; obtain rfl := Option.some.inj hb; exact nr_i L (by decide) (by decide)
theorem nrO_8_1 {ad : List Nat} {h : hp} (L : Lay TLx ad h) {a b : Nat} (ka : q_K h.1 a = 8) (hb : q_O h.1 8 1 a = some b) : nr ad b := by
  obtain ⟨i, hi, rfl⟩ := lay_cel L (by rw [ka]; decide)
  rw [lay_knd L hi] at ka
  have H : ∀ i : Fin 128, knd i.val = 8 → i.val ∈ [60, 63, 66, 69, 72] := by decide +kernel
  have hm := H ⟨i, hi⟩ ka
  simp only [List.mem_cons, List.not_mem_nil, or_false] at hm
  rcases hm with rfl | rfl | rfl | rfl | rfl
  · rw [fO_60_1 L] at hb; obtain rfl := Option.some.inj hb; exact nr_i L (by decide) (by decide)
  · rw [fO_63_1 L] at hb; obtain rfl := Option.some.inj hb; exact nr_i L (by decide) (by decide)
  · rw [fO_66_1 L] at hb; obtain rfl := Option.some.inj hb; exact nr_i L (by decide) (by decide)
  · rw [fO_69_1 L] at hb; obtain rfl := Option.some.inj hb; exact nr_i L (by decide) (by decide)
  · rw [fO_72_1 L] at hb; obtain rfl := Option.some.inj hb; exact nr_i L (by decide) (by decide)
theorem nrO_9_5 {ad : List Nat} {h : hp} (L : Lay TLx ad h) {a b : Nat} (ka : q_K h.1 a = 9) (hb : q_O h.1 9 5 a = some b) : nr ad b := by
  obtain ⟨i, hi, rfl⟩ := lay_cel L (by rw [ka]; decide)
  rw [lay_knd L hi] at ka
  have H : ∀ i : Fin 128, knd i.val = 9 → i.val ∈ [6] := by decide +kernel
  have hm := H ⟨i, hi⟩ ka
  simp only [List.mem_cons, List.not_mem_nil, or_false] at hm
  rcases hm with rfl
  · rw [fO_6_5 L] at hb; obtain rfl := Option.some.inj hb; exact nr_i L (by decide) (by decide)
theorem nrO_9_6 {ad : List Nat} {h : hp} (L : Lay TLx ad h) {a b : Nat} (ka : q_K h.1 a = 9) (hb : q_O h.1 9 6 a = some b) : nr ad b := by
  obtain ⟨i, hi, rfl⟩ := lay_cel L (by rw [ka]; decide)
  rw [lay_knd L hi] at ka
  have H : ∀ i : Fin 128, knd i.val = 9 → i.val ∈ [6] := by decide +kernel
  have hm := H ⟨i, hi⟩ ka
  simp only [List.mem_cons, List.not_mem_nil, or_false] at hm
  rcases hm with rfl
  · rw [fO_6_6 L] at hb; obtain rfl := Option.some.inj hb; exact nr_i L (by decide) (by decide)
theorem kO_11_3 {ad : List Nat} {h : hp} (L : Lay TLx ad h) {a b : Nat} (ka : q_K h.1 a = 11) (hb : q_O h.1 11 3 a = some b) : q_K h.1 b = 9 := by
  obtain ⟨i, hi, rfl⟩ := lay_cel L (by rw [ka]; decide)
  rw [lay_knd L hi] at ka
  have H : ∀ i : Fin 128, knd i.val = 11 → i.val ∈ [0] := by decide +kernel
  have hm := H ⟨i, hi⟩ ka
  simp only [List.mem_cons, List.not_mem_nil, or_false] at hm
  rcases hm with rfl
  · rw [fO_0_3 L] at hb; obtain rfl := Option.some.inj hb; exact (lay_knd L (by decide)).trans (by decide)
theorem nrO_6_3 {ad : List Nat} {h : hp} (L : Lay TLx ad h) {a b : Nat} (ka : q_K h.1 a = 6) (hb : q_O h.1 6 3 a = some b) : nr ad b := by
  obtain ⟨i, hi, rfl⟩ := lay_cel L (by rw [ka]; decide)
  rw [lay_knd L hi] at ka
  have H : ∀ i : Fin 128, knd i.val = 6 → i.val ∈ [4] := by decide +kernel
  have hm := H ⟨i, hi⟩ ka
  simp only [List.mem_cons, List.not_mem_nil, or_false] at hm
  rcases hm with rfl
  · rw [fO_4_3 L] at hb; obtain rfl := Option.some.inj hb; exact nr_i L (by decide) (by decide)
end
section
/-! frames (by gen_frame.py) -/
theorem hf_X11_need {ad : List Nat} {h : hp} (L : Lay TLx ad h) {N : Nat} {a0 : Nat} {x1 : Int32} (k11_a0 : q_K h.1 a0 = 11) {δ : dp} : hs (D_X11_need N h.1 a0 x1 δ) (fun r => HG true false ad δ r.2) := by
  unfold D_X11_need
  refine hs_ite (fun _ => ?_) (fun _ => ?_)
  · skip
    refine hs_ob (fun b_2 hb_2 => ?_)
    refine hs_gd (fun gz1 => ?_)
    refine hs_gd (fun gz2 => ?_)
    refine hs_bdv (fun δ_4 e3 => ?_)
    have u3 : HG true false ad δ δ_4 := HG.Z HG_r e3 (nq_11_13 L k11_a0 hb_2)
    exact hs_some u3
  · skip
    exact hs_some HG_r
theorem hj_X11_told_50 {ad : List Nat} {h : hp} (L : Lay TLx ad h) {N : Nat} {a0 : Nat} {x1 : Int32} {xs0 : Int32}  {δ : dp} : hs (J_X11_told_50 N h.1 a0 x1 xs0 δ) (fun r => HG true true ad δ r.2) := by
  unfold J_X11_told_50
  exact hs_some HG_r
theorem hj_X11_told_70 {ad : List Nat} {h : hp} (L : Lay TLx ad h) {N : Nat} {a0 : Nat} {x1 : Int32} {xs0 : Int32}  {δ : dp} : hs (J_X11_told_70 N h.1 a0 x1 xs0 δ) (fun r => HG true true ad δ r.2) := by
  unfold J_X11_told_70
  exact hs_some HG_r
theorem hj_X11_told_15 {ad : List Nat} {h : hp} (L : Lay TLx ad h) {N : Nat} {a0 : Nat} {x1 : Int32} {xs0 : Int32} {as1 : Nat} (k11_as1 : q_K h.1 as1 = 11) {δ : dp} : hs (J_X11_told_15 N h.1 a0 x1 xs0 as1 δ) (fun r => HG true false ad δ r.2) := by
  unfold J_X11_told_15
  refine hs_bxv (hf_X11_need L k11_as1) (fun _ _ u1' => u1') (fun δ_4 u1' => ?_)
  have u1 : HG true false ad δ δ_4 := u1'
  refine hs_ite (fun _ => ?_) (fun _ => ?_)
  · skip
    refine hs_ob (fun b_13 hb_13 => ?_)
    exact hs_some u1
  · skip
    refine hs_ite (fun _ => ?_) (fun _ => ?_)
    · skip
      refine hs_ob (fun b_10 hb_10 => ?_)
      refine hs_ite (fun _ => ?_) (fun _ => ?_)
      · skip
        exact hs_mono (hj_X11_told_50 L) (fun _ hr => u1.t ((hr).w (by decide) (by decide)))
      · skip
        exact hs_mono (hj_X11_told_50 L) (fun _ hr => u1.t ((hr).w (by decide) (by decide)))
    · skip
      refine hs_ite (fun _ => ?_) (fun _ => ?_)
      · skip
        refine hs_ob (fun b_8 hb_8 => ?_)
        exact hs_mono (hj_X11_told_70 L) (fun _ hr => u1.t ((hr).w (by decide) (by decide)))
      · skip
        exact hs_mono (hj_X11_told_70 L) (fun _ hr => u1.t ((hr).w (by decide) (by decide)))
theorem hj_X11_told_14 {ad : List Nat} {h : hp} (L : Lay TLx ad h) {N : Nat} {a0 : Nat} {x1 : Int32} {as0 : Nat} (k11_as0 : q_K h.1 as0 = 11) {δ : dp} : hs (J_X11_told_14 N h.1 a0 x1 as0 δ) (fun r => HG true false ad δ r.2) := by
  unfold J_X11_told_14
  exact hj_X11_told_15 L k11_as0
theorem hf_X11_told {ad : List Nat} {h : hp} (L : Lay TLx ad h) {N : Nat} {a0 : Nat} {x1 : Int32} (k11_a0 : q_K h.1 a0 = 11) {δ : dp} : hs (D_X11_told N h.1 a0 x1 δ) (fun r => HG true false ad δ r.2) := by
  unfold D_X11_told
  refine hs_ite (fun _ => ?_) (fun _ => ?_)
  · skip
    exact hj_X11_told_14 L k11_a0
  · skip
    refine hs_ite (fun _ => ?_) (fun _ => ?_)
    · skip
      exact hj_X11_told_14 L k11_a0
    · skip
      exact hj_X11_told_15 L k11_a0
theorem hj_X11_needHouse_9 {ad : List Nat} {h : hp} (L : Lay TLx ad h) {N : Nat} {a0 : Nat} {x1 : Int32} (k11_a0 : q_K h.1 a0 = 11) {δ : dp} : hs (J_X11_needHouse_9 N h.1 a0 x1 δ) (fun r => HG true false ad δ r.2) := by
  unfold J_X11_needHouse_9
  refine hs_ob (fun b_2 hb_2 => ?_)
  refine hs_gd (fun gz1 => ?_)
  refine hs_gd (fun gz2 => ?_)
  refine hs_bdv (fun δ_4 e3 => ?_)
  have u3 : HG true false ad δ δ_4 := HG.Z HG_r e3 (nq_11_13 L k11_a0 hb_2)
  exact hs_some u3
theorem hf_X11_needHouse {ad : List Nat} {h : hp} (L : Lay TLx ad h) {N : Nat} {a0 : Nat} {x1 : Int32} (k11_a0 : q_K h.1 a0 = 11) {δ : dp} : hs (D_X11_needHouse N h.1 a0 x1 δ) (fun r => HG true false ad δ r.2) := by
  unfold D_X11_needHouse
  refine hs_ite (fun _ => ?_) (fun _ => ?_)
  · skip
    exact hj_X11_needHouse_9 L k11_a0
  · skip
    refine hs_ite (fun _ => ?_) (fun _ => ?_)
    · skip
      exact hs_some HG_r
    · skip
      exact hj_X11_needHouse_9 L k11_a0
theorem hf_X5_greatest {ad : List Nat} {h : hp} (L : Lay TLx ad h) {N : Nat} {a0 : Nat}  {δ : dp} : hs (D_X5_greatest N h.1 a0 δ) (fun r => HG true true ad δ r.2) := by
  unfold D_X5_greatest
  exact hs_some HG_r
theorem hj_X11_isNumber_20 {ad : List Nat} {h : hp} (L : Lay TLx ad h) {N : Nat} {a0 : Nat} {x1 : Int32} {xs0 : Int32}  {δ : dp} : hs (J_X11_isNumber_20 N h.1 a0 x1 xs0 δ) (fun r => HG true true ad δ r.2) := by
  unfold J_X11_isNumber_20
  refine hs_gp (fun gk1 => ?_)
  exact hs_some HG_r
theorem hj_X11_isNumber_19 {ad : List Nat} {h : hp} (L : Lay TLx ad h) {N : Nat} {a0 : Nat} {x1 : Int32}  {δ : dp} : hs (J_X11_isNumber_19 N h.1 a0 x1 δ) (fun r => HG true true ad δ r.2) := by
  unfold J_X11_isNumber_19
  exact hj_X11_isNumber_20 L
theorem hf_X11_isNumber {ad : List Nat} {h : hp} (L : Lay TLx ad h) {N : Nat} {a0 : Nat} {x1 : Int32}  {δ : dp} : hs (D_X11_isNumber N h.1 a0 x1 δ) (fun r => HG true true ad δ r.2) := by
  unfold D_X11_isNumber
  refine hs_ite (fun _ => ?_) (fun _ => ?_)
  · skip
    exact hj_X11_isNumber_19 L
  · skip
    refine hs_ob (fun b_2 hb_2 => ?_)
    refine hs_bind (hf_X5_greatest L) (fun r_4 u1' => ?_)
    have u1 : HG true true ad δ r_4.2 := u1'
    refine hs_ite (fun _ => ?_) (fun _ => ?_)
    · skip
      exact hs_mono (hj_X11_isNumber_19 L) (fun _ hr => u1.t (hr))
    · skip
      exact hs_mono (hj_X11_isNumber_20 L) (fun _ hr => u1.t (hr))
theorem hf_X11_needNumber {ad : List Nat} {h : hp} (L : Lay TLx ad h) {N : Nat} {a0 : Nat} {x1 : Int32} (k11_a0 : q_K h.1 a0 = 11) {δ : dp} : hs (D_X11_needNumber N h.1 a0 x1 δ) (fun r => HG true false ad δ r.2) := by
  unfold D_X11_needNumber
  refine hs_bind (hf_X11_isNumber L) (fun r_1 u1' => ?_)
  have u1 : HG true false ad δ r_1.2 := (u1').w (by decide) (by decide)
  refine hs_bxv (hf_X11_need L k11_a0) (fun _ _ u2' => u1.t (u2')) (fun δ_4 u2' => ?_)
  have u2 : HG true false ad δ δ_4 := u1.t (u2')
  exact hs_some u2
theorem hj_X3_firstFrom_41 {ad : List Nat} {h : hp} (L : Lay TLx ad h) {N : Nat} {a0 : Nat} {x1 : Int32} {kt7 : Int32 → Int32 → dp → Option (Int32 × dp)} {x2v : Int32} {x3v : Int32} (h_kt7 : ∀ (y0 : Int32) (y1 : Int32) (δ1 : dp), hs (kt7 y0 y1 δ1) (fun r => HG true true ad δ1 r.2)) {δ : dp} : hs (J_X3_firstFrom_41 N h.1 a0 x1 kt7 x2v x3v δ) (fun r => HG true true ad δ r.2) := by
  unfold J_X3_firstFrom_41
  exact h_kt7 x2v x3v δ
theorem hl_X3_firstFrom_7 {ad : List Nat} {h : hp} (L : Lay TLx ad h) {N : Nat} {a0 : Nat} {x1 : Int32}  : ∀ (n : Nat) (x2v : Int32) (x3v : Int32) (δ : dp), hs (L_X3_firstFrom_7 N h.1 a0 x1 n x2v x3v δ) (fun r => HG true true ad δ r.2) := by
  intro n
  induction n with
  | zero => intro x2v x3v δ; unfold L_X3_firstFrom_7; exact hs_none
  | succ n ih =>
    intro x2v x3v δ
    unfold L_X3_firstFrom_7
    refine hs_ite (fun _ => ?_) (fun _ => ?_)
    · skip
      exact hs_some HG_r
    · skip
      refine hs_biv (fun x_4 _ => ?_)
      refine hs_ob (fun b_6 hb_6 => ?_)
      refine hs_gd (fun gz1 => ?_)
      refine hs_ite (fun _ => ?_) (fun _ => ?_)
      · skip
        exact hj_X3_firstFrom_41 L ih
      · skip
        refine hs_biv (fun x_9 _ => ?_)
        exact hj_X3_firstFrom_41 L ih
theorem hf_X3_firstFrom {ad : List Nat} {h : hp} (L : Lay TLx ad h) {N : Nat} {a0 : Nat} {x1 : Int32}  {δ : dp} : hs (D_X3_firstFrom N h.1 a0 x1 δ) (fun r => HG true true ad δ r.2) := by
  unfold D_X3_firstFrom
  refine hs_biv (fun x_1 _ => ?_)
  exact hl_X3_firstFrom_7 L N 0 x_1 δ
theorem hj_X3_holds_29 {ad : List Nat} {h : hp} (L : Lay TLx ad h) {N : Nat} {a0 : Nat} {x1 : Int32} {xs0 : Int32}  {δ : dp} : hs (J_X3_holds_29 N h.1 a0 x1 xs0 δ) (fun r => HG true true ad δ r.2) := by
  unfold J_X3_holds_29
  refine hs_gp (fun gk1 => ?_)
  exact hs_some HG_r
theorem hj_X3_holds_28 {ad : List Nat} {h : hp} (L : Lay TLx ad h) {N : Nat} {a0 : Nat} {x1 : Int32}  {δ : dp} : hs (J_X3_holds_28 N h.1 a0 x1 δ) (fun r => HG true true ad δ r.2) := by
  unfold J_X3_holds_28
  exact hj_X3_holds_29 L
theorem hf_X3_holds {ad : List Nat} {h : hp} (L : Lay TLx ad h) {N : Nat} {a0 : Nat} {x1 : Int32}  {δ : dp} : hs (D_X3_holds N h.1 a0 x1 δ) (fun r => HG true true ad δ r.2) := by
  unfold D_X3_holds
  refine hs_bind (hf_X3_firstFrom L) (fun r_1 u1' => ?_)
  have u1 : HG true true ad δ r_1.2 := u1'
  refine hs_ite (fun _ => ?_) (fun _ => ?_)
  · skip
    exact hs_mono (hj_X3_holds_28 L) (fun _ hr => u1.t (hr))
  · skip
    refine hs_ob (fun b_3 hb_3 => ?_)
    refine hs_gd (fun gz2 => ?_)
    refine hs_ite (fun _ => ?_) (fun _ => ?_)
    · skip
      exact hs_mono (hj_X3_holds_29 L) (fun _ hr => u1.t (hr))
    · skip
      exact hs_mono (hj_X3_holds_28 L) (fun _ hr => u1.t (hr))
theorem hf_X11_has {ad : List Nat} {h : hp} (L : Lay TLx ad h) {N : Nat} {a0 : Nat} {x1 : Int32} {x2 : Int32} (k11_a0 : q_K h.1 a0 = 11) {δ : dp} : hs (D_X11_has N h.1 a0 x1 x2 δ) (fun r => HG true false ad δ r.2) := by
  unfold D_X11_has
  refine hs_bxv (hf_X11_needHouse L k11_a0) (fun _ _ u1' => u1') (fun δ_3 u1' => ?_)
  have u1 : HG true false ad δ δ_3 := u1'
  refine hs_bxv (hf_X11_needNumber L k11_a0) (fun _ _ u2' => u1.t (u2')) (fun δ_6 u2' => ?_)
  have u2 : HG true false ad δ δ_6 := u1.t (u2')
  refine hs_ob (fun b_7 hb_7 => ?_)
  refine hs_gd (fun gz3 => ?_)
  refine hs_ob (fun b_9 hb_9 => ?_)
  refine hs_ob (fun b_11 hb_11 => ?_)
  refine hs_bind (hf_X3_holds L) (fun r_13 u4' => ?_)
  have u4 : HG true false ad δ r_13.2 := u2.t ((u4').w (by decide) (by decide))
  refine hs_gp (fun gk5 => ?_)
  exact hs_some u4
theorem hj_X3_at_22 {ad : List Nat} {h : hp} (L : Lay TLx ad h) {N : Nat} {a0 : Nat} {x1 : Int32} {xs0 : Int32}  {δ : dp} : hs (J_X3_at_22 N h.1 a0 x1 xs0 δ) (fun r => HG true true ad δ r.2) := by
  unfold J_X3_at_22
  exact hs_some HG_r
theorem hj_X3_at_12 {ad : List Nat} {h : hp} (L : Lay TLx ad h) {N : Nat} {a0 : Nat} {x1 : Int32}  {δ : dp} : hs (J_X3_at_12 N h.1 a0 x1 δ) (fun r => HG true true ad δ r.2) := by
  unfold J_X3_at_12
  exact hj_X3_at_22 L
theorem hf_X3_at {ad : List Nat} {h : hp} (L : Lay TLx ad h) {N : Nat} {a0 : Nat} {x1 : Int32}  {δ : dp} : hs (D_X3_at N h.1 a0 x1 δ) (fun r => HG true true ad δ r.2) := by
  unfold D_X3_at
  refine hs_ite (fun _ => ?_) (fun _ => ?_)
  · skip
    exact hj_X3_at_12 L
  · skip
    refine hs_ite (fun _ => ?_) (fun _ => ?_)
    · skip
      refine hs_ob (fun b_3 hb_3 => ?_)
      refine hs_gd (fun gz1 => ?_)
      exact hj_X3_at_22 L
    · skip
      exact hj_X3_at_12 L
theorem hj_X3_tell_34 {ad : List Nat} {h : hp} (L : Lay TLx ad h) {N : Nat} {a0 : Nat} {x1 : Int32} {xs0 : Int32}  {δ : dp} : hs (J_X3_tell_34 N h.1 a0 x1 xs0 δ) (fun r => HG true true ad δ r.2) := by
  unfold J_X3_tell_34
  exact hs_some HG_r
theorem hf_X3_tell {ad : List Nat} {h : hp} (L : Lay TLx ad h) {N : Nat} {a0 : Nat} {x1 : Int32}  {δ : dp} : hs (D_X3_tell N h.1 a0 x1 δ) (fun r => HG true true ad δ r.2) := by
  unfold D_X3_tell
  refine hs_ite (fun _ => ?_) (fun _ => ?_)
  · skip
    exact hj_X3_tell_34 L
  · skip
    refine hs_ite (fun _ => ?_) (fun _ => ?_)
    · skip
      refine hs_bind (hf_X3_at L) (fun r_4 u1' => ?_)
      have u1 : HG true true ad δ r_4.2 := u1'
      exact hs_mono (hj_X3_tell_34 L) (fun _ hr => u1.t (hr))
    · skip
      refine hs_bind (hf_X3_at L) (fun r_3 u2' => ?_)
      have u2 : HG true true ad δ r_3.2 := u2'
      exact hs_mono (hj_X3_tell_34 L) (fun _ hr => u2.t (hr))
theorem hj_X11_of_53 {ad : List Nat} {h : hp} (L : Lay TLx ad h) {N : Nat} {a0 : Nat} {x1 : Int32} {x2 : Int32} {xs0 : Int32}  {δ : dp} : hs (J_X11_of_53 N h.1 a0 x1 x2 xs0 δ) (fun r => HG true true ad δ r.2) := by
  unfold J_X11_of_53
  exact hs_some HG_r
theorem hj_X11_of_20 {ad : List Nat} {h : hp} (L : Lay TLx ad h) {N : Nat} {a0 : Nat} {x1 : Int32} {x2 : Int32} {xs0 : Int32} {as1 : Nat} (k11_as1 : q_K h.1 as1 = 11) {δ : dp} : hs (J_X11_of_20 N h.1 a0 x1 x2 xs0 as1 δ) (fun r => HG true false ad δ r.2) := by
  unfold J_X11_of_20
  refine hs_bxv (hf_X11_need L k11_as1) (fun _ _ u1' => u1') (fun δ_7 u1' => ?_)
  have u1 : HG true false ad δ δ_7 := u1'
  refine hs_ite (fun _ => ?_) (fun _ => ?_)
  · skip
    refine hs_ob (fun b_16 hb_16 => ?_)
    refine hs_gd (fun gz2 => ?_)
    refine hs_ob (fun b_18 hb_18 => ?_)
    exact hs_mono (hj_X11_of_53 L) (fun _ hr => u1.t ((hr).w (by decide) (by decide)))
  · skip
    refine hs_ob (fun b_9 hb_9 => ?_)
    refine hs_gd (fun gz3 => ?_)
    refine hs_ob (fun b_11 hb_11 => ?_)
    refine hs_ob (fun b_13 hb_13 => ?_)
    refine hs_bind (hf_X3_tell L) (fun r_15 u4' => ?_)
    have u4 : HG true false ad δ r_15.2 := u1.t ((u4').w (by decide) (by decide))
    exact hs_mono (hj_X11_of_53 L) (fun _ hr => u4.t ((hr).w (by decide) (by decide)))
theorem hj_X11_of_19 {ad : List Nat} {h : hp} (L : Lay TLx ad h) {N : Nat} {a0 : Nat} {x1 : Int32} {x2 : Int32} {as0 : Nat} (k11_as0 : q_K h.1 as0 = 11) {δ : dp} : hs (J_X11_of_19 N h.1 a0 x1 x2 as0 δ) (fun r => HG true false ad δ r.2) := by
  unfold J_X11_of_19
  exact hj_X11_of_20 L k11_as0
theorem hf_X11_of {ad : List Nat} {h : hp} (L : Lay TLx ad h) {N : Nat} {a0 : Nat} {x1 : Int32} {x2 : Int32} (k11_a0 : q_K h.1 a0 = 11) {δ : dp} : hs (D_X11_of N h.1 a0 x1 x2 δ) (fun r => HG true false ad δ r.2) := by
  unfold D_X11_of
  refine hs_bxv (hf_X11_needHouse L k11_a0) (fun _ _ u1' => u1') (fun δ_3 u1' => ?_)
  have u1 : HG true false ad δ δ_3 := u1'
  refine hs_ite (fun _ => ?_) (fun _ => ?_)
  · skip
    exact hs_mono (hj_X11_of_19 L k11_a0) (fun _ hr => u1.t (hr))
  · skip
    refine hs_ite (fun _ => ?_) (fun _ => ?_)
    · skip
      exact hs_mono (hj_X11_of_19 L k11_a0) (fun _ hr => u1.t (hr))
    · skip
      exact hs_mono (hj_X11_of_20 L k11_a0) (fun _ hr => u1.t (hr))
theorem hj_X11_mayAsk_41 {ad : List Nat} {h : hp} (L : Lay TLx ad h) {N : Nat} {a0 : Nat} {x1 : Int32} {x2 : Int32} {xs0 : Int32}  {δ : dp} : hs (J_X11_mayAsk_41 N h.1 a0 x1 x2 xs0 δ) (fun r => HG true true ad δ r.2) := by
  unfold J_X11_mayAsk_41
  refine hs_gp (fun gk1 => ?_)
  exact hs_some HG_r
theorem hj_X11_mayAsk_36 {ad : List Nat} {h : hp} (L : Lay TLx ad h) {N : Nat} {a0 : Nat} {x1 : Int32} {x2 : Int32}  {δ : dp} : hs (J_X11_mayAsk_36 N h.1 a0 x1 x2 δ) (fun r => HG true true ad δ r.2) := by
  unfold J_X11_mayAsk_36
  exact hj_X11_mayAsk_41 L
theorem hj_X11_mayAsk_40 {ad : List Nat} {h : hp} (L : Lay TLx ad h) {N : Nat} {a0 : Nat} {x1 : Int32} {x2 : Int32}  {δ : dp} : hs (J_X11_mayAsk_40 N h.1 a0 x1 x2 δ) (fun r => HG true true ad δ r.2) := by
  unfold J_X11_mayAsk_40
  exact hj_X11_mayAsk_41 L
theorem hj_X11_mayAsk_18 {ad : List Nat} {h : hp} (L : Lay TLx ad h) {N : Nat} {a0 : Nat} {x1 : Int32} {x2 : Int32}  {δ : dp} : hs (J_X11_mayAsk_18 N h.1 a0 x1 x2 δ) (fun r => HG true true ad δ r.2) := by
  unfold J_X11_mayAsk_18
  refine hs_ite (fun _ => ?_) (fun _ => ?_)
  · skip
    refine hs_ob (fun b_5 hb_5 => ?_)
    refine hs_bind (hf_X5_greatest L) (fun r_7 u1' => ?_)
    have u1 : HG true true ad δ r_7.2 := u1'
    refine hs_ite (fun _ => ?_) (fun _ => ?_)
    · skip
      exact hs_mono (hj_X11_mayAsk_36 L) (fun _ hr => u1.t (hr))
    · skip
      exact hs_mono (hj_X11_mayAsk_40 L) (fun _ hr => u1.t (hr))
  · skip
    exact hj_X11_mayAsk_40 L
theorem hf_X11_mayAsk {ad : List Nat} {h : hp} (L : Lay TLx ad h) {N : Nat} {a0 : Nat} {x1 : Int32} {x2 : Int32}  {δ : dp} : hs (D_X11_mayAsk N h.1 a0 x1 x2 δ) (fun r => HG true true ad δ r.2) := by
  unfold D_X11_mayAsk
  refine hs_bind (hf_X11_isNumber L) (fun r_1 u1' => ?_)
  have u1 : HG true true ad δ r_1.2 := u1'
  refine hs_ite (fun _ => ?_) (fun _ => ?_)
  · skip
    refine hs_ite (fun _ => ?_) (fun _ => ?_)
    · skip
      refine hs_ite (fun _ => ?_) (fun _ => ?_)
      · skip
        exact hs_mono (hj_X11_mayAsk_36 L) (fun _ hr => u1.t (hr))
      · skip
        exact hs_mono (hj_X11_mayAsk_18 L) (fun _ hr => u1.t (hr))
    · skip
      exact hs_mono (hj_X11_mayAsk_18 L) (fun _ hr => u1.t (hr))
  · skip
    exact hs_mono (hj_X11_mayAsk_36 L) (fun _ hr => u1.t (hr))
theorem hf_X3_above {ad : List Nat} {h : hp} (L : Lay TLx ad h) {N : Nat} {a0 : Nat} {x1 : Int32}  {δ : dp} : hs (D_X3_above N h.1 a0 x1 δ) (fun r => HG true true ad δ r.2) := by
  unfold D_X3_above
  refine hs_bind (hf_X3_firstFrom L) (fun r_1 u1' => ?_)
  have u1 : HG true true ad δ r_1.2 := u1'
  refine hs_bind (hf_X3_at L) (fun r_2 u2' => ?_)
  have u2 : HG true true ad δ r_2.2 := u1.t (u2')
  exact hs_some u2
theorem hf_X11_next {ad : List Nat} {h : hp} (L : Lay TLx ad h) {N : Nat} {a0 : Nat} {x1 : Int32} {x2 : Int32} (k11_a0 : q_K h.1 a0 = 11) {δ : dp} : hs (D_X11_next N h.1 a0 x1 x2 δ) (fun r => HG true false ad δ r.2) := by
  unfold D_X11_next
  refine hs_bxv (hf_X11_needHouse L k11_a0) (fun _ _ u1' => u1') (fun δ_3 u1' => ?_)
  have u1 : HG true false ad δ δ_3 := u1'
  refine hs_bind (hf_X11_mayAsk L) (fun r_4 u2' => ?_)
  have u2 : HG true false ad δ r_4.2 := u1.t ((u2').w (by decide) (by decide))
  refine hs_bxv (hf_X11_need L k11_a0) (fun _ _ u3' => u2.t (u3')) (fun δ_7 u3' => ?_)
  have u3 : HG true false ad δ δ_7 := u2.t (u3')
  refine hs_ob (fun b_8 hb_8 => ?_)
  refine hs_gd (fun gz4 => ?_)
  refine hs_ob (fun b_10 hb_10 => ?_)
  refine hs_ob (fun b_12 hb_12 => ?_)
  refine hs_bind (hf_X3_above L) (fun r_14 u5' => ?_)
  have u5 : HG true false ad δ r_14.2 := u3.t ((u5').w (by decide) (by decide))
  exact hs_some u5
theorem hf_X3_below {ad : List Nat} {h : hp} (L : Lay TLx ad h) {N : Nat} {a0 : Nat} {x1 : Int32}  {δ : dp} : hs (D_X3_below N h.1 a0 x1 δ) (fun r => HG true true ad δ r.2) := by
  unfold D_X3_below
  refine hs_bind (hf_X3_firstFrom L) (fun r_1 u1' => ?_)
  have u1 : HG true true ad δ r_1.2 := u1'
  refine hs_bind (hf_X3_at L) (fun r_2 u2' => ?_)
  have u2 : HG true true ad δ r_2.2 := u1.t (u2')
  exact hs_some u2
theorem hf_X11_before {ad : List Nat} {h : hp} (L : Lay TLx ad h) {N : Nat} {a0 : Nat} {x1 : Int32} {x2 : Int32} (k11_a0 : q_K h.1 a0 = 11) {δ : dp} : hs (D_X11_before N h.1 a0 x1 x2 δ) (fun r => HG true false ad δ r.2) := by
  unfold D_X11_before
  refine hs_bxv (hf_X11_needHouse L k11_a0) (fun _ _ u1' => u1') (fun δ_3 u1' => ?_)
  have u1 : HG true false ad δ δ_3 := u1'
  refine hs_bind (hf_X11_mayAsk L) (fun r_4 u2' => ?_)
  have u2 : HG true false ad δ r_4.2 := u1.t ((u2').w (by decide) (by decide))
  refine hs_bxv (hf_X11_need L k11_a0) (fun _ _ u3' => u2.t (u3')) (fun δ_7 u3' => ?_)
  have u3 : HG true false ad δ δ_7 := u2.t (u3')
  refine hs_ob (fun b_8 hb_8 => ?_)
  refine hs_gd (fun gz4 => ?_)
  refine hs_ob (fun b_10 hb_10 => ?_)
  refine hs_ob (fun b_12 hb_12 => ?_)
  refine hs_bind (hf_X3_below L) (fun r_14 u5' => ?_)
  have u5 : HG true false ad δ r_14.2 := u3.t ((u5').w (by decide) (by decide))
  exact hs_some u5
theorem hf_X11_kth {ad : List Nat} {h : hp} (L : Lay TLx ad h) {N : Nat} {a0 : Nat} {x1 : Int32} {x2 : Int32} (k11_a0 : q_K h.1 a0 = 11) {δ : dp} : hs (D_X11_kth N h.1 a0 x1 x2 δ) (fun r => HG true false ad δ r.2) := by
  unfold D_X11_kth
  refine hs_bxv (hf_X11_needHouse L k11_a0) (fun _ _ u1' => u1') (fun δ_3 u1' => ?_)
  have u1 : HG true false ad δ δ_3 := u1'
  refine hs_ob (fun b_4 hb_4 => ?_)
  refine hs_gd (fun gz2 => ?_)
  refine hs_ob (fun b_6 hb_6 => ?_)
  refine hs_ob (fun b_8 hb_8 => ?_)
  refine hs_bind (hf_X3_at L) (fun r_10 u3' => ?_)
  have u3 : HG true false ad δ r_10.2 := u1.t ((u3').w (by decide) (by decide))
  exact hs_some u3
theorem hj_X11_between_65 {ad : List Nat} {h : hp} (L : Lay TLx ad h) {N : Nat} {a0 : Nat} {x1 : Int32} {x2 : Int32} {x3 : Int32} {xs0 : Int32}  {δ : dp} : hs (J_X11_between_65 N h.1 a0 x1 x2 x3 xs0 δ) (fun r => HG true true ad δ r.2) := by
  unfold J_X11_between_65
  exact hs_some HG_r
theorem hj_X11_between_27 {ad : List Nat} {h : hp} (L : Lay TLx ad h) {N : Nat} {a0 : Nat} {x1 : Int32} {x2 : Int32} {x3 : Int32} {xs0 : Int32} {as1 : Nat} (k11_as1 : q_K h.1 as1 = 11) {δ : dp} : hs (J_X11_between_27 N h.1 a0 x1 x2 x3 xs0 as1 δ) (fun r => HG true false ad δ r.2) := by
  unfold J_X11_between_27
  refine hs_bxv (hf_X11_need L k11_as1) (fun _ _ u1' => u1') (fun δ_8 u1' => ?_)
  have u1 : HG true false ad δ δ_8 := u1'
  refine hs_ob (fun b_9 hb_9 => ?_)
  refine hs_gd (fun gz2 => ?_)
  refine hs_ob (fun b_11 hb_11 => ?_)
  refine hs_ob (fun b_13 hb_13 => ?_)
  refine hs_ite (fun _ => ?_) (fun _ => ?_)
  · skip
    refine hs_bind (hf_X3_firstFrom L) (fun r_16 u3' => ?_)
    have u3 : HG true false ad δ r_16.2 := u1.t ((u3').w (by decide) (by decide))
    refine hs_bind (hf_X3_firstFrom L) (fun r_17 u4' => ?_)
    have u4 : HG true false ad δ r_17.2 := u3.t ((u4').w (by decide) (by decide))
    exact hs_mono (hj_X11_between_65 L) (fun _ hr => u4.t ((hr).w (by decide) (by decide)))
  · skip
    exact hs_mono (hj_X11_between_65 L) (fun _ hr => u1.t ((hr).w (by decide) (by decide)))
theorem hj_X11_between_26 {ad : List Nat} {h : hp} (L : Lay TLx ad h) {N : Nat} {a0 : Nat} {x1 : Int32} {x2 : Int32} {x3 : Int32} {as0 : Nat} (k11_as0 : q_K h.1 as0 = 11) {δ : dp} : hs (J_X11_between_26 N h.1 a0 x1 x2 x3 as0 δ) (fun r => HG true false ad δ r.2) := by
  unfold J_X11_between_26
  exact hj_X11_between_27 L k11_as0
theorem hf_X11_between {ad : List Nat} {h : hp} (L : Lay TLx ad h) {N : Nat} {a0 : Nat} {x1 : Int32} {x2 : Int32} {x3 : Int32} (k11_a0 : q_K h.1 a0 = 11) {δ : dp} : hs (D_X11_between N h.1 a0 x1 x2 x3 δ) (fun r => HG true false ad δ r.2) := by
  unfold D_X11_between
  refine hs_bxv (hf_X11_needHouse L k11_a0) (fun _ _ u1' => u1') (fun δ_3 u1' => ?_)
  have u1 : HG true false ad δ δ_3 := u1'
  refine hs_bind (hf_X11_isNumber L) (fun r_4 u2' => ?_)
  have u2 : HG true false ad δ r_4.2 := u1.t ((u2').w (by decide) (by decide))
  refine hs_ite (fun _ => ?_) (fun _ => ?_)
  · skip
    exact hs_mono (hj_X11_between_26 L k11_a0) (fun _ hr => u2.t (hr))
  · skip
    refine hs_bind (hf_X11_isNumber L) (fun r_18 u3' => ?_)
    have u3 : HG true false ad δ r_18.2 := u2.t ((u3').w (by decide) (by decide))
    refine hs_ite (fun _ => ?_) (fun _ => ?_)
    · skip
      exact hs_mono (hj_X11_between_26 L k11_a0) (fun _ hr => u3.t (hr))
    · skip
      exact hs_mono (hj_X11_between_27 L k11_a0) (fun _ hr => u3.t (hr))
theorem hj_X11_isCall_14 {ad : List Nat} {h : hp} (L : Lay TLx ad h) {N : Nat} {x0 : Int32} {xs0 : Int32}  {δ : dp} : hs (J_X11_isCall_14 N h.1 x0 xs0 δ) (fun r => HG true true ad δ r.2) := by
  unfold J_X11_isCall_14
  refine hs_gp (fun gk1 => ?_)
  exact hs_some HG_r
theorem hj_X11_isCall_13 {ad : List Nat} {h : hp} (L : Lay TLx ad h) {N : Nat} {x0 : Int32}  {δ : dp} : hs (J_X11_isCall_13 N h.1 x0 δ) (fun r => HG true true ad δ r.2) := by
  unfold J_X11_isCall_13
  exact hj_X11_isCall_14 L
theorem hf_X11_isCall {ad : List Nat} {h : hp} (L : Lay TLx ad h) {N : Nat} {x0 : Int32}  {δ : dp} : hs (D_X11_isCall N h.1 x0 δ) (fun r => HG true true ad δ r.2) := by
  unfold D_X11_isCall
  refine hs_ite (fun _ => ?_) (fun _ => ?_)
  · skip
    exact hj_X11_isCall_13 L
  · skip
    refine hs_ite (fun _ => ?_) (fun _ => ?_)
    · skip
      exact hj_X11_isCall_13 L
    · skip
      exact hj_X11_isCall_14 L
theorem hj_X11_isKind_14 {ad : List Nat} {h : hp} (L : Lay TLx ad h) {N : Nat} {x0 : Int32} {xs0 : Int32}  {δ : dp} : hs (J_X11_isKind_14 N h.1 x0 xs0 δ) (fun r => HG true true ad δ r.2) := by
  unfold J_X11_isKind_14
  refine hs_gp (fun gk1 => ?_)
  exact hs_some HG_r
theorem hj_X11_isKind_13 {ad : List Nat} {h : hp} (L : Lay TLx ad h) {N : Nat} {x0 : Int32}  {δ : dp} : hs (J_X11_isKind_13 N h.1 x0 δ) (fun r => HG true true ad δ r.2) := by
  unfold J_X11_isKind_13
  exact hj_X11_isKind_14 L
theorem hf_X11_isKind {ad : List Nat} {h : hp} (L : Lay TLx ad h) {N : Nat} {x0 : Int32}  {δ : dp} : hs (D_X11_isKind N h.1 x0 δ) (fun r => HG true true ad δ r.2) := by
  unfold D_X11_isKind
  refine hs_ite (fun _ => ?_) (fun _ => ?_)
  · skip
    exact hj_X11_isKind_13 L
  · skip
    refine hs_ite (fun _ => ?_) (fun _ => ?_)
    · skip
      exact hj_X11_isKind_13 L
    · skip
      exact hj_X11_isKind_14 L
theorem hf_X1_enterRoom {ad : List Nat} {h : hp} (L : Lay TLx ad h) {N : Nat} {a0 : Nat} {x1 : Int32}  {δ : dp} : hs (D_X1_enterRoom N h.1 a0 x1 δ) (fun r => HG true true ad δ r) := by
  unfold D_X1_enterRoom
  refine hs_bdv (fun δ_1 e1 => ?_)
  have u1 : HG true true ad δ δ_1 := HG.I HG_r e1 (by decide) (by decide)
  refine hs_bdv (fun δ_3 e2 => ?_)
  have u2 : HG true true ad δ δ_3 := HG.I u1 e2 (by decide) (by decide)
  refine hs_bdv (fun δ_5 e3 => ?_)
  have u3 : HG true true ad δ δ_5 := HG.I u2 e3 (by decide) (by decide)
  refine hs_bdv (fun δ_7 e4 => ?_)
  have u4 : HG true true ad δ δ_7 := HG.I u3 e4 (by decide) (by decide)
  exact hs_some u4
theorem hj_X1_firstFrom_52 {ad : List Nat} {h : hp} (L : Lay TLx ad h) {N : Nat} {a0 : Nat} {x3 : Int32} {kt10 : Int32 → Int32 → Int32 → dp → Option (Int32 × dp)} {x1v : Int32} {x2v : Int32} {x4v : Int32} (h_kt10 : ∀ (y0 : Int32) (y1 : Int32) (y2 : Int32) (δ1 : dp), hs (kt10 y0 y1 y2 δ1) (fun r => HG true true ad δ1 r.2)) {δ : dp} : hs (J_X1_firstFrom_52 N h.1 a0 x3 kt10 x1v x2v x4v δ) (fun r => HG true true ad δ r.2) := by
  unfold J_X1_firstFrom_52
  exact h_kt10 x1v x2v x4v δ
theorem hl_X1_firstFrom_10 {ad : List Nat} {h : hp} (L : Lay TLx ad h) {N : Nat} {a0 : Nat} {x3 : Int32}  : ∀ (n : Nat) (x1v : Int32) (x2v : Int32) (x4v : Int32) (δ : dp), hs (L_X1_firstFrom_10 N h.1 a0 x3 n x1v x2v x4v δ) (fun r => HG true true ad δ r.2) := by
  intro n
  induction n with
  | zero => intro x1v x2v x4v δ; unfold L_X1_firstFrom_10; exact hs_none
  | succ n ih =>
    intro x1v x2v x4v δ
    unfold L_X1_firstFrom_10
    refine hs_ite (fun _ => ?_) (fun _ => ?_)
    · skip
      exact hs_some HG_r
    · skip
      refine hs_biv (fun x_4 _ => ?_)
      refine hs_ob (fun b_6 hb_6 => ?_)
      refine hs_gd (fun gz1 => ?_)
      refine hs_ite (fun _ => ?_) (fun _ => ?_)
      · skip
        exact hj_X1_firstFrom_52 L ih
      · skip
        refine hs_biv (fun x_9 _ => ?_)
        exact hj_X1_firstFrom_52 L ih
theorem hf_X1_firstFrom {ad : List Nat} {h : hp} (L : Lay TLx ad h) {N : Nat} {a0 : Nat} {x1 : Int32} {x2 : Int32} {x3 : Int32}  {δ : dp} : hs (D_X1_firstFrom N h.1 a0 x1 x2 x3 δ) (fun r => HG true true ad δ r.2) := by
  unfold D_X1_firstFrom
  refine hs_biv (fun x_1 _ => ?_)
  exact hl_X1_firstFrom_10 L N x1 x2 x_1 δ
theorem hj_X1_findRoom_69 {ad : List Nat} {h : hp} (L : Lay TLx ad h) {N : Nat} {a0 : Nat} {x1 : Int32} {xs0 : Int32}  {δ : dp} : hs (J_X1_findRoom_69 N h.1 a0 x1 xs0 δ) (fun r => HG true true ad δ r.2) := by
  unfold J_X1_findRoom_69
  refine hs_gp (fun gk1 => ?_)
  exact hs_some HG_r
theorem hf_X1_findRoom {ad : List Nat} {h : hp} (L : Lay TLx ad h) {N : Nat} {a0 : Nat} {x1 : Int32}  {δ : dp} : hs (D_X1_findRoom N h.1 a0 x1 δ) (fun r => HG true true ad δ r.2) := by
  unfold D_X1_findRoom
  refine hs_biv (fun x_1 _ => ?_)
  refine hs_bind (hf_X1_firstFrom L) (fun r_3 u1' => ?_)
  have u1 : HG true true ad δ r_3.2 := u1'
  refine hs_bdv (fun δ_4 e2 => ?_)
  have u2 : HG true true ad δ δ_4 := HG.I u1 e2 (by decide) (by decide)
  refine hs_bind (hf_X1_firstFrom L) (fun r_6 u3' => ?_)
  have u3 : HG true true ad δ r_6.2 := u2.t (u3')
  refine hs_bdv (fun δ_7 e4 => ?_)
  have u4 : HG true true ad δ δ_7 := HG.I u3 e4 (by decide) (by decide)
  refine hs_ite (fun _ => ?_) (fun _ => ?_)
  · skip
    exact hs_mono (hj_X1_findRoom_69 L) (fun _ hr => u4.t (hr))
  · skip
    exact hs_mono (hj_X1_findRoom_69 L) (fun _ hr => u4.t (hr))
theorem hf_X1_valueAt {ad : List Nat} {h : hp} (L : Lay TLx ad h) {N : Nat} {a0 : Nat} {x1 : Int32}  {δ : dp} : hs (D_X1_valueAt N h.1 a0 x1 δ) (fun r => HG true true ad δ r.2) := by
  unfold D_X1_valueAt
  refine hs_ob (fun b_1 hb_1 => ?_)
  refine hs_gd (fun gz1 => ?_)
  exact hs_some HG_r
theorem hj_X1_goOnDown_33 {ad : List Nat} {h : hp} (L : Lay TLx ad h) {N : Nat} {a0 : Nat}  {δ : dp} : hs (J_X1_goOnDown_33 N h.1 a0 δ) (fun r => HG true true ad δ r.2) := by
  unfold J_X1_goOnDown_33
  refine hs_bdv (fun δ_2 e1 => ?_)
  have u1 : HG true true ad δ δ_2 := HG.I HG_r e1 (by decide) (by decide)
  exact hs_some u1
theorem hf_X1_enterList {ad : List Nat} {h : hp} (L : Lay TLx ad h) {N : Nat} {a0 : Nat} {x1 : Int32}  {δ : dp} : hs (D_X1_enterList N h.1 a0 x1 δ) (fun r => HG true true ad δ r) := by
  unfold D_X1_enterList
  refine hs_bdv (fun δ_1 e1 => ?_)
  have u1 : HG true true ad δ δ_1 := HG.I HG_r e1 (by decide) (by decide)
  refine hs_bdv (fun δ_3 e2 => ?_)
  have u2 : HG true true ad δ δ_3 := HG.I u1 e2 (by decide) (by decide)
  refine hs_bdv (fun δ_5 e3 => ?_)
  have u3 : HG true true ad δ δ_5 := HG.I u2 e3 (by decide) (by decide)
  refine hs_bdv (fun δ_7 e4 => ?_)
  have u4 : HG true true ad δ δ_7 := HG.I u3 e4 (by decide) (by decide)
  refine hs_bdv (fun δ_9 e5 => ?_)
  have u5 : HG true true ad δ δ_9 := HG.I u4 e5 (by decide) (by decide)
  exact hs_some u5
theorem hj_X1_goOnDown_108 {ad : List Nat} {h : hp} (L : Lay TLx ad h) {N : Nat} {a0 : Nat} {x1v : Int32}  {δ : dp} : hs (J_X1_goOnDown_108 N h.1 a0 x1v δ) (fun r => HG true true ad δ r.2) := by
  unfold J_X1_goOnDown_108
  refine hs_bind (hf_X1_enterList L) (fun r_10 u1' => ?_)
  have u1 : HG true true ad δ r_10 := u1'
  exact hs_some u1
theorem hj_X1_goOnDown_80 {ad : List Nat} {h : hp} (L : Lay TLx ad h) {N : Nat} {a0 : Nat} {x1v : Int32}  {δ : dp} : hs (J_X1_goOnDown_80 N h.1 a0 x1v δ) (fun r => HG true true ad δ r.2) := by
  unfold J_X1_goOnDown_80
  refine hs_bind (hf_X1_valueAt L) (fun r_8 u1' => ?_)
  have u1 : HG true true ad δ r_8.2 := u1'
  refine hs_ite (fun _ => ?_) (fun _ => ?_)
  · skip
    exact hs_mono (hj_X1_goOnDown_108 L) (fun _ hr => u1.t (hr))
  · skip
    refine hs_biv (fun x_11 _ => ?_)
    exact hs_mono (hj_X1_goOnDown_108 L) (fun _ hr => u1.t (hr))
theorem hf_X1_goOnDown {ad : List Nat} {h : hp} (L : Lay TLx ad h) {N : Nat} {a0 : Nat}  {δ : dp} : hs (D_X1_goOnDown N h.1 a0 δ) (fun r => HG true true ad δ r.2) := by
  unfold D_X1_goOnDown
  refine hs_ite (fun _ => ?_) (fun _ => ?_)
  · skip
    exact hj_X1_goOnDown_33 L
  · skip
    refine hs_ite (fun _ => ?_) (fun _ => ?_)
    · skip
      exact hj_X1_goOnDown_33 L
    · skip
      refine hs_ite (fun _ => ?_) (fun _ => ?_)
      · skip
        refine hs_bind (hf_X1_findRoom L) (fun r_6 u1' => ?_)
        have u1 : HG true true ad δ r_6.2 := u1'
        refine hs_ite (fun _ => ?_) (fun _ => ?_)
        · skip
          exact hs_mono (hj_X1_goOnDown_80 L) (fun _ hr => u1.t (hr))
        · skip
          refine hs_bind (hf_X1_valueAt L) (fun r_13 u2' => ?_)
          have u2 : HG true true ad δ r_13.2 := u1.t (u2')
          refine hs_ite (fun _ => ?_) (fun _ => ?_)
          · skip
            exact hs_mono (hj_X1_goOnDown_80 L) (fun _ hr => u2.t (hr))
          · skip
            refine hs_bind (hf_X1_enterRoom L) (fun r_15 u3' => ?_)
            have u3 : HG true true ad δ r_15 := u2.t (u3')
            exact hs_some u3
      · skip
        exact hj_X1_goOnDown_33 L
theorem hj_X1_goOnDropping_65 {ad : List Nat} {h : hp} (L : Lay TLx ad h) {N : Nat} {a0 : Nat}  {δ : dp} : hs (J_X1_goOnDropping_65 N h.1 a0 δ) (fun r => HG true true ad δ r.2) := by
  unfold J_X1_goOnDropping_65
  refine hs_bdv (fun δ_3 e1 => ?_)
  have u1 : HG true true ad δ δ_3 := HG.I HG_r e1 (by decide) (by decide)
  exact hs_some u1
theorem hj_X1_goOnDropping_172 {ad : List Nat} {h : hp} (L : Lay TLx ad h) {N : Nat} {a0 : Nat} {x2v : Int32} {x3v : Int32}  {δ : dp} : hs (J_X1_goOnDropping_172 N h.1 a0 x2v x3v δ) (fun r => HG true true ad δ r.2) := by
  unfold J_X1_goOnDropping_172
  refine hs_bind (hf_X1_enterRoom L) (fun r_15 u1' => ?_)
  have u1 : HG true true ad δ r_15 := u1'
  exact hs_some u1
theorem hj_X1_goOnDropping_121 {ad : List Nat} {h : hp} (L : Lay TLx ad h) {N : Nat} {a0 : Nat} {xs0 : Int32} {x2v : Int32}  {δ : dp} : hs (J_X1_goOnDropping_121 N h.1 a0 xs0 x2v δ) (fun r => HG true true ad δ r.2) := by
  unfold J_X1_goOnDropping_121
  refine hs_bind (hf_X1_findRoom L) (fun r_11 u1' => ?_)
  have u1 : HG true true ad δ r_11.2 := u1'
  refine hs_ite (fun _ => ?_) (fun _ => ?_)
  · skip
    refine hs_bdv (fun δ_19 e2 => ?_)
    have u2 : HG true true ad δ δ_19 := HG.I u1 e2 (by decide) (by decide)
    exact hs_some u2
  · skip
    refine hs_bind (hf_X1_valueAt L) (fun r_13 u3' => ?_)
    have u3 : HG true true ad δ r_13.2 := u1.t (u3')
    refine hs_ite (fun _ => ?_) (fun _ => ?_)
    · skip
      refine hs_bind (hf_X1_valueAt L) (fun r_16 u4' => ?_)
      have u4 : HG true true ad δ r_16.2 := u3.t (u4')
      refine hs_ite (fun _ => ?_) (fun _ => ?_)
      · skip
        refine hs_bind (hf_X1_enterList L) (fun r_18 u5' => ?_)
        have u5 : HG true true ad δ r_18 := u4.t (u5')
        exact hs_some u5
      · skip
        exact hs_mono (hj_X1_goOnDropping_172 L) (fun _ hr => u4.t (hr))
    · skip
      exact hs_mono (hj_X1_goOnDropping_172 L) (fun _ hr => u3.t (hr))
theorem hj_X1_goOnDropping_118 {ad : List Nat} {h : hp} (L : Lay TLx ad h) {N : Nat} {a0 : Nat} {xs0 : Int32} {as1 : Nat} {x2v : Int32}  {δ : dp} : hs (J_X1_goOnDropping_118 N h.1 a0 xs0 as1 x2v δ) (fun r => HG true true ad δ r.2) := by
  unfold J_X1_goOnDropping_118
  refine hs_bind (hf_X1_valueAt L) (fun r_10 u1' => ?_)
  have u1 : HG true true ad δ r_10.2 := u1'
  exact hs_mono (hj_X1_goOnDropping_121 L) (fun _ hr => u1.t (hr))
theorem hj_X1_goOnDropping_81 {ad : List Nat} {h : hp} (L : Lay TLx ad h) {N : Nat} {a0 : Nat} {xs0 : Int32} {x1v : Int32}  {δ : dp} : hs (J_X1_goOnDropping_81 N h.1 a0 xs0 x1v δ) (fun r => HG true true ad δ r.2) := by
  unfold J_X1_goOnDropping_81
  refine hs_ite (fun _ => ?_) (fun _ => ?_)
  · skip
    exact hj_X1_goOnDropping_121 L
  · skip
    refine hs_ite (fun _ => ?_) (fun _ => ?_)
    · skip
      exact hj_X1_goOnDropping_118 L
    · skip
      exact hj_X1_goOnDropping_118 L
theorem hj_X1_goOnDropping_72 {ad : List Nat} {h : hp} (L : Lay TLx ad h) {N : Nat} {a0 : Nat} {x1v : Int32}  {δ : dp} : hs (J_X1_goOnDropping_72 N h.1 a0 x1v δ) (fun r => HG true true ad δ r.2) := by
  unfold J_X1_goOnDropping_72
  refine hs_ite (fun _ => ?_) (fun _ => ?_)
  · skip
    exact hj_X1_goOnDropping_81 L
  · skip
    exact hj_X1_goOnDropping_81 L
theorem hj_X1_goOnDropping_27 {ad : List Nat} {h : hp} (L : Lay TLx ad h) {N : Nat} {a0 : Nat} {xs0 : Int32}  {δ : dp} : hs (J_X1_goOnDropping_27 N h.1 a0 xs0 δ) (fun r => HG true true ad δ r.2) := by
  unfold J_X1_goOnDropping_27
  refine hs_ite (fun _ => ?_) (fun _ => ?_)
  · skip
    exact hj_X1_goOnDropping_65 L
  · skip
    refine hs_ite (fun _ => ?_) (fun _ => ?_)
    · skip
      exact hj_X1_goOnDropping_65 L
    · skip
      refine hs_ite (fun _ => ?_) (fun _ => ?_)
      · skip
        exact hj_X1_goOnDropping_72 L
      · skip
        refine hs_ite (fun _ => ?_) (fun _ => ?_)
        · skip
          exact hj_X1_goOnDropping_72 L
        · skip
          exact hj_X1_goOnDropping_65 L
theorem hj_X1_goOnDropping_22 {ad : List Nat} {h : hp} (L : Lay TLx ad h) {N : Nat} {a0 : Nat}  {δ : dp} : hs (J_X1_goOnDropping_22 N h.1 a0 δ) (fun r => HG true true ad δ r.2) := by
  unfold J_X1_goOnDropping_22
  exact hj_X1_goOnDropping_27 L
theorem hf_X1_goOnDropping {ad : List Nat} {h : hp} (L : Lay TLx ad h) {N : Nat} {a0 : Nat}  {δ : dp} : hs (D_X1_goOnDropping N h.1 a0 δ) (fun r => HG true true ad δ r.2) := by
  unfold D_X1_goOnDropping
  refine hs_ite (fun _ => ?_) (fun _ => ?_)
  · skip
    exact hj_X1_goOnDropping_22 L
  · skip
    refine hs_ite (fun _ => ?_) (fun _ => ?_)
    · skip
      exact hj_X1_goOnDropping_22 L
    · skip
      exact hj_X1_goOnDropping_27 L
theorem hj_J9_max_7cf53_10 {ad : List Nat} {h : hp} (L : Lay TLx ad h) {N : Nat} {x0 : Int32} {x1 : Int32} {xs0 : Int32}  {δ : dp} : hs (J_J9_max_7cf53_10 N h.1 x0 x1 xs0 δ) (fun r => HG true true ad δ r.2) := by
  unfold J_J9_max_7cf53_10
  exact hs_some HG_r
theorem hf_J9_max_7cf53 {ad : List Nat} {h : hp} (L : Lay TLx ad h) {N : Nat} {x0 : Int32} {x1 : Int32}  {δ : dp} : hs (D_J9_max_7cf53 N h.1 x0 x1 δ) (fun r => HG true true ad δ r.2) := by
  unfold D_J9_max_7cf53
  refine hs_ite (fun _ => ?_) (fun _ => ?_)
  · skip
    exact hj_J9_max_7cf53_10 L
  · skip
    exact hj_J9_max_7cf53_10 L
theorem hj_J9_min_7cf53_10 {ad : List Nat} {h : hp} (L : Lay TLx ad h) {N : Nat} {x0 : Int32} {x1 : Int32} {xs0 : Int32}  {δ : dp} : hs (J_J9_min_7cf53_10 N h.1 x0 x1 xs0 δ) (fun r => HG true true ad δ r.2) := by
  unfold J_J9_min_7cf53_10
  exact hs_some HG_r
theorem hf_J9_min_7cf53 {ad : List Nat} {h : hp} (L : Lay TLx ad h) {N : Nat} {x0 : Int32} {x1 : Int32}  {δ : dp} : hs (D_J9_min_7cf53 N h.1 x0 x1 δ) (fun r => HG true true ad δ r.2) := by
  unfold D_J9_min_7cf53
  refine hs_ite (fun _ => ?_) (fun _ => ?_)
  · skip
    exact hj_J9_min_7cf53_10 L
  · skip
    exact hj_J9_min_7cf53_10 L
theorem hj_X1_goOnPutting_22 {ad : List Nat} {h : hp} (L : Lay TLx ad h) {N : Nat} {a0 : Nat}  {δ : dp} : hs (J_X1_goOnPutting_22 N h.1 a0 δ) (fun r => HG true true ad δ r.2) := by
  unfold J_X1_goOnPutting_22
  refine hs_bdv (fun δ_2 e1 => ?_)
  have u1 : HG true true ad δ δ_2 := HG.I HG_r e1 (by decide) (by decide)
  exact hs_some u1
theorem hf_X1_goOnPutting {ad : List Nat} {h : hp} (L : Lay TLx ad h) {N : Nat} {a0 : Nat}  {δ : dp} : hs (D_X1_goOnPutting N h.1 a0 δ) (fun r => HG true true ad δ r.2) := by
  unfold D_X1_goOnPutting
  refine hs_ite (fun _ => ?_) (fun _ => ?_)
  · skip
    exact hj_X1_goOnPutting_22 L
  · skip
    refine hs_ite (fun _ => ?_) (fun _ => ?_)
    · skip
      exact hj_X1_goOnPutting_22 L
    · skip
      refine hs_bind (hf_J9_max_7cf53 L) (fun r_5 u1' => ?_)
      have u1 : HG true true ad δ r_5.2 := u1'
      refine hs_bind (hf_J9_min_7cf53 L) (fun r_6 u2' => ?_)
      have u2 : HG true true ad δ r_6.2 := u1.t (u2')
      refine hs_bind (hf_X1_findRoom L) (fun r_7 u3' => ?_)
      have u3 : HG true true ad δ r_7.2 := u2.t (u3')
      refine hs_ite (fun _ => ?_) (fun _ => ?_)
      · skip
        refine hs_bind (hf_X1_enterList L) (fun r_9 u4' => ?_)
        have u4 : HG true true ad δ r_9 := u3.t (u4')
        exact hs_some u4
      · skip
        refine hs_bind (hf_X1_enterRoom L) (fun r_10 u5' => ?_)
        have u5 : HG true true ad δ r_10 := u3.t (u5')
        exact hs_some u5
theorem hj_X1_goOnUp_33 {ad : List Nat} {h : hp} (L : Lay TLx ad h) {N : Nat} {a0 : Nat}  {δ : dp} : hs (J_X1_goOnUp_33 N h.1 a0 δ) (fun r => HG true true ad δ r.2) := by
  unfold J_X1_goOnUp_33
  refine hs_bdv (fun δ_2 e1 => ?_)
  have u1 : HG true true ad δ δ_2 := HG.I HG_r e1 (by decide) (by decide)
  exact hs_some u1
theorem hj_X1_goOnUp_112 {ad : List Nat} {h : hp} (L : Lay TLx ad h) {N : Nat} {a0 : Nat} {x1v : Int32}  {δ : dp} : hs (J_X1_goOnUp_112 N h.1 a0 x1v δ) (fun r => HG true true ad δ r.2) := by
  unfold J_X1_goOnUp_112
  refine hs_bind (hf_X1_enterList L) (fun r_10 u1' => ?_)
  have u1 : HG true true ad δ r_10 := u1'
  exact hs_some u1
theorem hj_X1_goOnUp_82 {ad : List Nat} {h : hp} (L : Lay TLx ad h) {N : Nat} {a0 : Nat} {x1v : Int32}  {δ : dp} : hs (J_X1_goOnUp_82 N h.1 a0 x1v δ) (fun r => HG true true ad δ r.2) := by
  unfold J_X1_goOnUp_82
  refine hs_bind (hf_X1_valueAt L) (fun r_8 u1' => ?_)
  have u1 : HG true true ad δ r_8.2 := u1'
  refine hs_ite (fun _ => ?_) (fun _ => ?_)
  · skip
    exact hs_mono (hj_X1_goOnUp_112 L) (fun _ hr => u1.t (hr))
  · skip
    refine hs_biv (fun x_11 _ => ?_)
    exact hs_mono (hj_X1_goOnUp_112 L) (fun _ hr => u1.t (hr))
theorem hf_X1_goOnUp {ad : List Nat} {h : hp} (L : Lay TLx ad h) {N : Nat} {a0 : Nat}  {δ : dp} : hs (D_X1_goOnUp N h.1 a0 δ) (fun r => HG true true ad δ r.2) := by
  unfold D_X1_goOnUp
  refine hs_ite (fun _ => ?_) (fun _ => ?_)
  · skip
    exact hj_X1_goOnUp_33 L
  · skip
    refine hs_ite (fun _ => ?_) (fun _ => ?_)
    · skip
      exact hj_X1_goOnUp_33 L
    · skip
      refine hs_ite (fun _ => ?_) (fun _ => ?_)
      · skip
        refine hs_bind (hf_X1_findRoom L) (fun r_6 u1' => ?_)
        have u1 : HG true true ad δ r_6.2 := u1'
        refine hs_ite (fun _ => ?_) (fun _ => ?_)
        · skip
          exact hs_mono (hj_X1_goOnUp_82 L) (fun _ hr => u1.t (hr))
        · skip
          refine hs_bind (hf_X1_valueAt L) (fun r_13 u2' => ?_)
          have u2 : HG true true ad δ r_13.2 := u1.t (u2')
          refine hs_ite (fun _ => ?_) (fun _ => ?_)
          · skip
            exact hs_mono (hj_X1_goOnUp_82 L) (fun _ hr => u2.t (hr))
          · skip
            refine hs_bind (hf_X1_enterRoom L) (fun r_15 u3' => ?_)
            have u3 : HG true true ad δ r_15 := u2.t (u3')
            exact hs_some u3
      · skip
        exact hj_X1_goOnUp_33 L
theorem hj_X5_lowerBits_18 {ad : List Nat} {h : hp} (L : Lay TLx ad h) {N : Nat} {a0 : Nat} {x1 : Int32} {xs0 : Int32}  {δ : dp} : hs (J_X5_lowerBits_18 N h.1 a0 x1 xs0 δ) (fun r => HG true true ad δ r.2) := by
  unfold J_X5_lowerBits_18
  exact hs_some HG_r
theorem hf_X5_lowerBits {ad : List Nat} {h : hp} (L : Lay TLx ad h) {N : Nat} {a0 : Nat} {x1 : Int32}  {δ : dp} : hs (D_X5_lowerBits N h.1 a0 x1 δ) (fun r => HG true true ad δ r.2) := by
  unfold D_X5_lowerBits
  refine hs_ite (fun _ => ?_) (fun _ => ?_)
  · skip
    exact hj_X5_lowerBits_18 L
  · skip
    exact hj_X5_lowerBits_18 L
theorem hj_X1_look_154 {ad : List Nat} {h : hp} (L : Lay TLx ad h) {N : Nat} {a0 : Nat}  {δ : dp} : hs (J_X1_look_154 N h.1 a0 δ) (fun r => HG true true ad δ r) := by
  unfold J_X1_look_154
  exact hs_some HG_r
theorem hj_X1_look_85 {ad : List Nat} {h : hp} (L : Lay TLx ad h) {N : Nat} {a0 : Nat} {xs0 : Int32} {as1 : Nat}  {δ : dp} : hs (J_X1_look_85 N h.1 a0 xs0 as1 δ) (fun r => HG true true ad δ r) := by
  unfold J_X1_look_85
  refine hs_gp (fun gk1 => ?_)
  refine hs_bdv (fun δ_14 e2 => ?_)
  have u2 : HG true true ad δ δ_14 := HG.I HG_r e2 (by decide) (by decide)
  refine hs_ite (fun _ => ?_) (fun _ => ?_)
  · skip
    refine hs_ob (fun b_17 hb_17 => ?_)
    refine hs_bind (hf_X5_lowerBits L) (fun r_19 u3' => ?_)
    have u3 : HG true true ad δ r_19.2 := u2.t (u3')
    refine hs_bdv (fun δ_20 e4 => ?_)
    have u4 : HG true true ad δ δ_20 := HG.I u3 e4 (by decide) (by decide)
    refine hs_bind (hf_X1_firstFrom L) (fun r_22 u5' => ?_)
    have u5 : HG true true ad δ r_22.2 := u4.t (u5')
    refine hs_bdv (fun δ_23 e6 => ?_)
    have u6 : HG true true ad δ δ_23 := HG.I u5 e6 (by decide) (by decide)
    refine hs_bind (hf_X1_firstFrom L) (fun r_25 u7' => ?_)
    have u7 : HG true true ad δ r_25.2 := u6.t (u7')
    refine hs_bdv (fun δ_26 e8 => ?_)
    have u8 : HG true true ad δ δ_26 := HG.I u7 e8 (by decide) (by decide)
    exact hs_mono (hj_X1_look_154 L) (fun _ hr => u8.t (hr))
  · skip
    exact hs_mono (hj_X1_look_154 L) (fun _ hr => u2.t (hr))
theorem hj_X1_look_31 {ad : List Nat} {h : hp} (L : Lay TLx ad h) {N : Nat} {a0 : Nat} {xs0 : Int32} {as1 : Nat}  {δ : dp} : hs (J_X1_look_31 N h.1 a0 xs0 as1 δ) (fun r => HG true true ad δ r) := by
  unfold J_X1_look_31
  refine hs_gp (fun gk1 => ?_)
  refine hs_bdv (fun δ_4 e2 => ?_)
  have u2 : HG true true ad δ δ_4 := HG.I HG_r e2 (by decide) (by decide)
  refine hs_ite (fun _ => ?_) (fun _ => ?_)
  · skip
    refine hs_bind (hf_X1_valueAt L) (fun r_7 u3' => ?_)
    have u3 : HG true true ad δ r_7.2 := u2.t (u3')
    refine hs_bdv (fun δ_8 e4 => ?_)
    have u4 : HG true true ad δ δ_8 := HG.I u3 e4 (by decide) (by decide)
    refine hs_bind (hf_X1_valueAt L) (fun r_10 u5' => ?_)
    have u5 : HG true true ad δ r_10.2 := u4.t (u5')
    refine hs_bdv (fun δ_11 e6 => ?_)
    have u6 : HG true true ad δ δ_11 := HG.I u5 e6 (by decide) (by decide)
    refine hs_ite (fun _ => ?_) (fun _ => ?_)
    · skip
      exact hs_mono (hj_X1_look_85 L) (fun _ hr => u6.t (hr))
    · skip
      exact hs_mono (hj_X1_look_85 L) (fun _ hr => u6.t (hr))
  · skip
    exact hs_some u2
theorem hj_X1_look_26 {ad : List Nat} {h : hp} (L : Lay TLx ad h) {N : Nat} {a0 : Nat} {as0 : Nat}  {δ : dp} : hs (J_X1_look_26 N h.1 a0 as0 δ) (fun r => HG true true ad δ r) := by
  unfold J_X1_look_26
  exact hj_X1_look_31 L
theorem hf_X1_look {ad : List Nat} {h : hp} (L : Lay TLx ad h) {N : Nat} {a0 : Nat}  {δ : dp} : hs (D_X1_look N h.1 a0 δ) (fun r => HG true true ad δ r) := by
  unfold D_X1_look
  refine hs_ob (fun b_1 hb_1 => ?_)
  refine hs_ite (fun _ => ?_) (fun _ => ?_)
  · skip
    exact hj_X1_look_26 L
  · skip
    refine hs_ite (fun _ => ?_) (fun _ => ?_)
    · skip
      exact hj_X1_look_31 L
    · skip
      exact hj_X1_look_26 L
theorem hj_X1_goOnAsking_49 {ad : List Nat} {h : hp} (L : Lay TLx ad h) {N : Nat} {a0 : Nat}  {δ : dp} : hs (J_X1_goOnAsking_49 N h.1 a0 δ) (fun r => HG true true ad δ r) := by
  unfold J_X1_goOnAsking_49
  exact hs_some HG_r
theorem hj_X1_goOnAsking_33 {ad : List Nat} {h : hp} (L : Lay TLx ad h) {N : Nat} {a0 : Nat}  {δ : dp} : hs (J_X1_goOnAsking_33 N h.1 a0 δ) (fun r => HG true true ad δ r) := by
  unfold J_X1_goOnAsking_33
  refine hs_bdv (fun δ_2 e1 => ?_)
  have u1 : HG true true ad δ δ_2 := HG.I HG_r e1 (by decide) (by decide)
  exact hs_mono (hj_X1_goOnAsking_49 L) (fun _ hr => u1.t (hr))
theorem hf_X1_goOnAsking {ad : List Nat} {h : hp} (L : Lay TLx ad h) {N : Nat} {a0 : Nat}  {δ : dp} : hs (D_X1_goOnAsking N h.1 a0 δ) (fun r => HG true true ad δ r) := by
  unfold D_X1_goOnAsking
  refine hs_ite (fun _ => ?_) (fun _ => ?_)
  · skip
    exact hj_X1_goOnAsking_33 L
  · skip
    refine hs_ite (fun _ => ?_) (fun _ => ?_)
    · skip
      exact hj_X1_goOnAsking_33 L
    · skip
      refine hs_bind (hf_X1_findRoom L) (fun r_5 u1' => ?_)
      have u1 : HG true true ad δ r_5.2 := u1'
      refine hs_ite (fun _ => ?_) (fun _ => ?_)
      · skip
        exact hs_mono (hj_X1_goOnAsking_33 L) (fun _ hr => u1.t (hr))
      · skip
        refine hs_bind (hf_X1_enterRoom L) (fun r_7 u2' => ?_)
        have u2 : HG true true ad δ r_7 := u1.t (u2')
        exact hs_mono (hj_X1_goOnAsking_49 L) (fun _ hr => u2.t (hr))
theorem hj_X1_touchesOf_156 {ad : List Nat} {h : hp} (L : Lay TLx ad h) {N : Nat} {a0 : Nat} {x1 : Int32} {x2 : Int32} {kt47 : Int32 → Int32 → dp → Option (Int32 × dp)} {x3v : Int32} {x4v : Int32} (h_kt47 : ∀ (y0 : Int32) (y1 : Int32) (δ1 : dp), hs (kt47 y0 y1 δ1) (fun r => HG true true ad δ1 r.2)) {δ : dp} : hs (J_X1_touchesOf_156 N h.1 a0 x1 x2 kt47 x3v x4v δ) (fun r => HG true true ad δ r.2) := by
  unfold J_X1_touchesOf_156
  refine hs_biv (fun x_27 _ => ?_)
  exact h_kt47 x3v x_27 δ
theorem hj_X1_touchesOf_152 {ad : List Nat} {h : hp} (L : Lay TLx ad h) {N : Nat} {a0 : Nat} {x1 : Int32} {x2 : Int32} {kt47 : Int32 → Int32 → dp → Option (Int32 × dp)} {x3v : Int32} {x4v : Int32} (h_kt47 : ∀ (y0 : Int32) (y1 : Int32) (δ1 : dp), hs (kt47 y0 y1 δ1) (fun r => HG true true ad δ1 r.2)) {δ : dp} : hs (J_X1_touchesOf_152 N h.1 a0 x1 x2 kt47 x3v x4v δ) (fun r => HG true true ad δ r.2) := by
  unfold J_X1_touchesOf_152
  refine hs_bind (hf_X1_goOnAsking L) (fun r_34 u1' => ?_)
  have u1 : HG true true ad δ r_34 := u1'
  exact hs_mono (hj_X1_touchesOf_156 L h_kt47) (fun _ hr => u1.t (hr))
theorem hj_X1_touchesOf_162 {ad : List Nat} {h : hp} (L : Lay TLx ad h) {N : Nat} {a0 : Nat} {x1 : Int32} {x2 : Int32} {x3v : Int32}  {δ : dp} : hs (J_X1_touchesOf_162 N h.1 a0 x1 x2 x3v δ) (fun r => HG true true ad δ r.2) := by
  unfold J_X1_touchesOf_162
  exact hs_some HG_r
theorem hl_X1_touchesOf_47 {ad : List Nat} {h : hp} (L : Lay TLx ad h) {N : Nat} {a0 : Nat} {x1 : Int32} {x2 : Int32}  : ∀ (n : Nat) (x3v : Int32) (x4v : Int32) (δ : dp), hs (L_X1_touchesOf_47 N h.1 a0 x1 x2 n x3v x4v δ) (fun r => HG true true ad δ r.2) := by
  intro n
  induction n with
  | zero => intro x3v x4v δ; unfold L_X1_touchesOf_47; exact hs_none
  | succ n ih =>
    intro x3v x4v δ
    unfold L_X1_touchesOf_47
    refine hs_ite (fun _ => ?_) (fun _ => ?_)
    · skip
      exact hj_X1_touchesOf_162 L
    · skip
      refine hs_ite (fun _ => ?_) (fun _ => ?_)
      · skip
        refine hs_biv (fun x_19 _ => ?_)
        refine hs_bind (hf_X1_look L) (fun r_21 u1' => ?_)
        have u1 : HG true true ad δ r_21 := u1'
        refine hs_ite (fun _ => ?_) (fun _ => ?_)
        · skip
          refine hs_ite (fun _ => ?_) (fun _ => ?_)
          · skip
            refine hs_bind (hf_X1_goOnPutting L) (fun r_24 u2' => ?_)
            have u2 : HG true true ad δ r_24.2 := u1.t (u2')
            refine hs_biv (fun x_25 _ => ?_)
            exact hs_mono (hj_X1_touchesOf_156 L ih) (fun _ hr => u2.t (hr))
          · skip
            refine hs_ite (fun _ => ?_) (fun _ => ?_)
            · skip
              refine hs_bind (hf_X1_goOnDropping L) (fun r_30 u3' => ?_)
              have u3 : HG true true ad δ r_30.2 := u1.t (u3')
              refine hs_biv (fun x_31 _ => ?_)
              exact hs_mono (hj_X1_touchesOf_156 L ih) (fun _ hr => u3.t (hr))
            · skip
              refine hs_ite (fun _ => ?_) (fun _ => ?_)
              · skip
                exact hs_mono (hj_X1_touchesOf_152 L ih) (fun _ hr => u1.t (hr))
              · skip
                refine hs_ite (fun _ => ?_) (fun _ => ?_)
                · skip
                  refine hs_bind (hf_X1_goOnUp L) (fun r_36 u4' => ?_)
                  have u4 : HG true true ad δ r_36.2 := u1.t (u4')
                  refine hs_biv (fun x_37 _ => ?_)
                  exact hs_mono (hj_X1_touchesOf_156 L ih) (fun _ hr => u4.t (hr))
                · skip
                  refine hs_ite (fun _ => ?_) (fun _ => ?_)
                  · skip
                    refine hs_bind (hf_X1_goOnDown L) (fun r_40 u5' => ?_)
                    have u5 : HG true true ad δ r_40.2 := u1.t (u5')
                    refine hs_biv (fun x_41 _ => ?_)
                    exact hs_mono (hj_X1_touchesOf_156 L ih) (fun _ hr => u5.t (hr))
                  · skip
                    exact hs_mono (hj_X1_touchesOf_152 L ih) (fun _ hr => u1.t (hr))
        · skip
          exact hs_some u1
      · skip
        exact hj_X1_touchesOf_162 L
theorem hf_X1_touchesOf {ad : List Nat} {h : hp} (L : Lay TLx ad h) {N : Nat} {a0 : Nat} {x1 : Int32} {x2 : Int32}  {δ : dp} : hs (D_X1_touchesOf N h.1 a0 x1 x2 δ) (fun r => HG true true ad δ r.2) := by
  unfold D_X1_touchesOf
  refine hs_bdv (fun δ_1 e1 => ?_)
  have u1 : HG true true ad δ δ_1 := HG.I HG_r e1 (by decide) (by decide)
  refine hs_ob (fun b_3 hb_3 => ?_)
  refine hs_bdv (fun δ_5 e2 => ?_)
  have u2 : HG true true ad δ δ_5 := HG.I u1 e2 (by decide) (by decide)
  refine hs_bdv (fun δ_7 e3 => ?_)
  have u3 : HG true true ad δ δ_7 := HG.I u2 e3 (by decide) (by decide)
  refine hs_ob (fun b_9 hb_9 => ?_)
  refine hs_bdv (fun δ_11 e4 => ?_)
  have u4 : HG true true ad δ δ_11 := HG.I u3 e4 (by decide) (by decide)
  refine hs_bdv (fun δ_13 e5 => ?_)
  have u5 : HG true true ad δ δ_13 := HG.I u4 e5 (by decide) (by decide)
  refine hs_bdv (fun δ_15 e6 => ?_)
  have u6 : HG true true ad δ δ_15 := HG.I u5 e6 (by decide) (by decide)
  exact hs_mono (hl_X1_touchesOf_47 L N 0 0 δ_15) (fun _ hr => u6.t (hr))
theorem hj_X3_touchesInRow_68 {ad : List Nat} {h : hp} (L : Lay TLx ad h) {N : Nat} {a0 : Nat} {x1 : Int32} {x2 : Int32} {kt25 : Int32 → Int32 → Int32 → Int32 → dp → Option (Int32 × dp)} {x3v : Int32} {x4v : Int32} {x5v : Int32} {x6v : Int32} (h_kt25 : ∀ (y0 : Int32) (y1 : Int32) (y2 : Int32) (y3 : Int32) (δ1 : dp), hs (kt25 y0 y1 y2 y3 δ1) (fun r => HG true true ad δ1 r.2)) {δ : dp} : hs (J_X3_touchesInRow_68 N h.1 a0 x1 x2 kt25 x3v x4v x5v x6v δ) (fun r => HG true true ad δ r.2) := by
  unfold J_X3_touchesInRow_68
  exact h_kt25 x3v x4v x5v x6v δ
theorem hj_X3_touchesInRow_170 {ad : List Nat} {h : hp} (L : Lay TLx ad h) {N : Nat} {a0 : Nat} {x1 : Int32} {x2 : Int32} {x4v : Int32}  {δ : dp} : hs (J_X3_touchesInRow_170 N h.1 a0 x1 x2 x4v δ) (fun r => HG true true ad δ r.2) := by
  unfold J_X3_touchesInRow_170
  exact hs_some HG_r
theorem hj_X3_touchesInRow_146 {ad : List Nat} {h : hp} (L : Lay TLx ad h) {N : Nat} {a0 : Nat} {x1 : Int32} {x2 : Int32} {x4v : Int32} {x5v : Int32} {x7v : Int32}  {δ : dp} : hs (J_X3_touchesInRow_146 N h.1 a0 x1 x2 x4v x5v x7v δ) (fun r => HG true true ad δ r.2) := by
  unfold J_X3_touchesInRow_146
  refine hs_ite (fun _ => ?_) (fun _ => ?_)
  · skip
    refine hs_ite (fun _ => ?_) (fun _ => ?_)
    · skip
      exact hj_X3_touchesInRow_170 L
    · skip
      refine hs_biv (fun x_11 _ => ?_)
      exact hj_X3_touchesInRow_170 L
  · skip
    exact hj_X3_touchesInRow_170 L
theorem hj_X3_touchesInRow_123 {ad : List Nat} {h : hp} (L : Lay TLx ad h) {N : Nat} {a0 : Nat} {x1 : Int32} {x2 : Int32} {x4v : Int32} {x5v : Int32} {x7v : Int32}  {δ : dp} : hs (J_X3_touchesInRow_123 N h.1 a0 x1 x2 x4v x5v x7v δ) (fun r => HG true true ad δ r.2) := by
  unfold J_X3_touchesInRow_123
  refine hs_ite (fun _ => ?_) (fun _ => ?_)
  · skip
    refine hs_ite (fun _ => ?_) (fun _ => ?_)
    · skip
      refine hs_biv (fun x_14 _ => ?_)
      exact hj_X3_touchesInRow_146 L
    · skip
      exact hj_X3_touchesInRow_146 L
  · skip
    exact hj_X3_touchesInRow_146 L
theorem hj_X3_touchesInRow_120 {ad : List Nat} {h : hp} (L : Lay TLx ad h) {N : Nat} {a0 : Nat} {x1 : Int32} {x2 : Int32} {x4v : Int32} {x5v : Int32} {x7v : Int32}  {δ : dp} : hs (J_X3_touchesInRow_120 N h.1 a0 x1 x2 x4v x5v x7v δ) (fun r => HG true true ad δ r.2) := by
  unfold J_X3_touchesInRow_120
  refine hs_biv (fun x_16 _ => ?_)
  exact hj_X3_touchesInRow_123 L
theorem hj_X3_touchesInRow_96 {ad : List Nat} {h : hp} (L : Lay TLx ad h) {N : Nat} {a0 : Nat} {x1 : Int32} {x2 : Int32} {xs0 : Int32} {x4v : Int32} {x5v : Int32}  {δ : dp} : hs (J_X3_touchesInRow_96 N h.1 a0 x1 x2 xs0 x4v x5v δ) (fun r => HG true true ad δ r.2) := by
  unfold J_X3_touchesInRow_96
  refine hs_ite (fun _ => ?_) (fun _ => ?_)
  · skip
    refine hs_ite (fun _ => ?_) (fun _ => ?_)
    · skip
      exact hj_X3_touchesInRow_123 L
    · skip
      exact hj_X3_touchesInRow_120 L
  · skip
    refine hs_ite (fun _ => ?_) (fun _ => ?_)
    · skip
      exact hj_X3_touchesInRow_123 L
    · skip
      exact hj_X3_touchesInRow_120 L
theorem hj_X3_touchesInRow_95 {ad : List Nat} {h : hp} (L : Lay TLx ad h) {N : Nat} {a0 : Nat} {x1 : Int32} {x2 : Int32} {x4v : Int32} {x5v : Int32}  {δ : dp} : hs (J_X3_touchesInRow_95 N h.1 a0 x1 x2 x4v x5v δ) (fun r => HG true true ad δ r.2) := by
  unfold J_X3_touchesInRow_95
  exact hj_X3_touchesInRow_96 L
theorem hl_X3_touchesInRow_25 {ad : List Nat} {h : hp} (L : Lay TLx ad h) {N : Nat} {a0 : Nat} {x1 : Int32} {x2 : Int32}  : ∀ (n : Nat) (x3v : Int32) (x4v : Int32) (x5v : Int32) (x6v : Int32) (δ : dp), hs (L_X3_touchesInRow_25 N h.1 a0 x1 x2 n x3v x4v x5v x6v δ) (fun r => HG true true ad δ r.2) := by
  intro n
  induction n with
  | zero => intro x3v x4v x5v x6v δ; unfold L_X3_touchesInRow_25; exact hs_none
  | succ n ih =>
    intro x3v x4v x5v x6v δ
    unfold L_X3_touchesInRow_25
    refine hs_ite (fun _ => ?_) (fun _ => ?_)
    · skip
      refine hs_ite (fun _ => ?_) (fun _ => ?_)
      · skip
        exact hj_X3_touchesInRow_95 L
      · skip
        refine hs_ob (fun b_19 hb_19 => ?_)
        refine hs_gd (fun gz1 => ?_)
        refine hs_ite (fun _ => ?_) (fun _ => ?_)
        · skip
          exact hj_X3_touchesInRow_96 L
        · skip
          exact hj_X3_touchesInRow_95 L
    · skip
      refine hs_biv (fun x_22 _ => ?_)
      refine hs_biv (fun x_24 _ => ?_)
      refine hs_ob (fun b_26 hb_26 => ?_)
      refine hs_gd (fun gz2 => ?_)
      refine hs_ite (fun _ => ?_) (fun _ => ?_)
      · skip
        exact hj_X3_touchesInRow_68 L ih
      · skip
        refine hs_biv (fun x_29 _ => ?_)
        exact hj_X3_touchesInRow_68 L ih
theorem hj_X3_touchesInRow_12 {ad : List Nat} {h : hp} (L : Lay TLx ad h) {N : Nat} {a0 : Nat} {x1 : Int32} {x2 : Int32} {xs0 : Int32}  {δ : dp} : hs (J_X3_touchesInRow_12 N h.1 a0 x1 x2 xs0 δ) (fun r => HG true true ad δ r.2) := by
  unfold J_X3_touchesInRow_12
  refine hs_biv (fun x_2 _ => ?_)
  exact hl_X3_touchesInRow_25 L N xs0 0 0 x_2 δ
theorem hf_X3_touchesInRow {ad : List Nat} {h : hp} (L : Lay TLx ad h) {N : Nat} {a0 : Nat} {x1 : Int32} {x2 : Int32}  {δ : dp} : hs (D_X3_touchesInRow N h.1 a0 x1 x2 δ) (fun r => HG true true ad δ r.2) := by
  unfold D_X3_touchesInRow
  refine hs_ite (fun _ => ?_) (fun _ => ?_)
  · skip
    exact hj_X3_touchesInRow_12 L
  · skip
    exact hj_X3_touchesInRow_12 L
theorem hf_X3_wordOf {ad : List Nat} {h : hp} (L : Lay TLx ad h) {N : Nat} {x0 : Int32}  {δ : dp} : hs (D_X3_wordOf N h.1 x0 δ) (fun r => HG true true ad δ r.2) := by
  unfold D_X3_wordOf
  exact hs_some HG_r
theorem hj_X3_touchesInWords_54 {ad : List Nat} {h : hp} (L : Lay TLx ad h) {N : Nat} {a0 : Nat} {x1 : Int32} {x2 : Int32} {x3 : Int32} {xs0 : Int32}  {δ : dp} : hs (J_X3_touchesInWords_54 N h.1 a0 x1 x2 x3 xs0 δ) (fun r => HG true true ad δ r.2) := by
  unfold J_X3_touchesInWords_54
  exact hs_some HG_r
theorem hj_X3_touchesInWords_42 {ad : List Nat} {h : hp} (L : Lay TLx ad h) {N : Nat} {a0 : Nat} {x1 : Int32} {x2 : Int32} {x3 : Int32} {xs0 : Int32}  {δ : dp} : hs (J_X3_touchesInWords_42 N h.1 a0 x1 x2 x3 xs0 δ) (fun r => HG true true ad δ r.2) := by
  unfold J_X3_touchesInWords_42
  refine hs_bind (hf_X3_wordOf L) (fun r_13 u1' => ?_)
  have u1 : HG true true ad δ r_13.2 := u1'
  refine hs_bind (hf_X3_wordOf L) (fun r_14 u2' => ?_)
  have u2 : HG true true ad δ r_14.2 := u1.t (u2')
  exact hs_mono (hj_X3_touchesInWords_54 L) (fun _ hr => u2.t (hr))
theorem hj_X3_touchesInWords_99 {ad : List Nat} {h : hp} (L : Lay TLx ad h) {N : Nat} {a0 : Nat} {x1 : Int32} {x2 : Int32} {x3 : Int32} {xs0 : Int32}  {δ : dp} : hs (J_X3_touchesInWords_99 N h.1 a0 x1 x2 x3 xs0 δ) (fun r => HG true true ad δ r.2) := by
  unfold J_X3_touchesInWords_99
  exact hs_some HG_r
theorem hj_X3_touchesInWords_93 {ad : List Nat} {h : hp} (L : Lay TLx ad h) {N : Nat} {a0 : Nat} {x1 : Int32} {x2 : Int32} {x3 : Int32} {xs0 : Int32} {xs1 : Int32}  {δ : dp} : hs (J_X3_touchesInWords_93 N h.1 a0 x1 x2 x3 xs0 xs1 δ) (fun r => HG true true ad δ r.2) := by
  unfold J_X3_touchesInWords_93
  refine hs_bind (hf_X3_wordOf L) (fun r_9 u1' => ?_)
  have u1 : HG true true ad δ r_9.2 := u1'
  exact hs_mono (hj_X3_touchesInWords_99 L) (fun _ hr => u1.t (hr))
theorem hf_X3_touchesInWords {ad : List Nat} {h : hp} (L : Lay TLx ad h) {N : Nat} {a0 : Nat} {x1 : Int32} {x2 : Int32} {x3 : Int32}  {δ : dp} : hs (D_X3_touchesInWords N h.1 a0 x1 x2 x3 δ) (fun r => HG true true ad δ r.2) := by
  unfold D_X3_touchesInWords
  refine hs_biv (fun x_1 _ => ?_)
  refine hs_ite (fun _ => ?_) (fun _ => ?_)
  · skip
    refine hs_bind (hf_X3_above L) (fun r_10 u1' => ?_)
    have u1 : HG true true ad δ r_10.2 := u1'
    refine hs_ite (fun _ => ?_) (fun _ => ?_)
    · skip
      refine hs_ite (fun _ => ?_) (fun _ => ?_)
      · skip
        exact hs_mono (hj_X3_touchesInWords_42 L) (fun _ hr => u1.t (hr))
      · skip
        exact hs_mono (hj_X3_touchesInWords_42 L) (fun _ hr => u1.t (hr))
    · skip
      exact hs_mono (hj_X3_touchesInWords_54 L) (fun _ hr => u1.t (hr))
  · skip
    refine hs_ite (fun _ => ?_) (fun _ => ?_)
    · skip
      refine hs_bind (hf_X3_below L) (fun r_5 u2' => ?_)
      have u2 : HG true true ad δ r_5.2 := u2'
      refine hs_ite (fun _ => ?_) (fun _ => ?_)
      · skip
        refine hs_bind (hf_X3_wordOf L) (fun r_7 u3' => ?_)
        have u3 : HG true true ad δ r_7.2 := u2.t (u3')
        refine hs_ite (fun _ => ?_) (fun _ => ?_)
        · skip
          exact hs_mono (hj_X3_touchesInWords_93 L) (fun _ hr => u3.t (hr))
        · skip
          exact hs_mono (hj_X3_touchesInWords_93 L) (fun _ hr => u3.t (hr))
      · skip
        exact hs_mono (hj_X3_touchesInWords_99 L) (fun _ hr => u2.t (hr))
    · skip
      exact hs_some HG_r
theorem hj_X11_touches_99 {ad : List Nat} {h : hp} (L : Lay TLx ad h) {N : Nat} {a0 : Nat} {x1 : Int32} {x2 : Int32} {x3 : Int32} {x4 : Int32} {xs0 : Int32}  {δ : dp} : hs (J_X11_touches_99 N h.1 a0 x1 x2 x3 x4 xs0 δ) (fun r => HG true true ad δ r.2) := by
  unfold J_X11_touches_99
  exact hs_some HG_r
theorem hj_X11_touches_35 {ad : List Nat} {h : hp} (L : Lay TLx ad h) {N : Nat} {a0 : Nat} {x1 : Int32} {x2 : Int32} {x3 : Int32} {x4 : Int32} {xs0 : Int32} {as1 : Nat} (k11_as1 : q_K h.1 as1 = 11) {δ : dp} : hs (J_X11_touches_35 N h.1 a0 x1 x2 x3 x4 xs0 as1 δ) (fun r => HG true false ad δ r.2) := by
  unfold J_X11_touches_35
  refine hs_bxv (hf_X11_need L k11_as1) (fun _ _ u1' => u1') (fun δ_8 u1' => ?_)
  have u1 : HG true false ad δ δ_8 := u1'
  refine hs_ite (fun _ => ?_) (fun _ => ?_)
  · skip
    refine hs_ob (fun b_21 hb_21 => ?_)
    refine hs_gd (fun gz2 => ?_)
    refine hs_ob (fun b_23 hb_23 => ?_)
    refine hs_ob (fun b_25 hb_25 => ?_)
    refine hs_bind (hf_X1_touchesOf L) (fun r_27 u3' => ?_)
    have u3 : HG true false ad δ r_27.2 := u1.t ((u3').w (by decide) (by decide))
    exact hs_some u3
  · skip
    refine hs_ob (fun b_10 hb_10 => ?_)
    refine hs_gd (fun gz4 => ?_)
    refine hs_ob (fun b_12 hb_12 => ?_)
    refine hs_ob (fun b_14 hb_14 => ?_)
    refine hs_ite (fun _ => ?_) (fun _ => ?_)
    · skip
      refine hs_ob (fun b_18 hb_18 => ?_)
      refine hs_bind (hf_X3_touchesInWords L) (fun r_20 u5' => ?_)
      have u5 : HG true false ad δ r_20.2 := u1.t ((u5').w (by decide) (by decide))
      exact hs_mono (hj_X11_touches_99 L) (fun _ hr => u5.t ((hr).w (by decide) (by decide)))
    · skip
      refine hs_bind (hf_X3_touchesInRow L) (fun r_17 u6' => ?_)
      have u6 : HG true false ad δ r_17.2 := u1.t ((u6').w (by decide) (by decide))
      exact hs_mono (hj_X11_touches_99 L) (fun _ hr => u6.t ((hr).w (by decide) (by decide)))
theorem hj_X11_touches_34 {ad : List Nat} {h : hp} (L : Lay TLx ad h) {N : Nat} {a0 : Nat} {x1 : Int32} {x2 : Int32} {x3 : Int32} {x4 : Int32} {as0 : Nat} (k11_as0 : q_K h.1 as0 = 11) {δ : dp} : hs (J_X11_touches_34 N h.1 a0 x1 x2 x3 x4 as0 δ) (fun r => HG true false ad δ r.2) := by
  unfold J_X11_touches_34
  exact hj_X11_touches_35 L k11_as0
theorem hf_X11_touches {ad : List Nat} {h : hp} (L : Lay TLx ad h) {N : Nat} {a0 : Nat} {x1 : Int32} {x2 : Int32} {x3 : Int32} {x4 : Int32} (k11_a0 : q_K h.1 a0 = 11) {δ : dp} : hs (D_X11_touches N h.1 a0 x1 x2 x3 x4 δ) (fun r => HG true false ad δ r.2) := by
  unfold D_X11_touches
  refine hs_bxv (hf_X11_needHouse L k11_a0) (fun _ _ u1' => u1') (fun δ_3 u1' => ?_)
  have u1 : HG true false ad δ δ_3 := u1'
  refine hs_bind (hf_X11_isCall L) (fun r_4 u2' => ?_)
  have u2 : HG true false ad δ r_4.2 := u1.t ((u2').w (by decide) (by decide))
  refine hs_ite (fun _ => ?_) (fun _ => ?_)
  · skip
    exact hs_mono (hj_X11_touches_34 L k11_a0) (fun _ hr => u2.t (hr))
  · skip
    refine hs_bind (hf_X11_mayAsk L) (fun r_28 u3' => ?_)
    have u3 : HG true false ad δ r_28.2 := u2.t ((u3').w (by decide) (by decide))
    refine hs_ite (fun _ => ?_) (fun _ => ?_)
    · skip
      exact hs_mono (hj_X11_touches_34 L k11_a0) (fun _ hr => u3.t (hr))
    · skip
      refine hs_bind (hf_X11_isKind L) (fun r_30 u4' => ?_)
      have u4 : HG true false ad δ r_30.2 := u3.t ((u4').w (by decide) (by decide))
      refine hs_ite (fun _ => ?_) (fun _ => ?_)
      · skip
        exact hs_mono (hj_X11_touches_34 L k11_a0) (fun _ hr => u4.t (hr))
      · skip
        exact hs_mono (hj_X11_touches_35 L k11_a0) (fun _ hr => u4.t (hr))
theorem hj_X1_cellsOf_27 {ad : List Nat} {h : hp} (L : Lay TLx ad h) {N : Nat} {T : Nat → Int32 → Int32 → Int32 → Int32 → dp → Option (Int32 × dp)} {a0 : Nat} {x1 : Int32} {x2 : Int32} {x3 : Int32} {x4 : Int32} {xs0 : Int32} (h_T : ∀ (y0 : Nat) (y1 : Int32) (y2 : Int32) (y3 : Int32) (y4 : Int32) (δ1 : dp), hs (T y0 y1 y2 y3 y4 δ1) (fun r => HG true true ad δ1 r.2)) {δ : dp} : hs (J_X1_cellsOf_27 N h.1 T a0 x1 x2 x3 x4 xs0 δ) (fun r => HG true true ad δ r.2) := by
  unfold J_X1_cellsOf_27
  exact hs_some HG_r
theorem hj_X1_cellsOf_17 {ad : List Nat} {h : hp} (L : Lay TLx ad h) {N : Nat} {T : Nat → Int32 → Int32 → Int32 → Int32 → dp → Option (Int32 × dp)} {a0 : Nat} {x1 : Int32} {x2 : Int32} {x3 : Int32} {x4 : Int32} (h_T : ∀ (y0 : Nat) (y1 : Int32) (y2 : Int32) (y3 : Int32) (y4 : Int32) (δ1 : dp), hs (T y0 y1 y2 y3 y4 δ1) (fun r => HG true true ad δ1 r.2)) {δ : dp} : hs (J_X1_cellsOf_17 N h.1 T a0 x1 x2 x3 x4 δ) (fun r => HG true true ad δ r.2) := by
  unfold J_X1_cellsOf_17
  refine hs_ite (fun _ => ?_) (fun _ => ?_)
  · skip
    exact hj_X1_cellsOf_27 L h_T
  · skip
    exact hj_X1_cellsOf_27 L h_T
theorem hj_X1_cellsOf_244 {ad : List Nat} {h : hp} (L : Lay TLx ad h) {N : Nat} {T : Nat → Int32 → Int32 → Int32 → Int32 → dp → Option (Int32 × dp)} {a0 : Nat} {x1 : Int32} {x2 : Int32} {x3 : Int32} {x4 : Int32} {kt163 : Int32 → Int32 → Int32 → Int32 → Int32 → dp → Option (Int32 × dp)} {x7v : Int32} {x8v : Int32} {x9v : Int32} {x10v : Int32} {x11v : Int32} (h_T : ∀ (y0 : Nat) (y1 : Int32) (y2 : Int32) (y3 : Int32) (y4 : Int32) (δ1 : dp), hs (T y0 y1 y2 y3 y4 δ1) (fun r => HG true true ad δ1 r.2)) (h_kt163 : ∀ (y0 : Int32) (y1 : Int32) (y2 : Int32) (y3 : Int32) (y4 : Int32) (δ1 : dp), hs (kt163 y0 y1 y2 y3 y4 δ1) (fun r => HG true true ad δ1 r.2)) {δ : dp} : hs (J_X1_cellsOf_244 N h.1 T a0 x1 x2 x3 x4 kt163 x7v x8v x9v x10v x11v δ) (fun r => HG true true ad δ r.2) := by
  unfold J_X1_cellsOf_244
  refine hs_biv (fun x_19 _ => ?_)
  exact h_kt163 x7v x8v x9v x10v x_19 δ
theorem hj_X1_cellsOf_213 {ad : List Nat} {h : hp} (L : Lay TLx ad h) {N : Nat} {T : Nat → Int32 → Int32 → Int32 → Int32 → dp → Option (Int32 × dp)} {a0 : Nat} {x1 : Int32} {x2 : Int32} {x3 : Int32} {x4 : Int32} {kt163 : Int32 → Int32 → Int32 → Int32 → Int32 → dp → Option (Int32 × dp)} {xs0 : Int32} {x7v : Int32} {x8v : Int32} {x9v : Int32} {x10v : Int32} {x11v : Int32} (h_T : ∀ (y0 : Nat) (y1 : Int32) (y2 : Int32) (y3 : Int32) (y4 : Int32) (δ1 : dp), hs (T y0 y1 y2 y3 y4 δ1) (fun r => HG true true ad δ1 r.2)) (h_kt163 : ∀ (y0 : Int32) (y1 : Int32) (y2 : Int32) (y3 : Int32) (y4 : Int32) (δ1 : dp), hs (kt163 y0 y1 y2 y3 y4 δ1) (fun r => HG true true ad δ1 r.2)) {δ : dp} : hs (J_X1_cellsOf_213 N h.1 T a0 x1 x2 x3 x4 kt163 xs0 x7v x8v x9v x10v x11v δ) (fun r => HG true true ad δ r.2) := by
  unfold J_X1_cellsOf_213
  refine hs_ite (fun _ => ?_) (fun _ => ?_)
  · skip
    exact hj_X1_cellsOf_244 L h_T h_kt163
  · skip
    refine hs_bind (h_T a0 x10v (x11v + (1 : Int32)) x3 x8v δ) (fun r_21 u1' => ?_)
    have u1 : HG true true ad δ r_21.2 := u1'
    refine hs_biv (fun x_22 _ => ?_)
    refine hs_biv (fun x_24 _ => ?_)
    exact hs_mono (hj_X1_cellsOf_244 L h_T h_kt163) (fun _ hr => u1.t (hr))
theorem hj_X1_cellsOf_208 {ad : List Nat} {h : hp} (L : Lay TLx ad h) {N : Nat} {T : Nat → Int32 → Int32 → Int32 → Int32 → dp → Option (Int32 × dp)} {a0 : Nat} {x1 : Int32} {x2 : Int32} {x3 : Int32} {x4 : Int32} {kt163 : Int32 → Int32 → Int32 → Int32 → Int32 → dp → Option (Int32 × dp)} {x7v : Int32} {x8v : Int32} {x9v : Int32} {x10v : Int32} {x11v : Int32} (h_T : ∀ (y0 : Nat) (y1 : Int32) (y2 : Int32) (y3 : Int32) (y4 : Int32) (δ1 : dp), hs (T y0 y1 y2 y3 y4 δ1) (fun r => HG true true ad δ1 r.2)) (h_kt163 : ∀ (y0 : Int32) (y1 : Int32) (y2 : Int32) (y3 : Int32) (y4 : Int32) (δ1 : dp), hs (kt163 y0 y1 y2 y3 y4 δ1) (fun r => HG true true ad δ1 r.2)) {δ : dp} : hs (J_X1_cellsOf_208 N h.1 T a0 x1 x2 x3 x4 kt163 x7v x8v x9v x10v x11v δ) (fun r => HG true true ad δ r.2) := by
  unfold J_X1_cellsOf_208
  exact hj_X1_cellsOf_213 L h_T h_kt163
theorem hl_X1_cellsOf_163 {ad : List Nat} {h : hp} (L : Lay TLx ad h) {N : Nat} {T : Nat → Int32 → Int32 → Int32 → Int32 → dp → Option (Int32 × dp)} {a0 : Nat} {x1 : Int32} {x2 : Int32} {x3 : Int32} {x4 : Int32} (h_T : ∀ (y0 : Nat) (y1 : Int32) (y2 : Int32) (y3 : Int32) (y4 : Int32) (δ1 : dp), hs (T y0 y1 y2 y3 y4 δ1) (fun r => HG true true ad δ1 r.2)) : ∀ (n : Nat) (x7v : Int32) (x8v : Int32) (x9v : Int32) (x10v : Int32) (x11v : Int32) (δ : dp), hs (L_X1_cellsOf_163 N h.1 T a0 x1 x2 x3 x4 n x7v x8v x9v x10v x11v δ) (fun r => HG true true ad δ r.2) := by
  intro n
  induction n with
  | zero => intro x7v x8v x9v x10v x11v δ; unfold L_X1_cellsOf_163; exact hs_none
  | succ n ih =>
    intro x7v x8v x9v x10v x11v δ
    unfold L_X1_cellsOf_163
    refine hs_ite (fun _ => ?_) (fun _ => ?_)
    · skip
      exact hs_some HG_r
    · skip
      refine hs_ite (fun _ => ?_) (fun _ => ?_)
      · skip
        exact hj_X1_cellsOf_208 L h_T ih
      · skip
        refine hs_ob (fun b_26 hb_26 => ?_)
        refine hs_gd (fun gz1 => ?_)
        refine hs_ob (fun b_28 hb_28 => ?_)
        refine hs_gd (fun gz2 => ?_)
        refine hs_ite (fun _ => ?_) (fun _ => ?_)
        · skip
          exact hj_X1_cellsOf_213 L h_T ih
        · skip
          exact hj_X1_cellsOf_208 L h_T ih
theorem hj_X1_cellsOf_123 {ad : List Nat} {h : hp} (L : Lay TLx ad h) {N : Nat} {T : Nat → Int32 → Int32 → Int32 → Int32 → dp → Option (Int32 × dp)} {a0 : Nat} {x1 : Int32} {x2 : Int32} {x3 : Int32} {x4 : Int32} {x6v : Int32} {x7v : Int32} (h_T : ∀ (y0 : Nat) (y1 : Int32) (y2 : Int32) (y3 : Int32) (y4 : Int32) (δ1 : dp), hs (T y0 y1 y2 y3 y4 δ1) (fun r => HG true true ad δ1 r.2)) {δ : dp} : hs (J_X1_cellsOf_123 N h.1 T a0 x1 x2 x3 x4 x6v x7v δ) (fun r => HG true true ad δ r.2) := by
  unfold J_X1_cellsOf_123
  refine hs_ob (fun b_10 hb_10 => ?_)
  refine hs_bind (hf_X5_lowerBits L) (fun r_12 u1' => ?_)
  have u1 : HG true true ad δ r_12.2 := u1'
  refine hs_bind (h_T a0 x6v x7v (x3 + r_12.1) (x4 - r_12.1) r_12.2) (fun r_13 u2' => ?_)
  have u2 : HG true true ad δ r_13.2 := u1.t (u2')
  refine hs_biv (fun x_14 _ => ?_)
  exact hs_mono (hl_X1_cellsOf_163 L h_T N x7v r_12.1 x_14 x6v x6v r_13.2) (fun _ hr => u2.t (hr))
theorem hl_X1_cellsOf_80 {ad : List Nat} {h : hp} (L : Lay TLx ad h) {N : Nat} {T : Nat → Int32 → Int32 → Int32 → Int32 → dp → Option (Int32 × dp)} {a0 : Nat} {x1 : Int32} {x2 : Int32} {x3 : Int32} {x4 : Int32} (h_T : ∀ (y0 : Nat) (y1 : Int32) (y2 : Int32) (y3 : Int32) (y4 : Int32) (δ1 : dp), hs (T y0 y1 y2 y3 y4 δ1) (fun r => HG true true ad δ1 r.2)) : ∀ (n : Nat) (x5v : Int32) (x6v : Int32) (x7v : Int32) (δ : dp), hs (L_X1_cellsOf_80 N h.1 T a0 x1 x2 x3 x4 n x5v x6v x7v δ) (fun r => HG true true ad δ r.2) := by
  intro n
  induction n with
  | zero => intro x5v x6v x7v δ; unfold L_X1_cellsOf_80; exact hs_none
  | succ n ih =>
    intro x5v x6v x7v δ
    unfold L_X1_cellsOf_80
    refine hs_ite (fun _ => ?_) (fun _ => ?_)
    · skip
      exact hj_X1_cellsOf_123 L h_T
    · skip
      refine hs_ob (fun b_31 hb_31 => ?_)
      refine hs_gd (fun gz1 => ?_)
      refine hs_ob (fun b_33 hb_33 => ?_)
      refine hs_gd (fun gz2 => ?_)
      refine hs_ite (fun _ => ?_) (fun _ => ?_)
      · skip
        refine hs_biv (fun x_36 _ => ?_)
        exact ih x5v x6v x_36 δ
      · skip
        exact hj_X1_cellsOf_123 L h_T
theorem hj_X1_cellsOf_77 {ad : List Nat} {h : hp} (L : Lay TLx ad h) {N : Nat} {T : Nat → Int32 → Int32 → Int32 → Int32 → dp → Option (Int32 × dp)} {a0 : Nat} {x1 : Int32} {x2 : Int32} {x3 : Int32} {x4 : Int32} {x5v : Int32} {x6v : Int32} (h_T : ∀ (y0 : Nat) (y1 : Int32) (y2 : Int32) (y3 : Int32) (y4 : Int32) (δ1 : dp), hs (T y0 y1 y2 y3 y4 δ1) (fun r => HG true true ad δ1 r.2)) {δ : dp} : hs (J_X1_cellsOf_77 N h.1 T a0 x1 x2 x3 x4 x5v x6v δ) (fun r => HG true true ad δ r.2) := by
  unfold J_X1_cellsOf_77
  exact hl_X1_cellsOf_80 L h_T N x5v x6v x2 δ
theorem hl_X1_cellsOf_39 {ad : List Nat} {h : hp} (L : Lay TLx ad h) {N : Nat} {T : Nat → Int32 → Int32 → Int32 → Int32 → dp → Option (Int32 × dp)} {a0 : Nat} {x1 : Int32} {x2 : Int32} {x3 : Int32} {x4 : Int32} (h_T : ∀ (y0 : Nat) (y1 : Int32) (y2 : Int32) (y3 : Int32) (y4 : Int32) (δ1 : dp), hs (T y0 y1 y2 y3 y4 δ1) (fun r => HG true true ad δ1 r.2)) : ∀ (n : Nat) (x5v : Int32) (x6v : Int32) (δ : dp), hs (L_X1_cellsOf_39 N h.1 T a0 x1 x2 x3 x4 n x5v x6v δ) (fun r => HG true true ad δ r.2) := by
  intro n
  induction n with
  | zero => intro x5v x6v δ; unfold L_X1_cellsOf_39; exact hs_none
  | succ n ih =>
    intro x5v x6v δ
    unfold L_X1_cellsOf_39
    refine hs_ite (fun _ => ?_) (fun _ => ?_)
    · skip
      exact hj_X1_cellsOf_77 L h_T
    · skip
      refine hs_ob (fun b_38 hb_38 => ?_)
      refine hs_gd (fun gz1 => ?_)
      refine hs_ob (fun b_40 hb_40 => ?_)
      refine hs_gd (fun gz2 => ?_)
      refine hs_ite (fun _ => ?_) (fun _ => ?_)
      · skip
        refine hs_biv (fun x_43 _ => ?_)
        exact ih x5v x_43 δ
      · skip
        exact hj_X1_cellsOf_77 L h_T
theorem hb_X1_cellsOf {ad : List Nat} {h : hp} (L : Lay TLx ad h) {N : Nat} {T : Nat → Int32 → Int32 → Int32 → Int32 → dp → Option (Int32 × dp)} {a0 : Nat} {x1 : Int32} {x2 : Int32} {x3 : Int32} {x4 : Int32} (h_T : ∀ (y0 : Nat) (y1 : Int32) (y2 : Int32) (y3 : Int32) (y4 : Int32) (δ1 : dp), hs (T y0 y1 y2 y3 y4 δ1) (fun r => HG true true ad δ1 r.2)) {δ : dp} : hs (B_X1_cellsOf N h.1 T a0 x1 x2 x3 x4 δ) (fun r => HG true true ad δ r.2) := by
  unfold B_X1_cellsOf
  refine hs_ite (fun _ => ?_) (fun _ => ?_)
  · skip
    exact hj_X1_cellsOf_17 L h_T
  · skip
    refine hs_ob (fun b_3 hb_3 => ?_)
    refine hs_ite (fun _ => ?_) (fun _ => ?_)
    · skip
      refine hs_biv (fun x_6 _ => ?_)
      exact hl_X1_cellsOf_39 L h_T N x_6 x1 δ
    · skip
      exact hj_X1_cellsOf_17 L h_T
theorem he_X1_cellsOf {ad : List Nat} {h : hp} (L : Lay TLx ad h) {N : Nat} : ∀ (k : Nat) (a0 : Nat) (x1 : Int32) (x2 : Int32) (x3 : Int32) (x4 : Int32) (δ : dp), hs (E_X1_cellsOf N h.1 k a0 x1 x2 x3 x4 δ) (fun r => HG true true ad δ r.2) := by
  intro k
  induction k with
  | zero => intro a0 x1 x2 x3 x4 δ ; unfold E_X1_cellsOf; exact hs_none
  | succ k ih =>
    intro a0 x1 x2 x3 x4 δ 
    unfold E_X1_cellsOf
    exact hb_X1_cellsOf L  ih
theorem hf_X1_cellsOf {ad : List Nat} {h : hp} (L : Lay TLx ad h) {N : Nat} {a0 : Nat} {x1 : Int32} {x2 : Int32} {x3 : Int32} {x4 : Int32}  {δ : dp} : hs (D_X1_cellsOf N h.1 a0 x1 x2 x3 x4 δ) (fun r => HG true true ad δ r.2) := by
  unfold D_X1_cellsOf
  exact he_X1_cellsOf L 20 a0 x1 x2 x3 x4 δ
theorem hf_X1_allCells {ad : List Nat} {h : hp} (L : Lay TLx ad h) {N : Nat} {a0 : Nat}  {δ : dp} : hs (D_X1_allCells N h.1 a0 δ) (fun r => HG true true ad δ r.2) := by
  unfold D_X1_allCells
  refine hs_ob (fun b_1 hb_1 => ?_)
  refine hs_ob (fun b_3 hb_3 => ?_)
  refine hs_bind (hf_X1_cellsOf L) (fun r_5 u1' => ?_)
  have u1 : HG true true ad δ r_5.2 := u1'
  exact hs_some u1
theorem hj_X11_size_62 {ad : List Nat} {h : hp} (L : Lay TLx ad h) {N : Nat} {a0 : Nat} {x1 : Int32} {x2 : Int32} {xs0 : Int32}  {δ : dp} : hs (J_X11_size_62 N h.1 a0 x1 x2 xs0 δ) (fun r => HG true true ad δ r.2) := by
  unfold J_X11_size_62
  exact hs_some HG_r
theorem hf_X11_size {ad : List Nat} {h : hp} (L : Lay TLx ad h) {N : Nat} {a0 : Nat} {x1 : Int32} {x2 : Int32} (k11_a0 : q_K h.1 a0 = 11) {δ : dp} : hs (D_X11_size N h.1 a0 x1 x2 δ) (fun r => HG true false ad δ r.2) := by
  unfold D_X11_size
  refine hs_bxv (hf_X11_needHouse L k11_a0) (fun _ _ u1' => u1') (fun δ_3 u1' => ?_)
  have u1 : HG true false ad δ δ_3 := u1'
  refine hs_bind (hf_X11_isKind L) (fun r_4 u2' => ?_)
  have u2 : HG true false ad δ r_4.2 := u1.t ((u2').w (by decide) (by decide))
  refine hs_bxv (hf_X11_need L k11_a0) (fun _ _ u3' => u2.t (u3')) (fun δ_7 u3' => ?_)
  have u3 : HG true false ad δ δ_7 := u2.t (u3')
  refine hs_ite (fun _ => ?_) (fun _ => ?_)
  · skip
    refine hs_ob (fun b_20 hb_20 => ?_)
    refine hs_gd (fun gz4 => ?_)
    refine hs_ob (fun b_22 hb_22 => ?_)
    refine hs_ob (fun b_24 hb_24 => ?_)
    refine hs_bind (hf_X1_allCells L) (fun r_26 u5' => ?_)
    have u5 : HG true false ad δ r_26.2 := u3.t ((u5').w (by decide) (by decide))
    exact hs_some u5
  · skip
    refine hs_ite (fun _ => ?_) (fun _ => ?_)
    · skip
      refine hs_ob (fun b_16 hb_16 => ?_)
      refine hs_bind (hf_X5_greatest L) (fun r_18 u6' => ?_)
      have u6 : HG true false ad δ r_18.2 := u3.t ((u6').w (by decide) (by decide))
      refine hs_bind (hf_X3_wordOf L) (fun r_19 u7' => ?_)
      have u7 : HG true false ad δ r_19.2 := u6.t ((u7').w (by decide) (by decide))
      exact hs_mono (hj_X11_size_62 L) (fun _ hr => u7.t ((hr).w (by decide) (by decide)))
    · skip
      refine hs_ob (fun b_10 hb_10 => ?_)
      refine hs_gd (fun gz8 => ?_)
      refine hs_ob (fun b_12 hb_12 => ?_)
      refine hs_ob (fun b_14 hb_14 => ?_)
      exact hs_mono (hj_X11_size_62 L) (fun _ hr => u3.t ((hr).w (by decide) (by decide)))
theorem hj_X5_mostTouches_27 {ad : List Nat} {h : hp} (L : Lay TLx ad h) {N : Nat} {T : Nat → Int32 → Int32 → Int32 → dp → Option (Int32 × dp)} {a0 : Nat} {x1 : Int32} {x2 : Int32} {x3 : Int32} (h_T : ∀ (y0 : Nat) (y1 : Int32) (y2 : Int32) (y3 : Int32) (δ1 : dp), hs (T y0 y1 y2 y3 δ1) (fun r => HG true true ad δ1 r.2)) {δ : dp} : hs (J_X5_mostTouches_27 N h.1 T a0 x1 x2 x3 δ) (fun r => HG true true ad δ r.2) := by
  unfold J_X5_mostTouches_27
  exact hs_some HG_r
theorem hj_X5_mostTouches_115 {ad : List Nat} {h : hp} (L : Lay TLx ad h) {N : Nat} {T : Nat → Int32 → Int32 → Int32 → dp → Option (Int32 × dp)} {a0 : Nat} {x1 : Int32} {x2 : Int32} {x3 : Int32} {xs0 : Int32} {x6v : Int32} {x7v : Int32} (h_T : ∀ (y0 : Nat) (y1 : Int32) (y2 : Int32) (y3 : Int32) (δ1 : dp), hs (T y0 y1 y2 y3 δ1) (fun r => HG true true ad δ1 r.2)) {δ : dp} : hs (J_X5_mostTouches_115 N h.1 T a0 x1 x2 x3 xs0 x6v x7v δ) (fun r => HG true true ad δ r.2) := by
  unfold J_X5_mostTouches_115
  refine hs_bind (hf_J9_max_7cf53 L) (fun r_16 u1' => ?_)
  have u1 : HG true true ad δ r_16.2 := u1'
  exact hs_some u1
theorem hj_X5_mostTouches_97 {ad : List Nat} {h : hp} (L : Lay TLx ad h) {N : Nat} {T : Nat → Int32 → Int32 → Int32 → dp → Option (Int32 × dp)} {a0 : Nat} {x1 : Int32} {x2 : Int32} {x3 : Int32} {x6v : Int32} {x7v : Int32} (h_T : ∀ (y0 : Nat) (y1 : Int32) (y2 : Int32) (y3 : Int32) (δ1 : dp), hs (T y0 y1 y2 y3 δ1) (fun r => HG true true ad δ1 r.2)) {δ : dp} : hs (J_X5_mostTouches_97 N h.1 T a0 x1 x2 x3 x6v x7v δ) (fun r => HG true true ad δ r.2) := by
  unfold J_X5_mostTouches_97
  refine hs_ite (fun _ => ?_) (fun _ => ?_)
  · skip
    exact hj_X5_mostTouches_115 L h_T
  · skip
    refine hs_ite (fun _ => ?_) (fun _ => ?_)
    · skip
      exact hj_X5_mostTouches_115 L h_T
    · skip
      exact hj_X5_mostTouches_115 L h_T
theorem hj_X5_mostTouches_94 {ad : List Nat} {h : hp} (L : Lay TLx ad h) {N : Nat} {T : Nat → Int32 → Int32 → Int32 → dp → Option (Int32 × dp)} {a0 : Nat} {x1 : Int32} {x2 : Int32} {x3 : Int32} {x6v : Int32} {x7v : Int32} (h_T : ∀ (y0 : Nat) (y1 : Int32) (y2 : Int32) (y3 : Int32) (δ1 : dp), hs (T y0 y1 y2 y3 δ1) (fun r => HG true true ad δ1 r.2)) {δ : dp} : hs (J_X5_mostTouches_94 N h.1 T a0 x1 x2 x3 x6v x7v δ) (fun r => HG true true ad δ r.2) := by
  unfold J_X5_mostTouches_94
  refine hs_biv (fun x_12 _ => ?_)
  exact hj_X5_mostTouches_97 L h_T
theorem hj_X5_mostTouches_54 {ad : List Nat} {h : hp} (L : Lay TLx ad h) {N : Nat} {T : Nat → Int32 → Int32 → Int32 → dp → Option (Int32 × dp)} {a0 : Nat} {x1 : Int32} {x2 : Int32} {x3 : Int32} {xs0 : Int32} {x4v : Int32} {x5v : Int32} (h_T : ∀ (y0 : Nat) (y1 : Int32) (y2 : Int32) (y3 : Int32) (δ1 : dp), hs (T y0 y1 y2 y3 δ1) (fun r => HG true true ad δ1 r.2)) {δ : dp} : hs (J_X5_mostTouches_54 N h.1 T a0 x1 x2 x3 xs0 x4v x5v δ) (fun r => HG true true ad δ r.2) := by
  unfold J_X5_mostTouches_54
  refine hs_ite (fun _ => ?_) (fun _ => ?_)
  · skip
    exact hs_some HG_r
  · skip
    refine hs_bind (h_T a0 x1 (x2 - x5v) x4v δ) (fun r_10 u1' => ?_)
    have u1 : HG true true ad δ r_10.2 := u1'
    refine hs_ite (fun _ => ?_) (fun _ => ?_)
    · skip
      exact hs_mono (hj_X5_mostTouches_94 L h_T) (fun _ hr => u1.t (hr))
    · skip
      refine hs_ite (fun _ => ?_) (fun _ => ?_)
      · skip
        exact hs_mono (hj_X5_mostTouches_94 L h_T) (fun _ hr => u1.t (hr))
      · skip
        refine hs_ite (fun _ => ?_) (fun _ => ?_)
        · skip
          exact hs_mono (hj_X5_mostTouches_97 L h_T) (fun _ hr => u1.t (hr))
        · skip
          exact hs_mono (hj_X5_mostTouches_94 L h_T) (fun _ hr => u1.t (hr))
theorem hj_X5_mostTouches_29 {ad : List Nat} {h : hp} (L : Lay TLx ad h) {N : Nat} {T : Nat → Int32 → Int32 → Int32 → dp → Option (Int32 × dp)} {a0 : Nat} {x1 : Int32} {x2 : Int32} {x3 : Int32} {x4v : Int32} (h_T : ∀ (y0 : Nat) (y1 : Int32) (y2 : Int32) (y3 : Int32) (δ1 : dp), hs (T y0 y1 y2 y3 δ1) (fun r => HG true true ad δ1 r.2)) {δ : dp} : hs (J_X5_mostTouches_29 N h.1 T a0 x1 x2 x3 x4v δ) (fun r => HG true true ad δ r.2) := by
  unfold J_X5_mostTouches_29
  refine hs_bind (hf_X5_lowerBits L) (fun r_6 u1' => ?_)
  have u1 : HG true true ad δ r_6.2 := u1'
  refine hs_ite (fun _ => ?_) (fun _ => ?_)
  · skip
    exact hs_mono (hj_X5_mostTouches_54 L h_T) (fun _ hr => u1.t (hr))
  · skip
    refine hs_bind (h_T a0 x1 r_6.1 x4v r_6.2) (fun r_8 u2' => ?_)
    have u2 : HG true true ad δ r_8.2 := u1.t (u2')
    exact hs_mono (hj_X5_mostTouches_54 L h_T) (fun _ hr => u2.t (hr))
theorem hb_X5_mostTouches {ad : List Nat} {h : hp} (L : Lay TLx ad h) {N : Nat} {T : Nat → Int32 → Int32 → Int32 → dp → Option (Int32 × dp)} {a0 : Nat} {x1 : Int32} {x2 : Int32} {x3 : Int32} (h_T : ∀ (y0 : Nat) (y1 : Int32) (y2 : Int32) (y3 : Int32) (δ1 : dp), hs (T y0 y1 y2 y3 δ1) (fun r => HG true true ad δ1 r.2)) {δ : dp} : hs (B_X5_mostTouches N h.1 T a0 x1 x2 x3 δ) (fun r => HG true true ad δ r.2) := by
  unfold B_X5_mostTouches
  refine hs_biv (fun x_1 _ => ?_)
  refine hs_ite (fun _ => ?_) (fun _ => ?_)
  · skip
    exact hj_X5_mostTouches_27 L h_T
  · skip
    refine hs_ite (fun _ => ?_) (fun _ => ?_)
    · skip
      exact hj_X5_mostTouches_27 L h_T
    · skip
      refine hs_ite (fun _ => ?_) (fun _ => ?_)
      · skip
        refine hs_ite (fun _ => ?_) (fun _ => ?_)
        · skip
          exact hj_X5_mostTouches_29 L h_T
        · skip
          exact hj_X5_mostTouches_27 L h_T
      · skip
        exact hj_X5_mostTouches_29 L h_T
theorem he_X5_mostTouches {ad : List Nat} {h : hp} (L : Lay TLx ad h) {N : Nat} : ∀ (k : Nat) (a0 : Nat) (x1 : Int32) (x2 : Int32) (x3 : Int32) (δ : dp), hs (E_X5_mostTouches N h.1 k a0 x1 x2 x3 δ) (fun r => HG true true ad δ r.2) := by
  intro k
  induction k with
  | zero => intro a0 x1 x2 x3 δ ; unfold E_X5_mostTouches; exact hs_none
  | succ k ih =>
    intro a0 x1 x2 x3 δ 
    unfold E_X5_mostTouches
    exact hb_X5_mostTouches L  ih
theorem hf_X5_mostTouches {ad : List Nat} {h : hp} (L : Lay TLx ad h) {N : Nat} {a0 : Nat} {x1 : Int32} {x2 : Int32} {x3 : Int32}  {δ : dp} : hs (D_X5_mostTouches N h.1 a0 x1 x2 x3 δ) (fun r => HG true true ad δ r.2) := by
  unfold D_X5_mostTouches
  exact he_X5_mostTouches L 20 a0 x1 x2 x3 δ
theorem hf_X5_boundOf {ad : List Nat} {h : hp} (L : Lay TLx ad h) {N : Nat} {a0 : Nat} {x1 : Int32}  {δ : dp} : hs (D_X5_boundOf N h.1 a0 x1 δ) (fun r => HG true true ad δ r.2) := by
  unfold D_X5_boundOf
  refine hs_bind (hf_X5_mostTouches L) (fun r_1 u1' => ?_)
  have u1 : HG true true ad δ r_1.2 := u1'
  exact hs_some u1
theorem hf_X11_bound {ad : List Nat} {h : hp} (L : Lay TLx ad h) {N : Nat} {a0 : Nat} {x1 : Int32} (k11_a0 : q_K h.1 a0 = 11) {δ : dp} : hs (D_X11_bound N h.1 a0 x1 δ) (fun r => HG true false ad δ r.2) := by
  unfold D_X11_bound
  refine hs_bind (hf_X11_isCall L) (fun r_1 u1' => ?_)
  have u1 : HG true false ad δ r_1.2 := (u1').w (by decide) (by decide)
  refine hs_bxv (hf_X11_need L k11_a0) (fun _ _ u2' => u1.t (u2')) (fun δ_4 u2' => ?_)
  have u2 : HG true false ad δ δ_4 := u1.t (u2')
  refine hs_ob (fun b_5 hb_5 => ?_)
  refine hs_bind (hf_X5_boundOf L) (fun r_7 u3' => ?_)
  have u3 : HG true false ad δ r_7.2 := u2.t ((u3').w (by decide) (by decide))
  exact hs_some u3
theorem hj_X5_isSmall_14 {ad : List Nat} {h : hp} (L : Lay TLx ad h) {N : Nat} {a0 : Nat} {xs0 : Int32}  {δ : dp} : hs (J_X5_isSmall_14 N h.1 a0 xs0 δ) (fun r => HG true true ad δ r.2) := by
  unfold J_X5_isSmall_14
  refine hs_gp (fun gk1 => ?_)
  exact hs_some HG_r
theorem hf_X5_isSmall {ad : List Nat} {h : hp} (L : Lay TLx ad h) {N : Nat} {a0 : Nat}  {δ : dp} : hs (D_X5_isSmall N h.1 a0 δ) (fun r => HG true true ad δ r.2) := by
  unfold D_X5_isSmall
  refine hs_ite (fun _ => ?_) (fun _ => ?_)
  · skip
    exact hj_X5_isSmall_14 L
  · skip
    exact hj_X5_isSmall_14 L
theorem hj_X5_mostInSets_14 {ad : List Nat} {h : hp} (L : Lay TLx ad h) {N : Nat} {a0 : Nat} {xs0 : Int32}  {δ : dp} : hs (J_X5_mostInSets_14 N h.1 a0 xs0 δ) (fun r => HG true true ad δ r.2) := by
  unfold J_X5_mostInSets_14
  exact hs_some HG_r
theorem hf_X5_mostInSets {ad : List Nat} {h : hp} (L : Lay TLx ad h) {N : Nat} {a0 : Nat}  {δ : dp} : hs (D_X5_mostInSets N h.1 a0 δ) (fun r => HG true true ad δ r.2) := by
  unfold D_X5_mostInSets
  refine hs_ite (fun _ => ?_) (fun _ => ?_)
  · skip
    exact hj_X5_mostInSets_14 L
  · skip
    exact hj_X5_mostInSets_14 L
theorem hj_X11_mayGoThroughAll_37 {ad : List Nat} {h : hp} (L : Lay TLx ad h) {N : Nat} {a0 : Nat} {x1 : Int32} {x2 : Int32} {xs0 : Int32}  {δ : dp} : hs (J_X11_mayGoThroughAll_37 N h.1 a0 x1 x2 xs0 δ) (fun r => HG true true ad δ r.2) := by
  unfold J_X11_mayGoThroughAll_37
  refine hs_gp (fun gk1 => ?_)
  exact hs_some HG_r
theorem hj_X11_mayGoThroughAll_36 {ad : List Nat} {h : hp} (L : Lay TLx ad h) {N : Nat} {a0 : Nat} {x1 : Int32} {x2 : Int32}  {δ : dp} : hs (J_X11_mayGoThroughAll_36 N h.1 a0 x1 x2 δ) (fun r => HG true true ad δ r.2) := by
  unfold J_X11_mayGoThroughAll_36
  exact hj_X11_mayGoThroughAll_37 L
theorem hf_X11_mayGoThroughAll {ad : List Nat} {h : hp} (L : Lay TLx ad h) {N : Nat} {a0 : Nat} {x1 : Int32} {x2 : Int32}  {δ : dp} : hs (D_X11_mayGoThroughAll N h.1 a0 x1 x2 δ) (fun r => HG true true ad δ r.2) := by
  unfold D_X11_mayGoThroughAll
  refine hs_bind (hf_X11_isCall L) (fun r_1 u1' => ?_)
  have u1 : HG true true ad δ r_1.2 := u1'
  refine hs_ite (fun _ => ?_) (fun _ => ?_)
  · skip
    exact hs_mono (hj_X11_mayGoThroughAll_36 L) (fun _ hr => u1.t (hr))
  · skip
    refine hs_ob (fun b_3 hb_3 => ?_)
    refine hs_bind (hf_X5_isSmall L) (fun r_5 u2' => ?_)
    have u2 : HG true true ad δ r_5.2 := u1.t (u2')
    refine hs_ite (fun _ => ?_) (fun _ => ?_)
    · skip
      exact hs_mono (hj_X11_mayGoThroughAll_36 L) (fun _ hr => u2.t (hr))
    · skip
      refine hs_ite (fun _ => ?_) (fun _ => ?_)
      · skip
        exact hs_mono (hj_X11_mayGoThroughAll_36 L) (fun _ hr => u2.t (hr))
      · skip
        refine hs_ob (fun b_8 hb_8 => ?_)
        refine hs_bind (hf_X5_mostInSets L) (fun r_10 u3' => ?_)
        have u3 : HG true true ad δ r_10.2 := u2.t (u3')
        refine hs_ite (fun _ => ?_) (fun _ => ?_)
        · skip
          exact hs_mono (hj_X11_mayGoThroughAll_36 L) (fun _ hr => u3.t (hr))
        · skip
          exact hs_mono (hj_X11_mayGoThroughAll_37 L) (fun _ hr => u3.t (hr))
theorem hf_J13_bitCount_95d88 {ad : List Nat} {h : hp} (L : Lay TLx ad h) {N : Nat} {y0 : Int64}  {δ : dp} : hs (D_J13_bitCount_95d88 N h.1 y0 δ) (fun r => HG true true ad δ r.2) := by
  unfold D_J13_bitCount_95d88
  refine hs_blv (fun y_1 _ => ?_)
  refine hs_blv (fun y_3 _ => ?_)
  refine hs_blv (fun y_5 _ => ?_)
  refine hs_blv (fun y_7 _ => ?_)
  refine hs_blv (fun y_9 _ => ?_)
  refine hs_blv (fun y_11 _ => ?_)
  exact hs_some HG_r
theorem hl_X3_beFirstSet_15 {ad : List Nat} {h : hp} (L : Lay TLx ad h) {N : Nat} {a0 : Nat} {x1 : Int32} (c3_a0 : q_K h.1 a0 = 3 ∧ nh ad a0) : ∀ (n : Nat) (x2v : Int32) (δ : dp), hs (L_X3_beFirstSet_15 N h.1 a0 x1 n x2v δ) (fun r => HG true true ad δ r) := by
  intro n
  induction n with
  | zero => intro x2v δ; unfold L_X3_beFirstSet_15; exact hs_none
  | succ n ih =>
    intro x2v δ
    unfold L_X3_beFirstSet_15
    refine hs_ite (fun _ => ?_) (fun _ => ?_)
    · skip
      exact hs_some HG_r
    · skip
      refine hs_ob (fun b_7 hb_7 => ?_)
      refine hs_gd (fun gz1 => ?_)
      refine hs_bdv (fun δ_9 e2 => ?_)
      have u2 : HG true true ad δ δ_9 := HG.R HG_r e2 (nr3 L c3_a0 hb_7)
      refine hs_biv (fun x_11 _ => ?_)
      exact hs_mono (ih x_11 δ_9) (fun _ hr => u2.t (hr))
theorem hf_X3_beFirstSet {ad : List Nat} {h : hp} (L : Lay TLx ad h) {N : Nat} {a0 : Nat} {x1 : Int32} (c3_a0 : q_K h.1 a0 = 3 ∧ nh ad a0) {δ : dp} : hs (D_X3_beFirstSet N h.1 a0 x1 δ) (fun r => HG true true ad δ r) := by
  unfold D_X3_beFirstSet
  refine hs_ob (fun b_1 hb_1 => ?_)
  refine hs_bind (hf_J9_min_7cf53 L) (fun r_3 u1' => ?_)
  have u1 : HG true true ad δ r_3.2 := u1'
  refine hs_bdv (fun δ_4 e2 => ?_)
  have u2 : HG true true ad δ δ_4 := HG.M u1 e2 c3_a0.2
  exact hs_mono (hl_X3_beFirstSet_15 L c3_a0 N 0 δ_4) (fun _ hr => u2.t (hr))
theorem hl_X10_bitsOfSet_4 {ad : List Nat} {h : hp} (L : Lay TLx ad h) {N : Nat} {a0 : Nat}  : ∀ (n : Nat) (y1v : Int64) (x3v : Int32) (δ : dp), hs (L_X10_bitsOfSet_4 N h.1 a0 n y1v x3v δ) (fun r => HG true true ad δ r.2) := by
  intro n
  induction n with
  | zero => intro y1v x3v δ; unfold L_X10_bitsOfSet_4; exact hs_none
  | succ n ih =>
    intro y1v x3v δ
    unfold L_X10_bitsOfSet_4
    refine hs_ob (fun b_1 hb_1 => ?_)
    refine hs_ite (fun _ => ?_) (fun _ => ?_)
    · skip
      exact hs_some HG_r
    · skip
      refine hs_ob (fun b_4 hb_4 => ?_)
      refine hs_bind (hf_X3_at L) (fun r_6 u1' => ?_)
      have u1 : HG true true ad δ r_6.2 := u1'
      refine hs_blv (fun y_7 _ => ?_)
      refine hs_biv (fun x_9 _ => ?_)
      exact hs_mono (ih y_7 x_9 r_6.2) (fun _ hr => u1.t (hr))
theorem hf_X10_bitsOfSet {ad : List Nat} {h : hp} (L : Lay TLx ad h) {N : Nat} {a0 : Nat}  {δ : dp} : hs (D_X10_bitsOfSet N h.1 a0 δ) (fun r => HG true true ad δ r.2) := by
  unfold D_X10_bitsOfSet
  exact hl_X10_bitsOfSet_4 L N 0 0 δ
theorem hj_X10_tryAll_68 {ad : List Nat} {h : hp} (L : Lay TLx ad h) {N : Nat} {a0 : Nat} {x1 : Int32} {x2 : Int32} {kt2 : Int32 → dp → Option (dp)} {x3v : Int32} (h_kt2 : ∀ (y0 : Int32) (δ1 : dp), hs (kt2 y0 δ1) (fun r => HG true true ad δ1 r)) {δ : dp} : hs (J_X10_tryAll_68 N h.1 a0 x1 x2 kt2 x3v δ) (fun r => HG true true ad δ r) := by
  unfold J_X10_tryAll_68
  refine hs_biv (fun x_13 _ => ?_)
  exact h_kt2 x_13 δ
theorem hl_X10_tryAll_2 {ad : List Nat} {h : hp} (L : Lay TLx ad h) {N : Nat} {a0 : Nat} {x1 : Int32} {x2 : Int32} (k10_a0 : q_K h.1 a0 = 10) : ∀ (n : Nat) (x3v : Int32) (δ : dp), hs (L_X10_tryAll_2 N h.1 a0 x1 x2 n x3v δ) (fun r => HG true true ad δ r) := by
  intro n
  induction n with
  | zero => intro x3v δ; unfold L_X10_tryAll_2; exact hs_none
  | succ n ih =>
    intro x3v δ
    unfold L_X10_tryAll_2
    refine hs_ob (fun b_1 hb_1 => ?_)
    refine hs_bind (hf_X5_greatest L) (fun r_3 u1' => ?_)
    have u1 : HG true true ad δ r_3.2 := u1'
    refine hs_ite (fun _ => ?_) (fun _ => ?_)
    · skip
      exact hs_some u1
    · skip
      refine hs_ob (fun b_5 hb_5 => ?_)
      refine hs_bind (hf_X1_touchesOf L) (fun r_7 u2' => ?_)
      have u2 : HG true true ad δ r_7.2 := u1.t (u2')
      refine hs_ob (fun b_8 hb_8 => ?_)
      refine hs_gd (fun gz3 => ?_)
      refine hs_ob (fun b_10 hb_10 => ?_)
      refine hs_gd (fun gz4 => ?_)
      refine hs_ite (fun _ => ?_) (fun _ => ?_)
      · skip
        exact hs_mono (hj_X10_tryAll_68 L ih) (fun _ hr => u2.t (hr))
      · skip
        refine hs_ob (fun b_15 hb_15 => ?_)
        refine hs_gd (fun gz5 => ?_)
        refine hs_ob (fun b_17 hb_17 => ?_)
        refine hs_gd (fun gz6 => ?_)
        refine hs_bdv (fun δ_19 e7 => ?_)
        have u7 : HG true true ad δ δ_19 := HG.R u2 e7 (nrE_10_4 L k10_a0 hb_15 (Nat.lt_of_not_le (fun z => gz5 (Or.inr z))) hb_17)
        refine hs_ob (fun b_21 hb_21 => ?_)
        refine hs_gd (fun gz8 => ?_)
        refine hs_ob (fun b_23 hb_23 => ?_)
        refine hs_gd (fun gz9 => ?_)
        refine hs_bdv (fun δ_25 e10 => ?_)
        have u10 : HG true true ad δ δ_25 := HG.R u7 e10 (nrE_10_5 L k10_a0 hb_21 (Nat.lt_of_not_le (fun z => gz8 (Or.inr z))) hb_23)
        refine hs_ob (fun b_27 hb_27 => ?_)
        refine hs_gd (fun gz11 => ?_)
        refine hs_ob (fun b_29 hb_29 => ?_)
        refine hs_bind (hf_X10_bitsOfSet L) (fun r_31 u12' => ?_)
        have u12 : HG true true ad δ r_31.2 := u10.t (u12')
        refine hs_gd (fun gz13 => ?_)
        refine hs_bdv (fun δ_32 e14 => ?_)
        have u14 : HG true true ad δ δ_32 := HG.J u12 e14
        exact hs_mono (hj_X10_tryAll_68 L ih) (fun _ hr => u14.t (hr))
theorem hf_X10_tryAll {ad : List Nat} {h : hp} (L : Lay TLx ad h) {N : Nat} {a0 : Nat} {x1 : Int32} {x2 : Int32} (k10_a0 : q_K h.1 a0 = 10) {δ : dp} : hs (D_X10_tryAll N h.1 a0 x1 x2 δ) (fun r => HG true true ad δ r) := by
  unfold D_X10_tryAll
  exact hl_X10_tryAll_2 L k10_a0 N 0 δ
theorem hl_X3_beNextSet_58 {ad : List Nat} {h : hp} (L : Lay TLx ad h) {N : Nat} {a0 : Nat} {x1 : Int32} (c3_a0 : q_K h.1 a0 = 3 ∧ nh ad a0) : ∀ (n : Nat) (x2v : Int32) (x4v : Int32) (δ : dp), hs (L_X3_beNextSet_58 N h.1 a0 x1 n x2v x4v δ) (fun r => HG true true ad δ r.2) := by
  intro n
  induction n with
  | zero => intro x2v x4v δ; unfold L_X3_beNextSet_58; exact hs_none
  | succ n ih =>
    intro x2v x4v δ
    unfold L_X3_beNextSet_58
    refine hs_ite (fun _ => ?_) (fun _ => ?_)
    · skip
      refine hs_gp (fun gk1 => ?_)
      exact hs_some HG_r
    · skip
      refine hs_ob (fun b_13 hb_13 => ?_)
      refine hs_gd (fun gz2 => ?_)
      refine hs_bdv (fun δ_15 e3 => ?_)
      have u3 : HG true true ad δ δ_15 := HG.R HG_r e3 (nr3 L c3_a0 hb_13)
      refine hs_biv (fun x_17 _ => ?_)
      exact hs_mono (ih x2v x_17 δ_15) (fun _ hr => u3.t (hr))
theorem hj_X3_beNextSet_32 {ad : List Nat} {h : hp} (L : Lay TLx ad h) {N : Nat} {a0 : Nat} {x1 : Int32} {kt2 : Int32 → dp → Option (Int32 × dp)} {xs0 : Int32} {x2v : Int32} (c3_a0 : q_K h.1 a0 = 3 ∧ nh ad a0) (h_kt2 : ∀ (y0 : Int32) (δ1 : dp), hs (kt2 y0 δ1) (fun r => HG true true ad δ1 r.2)) {δ : dp} : hs (J_X3_beNextSet_32 N h.1 a0 x1 kt2 xs0 x2v δ) (fun r => HG true true ad δ r.2) := by
  unfold J_X3_beNextSet_32
  refine hs_ob (fun b_3 hb_3 => ?_)
  refine hs_gd (fun gz1 => ?_)
  refine hs_ite (fun _ => ?_) (fun _ => ?_)
  · skip
    refine hs_biv (fun x_6 _ => ?_)
    exact h_kt2 x_6 δ
  · skip
    refine hs_ob (fun b_8 hb_8 => ?_)
    refine hs_gd (fun gz2 => ?_)
    refine hs_gd (fun gz3 => ?_)
    refine hs_bdv (fun δ_10 e4 => ?_)
    have u4 : HG true true ad δ δ_10 := HG.R HG_r e4 (nr3 L c3_a0 hb_8)
    exact hs_mono (hl_X3_beNextSet_58 L c3_a0 N x2v 0 δ_10) (fun _ hr => u4.t (hr))
theorem hl_X3_beNextSet_2 {ad : List Nat} {h : hp} (L : Lay TLx ad h) {N : Nat} {a0 : Nat} {x1 : Int32} (c3_a0 : q_K h.1 a0 = 3 ∧ nh ad a0) : ∀ (n : Nat) (x2v : Int32) (δ : dp), hs (L_X3_beNextSet_2 N h.1 a0 x1 n x2v δ) (fun r => HG true true ad δ r.2) := by
  intro n
  induction n with
  | zero => intro x2v δ; unfold L_X3_beNextSet_2; exact hs_none
  | succ n ih =>
    intro x2v δ
    unfold L_X3_beNextSet_2
    refine hs_ite (fun _ => ?_) (fun _ => ?_)
    · skip
      refine hs_gp (fun gk1 => ?_)
      exact hs_some HG_r
    · skip
      refine hs_ite (fun _ => ?_) (fun _ => ?_)
      · skip
        exact hj_X3_beNextSet_32 L c3_a0 ih
      · skip
        refine hs_ob (fun b_19 hb_19 => ?_)
        refine hs_gd (fun gz2 => ?_)
        exact hj_X3_beNextSet_32 L c3_a0 ih
theorem hf_X3_beNextSet {ad : List Nat} {h : hp} (L : Lay TLx ad h) {N : Nat} {a0 : Nat} {x1 : Int32} (c3_a0 : q_K h.1 a0 = 3 ∧ nh ad a0) {δ : dp} : hs (D_X3_beNextSet N h.1 a0 x1 δ) (fun r => HG true true ad δ r.2) := by
  unfold D_X3_beNextSet
  exact hl_X3_beNextSet_2 L c3_a0 N 0 δ
theorem hj_X10_goThroughAll_98 {ad : List Nat} {h : hp} (L : Lay TLx ad h) {N : Nat} {a0 : Nat} {x1 : Int32} {x2 : Int32}  {δ : dp} : hs (J_X10_goThroughAll_98 N h.1 a0 x1 x2 δ) (fun r => HG true true ad δ r) := by
  unfold J_X10_goThroughAll_98
  exact hs_some HG_r
theorem hl_X10_goThroughAll_51 {ad : List Nat} {h : hp} (L : Lay TLx ad h) {N : Nat} {a0 : Nat} {x1 : Int32} {x2 : Int32} (k10_a0 : q_K h.1 a0 = 10) : ∀ (n : Nat) (x3v : Int32) (x4v : Int32) (x5v : Int32) (x6v : Int32) (δ : dp), hs (L_X10_goThroughAll_51 N h.1 a0 x1 x2 n x3v x4v x5v x6v δ) (fun r => HG true true ad δ r) := by
  intro n
  induction n with
  | zero => intro x3v x4v x5v x6v δ; unfold L_X10_goThroughAll_51; exact hs_none
  | succ n ih =>
    intro x3v x4v x5v x6v δ
    unfold L_X10_goThroughAll_51
    refine hs_ite (fun _ => ?_) (fun _ => ?_)
    · skip
      exact hj_X10_goThroughAll_98 L
    · skip
      refine hs_ite (fun _ => ?_) (fun _ => ?_)
      · skip
        exact hj_X10_goThroughAll_98 L
      · skip
        refine hs_ob (fun b_17 hb_17 => ?_)
        refine hs_gd (fun gz1 => ?_)
        refine hs_ob (fun b_19 hb_19 => ?_)
        refine hs_gd (fun gz2 => ?_)
        refine hs_ite (fun _ => ?_) (fun _ => ?_)
        · skip
          exact hj_X10_goThroughAll_98 L
        · skip
          refine hs_bind (hf_X10_tryAll L k10_a0) (fun r_22 u3' => ?_)
          have u3 : HG true true ad δ r_22 := u3'
          refine hs_ob (fun b_23 hb_23 => ?_)
          refine hs_bind (hf_X3_beNextSet L (c3O_10_1 L k10_a0 hb_23)) (fun r_25 u4' => ?_)
          have u4 : HG true true ad δ r_25.2 := u3.t (u4')
          refine hs_biv (fun x_26 _ => ?_)
          exact hs_mono (ih x3v x4v r_25.1 x_26 r_25.2) (fun _ hr => u4.t (hr))
theorem hj_X10_goThroughAll_38 {ad : List Nat} {h : hp} (L : Lay TLx ad h) {N : Nat} {a0 : Nat} {x1 : Int32} {x2 : Int32} {xs0 : Int32} {x3v : Int32} {x4v : Int32} (k10_a0 : q_K h.1 a0 = 10) {δ : dp} : hs (J_X10_goThroughAll_38 N h.1 a0 x1 x2 xs0 x3v x4v δ) (fun r => HG true true ad δ r) := by
  unfold J_X10_goThroughAll_38
  refine hs_ob (fun b_12 hb_12 => ?_)
  refine hs_bind (hf_X3_beFirstSet L (c3O_10_1 L k10_a0 hb_12)) (fun r_14 u1' => ?_)
  have u1 : HG true true ad δ r_14 := u1'
  exact hs_mono (hl_X10_goThroughAll_51 L k10_a0 N x3v x4v xs0 0 r_14) (fun _ hr => u1.t (hr))
theorem hf_X10_goThroughAll {ad : List Nat} {h : hp} (L : Lay TLx ad h) {N : Nat} {a0 : Nat} {x1 : Int32} {x2 : Int32} (k10_a0 : q_K h.1 a0 = 10) {δ : dp} : hs (D_X10_goThroughAll N h.1 a0 x1 x2 δ) (fun r => HG true true ad δ r) := by
  unfold D_X10_goThroughAll
  refine hs_ob (fun b_1 hb_1 => ?_)
  refine hs_bind (hf_X5_greatest L) (fun r_3 u1' => ?_)
  have u1 : HG true true ad δ r_3.2 := u1'
  refine hs_biv (fun x_4 _ => ?_)
  refine hs_ob (fun b_6 hb_6 => ?_)
  refine hs_ob (fun b_8 hb_8 => ?_)
  refine hs_bind (hf_X5_mostTouches L) (fun r_10 u2' => ?_)
  have u2 : HG true true ad δ r_10.2 := u1.t (u2')
  refine hs_ite (fun _ => ?_) (fun _ => ?_)
  · skip
    exact hs_mono (hj_X10_goThroughAll_38 L k10_a0) (fun _ hr => u2.t (hr))
  · skip
    exact hs_mono (hj_X10_goThroughAll_38 L k10_a0) (fun _ hr => u2.t (hr))
theorem hj_X10_learn_89 {ad : List Nat} {h : hp} (L : Lay TLx ad h) {N : Nat} {a0 : Nat} {x1 : Int32} {x2 : Int32} {kt7 : Int32 → dp → Option (dp)} {ys0 : Int64} {xs1 : Int32} {as2 : Nat} {x3v : Int32} (k10_a0 : q_K h.1 a0 = 10) (h_kt7 : ∀ (y0 : Int32) (δ1 : dp), hs (kt7 y0 δ1) (fun r => HG true true ad δ1 r)) {δ : dp} : hs (J_X10_learn_89 N h.1 a0 x1 x2 kt7 ys0 xs1 as2 x3v δ) (fun r => HG true true ad δ r) := by
  unfold J_X10_learn_89
  refine hs_gd (fun gz1 => ?_)
  refine hs_bdv (fun δ_37 e2 => ?_)
  have u2 : HG true true ad δ δ_37 := HG.J HG_r e2
  refine hs_bind (hf_X10_goThroughAll L k10_a0) (fun r_39 u3' => ?_)
  have u3 : HG true true ad δ r_39 := u2.t (u3')
  refine hs_ob (fun b_40 hb_40 => ?_)
  refine hs_gd (fun gz4 => ?_)
  refine hs_bdv (fun δ_42 e5 => ?_)
  have u5 : HG true true ad δ δ_42 := HG.R u3 e5 (nrO_10_3 L k10_a0 hb_40)
  refine hs_biv (fun x_44 _ => ?_)
  exact hs_mono (h_kt7 x_44 δ_42) (fun _ hr => u5.t (hr))
theorem hj_X10_learn_63 {ad : List Nat} {h : hp} (L : Lay TLx ad h) {N : Nat} {a0 : Nat} {x1 : Int32} {x2 : Int32} {kt7 : Int32 → dp → Option (dp)} {xs0 : Int32} {xs1 : Int32} {as2 : Nat} {x3v : Int32} (k10_a0 : q_K h.1 a0 = 10) (nr_as2 : nr ad as2) (h_kt7 : ∀ (y0 : Int32) (δ1 : dp), hs (kt7 y0 δ1) (fun r => HG true true ad δ1 r)) {δ : dp} : hs (J_X10_learn_63 N h.1 a0 x1 x2 kt7 xs0 xs1 as2 x3v δ) (fun r => HG true true ad δ r) := by
  unfold J_X10_learn_63
  refine hs_gd (fun gz1 => ?_)
  refine hs_bdv (fun δ_26 e2 => ?_)
  have u2 : HG true true ad δ δ_26 := HG.R HG_r e2 nr_as2
  refine hs_ob (fun b_28 hb_28 => ?_)
  refine hs_gd (fun gz3 => ?_)
  refine hs_ob (fun b_30 hb_30 => ?_)
  refine hs_ite (fun _ => ?_) (fun _ => ?_)
  · skip
    exact hs_mono (hj_X10_learn_89 L k10_a0 h_kt7) (fun _ hr => u2.t (hr))
  · skip
    refine hs_ob (fun b_33 hb_33 => ?_)
    refine hs_gd (fun gz4 => ?_)
    refine hs_ob (fun b_35 hb_35 => ?_)
    refine hs_gd (fun gz5 => ?_)
    exact hs_mono (hj_X10_learn_89 L k10_a0 h_kt7) (fun _ hr => u2.t (hr))
theorem hj_X10_learn_37 {ad : List Nat} {h : hp} (L : Lay TLx ad h) {N : Nat} {a0 : Nat} {x1 : Int32} {x2 : Int32} {kt7 : Int32 → dp → Option (dp)} {xs0 : Int32} {xs1 : Int32} {as2 : Nat} {x3v : Int32} (k10_a0 : q_K h.1 a0 = 10) (nr_as2 : nr ad as2) (h_kt7 : ∀ (y0 : Int32) (δ1 : dp), hs (kt7 y0 δ1) (fun r => HG true true ad δ1 r)) {δ : dp} : hs (J_X10_learn_37 N h.1 a0 x1 x2 kt7 xs0 xs1 as2 x3v δ) (fun r => HG true true ad δ r) := by
  unfold J_X10_learn_37
  refine hs_gd (fun gz1 => ?_)
  refine hs_bdv (fun δ_15 e2 => ?_)
  have u2 : HG true true ad δ δ_15 := HG.R HG_r e2 nr_as2
  refine hs_ob (fun b_17 hb_17 => ?_)
  refine hs_gd (fun gz3 => ?_)
  refine hs_ob (fun b_19 hb_19 => ?_)
  refine hs_ite (fun _ => ?_) (fun _ => ?_)
  · skip
    exact hs_mono (hj_X10_learn_63 L k10_a0 (nrE_10_5 L k10_a0 hb_17 (Nat.lt_of_not_le (fun z => gz3 (Or.inr z))) hb_19) h_kt7) (fun _ hr => u2.t (hr))
  · skip
    refine hs_ob (fun b_22 hb_22 => ?_)
    refine hs_gd (fun gz4 => ?_)
    refine hs_ob (fun b_24 hb_24 => ?_)
    refine hs_gd (fun gz5 => ?_)
    exact hs_mono (hj_X10_learn_63 L k10_a0 (nrE_10_5 L k10_a0 hb_17 (Nat.lt_of_not_le (fun z => gz3 (Or.inr z))) hb_19) h_kt7) (fun _ hr => u2.t (hr))
theorem hl_X10_learn_7 {ad : List Nat} {h : hp} (L : Lay TLx ad h) {N : Nat} {a0 : Nat} {x1 : Int32} {x2 : Int32} (k10_a0 : q_K h.1 a0 = 10) : ∀ (n : Nat) (x3v : Int32) (δ : dp), hs (L_X10_learn_7 N h.1 a0 x1 x2 n x3v δ) (fun r => HG true true ad δ r) := by
  intro n
  induction n with
  | zero => intro x3v δ; unfold L_X10_learn_7; exact hs_none
  | succ n ih =>
    intro x3v δ
    unfold L_X10_learn_7
    refine hs_ite (fun _ => ?_) (fun _ => ?_)
    · skip
      exact hs_some HG_r
    · skip
      refine hs_ob (fun b_6 hb_6 => ?_)
      refine hs_gd (fun gz1 => ?_)
      refine hs_ob (fun b_8 hb_8 => ?_)
      refine hs_ite (fun _ => ?_) (fun _ => ?_)
      · skip
        exact hj_X10_learn_37 L k10_a0 (nrE_10_4 L k10_a0 hb_6 (Nat.lt_of_not_le (fun z => gz1 (Or.inr z))) hb_8) ih
      · skip
        refine hs_ob (fun b_11 hb_11 => ?_)
        refine hs_gd (fun gz2 => ?_)
        refine hs_ob (fun b_13 hb_13 => ?_)
        refine hs_gd (fun gz3 => ?_)
        exact hj_X10_learn_37 L k10_a0 (nrE_10_4 L k10_a0 hb_6 (Nat.lt_of_not_le (fun z => gz1 (Or.inr z))) hb_8) ih
theorem hf_X10_learn {ad : List Nat} {h : hp} (L : Lay TLx ad h) {N : Nat} {a0 : Nat} {x1 : Int32} {x2 : Int32} (k10_a0 : q_K h.1 a0 = 10) {δ : dp} : hs (D_X10_learn N h.1 a0 x1 x2 δ) (fun r => HG true true ad δ r) := by
  unfold D_X10_learn
  refine hs_ob (fun b_1 hb_1 => ?_)
  refine hs_gd (fun gz1 => ?_)
  refine hs_biv (fun x_3 _ => ?_)
  exact hl_X10_learn_7 L k10_a0 N x_3 δ
theorem hj_X11_worst_85 {ad : List Nat} {h : hp} (L : Lay TLx ad h) {N : Nat} {a0 : Nat} {x1 : Int32} {x2 : Int32} {x3 : Int32} {xs0 : Int32}  {δ : dp} : hs (J_X11_worst_85 N h.1 a0 x1 x2 x3 xs0 δ) (fun r => HG true true ad δ r.2) := by
  unfold J_X11_worst_85
  exact hs_some HG_r
theorem hj_X11_worst_24 {ad : List Nat} {h : hp} (L : Lay TLx ad h) {N : Nat} {a0 : Nat} {x1 : Int32} {x2 : Int32} {x3 : Int32} {xs0 : Int32} {as1 : Nat} (k11_a0 : q_K h.1 a0 = 11) (k11_as1 : q_K h.1 as1 = 11) {δ : dp} : hs (J_X11_worst_24 N h.1 a0 x1 x2 x3 xs0 as1 δ) (fun r => HG true false ad δ r.2) := by
  unfold J_X11_worst_24
  refine hs_bxv (hf_X11_need L k11_as1) (fun _ _ u1' => u1') (fun δ_5 u1' => ?_)
  have u1 : HG true false ad δ δ_5 := u1'
  refine hs_ob (fun b_6 hb_6 => ?_)
  refine hs_bind (hf_X10_learn L (kO_11_9 L k11_a0 hb_6)) (fun r_8 u2' => ?_)
  have u2 : HG true false ad δ r_8 := u1.t ((u2').w (by decide) (by decide))
  refine hs_ite (fun _ => ?_) (fun _ => ?_)
  · skip
    refine hs_ob (fun b_24 hb_24 => ?_)
    refine hs_ob (fun b_26 hb_26 => ?_)
    refine hs_gd (fun gz3 => ?_)
    refine hs_ob (fun b_28 hb_28 => ?_)
    refine hs_gd (fun gz4 => ?_)
    exact hs_some u2
  · skip
    refine hs_ite (fun _ => ?_) (fun _ => ?_)
    · skip
      refine hs_ob (fun b_17 hb_17 => ?_)
      refine hs_ob (fun b_19 hb_19 => ?_)
      refine hs_gd (fun gz5 => ?_)
      refine hs_ob (fun b_21 hb_21 => ?_)
      refine hs_gd (fun gz6 => ?_)
      refine hs_bind (hf_J13_bitCount_95d88 L) (fun r_23 u7' => ?_)
      have u7 : HG true false ad δ r_23.2 := u2.t ((u7').w (by decide) (by decide))
      exact hs_mono (hj_X11_worst_85 L) (fun _ hr => u7.t ((hr).w (by decide) (by decide)))
    · skip
      refine hs_ob (fun b_11 hb_11 => ?_)
      refine hs_ob (fun b_13 hb_13 => ?_)
      refine hs_gd (fun gz8 => ?_)
      refine hs_ob (fun b_15 hb_15 => ?_)
      refine hs_gd (fun gz9 => ?_)
      exact hs_mono (hj_X11_worst_85 L) (fun _ hr => u2.t ((hr).w (by decide) (by decide)))
theorem hj_X11_worst_23 {ad : List Nat} {h : hp} (L : Lay TLx ad h) {N : Nat} {a0 : Nat} {x1 : Int32} {x2 : Int32} {x3 : Int32} {as0 : Nat} (k11_a0 : q_K h.1 a0 = 11) (k11_as0 : q_K h.1 as0 = 11) {δ : dp} : hs (J_X11_worst_23 N h.1 a0 x1 x2 x3 as0 δ) (fun r => HG true false ad δ r.2) := by
  unfold J_X11_worst_23
  exact hj_X11_worst_24 L k11_a0 k11_as0
theorem hf_X11_worst {ad : List Nat} {h : hp} (L : Lay TLx ad h) {N : Nat} {a0 : Nat} {x1 : Int32} {x2 : Int32} {x3 : Int32} (k11_a0 : q_K h.1 a0 = 11) {δ : dp} : hs (D_X11_worst N h.1 a0 x1 x2 x3 δ) (fun r => HG true false ad δ r.2) := by
  unfold D_X11_worst
  refine hs_bind (hf_X11_mayGoThroughAll L) (fun r_1 u1' => ?_)
  have u1 : HG true false ad δ r_1.2 := (u1').w (by decide) (by decide)
  refine hs_ite (fun _ => ?_) (fun _ => ?_)
  · skip
    exact hs_mono (hj_X11_worst_23 L k11_a0 k11_a0) (fun _ hr => u1.t (hr))
  · skip
    refine hs_ite (fun _ => ?_) (fun _ => ?_)
    · skip
      exact hs_mono (hj_X11_worst_23 L k11_a0 k11_a0) (fun _ hr => u1.t (hr))
    · skip
      refine hs_ite (fun _ => ?_) (fun _ => ?_)
      · skip
        exact hs_mono (hj_X11_worst_23 L k11_a0 k11_a0) (fun _ hr => u1.t (hr))
      · skip
        exact hs_mono (hj_X11_worst_24 L k11_a0 k11_a0) (fun _ hr => u1.t (hr))
theorem hj_X10_member_47 {ad : List Nat} {h : hp} (L : Lay TLx ad h) {N : Nat} {a0 : Nat} {x1 : Int32} {x2 : Int32} {x3 : Int32} {kt6 : Int32 → Int32 → dp → Option (Int32 × dp)} {x4v : Int32} {x5v : Int32} (h_kt6 : ∀ (y0 : Int32) (y1 : Int32) (δ1 : dp), hs (kt6 y0 y1 δ1) (fun r => HG true true ad δ1 r.2)) {δ : dp} : hs (J_X10_member_47 N h.1 a0 x1 x2 x3 kt6 x4v x5v δ) (fun r => HG true true ad δ r.2) := by
  unfold J_X10_member_47
  refine hs_biv (fun x_8 _ => ?_)
  exact h_kt6 x4v x_8 δ
theorem hj_X10_member_53 {ad : List Nat} {h : hp} (L : Lay TLx ad h) {N : Nat} {a0 : Nat} {x1 : Int32} {x2 : Int32} {x3 : Int32}  {δ : dp} : hs (J_X10_member_53 N h.1 a0 x1 x2 x3 δ) (fun r => HG true true ad δ r.2) := by
  unfold J_X10_member_53
  exact hs_some HG_r
theorem hl_X10_member_6 {ad : List Nat} {h : hp} (L : Lay TLx ad h) {N : Nat} {a0 : Nat} {x1 : Int32} {x2 : Int32} {x3 : Int32}  : ∀ (n : Nat) (x4v : Int32) (x5v : Int32) (δ : dp), hs (L_X10_member_6 N h.1 a0 x1 x2 x3 n x4v x5v δ) (fun r => HG true true ad δ r.2) := by
  intro n
  induction n with
  | zero => intro x4v x5v δ; unfold L_X10_member_6; exact hs_none
  | succ n ih =>
    intro x4v x5v δ
    unfold L_X10_member_6
    refine hs_ite (fun _ => ?_) (fun _ => ?_)
    · skip
      exact hj_X10_member_53 L
    · skip
      refine hs_ite (fun _ => ?_) (fun _ => ?_)
      · skip
        exact hj_X10_member_53 L
      · skip
        refine hs_ob (fun b_3 hb_3 => ?_)
        refine hs_gd (fun gz1 => ?_)
        refine hs_ob (fun b_5 hb_5 => ?_)
        refine hs_gd (fun gz2 => ?_)
        refine hs_ite (fun _ => ?_) (fun _ => ?_)
        · skip
          exact hj_X10_member_47 L ih
        · skip
          refine hs_ite (fun _ => ?_) (fun _ => ?_)
          · skip
            exact hs_some HG_r
          · skip
            refine hs_biv (fun x_11 _ => ?_)
            exact hj_X10_member_47 L ih
theorem hf_X10_member {ad : List Nat} {h : hp} (L : Lay TLx ad h) {N : Nat} {a0 : Nat} {x1 : Int32} {x2 : Int32} {x3 : Int32}  {δ : dp} : hs (D_X10_member N h.1 a0 x1 x2 x3 δ) (fun r => HG true true ad δ r.2) := by
  unfold D_X10_member
  exact hl_X10_member_6 L N x3 0 δ
theorem hf_X11_bad {ad : List Nat} {h : hp} (L : Lay TLx ad h) {N : Nat} {a0 : Nat} {x1 : Int32} {x2 : Int32} {x3 : Int32} (k11_a0 : q_K h.1 a0 = 11) {δ : dp} : hs (D_X11_bad N h.1 a0 x1 x2 x3 δ) (fun r => HG true false ad δ r.2) := by
  unfold D_X11_bad
  refine hs_bind (hf_X11_mayGoThroughAll L) (fun r_1 u1' => ?_)
  have u1 : HG true false ad δ r_1.2 := (u1').w (by decide) (by decide)
  refine hs_bxv (hf_X11_need L k11_a0) (fun _ _ u2' => u1.t (u2')) (fun δ_4 u2' => ?_)
  have u2 : HG true false ad δ δ_4 := u1.t (u2')
  refine hs_ob (fun b_5 hb_5 => ?_)
  refine hs_bind (hf_X10_learn L (kO_11_9 L k11_a0 hb_5)) (fun r_7 u3' => ?_)
  have u3 : HG true false ad δ r_7 := u2.t ((u3').w (by decide) (by decide))
  refine hs_ob (fun b_8 hb_8 => ?_)
  refine hs_bind (hf_X10_member L) (fun r_10 u4' => ?_)
  have u4 : HG true false ad δ r_10.2 := u3.t ((u4').w (by decide) (by decide))
  exact hs_some u4
theorem hf_X3_clear {ad : List Nat} {h : hp} (L : Lay TLx ad h) {N : Nat} {a0 : Nat} (c3_a0 : q_K h.1 a0 = 3 ∧ nh ad a0) {δ : dp} : hs (D_X3_clear N h.1 a0 δ) (fun r => HG true true ad δ r) := by
  unfold D_X3_clear
  refine hs_bdv (fun δ_1 e1 => ?_)
  have u1 : HG true true ad δ δ_1 := HG.M HG_r e1 c3_a0.2
  exact hs_some u1
theorem hj_X3_add_36 {ad : List Nat} {h : hp} (L : Lay TLx ad h) {N : Nat} {a0 : Nat} {x1 : Int32}  {δ : dp} : hs (J_X3_add_36 N h.1 a0 x1 δ) (fun r => HG true true ad δ r.2) := by
  unfold J_X3_add_36
  refine hs_gp (fun gk1 => ?_)
  exact hs_some HG_r
theorem hj_X3_add_24 {ad : List Nat} {h : hp} (L : Lay TLx ad h) {N : Nat} {a0 : Nat} {x1 : Int32} {x2v : Int32} (c3_a0 : q_K h.1 a0 = 3 ∧ nh ad a0) {δ : dp} : hs (J_X3_add_24 N h.1 a0 x1 x2v δ) (fun r => HG true true ad δ r.2) := by
  unfold J_X3_add_24
  refine hs_ob (fun b_3 hb_3 => ?_)
  refine hs_ite (fun _ => ?_) (fun _ => ?_)
  · skip
    refine hs_ob (fun b_6 hb_6 => ?_)
    refine hs_ob (fun b_8 hb_8 => ?_)
    refine hs_gd (fun gz1 => ?_)
    refine hs_bdv (fun δ_10 e2 => ?_)
    have u2 : HG true true ad δ δ_10 := HG.C HG_r e2 (nr3 L c3_a0 hb_8)
    refine hs_ob (fun b_12 hb_12 => ?_)
    refine hs_gd (fun gz3 => ?_)
    refine hs_bdv (fun δ_14 e4 => ?_)
    have u4 : HG true true ad δ δ_14 := HG.R u2 e4 (nr3 L c3_a0 hb_12)
    refine hs_bdv (fun δ_16 e5 => ?_)
    have u5 : HG true true ad δ δ_16 := HG.M u4 e5 c3_a0.2
    refine hs_gp (fun gk6 => ?_)
    exact hs_some u5
  · skip
    exact hj_X3_add_36 L
theorem hf_X3_add {ad : List Nat} {h : hp} (L : Lay TLx ad h) {N : Nat} {a0 : Nat} {x1 : Int32} (c3_a0 : q_K h.1 a0 = 3 ∧ nh ad a0) {δ : dp} : hs (D_X3_add N h.1 a0 x1 δ) (fun r => HG true true ad δ r.2) := by
  unfold D_X3_add
  refine hs_bind (hf_X3_firstFrom L) (fun r_1 u1' => ?_)
  have u1 : HG true true ad δ r_1.2 := u1'
  refine hs_ite (fun _ => ?_) (fun _ => ?_)
  · skip
    exact hs_mono (hj_X3_add_24 L c3_a0) (fun _ hr => u1.t (hr))
  · skip
    refine hs_ob (fun b_18 hb_18 => ?_)
    refine hs_gd (fun gz2 => ?_)
    refine hs_ite (fun _ => ?_) (fun _ => ?_)
    · skip
      exact hs_mono (hj_X3_add_36 L) (fun _ hr => u1.t (hr))
    · skip
      exact hs_mono (hj_X3_add_24 L c3_a0) (fun _ hr => u1.t (hr))
theorem hj_X3_remove_24 {ad : List Nat} {h : hp} (L : Lay TLx ad h) {N : Nat} {a0 : Nat} {x1 : Int32}  {δ : dp} : hs (J_X3_remove_24 N h.1 a0 x1 δ) (fun r => HG true true ad δ r.2) := by
  unfold J_X3_remove_24
  refine hs_gp (fun gk1 => ?_)
  exact hs_some HG_r
theorem hf_X3_remove {ad : List Nat} {h : hp} (L : Lay TLx ad h) {N : Nat} {a0 : Nat} {x1 : Int32} (c3_a0 : q_K h.1 a0 = 3 ∧ nh ad a0) {δ : dp} : hs (D_X3_remove N h.1 a0 x1 δ) (fun r => HG true true ad δ r.2) := by
  unfold D_X3_remove
  refine hs_bind (hf_X3_firstFrom L) (fun r_1 u1' => ?_)
  have u1 : HG true true ad δ r_1.2 := u1'
  refine hs_ite (fun _ => ?_) (fun _ => ?_)
  · skip
    exact hs_mono (hj_X3_remove_24 L) (fun _ hr => u1.t (hr))
  · skip
    refine hs_ob (fun b_3 hb_3 => ?_)
    refine hs_gd (fun gz2 => ?_)
    refine hs_ite (fun _ => ?_) (fun _ => ?_)
    · skip
      refine hs_bdv (fun δ_6 e3 => ?_)
      have u3 : HG true true ad δ δ_6 := HG.M u1 e3 c3_a0.2
      refine hs_ob (fun b_8 hb_8 => ?_)
      refine hs_ob (fun b_10 hb_10 => ?_)
      refine hs_gd (fun gz4 => ?_)
      refine hs_bdv (fun δ_12 e5 => ?_)
      have u5 : HG true true ad δ δ_12 := HG.C u3 e5 (nr3 L c3_a0 hb_10)
      refine hs_gp (fun gk6 => ?_)
      exact hs_some u5
    · skip
      exact hs_mono (hj_X3_remove_24 L) (fun _ hr => u1.t (hr))
theorem hj_X2_replay_53 {ad : List Nat} {h : hp} (L : Lay TLx ad h) {N : Nat} {a0 : Nat} {a1 : Nat} {x2 : Int32} {x3 : Int32}  {δ : dp} : hs (J_X2_replay_53 N h.1 a0 a1 x2 x3 δ) (fun r => HG true true ad δ r) := by
  unfold J_X2_replay_53
  exact hs_some HG_r
theorem hj_X2_replay_16 {ad : List Nat} {h : hp} (L : Lay TLx ad h) {N : Nat} {a0 : Nat} {a1 : Nat} {x2 : Int32} {x3 : Int32} {xs0 : Int32} (c3_a1 : q_K h.1 a1 = 3 ∧ nh ad a1) {δ : dp} : hs (J_X2_replay_16 N h.1 a0 a1 x2 x3 xs0 δ) (fun r => HG true true ad δ r) := by
  unfold J_X2_replay_16
  refine hs_ite (fun _ => ?_) (fun _ => ?_)
  · skip
    refine hs_ob (fun b_5 hb_5 => ?_)
    refine hs_gd (fun gz1 => ?_)
    refine hs_bind (hf_X3_remove L c3_a1) (fun r_7 u2' => ?_)
    have u2 : HG true true ad δ r_7.2 := u2'
    exact hs_mono (hj_X2_replay_53 L) (fun _ hr => u2.t (hr))
  · skip
    refine hs_ob (fun b_8 hb_8 => ?_)
    refine hs_gd (fun gz3 => ?_)
    refine hs_bind (hf_X3_add L c3_a1) (fun r_10 u4' => ?_)
    have u4 : HG true true ad δ r_10.2 := u4'
    exact hs_mono (hj_X2_replay_53 L) (fun _ hr => u4.t (hr))
theorem hf_X2_replay {ad : List Nat} {h : hp} (L : Lay TLx ad h) {N : Nat} {a0 : Nat} {a1 : Nat} {x2 : Int32} {x3 : Int32} (c3_a1 : q_K h.1 a1 = 3 ∧ nh ad a1) {δ : dp} : hs (D_X2_replay N h.1 a0 a1 x2 x3 δ) (fun r => HG true true ad δ r) := by
  unfold D_X2_replay
  refine hs_ob (fun b_1 hb_1 => ?_)
  refine hs_gd (fun gz1 => ?_)
  refine hs_ite (fun _ => ?_) (fun _ => ?_)
  · skip
    exact hj_X2_replay_16 L c3_a1
  · skip
    exact hj_X2_replay_16 L c3_a1
theorem hl_X2_fillPast_6 {ad : List Nat} {h : hp} (L : Lay TLx ad h) {N : Nat} {a0 : Nat} {a1 : Nat} {x2 : Int32} (c3_a1 : q_K h.1 a1 = 3 ∧ nh ad a1) : ∀ (n : Nat) (x3v : Int32) (δ : dp), hs (L_X2_fillPast_6 N h.1 a0 a1 x2 n x3v δ) (fun r => HG true true ad δ r) := by
  intro n
  induction n with
  | zero => intro x3v δ; unfold L_X2_fillPast_6; exact hs_none
  | succ n ih =>
    intro x3v δ
    unfold L_X2_fillPast_6
    refine hs_ite (fun _ => ?_) (fun _ => ?_)
    · skip
      exact hs_some HG_r
    · skip
      refine hs_bind (hf_X2_replay L c3_a1) (fun r_3 u1' => ?_)
      have u1 : HG true true ad δ r_3 := u1'
      refine hs_biv (fun x_4 _ => ?_)
      exact hs_mono (ih x_4 r_3) (fun _ hr => u1.t (hr))
theorem hf_X2_fillPast {ad : List Nat} {h : hp} (L : Lay TLx ad h) {N : Nat} {a0 : Nat} {a1 : Nat} {x2 : Int32} (c3_a1 : q_K h.1 a1 = 3 ∧ nh ad a1) {δ : dp} : hs (D_X2_fillPast N h.1 a0 a1 x2 δ) (fun r => HG true true ad δ r) := by
  unfold D_X2_fillPast
  refine hs_bind (hf_X3_clear L c3_a1) (fun r_1 u1' => ?_)
  have u1 : HG true true ad δ r_1 := u1'
  exact hs_mono (hl_X2_fillPast_6 L c3_a1 N 0 r_1) (fun _ hr => u1.t (hr))
theorem hj_X11_was_37 {ad : List Nat} {h : hp} (L : Lay TLx ad h) {N : Nat} {a0 : Nat} {x1 : Int32} {x2 : Int32} {x3 : Int32} {xs0 : Int32} {as1 : Nat} (k11_a0 : q_K h.1 a0 = 11) (k11_as1 : q_K h.1 as1 = 11) {δ : dp} : hs (J_X11_was_37 N h.1 a0 x1 x2 x3 xs0 as1 δ) (fun r => HG true false ad δ r.2) := by
  unfold J_X11_was_37
  refine hs_bxv (hf_X11_need L k11_as1) (fun _ _ u1' => u1') (fun δ_7 u1' => ?_)
  have u1 : HG true false ad δ δ_7 := u1'
  refine hs_ob (fun b_8 hb_8 => ?_)
  refine hs_gd (fun gz2 => ?_)
  refine hs_ob (fun b_10 hb_10 => ?_)
  refine hs_ob (fun b_12 hb_12 => ?_)
  refine hs_bind (hf_X2_fillPast L (c3O_11_7 L k11_a0 hb_12)) (fun r_14 u3' => ?_)
  have u3 : HG true false ad δ r_14 := u1.t ((u3').w (by decide) (by decide))
  refine hs_ob (fun b_15 hb_15 => ?_)
  refine hs_bind (hf_X3_tell L) (fun r_17 u4' => ?_)
  have u4 : HG true false ad δ r_17.2 := u3.t ((u4').w (by decide) (by decide))
  exact hs_some u4
theorem hj_X11_was_36 {ad : List Nat} {h : hp} (L : Lay TLx ad h) {N : Nat} {a0 : Nat} {x1 : Int32} {x2 : Int32} {x3 : Int32} {as0 : Nat} (k11_a0 : q_K h.1 a0 = 11) (k11_as0 : q_K h.1 as0 = 11) {δ : dp} : hs (J_X11_was_36 N h.1 a0 x1 x2 x3 as0 δ) (fun r => HG true false ad δ r.2) := by
  unfold J_X11_was_36
  exact hj_X11_was_37 L k11_a0 k11_as0
theorem hf_X11_was {ad : List Nat} {h : hp} (L : Lay TLx ad h) {N : Nat} {a0 : Nat} {x1 : Int32} {x2 : Int32} {x3 : Int32} (k11_a0 : q_K h.1 a0 = 11) {δ : dp} : hs (D_X11_was N h.1 a0 x1 x2 x3 δ) (fun r => HG true false ad δ r.2) := by
  unfold D_X11_was
  refine hs_bxv (hf_X11_needHouse L k11_a0) (fun _ _ u1' => u1') (fun δ_3 u1' => ?_)
  have u1 : HG true false ad δ δ_3 := u1'
  refine hs_ite (fun _ => ?_) (fun _ => ?_)
  · skip
    exact hs_mono (hj_X11_was_36 L k11_a0 k11_a0) (fun _ hr => u1.t (hr))
  · skip
    refine hs_ob (fun b_18 hb_18 => ?_)
    refine hs_gd (fun gz2 => ?_)
    refine hs_ob (fun b_20 hb_20 => ?_)
    refine hs_ite (fun _ => ?_) (fun _ => ?_)
    · skip
      exact hs_mono (hj_X11_was_36 L k11_a0 k11_a0) (fun _ hr => u1.t (hr))
    · skip
      refine hs_ite (fun _ => ?_) (fun _ => ?_)
      · skip
        exact hs_mono (hj_X11_was_36 L k11_a0 k11_a0) (fun _ hr => u1.t (hr))
      · skip
        refine hs_ite (fun _ => ?_) (fun _ => ?_)
        · skip
          exact hs_mono (hj_X11_was_36 L k11_a0 k11_a0) (fun _ hr => u1.t (hr))
        · skip
          exact hs_mono (hj_X11_was_37 L k11_a0 k11_a0) (fun _ hr => u1.t (hr))
theorem hj_X3_answer_62 {ad : List Nat} {h : hp} (L : Lay TLx ad h) {N : Nat} {a0 : Nat} {x1 : Int32} {x2 : Int32} {xs0 : Int32}  {δ : dp} : hs (J_X3_answer_62 N h.1 a0 x1 x2 xs0 δ) (fun r => HG true true ad δ r.2) := by
  unfold J_X3_answer_62
  exact hs_some HG_r
theorem hj_X3_answer_52 {ad : List Nat} {h : hp} (L : Lay TLx ad h) {N : Nat} {a0 : Nat} {x1 : Int32} {x2 : Int32} {xs0 : Int32}  {δ : dp} : hs (J_X3_answer_52 N h.1 a0 x1 x2 xs0 δ) (fun r => HG true true ad δ r.2) := by
  unfold J_X3_answer_52
  refine hs_ite (fun _ => ?_) (fun _ => ?_)
  · skip
    exact hj_X3_answer_62 L
  · skip
    exact hj_X3_answer_62 L
theorem hf_X3_answer {ad : List Nat} {h : hp} (L : Lay TLx ad h) {N : Nat} {a0 : Nat} {x1 : Int32} {x2 : Int32} (c3_a0 : q_K h.1 a0 = 3 ∧ nh ad a0) {δ : dp} : hs (D_X3_answer N h.1 a0 x1 x2 δ) (fun r => HG true true ad δ r.2) := by
  unfold D_X3_answer
  refine hs_ite (fun _ => ?_) (fun _ => ?_)
  · skip
    refine hs_bind (hf_X3_above L) (fun r_10 u1' => ?_)
    have u1 : HG true true ad δ r_10.2 := u1'
    exact hs_some u1
  · skip
    refine hs_ite (fun _ => ?_) (fun _ => ?_)
    · skip
      refine hs_bind (hf_X3_below L) (fun r_9 u2' => ?_)
      have u2 : HG true true ad δ r_9.2 := u2'
      exact hs_some u2
    · skip
      refine hs_ite (fun _ => ?_) (fun _ => ?_)
      · skip
        refine hs_bind (hf_X3_add L c3_a0) (fun r_8 u3' => ?_)
        have u3 : HG true true ad δ r_8.2 := u3'
        exact hs_mono (hj_X3_answer_52 L) (fun _ hr => u3.t (hr))
      · skip
        refine hs_ite (fun _ => ?_) (fun _ => ?_)
        · skip
          refine hs_bind (hf_X3_remove L c3_a0) (fun r_7 u4' => ?_)
          have u4 : HG true true ad δ r_7.2 := u4'
          exact hs_mono (hj_X3_answer_52 L) (fun _ hr => u4.t (hr))
        · skip
          refine hs_bind (hf_X3_holds L) (fun r_5 u5' => ?_)
          have u5 : HG true true ad δ r_5.2 := u5'
          exact hs_mono (hj_X3_answer_52 L) (fun _ hr => u5.t (hr))
theorem hj_X11_asked_50 {ad : List Nat} {h : hp} (L : Lay TLx ad h) {N : Nat} {a0 : Nat} {x1 : Int32} {x2 : Int32} {x3 : Int32} {x4 : Int32} {xs0 : Int32} {as1 : Nat} (k11_a0 : q_K h.1 a0 = 11) (k11_as1 : q_K h.1 as1 = 11) {δ : dp} : hs (J_X11_asked_50 N h.1 a0 x1 x2 x3 x4 xs0 as1 δ) (fun r => HG true false ad δ r.2) := by
  unfold J_X11_asked_50
  refine hs_bxv (hf_X11_need L k11_as1) (fun _ _ u1' => u1') (fun δ_7 u1' => ?_)
  have u1 : HG true false ad δ δ_7 := u1'
  refine hs_ob (fun b_8 hb_8 => ?_)
  refine hs_gd (fun gz2 => ?_)
  refine hs_ob (fun b_10 hb_10 => ?_)
  refine hs_ob (fun b_12 hb_12 => ?_)
  refine hs_bind (hf_X2_fillPast L (c3O_11_7 L k11_a0 hb_12)) (fun r_14 u3' => ?_)
  have u3 : HG true false ad δ r_14 := u1.t ((u3').w (by decide) (by decide))
  refine hs_ob (fun b_15 hb_15 => ?_)
  refine hs_bind (hf_X3_answer L (c3O_11_7 L k11_a0 hb_15)) (fun r_17 u4' => ?_)
  have u4 : HG true false ad δ r_17.2 := u3.t ((u4').w (by decide) (by decide))
  exact hs_some u4
theorem hj_X11_asked_49 {ad : List Nat} {h : hp} (L : Lay TLx ad h) {N : Nat} {a0 : Nat} {x1 : Int32} {x2 : Int32} {x3 : Int32} {x4 : Int32} {as0 : Nat} (k11_a0 : q_K h.1 a0 = 11) (k11_as0 : q_K h.1 as0 = 11) {δ : dp} : hs (J_X11_asked_49 N h.1 a0 x1 x2 x3 x4 as0 δ) (fun r => HG true false ad δ r.2) := by
  unfold J_X11_asked_49
  exact hj_X11_asked_50 L k11_a0 k11_as0
theorem hf_X11_asked {ad : List Nat} {h : hp} (L : Lay TLx ad h) {N : Nat} {a0 : Nat} {x1 : Int32} {x2 : Int32} {x3 : Int32} {x4 : Int32} (k11_a0 : q_K h.1 a0 = 11) {δ : dp} : hs (D_X11_asked N h.1 a0 x1 x2 x3 x4 δ) (fun r => HG true false ad δ r.2) := by
  unfold D_X11_asked
  refine hs_bxv (hf_X11_needHouse L k11_a0) (fun _ _ u1' => u1') (fun δ_3 u1' => ?_)
  have u1 : HG true false ad δ δ_3 := u1'
  refine hs_ite (fun _ => ?_) (fun _ => ?_)
  · skip
    exact hs_mono (hj_X11_asked_49 L k11_a0 k11_a0) (fun _ hr => u1.t (hr))
  · skip
    refine hs_ob (fun b_18 hb_18 => ?_)
    refine hs_gd (fun gz2 => ?_)
    refine hs_ob (fun b_20 hb_20 => ?_)
    refine hs_ite (fun _ => ?_) (fun _ => ?_)
    · skip
      exact hs_mono (hj_X11_asked_49 L k11_a0 k11_a0) (fun _ hr => u1.t (hr))
    · skip
      refine hs_bind (hf_X11_isCall L) (fun r_23 u3' => ?_)
      have u3 : HG true false ad δ r_23.2 := u1.t ((u3').w (by decide) (by decide))
      refine hs_ite (fun _ => ?_) (fun _ => ?_)
      · skip
        exact hs_mono (hj_X11_asked_49 L k11_a0 k11_a0) (fun _ hr => u3.t (hr))
      · skip
        refine hs_ite (fun _ => ?_) (fun _ => ?_)
        · skip
          exact hs_mono (hj_X11_asked_49 L k11_a0 k11_a0) (fun _ hr => u3.t (hr))
        · skip
          refine hs_bind (hf_X11_mayAsk L) (fun r_26 u4' => ?_)
          have u4 : HG true false ad δ r_26.2 := u3.t ((u4').w (by decide) (by decide))
          refine hs_ite (fun _ => ?_) (fun _ => ?_)
          · skip
            exact hs_mono (hj_X11_asked_49 L k11_a0 k11_a0) (fun _ hr => u4.t (hr))
          · skip
            exact hs_mono (hj_X11_asked_50 L k11_a0 k11_a0) (fun _ hr => u4.t (hr))
theorem hl_X2_lastChange_7 {ad : List Nat} {h : hp} (L : Lay TLx ad h) {N : Nat} {a0 : Nat} {x1 : Int32} {x2 : Int32}  : ∀ (n : Nat) (x3v : Int32) (δ : dp), hs (L_X2_lastChange_7 N h.1 a0 x1 x2 n x3v δ) (fun r => HG true true ad δ r.2) := by
  intro n
  induction n with
  | zero => intro x3v δ; unfold L_X2_lastChange_7; exact hs_none
  | succ n ih =>
    intro x3v δ
    unfold L_X2_lastChange_7
    refine hs_ite (fun _ => ?_) (fun _ => ?_)
    · skip
      exact hs_some HG_r
    · skip
      refine hs_ob (fun b_4 hb_4 => ?_)
      refine hs_gd (fun gz1 => ?_)
      refine hs_ite (fun _ => ?_) (fun _ => ?_)
      · skip
        exact hs_some HG_r
      · skip
        refine hs_biv (fun x_7 _ => ?_)
        exact ih x_7 δ
theorem hf_X2_lastChange {ad : List Nat} {h : hp} (L : Lay TLx ad h) {N : Nat} {a0 : Nat} {x1 : Int32} {x2 : Int32}  {δ : dp} : hs (D_X2_lastChange N h.1 a0 x1 x2 δ) (fun r => HG true true ad δ r.2) := by
  unfold D_X2_lastChange
  refine hs_biv (fun x_1 _ => ?_)
  exact hl_X2_lastChange_7 L N x_1 δ
theorem hj_X11_since_46 {ad : List Nat} {h : hp} (L : Lay TLx ad h) {N : Nat} {a0 : Nat} {x1 : Int32} {x2 : Int32} {x3 : Int32} {xs0 : Int32} {as1 : Nat}  {δ : dp} : hs (J_X11_since_46 N h.1 a0 x1 x2 x3 xs0 as1 δ) (fun r => HG true true ad δ r.2) := by
  unfold J_X11_since_46
  refine hs_bind (hf_X2_lastChange L) (fun r_14 u1' => ?_)
  have u1 : HG true true ad δ r_14.2 := u1'
  exact hs_some u1
theorem hj_X11_since_28 {ad : List Nat} {h : hp} (L : Lay TLx ad h) {N : Nat} {a0 : Nat} {x1 : Int32} {x2 : Int32} {x3 : Int32} {xs0 : Int32} {as1 : Nat} (k11_as1 : q_K h.1 as1 = 11) {δ : dp} : hs (J_X11_since_28 N h.1 a0 x1 x2 x3 xs0 as1 δ) (fun r => HG true false ad δ r.2) := by
  unfold J_X11_since_28
  refine hs_bxv (hf_X11_need L k11_as1) (fun _ _ u1' => u1') (fun δ_8 u1' => ?_)
  have u1 : HG true false ad δ δ_8 := u1'
  refine hs_ob (fun b_9 hb_9 => ?_)
  refine hs_gd (fun gz2 => ?_)
  refine hs_ob (fun b_11 hb_11 => ?_)
  refine hs_ite (fun _ => ?_) (fun _ => ?_)
  · skip
    exact hs_mono (hj_X11_since_46 L) (fun _ hr => u1.t ((hr).w (by decide) (by decide)))
  · skip
    exact hs_mono (hj_X11_since_46 L) (fun _ hr => u1.t ((hr).w (by decide) (by decide)))
theorem hj_X11_since_23 {ad : List Nat} {h : hp} (L : Lay TLx ad h) {N : Nat} {a0 : Nat} {x1 : Int32} {x2 : Int32} {x3 : Int32} {as0 : Nat} (k11_as0 : q_K h.1 as0 = 11) {δ : dp} : hs (J_X11_since_23 N h.1 a0 x1 x2 x3 as0 δ) (fun r => HG true false ad δ r.2) := by
  unfold J_X11_since_23
  exact hj_X11_since_28 L k11_as0
theorem hj_X11_since_27 {ad : List Nat} {h : hp} (L : Lay TLx ad h) {N : Nat} {a0 : Nat} {x1 : Int32} {x2 : Int32} {x3 : Int32} {as0 : Nat} (k11_as0 : q_K h.1 as0 = 11) {δ : dp} : hs (J_X11_since_27 N h.1 a0 x1 x2 x3 as0 δ) (fun r => HG true false ad δ r.2) := by
  unfold J_X11_since_27
  exact hj_X11_since_28 L k11_as0
theorem hf_X11_since {ad : List Nat} {h : hp} (L : Lay TLx ad h) {N : Nat} {a0 : Nat} {x1 : Int32} {x2 : Int32} {x3 : Int32} (k11_a0 : q_K h.1 a0 = 11) {δ : dp} : hs (D_X11_since N h.1 a0 x1 x2 x3 δ) (fun r => HG true false ad δ r.2) := by
  unfold D_X11_since
  refine hs_bxv (hf_X11_needHouse L k11_a0) (fun _ _ u1' => u1') (fun δ_3 u1' => ?_)
  have u1 : HG true false ad δ δ_3 := u1'
  refine hs_bind (hf_X11_isNumber L) (fun r_4 u2' => ?_)
  have u2 : HG true false ad δ r_4.2 := u1.t ((u2').w (by decide) (by decide))
  refine hs_ite (fun _ => ?_) (fun _ => ?_)
  · skip
    exact hs_mono (hj_X11_since_27 L k11_a0) (fun _ hr => u2.t (hr))
  · skip
    refine hs_ite (fun _ => ?_) (fun _ => ?_)
    · skip
      exact hs_mono (hj_X11_since_23 L k11_a0) (fun _ hr => u2.t (hr))
    · skip
      refine hs_ite (fun _ => ?_) (fun _ => ?_)
      · skip
        exact hs_mono (hj_X11_since_23 L k11_a0) (fun _ hr => u2.t (hr))
      · skip
        exact hs_mono (hj_X11_since_27 L k11_a0) (fun _ hr => u2.t (hr))
theorem hl_X2_copying_4 {ad : List Nat} {h : hp} (L : Lay TLx ad h) {N : Nat} {a0 : Nat}  : ∀ (n : Nat) (x1v : Int32) (x2v : Int32) (δ : dp), hs (L_X2_copying_4 N h.1 a0 n x1v x2v δ) (fun r => HG true true ad δ r.2) := by
  intro n
  induction n with
  | zero => intro x1v x2v δ; unfold L_X2_copying_4; exact hs_none
  | succ n ih =>
    intro x1v x2v δ
    unfold L_X2_copying_4
    refine hs_ite (fun _ => ?_) (fun _ => ?_)
    · skip
      exact hs_some HG_r
    · skip
      refine hs_ob (fun b_2 hb_2 => ?_)
      refine hs_gd (fun gz1 => ?_)
      refine hs_biv (fun x_4 _ => ?_)
      refine hs_biv (fun x_6 _ => ?_)
      exact ih x_4 x_6 δ
theorem hf_X2_copying {ad : List Nat} {h : hp} (L : Lay TLx ad h) {N : Nat} {a0 : Nat}  {δ : dp} : hs (D_X2_copying N h.1 a0 δ) (fun r => HG true true ad δ r.2) := by
  unfold D_X2_copying
  exact hl_X2_copying_4 L N 0 0 δ
theorem hj_X11_room_48 {ad : List Nat} {h : hp} (L : Lay TLx ad h) {N : Nat} {a0 : Nat} {x1 : Int32} {x2 : Int32} {xs0 : Int32}  {δ : dp} : hs (J_X11_room_48 N h.1 a0 x1 x2 xs0 δ) (fun r => HG true true ad δ r.2) := by
  unfold J_X11_room_48
  exact hs_some HG_r
theorem hj_X11_room_20 {ad : List Nat} {h : hp} (L : Lay TLx ad h) {N : Nat} {a0 : Nat} {x1 : Int32} {x2 : Int32} {xs0 : Int32} {as1 : Nat} (k11_as1 : q_K h.1 as1 = 11) {δ : dp} : hs (J_X11_room_20 N h.1 a0 x1 x2 xs0 as1 δ) (fun r => HG true false ad δ r.2) := by
  unfold J_X11_room_20
  refine hs_bxv (hf_X11_need L k11_as1) (fun _ _ u1' => u1') (fun δ_7 u1' => ?_)
  have u1 : HG true false ad δ δ_7 := u1'
  refine hs_ite (fun _ => ?_) (fun _ => ?_)
  · skip
    refine hs_ob (fun b_13 hb_13 => ?_)
    refine hs_gd (fun gz2 => ?_)
    refine hs_ob (fun b_15 hb_15 => ?_)
    refine hs_bind (hf_X2_copying L) (fun r_17 u3' => ?_)
    have u3 : HG true false ad δ r_17.2 := u1.t ((u3').w (by decide) (by decide))
    exact hs_mono (hj_X11_room_48 L) (fun _ hr => u3.t ((hr).w (by decide) (by decide)))
  · skip
    refine hs_ob (fun b_9 hb_9 => ?_)
    refine hs_gd (fun gz4 => ?_)
    refine hs_ob (fun b_11 hb_11 => ?_)
    exact hs_mono (hj_X11_room_48 L) (fun _ hr => u1.t ((hr).w (by decide) (by decide)))
theorem hj_X11_room_15 {ad : List Nat} {h : hp} (L : Lay TLx ad h) {N : Nat} {a0 : Nat} {x1 : Int32} {x2 : Int32} {as0 : Nat} (k11_as0 : q_K h.1 as0 = 11) {δ : dp} : hs (J_X11_room_15 N h.1 a0 x1 x2 as0 δ) (fun r => HG true false ad δ r.2) := by
  unfold J_X11_room_15
  exact hj_X11_room_20 L k11_as0
theorem hf_X11_room {ad : List Nat} {h : hp} (L : Lay TLx ad h) {N : Nat} {a0 : Nat} {x1 : Int32} {x2 : Int32} (k11_a0 : q_K h.1 a0 = 11) {δ : dp} : hs (D_X11_room N h.1 a0 x1 x2 δ) (fun r => HG true false ad δ r.2) := by
  unfold D_X11_room
  refine hs_bxv (hf_X11_needHouse L k11_a0) (fun _ _ u1' => u1') (fun δ_3 u1' => ?_)
  have u1 : HG true false ad δ δ_3 := u1'
  refine hs_ite (fun _ => ?_) (fun _ => ?_)
  · skip
    exact hs_mono (hj_X11_room_15 L k11_a0) (fun _ hr => u1.t (hr))
  · skip
    refine hs_ite (fun _ => ?_) (fun _ => ?_)
    · skip
      exact hs_mono (hj_X11_room_15 L k11_a0) (fun _ hr => u1.t (hr))
    · skip
      exact hs_mono (hj_X11_room_20 L k11_a0) (fun _ hr => u1.t (hr))
theorem hj_J6_compare_7cf53_19 {ad : List Nat} {h : hp} (L : Lay TLx ad h) {N : Nat} {x0 : Int32} {x1 : Int32} {xs0 : Int32}  {δ : dp} : hs (J_J6_compare_7cf53_19 N h.1 x0 x1 xs0 δ) (fun r => HG true true ad δ r.2) := by
  unfold J_J6_compare_7cf53_19
  exact hs_some HG_r
theorem hf_J6_compare_7cf53 {ad : List Nat} {h : hp} (L : Lay TLx ad h) {N : Nat} {x0 : Int32} {x1 : Int32}  {δ : dp} : hs (D_J6_compare_7cf53 N h.1 x0 x1 δ) (fun r => HG true true ad δ r.2) := by
  unfold D_J6_compare_7cf53
  refine hs_ite (fun _ => ?_) (fun _ => ?_)
  · skip
    refine hs_ite (fun _ => ?_) (fun _ => ?_)
    · skip
      exact hj_J6_compare_7cf53_19 L
    · skip
      exact hj_J6_compare_7cf53_19 L
  · skip
    exact hj_J6_compare_7cf53_19 L
theorem hj_X3_runsWith_106 {ad : List Nat} {h : hp} (L : Lay TLx ad h) {N : Nat} {a0 : Nat} {a1 : Nat} {kt10 : Int32 → Int32 → Int32 → Int32 → dp → Option (Int32 × dp)} {x2v : Int32} {x3v : Int32} {x4v : Int32} {x5v : Int32} (h_kt10 : ∀ (y0 : Int32) (y1 : Int32) (y2 : Int32) (y3 : Int32) (δ1 : dp), hs (kt10 y0 y1 y2 y3 δ1) (fun r => HG true true ad δ1 r.2)) {δ : dp} : hs (J_X3_runsWith_106 N h.1 a0 a1 kt10 x2v x3v x4v x5v δ) (fun r => HG true true ad δ r.2) := by
  unfold J_X3_runsWith_106
  exact h_kt10 x2v x3v x4v x5v δ
theorem hj_X3_runsWith_98 {ad : List Nat} {h : hp} (L : Lay TLx ad h) {N : Nat} {a0 : Nat} {a1 : Nat} {kt10 : Int32 → Int32 → Int32 → Int32 → dp → Option (Int32 × dp)} {x2v : Int32} {x3v : Int32} {x4v : Int32} {x5v : Int32} {x6v : Int32} (h_kt10 : ∀ (y0 : Int32) (y1 : Int32) (y2 : Int32) (y3 : Int32) (δ1 : dp), hs (kt10 y0 y1 y2 y3 δ1) (fun r => HG true true ad δ1 r.2)) {δ : dp} : hs (J_X3_runsWith_98 N h.1 a0 a1 kt10 x2v x3v x4v x5v x6v δ) (fun r => HG true true ad δ r.2) := by
  unfold J_X3_runsWith_98
  refine hs_ite (fun _ => ?_) (fun _ => ?_)
  · skip
    exact hj_X3_runsWith_106 L h_kt10
  · skip
    refine hs_biv (fun x_12 _ => ?_)
    exact hj_X3_runsWith_106 L h_kt10
theorem hj_X3_runsWith_90 {ad : List Nat} {h : hp} (L : Lay TLx ad h) {N : Nat} {a0 : Nat} {a1 : Nat} {kt10 : Int32 → Int32 → Int32 → Int32 → dp → Option (Int32 × dp)} {x2v : Int32} {x3v : Int32} {x4v : Int32} {x5v : Int32} {x6v : Int32} (h_kt10 : ∀ (y0 : Int32) (y1 : Int32) (y2 : Int32) (y3 : Int32) (δ1 : dp), hs (kt10 y0 y1 y2 y3 δ1) (fun r => HG true true ad δ1 r.2)) {δ : dp} : hs (J_X3_runsWith_90 N h.1 a0 a1 kt10 x2v x3v x4v x5v x6v δ) (fun r => HG true true ad δ r.2) := by
  unfold J_X3_runsWith_90
  refine hs_ite (fun _ => ?_) (fun _ => ?_)
  · skip
    exact hj_X3_runsWith_98 L h_kt10
  · skip
    refine hs_biv (fun x_14 _ => ?_)
    exact hj_X3_runsWith_98 L h_kt10
theorem hj_X3_runsWith_71 {ad : List Nat} {h : hp} (L : Lay TLx ad h) {N : Nat} {a0 : Nat} {a1 : Nat} {kt10 : Int32 → Int32 → Int32 → Int32 → dp → Option (Int32 × dp)} {xs0 : Int32} {x2v : Int32} {x3v : Int32} {x4v : Int32} {x5v : Int32} (h_kt10 : ∀ (y0 : Int32) (y1 : Int32) (y2 : Int32) (y3 : Int32) (δ1 : dp), hs (kt10 y0 y1 y2 y3 δ1) (fun r => HG true true ad δ1 r.2)) {δ : dp} : hs (J_X3_runsWith_71 N h.1 a0 a1 kt10 xs0 x2v x3v x4v x5v δ) (fun r => HG true true ad δ r.2) := by
  unfold J_X3_runsWith_71
  refine hs_ite (fun _ => ?_) (fun _ => ?_)
  · skip
    exact hj_X3_runsWith_90 L h_kt10
  · skip
    refine hs_ite (fun _ => ?_) (fun _ => ?_)
    · skip
      exact hj_X3_runsWith_90 L h_kt10
    · skip
      refine hs_biv (fun x_17 _ => ?_)
      exact hj_X3_runsWith_90 L h_kt10
theorem hj_X3_runsWith_28 {ad : List Nat} {h : hp} (L : Lay TLx ad h) {N : Nat} {a0 : Nat} {a1 : Nat} {kt10 : Int32 → Int32 → Int32 → Int32 → dp → Option (Int32 × dp)} {x2v : Int32} {x3v : Int32} {x4v : Int32} {x5v : Int32} (h_kt10 : ∀ (y0 : Int32) (y1 : Int32) (y2 : Int32) (y3 : Int32) (δ1 : dp), hs (kt10 y0 y1 y2 y3 δ1) (fun r => HG true true ad δ1 r.2)) {δ : dp} : hs (J_X3_runsWith_28 N h.1 a0 a1 kt10 x2v x3v x4v x5v δ) (fun r => HG true true ad δ r.2) := by
  unfold J_X3_runsWith_28
  refine hs_ite (fun _ => ?_) (fun _ => ?_)
  · skip
    refine hs_ite (fun _ => ?_) (fun _ => ?_)
    · skip
      refine hs_ob (fun b_4 hb_4 => ?_)
      refine hs_gd (fun gz1 => ?_)
      refine hs_ob (fun b_6 hb_6 => ?_)
      refine hs_gd (fun gz2 => ?_)
      refine hs_bind (hf_J6_compare_7cf53 L) (fun r_8 u3' => ?_)
      have u3 : HG true true ad δ r_8.2 := u3'
      exact hs_mono (hj_X3_runsWith_71 L h_kt10) (fun _ hr => u3.t (hr))
    · skip
      exact hj_X3_runsWith_71 L h_kt10
  · skip
    exact hj_X3_runsWith_71 L h_kt10
theorem hl_X3_runsWith_10 {ad : List Nat} {h : hp} (L : Lay TLx ad h) {N : Nat} {a0 : Nat} {a1 : Nat}  : ∀ (n : Nat) (x2v : Int32) (x3v : Int32) (x4v : Int32) (x5v : Int32) (δ : dp), hs (L_X3_runsWith_10 N h.1 a0 a1 n x2v x3v x4v x5v δ) (fun r => HG true true ad δ r.2) := by
  intro n
  induction n with
  | zero => intro x2v x3v x4v x5v δ; unfold L_X3_runsWith_10; exact hs_none
  | succ n ih =>
    intro x2v x3v x4v x5v δ
    unfold L_X3_runsWith_10
    refine hs_ite (fun _ => ?_) (fun _ => ?_)
    · skip
      exact hj_X3_runsWith_28 L ih
    · skip
      refine hs_ite (fun _ => ?_) (fun _ => ?_)
      · skip
        exact hs_some HG_r
      · skip
        exact hj_X3_runsWith_28 L ih
theorem hf_X3_runsWith {ad : List Nat} {h : hp} (L : Lay TLx ad h) {N : Nat} {a0 : Nat} {a1 : Nat}  {δ : dp} : hs (D_X3_runsWith N h.1 a0 a1 δ) (fun r => HG true true ad δ r.2) := by
  unfold D_X3_runsWith
  exact hl_X3_runsWith_10 L N 0 0 0 0 δ
theorem hf_X11_runs {ad : List Nat} {h : hp} (L : Lay TLx ad h) {N : Nat} {a0 : Nat} {x1 : Int32} {x2 : Int32} (k11_a0 : q_K h.1 a0 = 11) {δ : dp} : hs (D_X11_runs N h.1 a0 x1 x2 δ) (fun r => HG true false ad δ r.2) := by
  unfold D_X11_runs
  refine hs_bxv (hf_X11_needHouse L k11_a0) (fun _ _ u1' => u1') (fun δ_3 u1' => ?_)
  have u1 : HG true false ad δ δ_3 := u1'
  refine hs_bxv (hf_X11_needHouse L k11_a0) (fun _ _ u2' => u1.t (u2')) (fun δ_6 u2' => ?_)
  have u2 : HG true false ad δ δ_6 := u1.t (u2')
  refine hs_ob (fun b_7 hb_7 => ?_)
  refine hs_gd (fun gz3 => ?_)
  refine hs_ob (fun b_9 hb_9 => ?_)
  refine hs_ob (fun b_11 hb_11 => ?_)
  refine hs_ob (fun b_13 hb_13 => ?_)
  refine hs_gd (fun gz4 => ?_)
  refine hs_ob (fun b_15 hb_15 => ?_)
  refine hs_ob (fun b_17 hb_17 => ?_)
  refine hs_bind (hf_X3_runsWith L) (fun r_19 u5' => ?_)
  have u5 : HG true false ad δ r_19.2 := u2.t ((u5').w (by decide) (by decide))
  exact hs_some u5
theorem hj_X11_needThief_12 {ad : List Nat} {h : hp} (L : Lay TLx ad h) {N : Nat} {a0 : Nat} {x1 : Int32} (k11_a0 : q_K h.1 a0 = 11) {δ : dp} : hs (J_X11_needThief_12 N h.1 a0 x1 δ) (fun r => HG true false ad δ r.2) := by
  unfold J_X11_needThief_12
  refine hs_ob (fun b_2 hb_2 => ?_)
  refine hs_gd (fun gz1 => ?_)
  refine hs_gd (fun gz2 => ?_)
  refine hs_bdv (fun δ_4 e3 => ?_)
  have u3 : HG true false ad δ δ_4 := HG.Z HG_r e3 (nq_11_13 L k11_a0 hb_2)
  exact hs_some u3
theorem hf_X11_needThief {ad : List Nat} {h : hp} (L : Lay TLx ad h) {N : Nat} {a0 : Nat} {x1 : Int32} (k11_a0 : q_K h.1 a0 = 11) {δ : dp} : hs (D_X11_needThief N h.1 a0 x1 δ) (fun r => HG true false ad δ r.2) := by
  unfold D_X11_needThief
  refine hs_ite (fun _ => ?_) (fun _ => ?_)
  · skip
    exact hj_X11_needThief_12 L k11_a0
  · skip
    refine hs_ite (fun _ => ?_) (fun _ => ?_)
    · skip
      exact hs_some HG_r
    · skip
      exact hj_X11_needThief_12 L k11_a0
theorem hf_X3_copyFrom {ad : List Nat} {h : hp} (L : Lay TLx ad h) {N : Nat} {a0 : Nat} {a1 : Nat} (c3_a0 : q_K h.1 a0 = 3 ∧ nh ad a0) {δ : dp} : hs (D_X3_copyFrom N h.1 a0 a1 δ) (fun r => HG true true ad δ r) := by
  unfold D_X3_copyFrom
  refine hs_ob (fun b_1 hb_1 => ?_)
  refine hs_bind (hf_J9_min_7cf53 L) (fun r_3 u1' => ?_)
  have u1 : HG true true ad δ r_3.2 := u1'
  refine hs_bdv (fun δ_4 e2 => ?_)
  have u2 : HG true true ad δ δ_4 := HG.M u1 e2 c3_a0.2
  refine hs_ob (fun b_6 hb_6 => ?_)
  refine hs_ob (fun b_8 hb_8 => ?_)
  refine hs_gd (fun gz3 => ?_)
  refine hs_bdv (fun δ_10 e4 => ?_)
  have u4 : HG true true ad δ δ_10 := HG.C u2 e4 (nr3 L c3_a0 hb_8)
  exact hs_some u4
theorem hf_X4_begin {ad : List Nat} {h : hp} (L : Lay TLx ad h) {N : Nat} {a0 : Nat} {a1 : Nat} {x2 : Int32} (k4_a0 : q_K h.1 a0 = 4) {δ : dp} : hs (D_X4_begin N h.1 a0 a1 x2 δ) (fun r => HG true true ad δ r) := by
  unfold D_X4_begin
  refine hs_ob (fun b_1 hb_1 => ?_)
  refine hs_bind (hf_X3_copyFrom L (c3O_4_1 L k4_a0 hb_1)) (fun r_3 u1' => ?_)
  have u1 : HG true true ad δ r_3 := u1'
  refine hs_bdv (fun δ_4 e2 => ?_)
  have u2 : HG true true ad δ δ_4 := HG.I u1 e2 (by decide) (by decide)
  refine hs_bdv (fun δ_6 e3 => ?_)
  have u3 : HG true true ad δ δ_6 := HG.I u2 e3 (by decide) (by decide)
  refine hs_bdv (fun δ_8 e4 => ?_)
  have u4 : HG true true ad δ δ_8 := HG.I u3 e4 (by decide) (by decide)
  refine hs_bdv (fun δ_10 e5 => ?_)
  have u5 : HG true true ad δ δ_10 := HG.I u4 e5 (by decide) (by decide)
  refine hs_bdv (fun δ_12 e6 => ?_)
  have u6 : HG true true ad δ δ_12 := HG.I u5 e6 (by decide) (by decide)
  refine hs_bdv (fun δ_14 e7 => ?_)
  have u7 : HG true true ad δ δ_14 := HG.I u6 e7 (by decide) (by decide)
  refine hs_bdv (fun δ_16 e8 => ?_)
  have u8 : HG true true ad δ δ_16 := HG.I u7 e8 (by decide) (by decide)
  refine hs_bdv (fun δ_18 e9 => ?_)
  have u9 : HG true true ad δ δ_18 := HG.I u8 e9 (by decide) (by decide)
  refine hs_bdv (fun δ_20 e10 => ?_)
  have u10 : HG true true ad δ δ_20 := HG.I u9 e10 (by decide) (by decide)
  refine hs_bdv (fun δ_22 e11 => ?_)
  have u11 : HG true true ad δ δ_22 := HG.I u10 e11 (by decide) (by decide)
  refine hs_bdv (fun δ_24 e12 => ?_)
  have u12 : HG true true ad δ δ_24 := HG.I u11 e12 (by decide) (by decide)
  exact hs_some u12
theorem hj_X4_goRound_43 {ad : List Nat} {h : hp} (L : Lay TLx ad h) {N : Nat} {a0 : Nat} {a1 : Nat} {x2 : Int32}  {δ : dp} : hs (J_X4_goRound_43 N h.1 a0 a1 x2 δ) (fun r => HG true true ad δ r) := by
  unfold J_X4_goRound_43
  exact hs_some HG_r
theorem hf_X4_goRound {ad : List Nat} {h : hp} (L : Lay TLx ad h) {N : Nat} {a0 : Nat} {a1 : Nat} {x2 : Int32} (k4_a0 : q_K h.1 a0 = 4) {δ : dp} : hs (D_X4_goRound N h.1 a0 a1 x2 δ) (fun r => HG true true ad δ r) := by
  unfold D_X4_goRound
  refine hs_ob (fun b_1 hb_1 => ?_)
  refine hs_gd (fun gz1 => ?_)
  refine hs_biv (fun x_3 _ => ?_)
  refine hs_ob (fun b_5 hb_5 => ?_)
  refine hs_gd (fun gz2 => ?_)
  refine hs_gd (fun gz3 => ?_)
  refine hs_bdv (fun δ_7 e4 => ?_)
  have u4 : HG true true ad δ δ_7 := HG.R HG_r e4 (nrO_4_3 L k4_a0 hb_5)
  refine hs_ob (fun b_9 hb_9 => ?_)
  refine hs_gd (fun gz5 => ?_)
  refine hs_ob (fun b_11 hb_11 => ?_)
  refine hs_gd (fun gz6 => ?_)
  refine hs_ite (fun _ => ?_) (fun _ => ?_)
  · skip
    exact hs_mono (hj_X4_goRound_43 L) (fun _ hr => u4.t (hr))
  · skip
    refine hs_bdv (fun δ_14 e7 => ?_)
    have u7 : HG true true ad δ δ_14 := HG.I u4 e7 (by decide) (by decide)
    exact hs_mono (hj_X4_goRound_43 L) (fun _ hr => u7.t (hr))
theorem hj_X4_hold_29 {ad : List Nat} {h : hp} (L : Lay TLx ad h) {N : Nat} {a0 : Nat} {x1 : Int32}  {δ : dp} : hs (J_X4_hold_29 N h.1 a0 x1 δ) (fun r => HG true true ad δ r) := by
  unfold J_X4_hold_29
  exact hs_some HG_r
theorem hf_X4_hold {ad : List Nat} {h : hp} (L : Lay TLx ad h) {N : Nat} {a0 : Nat} {x1 : Int32} (k4_a0 : q_K h.1 a0 = 4) {δ : dp} : hs (D_X4_hold N h.1 a0 x1 δ) (fun r => HG true true ad δ r) := by
  unfold D_X4_hold
  refine hs_ite (fun _ => ?_) (fun _ => ?_)
  · skip
    exact hj_X4_hold_29 L
  · skip
    refine hs_ob (fun b_2 hb_2 => ?_)
    refine hs_gd (fun gz1 => ?_)
    refine hs_bdv (fun δ_4 e2 => ?_)
    have u2 : HG true true ad δ δ_4 := HG.R HG_r e2 (nrO_4_4 L k4_a0 hb_2)
    refine hs_bdv (fun δ_6 e3 => ?_)
    have u3 : HG true true ad δ δ_6 := HG.I u2 e3 (by decide) (by decide)
    exact hs_mono (hj_X4_hold_29 L) (fun _ hr => u3.t (hr))
theorem hj_X4_makeCall_146 {ad : List Nat} {h : hp} (L : Lay TLx ad h) {N : Nat} {a0 : Nat} {x1 : Int32} {x2 : Int32} {xs0 : Int32} {as1 : Nat}  {δ : dp} : hs (J_X4_makeCall_146 N h.1 a0 x1 x2 xs0 as1 δ) (fun r => HG true true ad δ r) := by
  unfold J_X4_makeCall_146
  refine hs_gp (fun gk1 => ?_)
  refine hs_bdv (fun δ_28 e2 => ?_)
  have u2 : HG true true ad δ δ_28 := HG.I HG_r e2 (by decide) (by decide)
  exact hs_some u2
theorem hj_X4_makeCall_54 {ad : List Nat} {h : hp} (L : Lay TLx ad h) {N : Nat} {a0 : Nat} {x1 : Int32} {x2 : Int32} {x3v : Int32} (k4_a0 : q_K h.1 a0 = 4) {δ : dp} : hs (J_X4_makeCall_54 N h.1 a0 x1 x2 x3v δ) (fun r => HG true true ad δ r) := by
  unfold J_X4_makeCall_54
  refine hs_bdv (fun δ_6 e1 => ?_)
  have u1 : HG true true ad δ δ_6 := HG.I HG_r e1 (by decide) (by decide)
  refine hs_ob (fun b_8 hb_8 => ?_)
  refine hs_ob (fun b_10 hb_10 => ?_)
  refine hs_bind (hf_X3_touchesInWords L) (fun r_12 u2' => ?_)
  have u2 : HG true true ad δ r_12.2 := u1.t (u2')
  refine hs_bdv (fun δ_13 e3 => ?_)
  have u3 : HG true true ad δ δ_13 := HG.I u2 e3 (by decide) (by decide)
  refine hs_ob (fun b_15 hb_15 => ?_)
  refine hs_bind (hf_X3_touchesInRow L) (fun r_17 u4' => ?_)
  have u4 : HG true true ad δ r_17.2 := u3.t (u4')
  refine hs_bdv (fun δ_18 e5 => ?_)
  have u5 : HG true true ad δ δ_18 := HG.I u4 e5 (by decide) (by decide)
  refine hs_ob (fun b_20 hb_20 => ?_)
  refine hs_bind (hf_X3_answer L (c3O_4_1 L k4_a0 hb_20)) (fun r_22 u6' => ?_)
  have u6 : HG true true ad δ r_22.2 := u5.t (u6')
  refine hs_bdv (fun δ_23 e7 => ?_)
  have u7 : HG true true ad δ δ_23 := HG.I u6 e7 (by decide) (by decide)
  refine hs_bdv (fun δ_25 e8 => ?_)
  have u8 : HG true true ad δ δ_25 := HG.I u7 e8 (by decide) (by decide)
  refine hs_ite (fun _ => ?_) (fun _ => ?_)
  · skip
    exact hs_mono (hj_X4_makeCall_146 L) (fun _ hr => u8.t (hr))
  · skip
    exact hs_mono (hj_X4_makeCall_146 L) (fun _ hr => u8.t (hr))
theorem hj_X4_makeCall_23 {ad : List Nat} {h : hp} (L : Lay TLx ad h) {N : Nat} {a0 : Nat} {x1 : Int32} {x2 : Int32} (k4_a0 : q_K h.1 a0 = 4) {δ : dp} : hs (J_X4_makeCall_23 N h.1 a0 x1 x2 δ) (fun r => HG true true ad δ r) := by
  unfold J_X4_makeCall_23
  refine hs_ob (fun b_2 hb_2 => ?_)
  refine hs_bind (hf_X1_touchesOf L) (fun r_4 u1' => ?_)
  have u1 : HG true true ad δ r_4.2 := u1'
  refine hs_ite (fun _ => ?_) (fun _ => ?_)
  · skip
    exact hs_mono (hj_X4_makeCall_54 L k4_a0) (fun _ hr => u1.t (hr))
  · skip
    refine hs_bdv (fun δ_31 e2 => ?_)
    have u2 : HG true true ad δ δ_31 := HG.I u1 e2 (by decide) (by decide)
    refine hs_bdv (fun δ_33 e3 => ?_)
    have u3 : HG true true ad δ δ_33 := HG.I u2 e3 (by decide) (by decide)
    exact hs_mono (hj_X4_makeCall_54 L k4_a0) (fun _ hr => u3.t (hr))
theorem hf_X4_makeCall {ad : List Nat} {h : hp} (L : Lay TLx ad h) {N : Nat} {a0 : Nat} {x1 : Int32} {x2 : Int32} (k4_a0 : q_K h.1 a0 = 4) {δ : dp} : hs (D_X4_makeCall N h.1 a0 x1 x2 δ) (fun r => HG true true ad δ r) := by
  unfold D_X4_makeCall
  refine hs_ite (fun _ => ?_) (fun _ => ?_)
  · skip
    refine hs_ob (fun b_35 hb_35 => ?_)
    refine hs_ite (fun _ => ?_) (fun _ => ?_)
    · skip
      exact hj_X4_makeCall_23 L k4_a0
    · skip
      refine hs_bdv (fun δ_38 e1 => ?_)
      have u1 : HG true true ad δ δ_38 := HG.I HG_r e1 (by decide) (by decide)
      exact hs_some u1
  · skip
    exact hj_X4_makeCall_23 L k4_a0
theorem hf_X4_nextDraw {ad : List Nat} {h : hp} (L : Lay TLx ad h) {N : Nat} {a0 : Nat}  {δ : dp} : hs (D_X4_nextDraw N h.1 a0 δ) (fun r => HG true true ad δ r.2) := by
  unfold D_X4_nextDraw
  refine hs_bdv (fun δ_1 e1 => ?_)
  have u1 : HG true true ad δ δ_1 := HG.I HG_r e1 (by decide) (by decide)
  refine hs_ob (fun b_3 hb_3 => ?_)
  refine hs_bind (hf_X5_greatest L) (fun r_5 u2' => ?_)
  have u2 : HG true true ad δ r_5.2 := u1.t (u2')
  refine hs_gd (fun gz3 => ?_)
  exact hs_some u2
theorem hf_X4_yieldHeld {ad : List Nat} {h : hp} (L : Lay TLx ad h) {N : Nat} {a0 : Nat}  {δ : dp} : hs (D_X4_yieldHeld N h.1 a0 δ) (fun r => HG true true ad δ r.2) := by
  unfold D_X4_yieldHeld
  refine hs_ite (fun _ => ?_) (fun _ => ?_)
  · skip
    refine hs_bdv (fun δ_2 e1 => ?_)
    have u1 : HG true true ad δ δ_2 := HG.I HG_r e1 (by decide) (by decide)
    refine hs_ob (fun b_4 hb_4 => ?_)
    refine hs_gd (fun gz2 => ?_)
    exact hs_some u1
  · skip
    exact hs_some HG_r
theorem hj_X4_reckon_72 {ad : List Nat} {h : hp} (L : Lay TLx ad h) {N : Nat} {a0 : Nat} {x1 : Int32}  {δ : dp} : hs (J_X4_reckon_72 N h.1 a0 x1 δ) (fun r => HG true true ad δ r) := by
  unfold J_X4_reckon_72
  exact hs_some HG_r
theorem hj_X4_reckon_69 {ad : List Nat} {h : hp} (L : Lay TLx ad h) {N : Nat} {a0 : Nat} {x1 : Int32} {xs0 : Int32} {as1 : Nat} (k4_as1 : q_K h.1 as1 = 4) {δ : dp} : hs (J_X4_reckon_69 N h.1 a0 x1 xs0 as1 δ) (fun r => HG true true ad δ r) := by
  unfold J_X4_reckon_69
  refine hs_bind (hf_X4_hold L k4_as1) (fun r_8 u1' => ?_)
  have u1 : HG true true ad δ r_8 := u1'
  exact hs_mono (hj_X4_reckon_72 L) (fun _ hr => u1.t (hr))
theorem hf_X4_reckon {ad : List Nat} {h : hp} (L : Lay TLx ad h) {N : Nat} {a0 : Nat} {x1 : Int32} (k4_a0 : q_K h.1 a0 = 4) {δ : dp} : hs (D_X4_reckon N h.1 a0 x1 δ) (fun r => HG true true ad δ r) := by
  unfold D_X4_reckon
  refine hs_bind (hf_X4_yieldHeld L) (fun r_1 u1' => ?_)
  have u1 : HG true true ad δ r_1.2 := u1'
  refine hs_bind (hf_X4_yieldHeld L) (fun r_2 u2' => ?_)
  have u2 : HG true true ad δ r_2.2 := u1.t (u2')
  refine hs_ite (fun _ => ?_) (fun _ => ?_)
  · skip
    refine hs_bind (hf_X4_hold L k4_a0) (fun r_11 u3' => ?_)
    have u3 : HG true true ad δ r_11 := u2.t (u3')
    exact hs_mono (hj_X4_reckon_72 L) (fun _ hr => u3.t (hr))
  · skip
    refine hs_ite (fun _ => ?_) (fun _ => ?_)
    · skip
      refine hs_bind (hf_X4_hold L k4_a0) (fun r_10 u4' => ?_)
      have u4 : HG true true ad δ r_10 := u2.t (u4')
      exact hs_mono (hj_X4_reckon_72 L) (fun _ hr => u4.t (hr))
    · skip
      refine hs_ite (fun _ => ?_) (fun _ => ?_)
      · skip
        refine hs_bind (hf_X4_hold L k4_a0) (fun r_9 u5' => ?_)
        have u5 : HG true true ad δ r_9 := u2.t (u5')
        exact hs_mono (hj_X4_reckon_72 L) (fun _ hr => u5.t (hr))
      · skip
        refine hs_ite (fun _ => ?_) (fun _ => ?_)
        · skip
          exact hs_mono (hj_X4_reckon_69 L k4_a0) (fun _ hr => u2.t (hr))
        · skip
          refine hs_gd (fun gz6 => ?_)
          exact hs_mono (hj_X4_reckon_69 L k4_a0) (fun _ hr => u2.t (hr))
theorem hj_X4_step_195 {ad : List Nat} {h : hp} (L : Lay TLx ad h) {N : Nat} {a0 : Nat} {a1 : Nat}  {δ : dp} : hs (J_X4_step_195 N h.1 a0 a1 δ) (fun r => HG true true ad δ r) := by
  unfold J_X4_step_195
  exact hs_some HG_r
theorem hj_X4_step_190 {ad : List Nat} {h : hp} (L : Lay TLx ad h) {N : Nat} {a0 : Nat} {a1 : Nat} {x3v : Int32} (k4_a0 : q_K h.1 a0 = 4) {δ : dp} : hs (J_X4_step_190 N h.1 a0 a1 x3v δ) (fun r => HG true true ad δ r) := by
  unfold J_X4_step_190
  refine hs_bind (hf_X4_reckon L k4_a0) (fun r_27 u1' => ?_)
  have u1 : HG true true ad δ r_27 := u1'
  exact hs_mono (hj_X4_step_195 L) (fun _ hr => u1.t (hr))
theorem hf_X4_step {ad : List Nat} {h : hp} (L : Lay TLx ad h) {N : Nat} {a0 : Nat} {a1 : Nat} (k4_a0 : q_K h.1 a0 = 4) {δ : dp} : hs (D_X4_step N h.1 a0 a1 δ) (fun r => HG true true ad δ r) := by
  unfold D_X4_step
  refine hs_ob (fun b_1 hb_1 => ?_)
  refine hs_gd (fun gz1 => ?_)
  refine hs_biv (fun x_3 _ => ?_)
  refine hs_ob (fun b_5 hb_5 => ?_)
  refine hs_gd (fun gz2 => ?_)
  refine hs_biv (fun x_7 _ => ?_)
  refine hs_bdv (fun δ_9 e3 => ?_)
  have u3 : HG true true ad δ δ_9 := HG.I HG_r e3 (by decide) (by decide)
  refine hs_ite (fun _ => ?_) (fun _ => ?_)
  · skip
    refine hs_bind (hf_X4_hold L k4_a0) (fun r_12 u4' => ?_)
    have u4 : HG true true ad δ r_12 := u3.t (u4')
    exact hs_mono (hj_X4_step_195 L) (fun _ hr => u4.t (hr))
  · skip
    refine hs_ite (fun _ => ?_) (fun _ => ?_)
    · skip
      refine hs_ob (fun b_14 hb_14 => ?_)
      refine hs_gd (fun gz5 => ?_)
      refine hs_bind (hf_X4_hold L k4_a0) (fun r_16 u6' => ?_)
      have u6 : HG true true ad δ r_16 := u3.t (u6')
      exact hs_mono (hj_X4_step_195 L) (fun _ hr => u6.t (hr))
    · skip
      refine hs_ite (fun _ => ?_) (fun _ => ?_)
      · skip
        refine hs_bind (hf_X4_hold L k4_a0) (fun r_18 u7' => ?_)
        have u7 : HG true true ad δ r_18 := u3.t (u7')
        exact hs_mono (hj_X4_step_195 L) (fun _ hr => u7.t (hr))
      · skip
        refine hs_ite (fun _ => ?_) (fun _ => ?_)
        · skip
          refine hs_ob (fun b_20 hb_20 => ?_)
          refine hs_bind (hf_X4_hold L k4_a0) (fun r_22 u8' => ?_)
          have u8 : HG true true ad δ r_22 := u3.t (u8')
          exact hs_mono (hj_X4_step_195 L) (fun _ hr => u8.t (hr))
        · skip
          refine hs_ite (fun _ => ?_) (fun _ => ?_)
          · skip
            refine hs_bind (hf_X4_nextDraw L) (fun r_24 u9' => ?_)
            have u9 : HG true true ad δ r_24.2 := u3.t (u9')
            refine hs_bind (hf_X4_hold L k4_a0) (fun r_25 u10' => ?_)
            have u10 : HG true true ad δ r_25 := u9.t (u10')
            exact hs_mono (hj_X4_step_195 L) (fun _ hr => u10.t (hr))
          · skip
            refine hs_ite (fun _ => ?_) (fun _ => ?_)
            · skip
              exact hs_mono (hj_X4_step_190 L k4_a0) (fun _ hr => u3.t (hr))
            · skip
              refine hs_ite (fun _ => ?_) (fun _ => ?_)
              · skip
                exact hs_mono (hj_X4_step_190 L k4_a0) (fun _ hr => u3.t (hr))
              · skip
                refine hs_ite (fun _ => ?_) (fun _ => ?_)
                · skip
                  exact hs_mono (hj_X4_step_190 L k4_a0) (fun _ hr => u3.t (hr))
                · skip
                  refine hs_ite (fun _ => ?_) (fun _ => ?_)
                  · skip
                    exact hs_mono (hj_X4_step_190 L k4_a0) (fun _ hr => u3.t (hr))
                  · skip
                    refine hs_ite (fun _ => ?_) (fun _ => ?_)
                    · skip
                      refine hs_bind (hf_X4_yieldHeld L) (fun r_32 u11' => ?_)
                      have u11 : HG true true ad δ r_32.2 := u3.t (u11')
                      refine hs_ob (fun b_33 hb_33 => ?_)
                      refine hs_bind (hf_X5_greatest L) (fun r_35 u12' => ?_)
                      have u12 : HG true true ad δ r_35.2 := u11.t (u12')
                      refine hs_bind (hf_X4_makeCall L k4_a0) (fun r_36 u13' => ?_)
                      have u13 : HG true true ad δ r_36 := u12.t (u13')
                      exact hs_mono (hj_X4_step_195 L) (fun _ hr => u13.t (hr))
                    · skip
                      refine hs_ite (fun _ => ?_) (fun _ => ?_)
                      · skip
                        refine hs_ob (fun b_38 hb_38 => ?_)
                        refine hs_gd (fun gz14 => ?_)
                        refine hs_bdv (fun δ_40 e15 => ?_)
                        have u15 : HG true true ad δ δ_40 := HG.R u3 e15 (nrO_4_3 L k4_a0 hb_38)
                        exact hs_mono (hj_X4_step_195 L) (fun _ hr => u15.t (hr))
                      · skip
                        refine hs_ite (fun _ => ?_) (fun _ => ?_)
                        · skip
                          refine hs_bind (hf_X4_goRound L k4_a0) (fun r_43 u16' => ?_)
                          have u16 : HG true true ad δ r_43 := u3.t (u16')
                          exact hs_mono (hj_X4_step_195 L) (fun _ hr => u16.t (hr))
                        · skip
                          exact hs_mono (hj_X4_step_190 L k4_a0) (fun _ hr => u3.t (hr))
theorem hj_X4_go_77 {ad : List Nat} {h : hp} (L : Lay TLx ad h) {N : Nat} {a0 : Nat} {a1 : Nat} {a2 : Nat} {x3 : Int32}  {δ : dp} : hs (J_X4_go_77 N h.1 a0 a1 a2 x3 δ) (fun r => HG false true ad δ r) := by
  unfold J_X4_go_77
  refine hs_bdv (fun δ_4 e1 => ?_)
  have u1 : HG false true ad δ δ_4 := HG.I HG_r e1 (by decide) (by decide)
  refine hs_bdv (fun δ_6 e2 => ?_)
  have u2 : HG false true ad δ δ_6 := HG.V u1 e2
  refine hs_bdv (fun δ_8 e3 => ?_)
  have u3 : HG false true ad δ δ_8 := HG.V u2 e3
  refine hs_bdv (fun δ_10 e4 => ?_)
  have u4 : HG false true ad δ δ_10 := HG.I u3 e4 (by decide) (by decide)
  exact hs_some u4
theorem hl_X4_go_41 {ad : List Nat} {h : hp} (L : Lay TLx ad h) {N : Nat} {a0 : Nat} {a1 : Nat} {a2 : Nat} {x3 : Int32} (k4_a0 : q_K h.1 a0 = 4) : ∀ (n : Nat) (x4v : Int32) (δ : dp), hs (L_X4_go_41 N h.1 a0 a1 a2 x3 n x4v δ) (fun r => HG false true ad δ r) := by
  intro n
  induction n with
  | zero => intro x4v δ; unfold L_X4_go_41; exact hs_none
  | succ n ih =>
    intro x4v δ
    unfold L_X4_go_41
    refine hs_ite (fun _ => ?_) (fun _ => ?_)
    · skip
      exact hj_X4_go_77 L
    · skip
      refine hs_ite (fun _ => ?_) (fun _ => ?_)
      · skip
        exact hj_X4_go_77 L
      · skip
        refine hs_ite (fun _ => ?_) (fun _ => ?_)
        · skip
          refine hs_bind (hf_X4_step L k4_a0) (fun r_14 u1' => ?_)
          have u1 : HG false true ad δ r_14 := (u1').w (by decide) (by decide)
          refine hs_biv (fun x_15 _ => ?_)
          exact hs_mono (ih x_15 r_14) (fun _ hr => u1.t (hr))
        · skip
          exact hj_X4_go_77 L
theorem hj_X4_go_32 {ad : List Nat} {h : hp} (L : Lay TLx ad h) {N : Nat} {a0 : Nat} {a1 : Nat} {a2 : Nat} {x3 : Int32} (k4_a0 : q_K h.1 a0 = 4) {δ : dp} : hs (J_X4_go_32 N h.1 a0 a1 a2 x3 δ) (fun r => HG false true ad δ r) := by
  unfold J_X4_go_32
  refine hs_bind (hf_X4_begin L k4_a0) (fun r_2 u1' => ?_)
  have u1 : HG false true ad δ r_2 := (u1').w (by decide) (by decide)
  exact hs_mono (hl_X4_go_41 L k4_a0 N 0 r_2) (fun _ hr => u1.t (hr))
theorem hf_X4_go {ad : List Nat} {h : hp} (L : Lay TLx ad h) {N : Nat} {a0 : Nat} {a1 : Nat} {a2 : Nat} {x3 : Int32} (k4_a0 : q_K h.1 a0 = 4) {δ : dp} : hs (D_X4_go N h.1 a0 a1 a2 x3 δ) (fun r => HG false true ad δ r) := by
  unfold D_X4_go
  refine hs_ite (fun _ => ?_) (fun _ => ?_)
  · skip
    exact hj_X4_go_32 L k4_a0
  · skip
    refine hs_ite (fun _ => ?_) (fun _ => ?_)
    · skip
      refine hs_ite (fun _ => ?_) (fun _ => ?_)
      · skip
        refine hs_ite (fun _ => ?_) (fun _ => ?_)
        · skip
          exact hs_some HG_r
        · skip
          exact hj_X4_go_32 L k4_a0
      · skip
        exact hj_X4_go_32 L k4_a0
    · skip
      exact hj_X4_go_32 L k4_a0
theorem hf_X4_tell {ad : List Nat} {h : hp} (L : Lay TLx ad h) {N : Nat} {a0 : Nat} {x1 : Int32}  {δ : dp} : hs (D_X4_tell N h.1 a0 x1 δ) (fun r => HG true true ad δ r.2) := by
  unfold D_X4_tell
  refine hs_ite (fun _ => ?_) (fun _ => ?_)
  · skip
    exact hs_some HG_r
  · skip
    refine hs_ite (fun _ => ?_) (fun _ => ?_)
    · skip
      exact hs_some HG_r
    · skip
      refine hs_ite (fun _ => ?_) (fun _ => ?_)
      · skip
        exact hs_some HG_r
      · skip
        refine hs_ite (fun _ => ?_) (fun _ => ?_)
        · skip
          exact hs_some HG_r
        · skip
          refine hs_ite (fun _ => ?_) (fun _ => ?_)
          · skip
            exact hs_some HG_r
          · skip
            refine hs_ite (fun _ => ?_) (fun _ => ?_)
            · skip
              exact hs_some HG_r
            · skip
              refine hs_ob (fun b_7 hb_7 => ?_)
              exact hs_some HG_r
theorem hj_X11_steals_28 {ad : List Nat} {h : hp} (L : Lay TLx ad h) {N : Nat} {a0 : Nat} {x1 : Int32} {x2 : Int32} {x3 : Int32} {x4 : Int32} {xs0 : Int32} {as1 : Nat} (k11_a0 : q_K h.1 a0 = 11) (k11_as1 : q_K h.1 as1 = 11) {δ : dp} : hs (J_X11_steals_28 N h.1 a0 x1 x2 x3 x4 xs0 as1 δ) (fun r => HG false false ad δ r.2) := by
  unfold J_X11_steals_28
  refine hs_bxv (hf_X11_need L k11_as1) (fun _ _ u1' => (u1').w (by decide) (by decide)) (fun δ_10 u1' => ?_)
  have u1 : HG false false ad δ δ_10 := (u1').w (by decide) (by decide)
  refine hs_ob (fun b_11 hb_11 => ?_)
  refine hs_ob (fun b_13 hb_13 => ?_)
  refine hs_gd (fun gz2 => ?_)
  refine hs_ob (fun b_15 hb_15 => ?_)
  refine hs_ob (fun b_17 hb_17 => ?_)
  refine hs_gd (fun gz3 => ?_)
  refine hs_ob (fun b_19 hb_19 => ?_)
  refine hs_ob (fun b_21 hb_21 => ?_)
  refine hs_bind (hf_X4_go L (kO_11_8 L k11_a0 hb_11)) (fun r_23 u4' => ?_)
  have u4 : HG false false ad δ r_23 := u1.t ((u4').w (by decide) (by decide))
  refine hs_ob (fun b_24 hb_24 => ?_)
  refine hs_bind (hf_X4_tell L) (fun r_26 u5' => ?_)
  have u5 : HG false false ad δ r_26.2 := u4.t ((u5').w (by decide) (by decide))
  exact hs_some u5
theorem hj_X11_steals_27 {ad : List Nat} {h : hp} (L : Lay TLx ad h) {N : Nat} {a0 : Nat} {x1 : Int32} {x2 : Int32} {x3 : Int32} {x4 : Int32} {as0 : Nat} (k11_a0 : q_K h.1 a0 = 11) (k11_as0 : q_K h.1 as0 = 11) {δ : dp} : hs (J_X11_steals_27 N h.1 a0 x1 x2 x3 x4 as0 δ) (fun r => HG false false ad δ r.2) := by
  unfold J_X11_steals_27
  exact hj_X11_steals_28 L k11_a0 k11_as0
theorem hf_X11_steals {ad : List Nat} {h : hp} (L : Lay TLx ad h) {N : Nat} {a0 : Nat} {x1 : Int32} {x2 : Int32} {x3 : Int32} {x4 : Int32} (k11_a0 : q_K h.1 a0 = 11) {δ : dp} : hs (D_X11_steals N h.1 a0 x1 x2 x3 x4 δ) (fun r => HG false false ad δ r.2) := by
  unfold D_X11_steals
  refine hs_bxv (hf_X11_needHouse L k11_a0) (fun _ _ u1' => (u1').w (by decide) (by decide)) (fun δ_3 u1' => ?_)
  have u1 : HG false false ad δ δ_3 := (u1').w (by decide) (by decide)
  refine hs_bxv (hf_X11_needThief L k11_a0) (fun _ _ u2' => u1.t ((u2').w (by decide) (by decide))) (fun δ_6 u2' => ?_)
  have u2 : HG false false ad δ δ_6 := u1.t ((u2').w (by decide) (by decide))
  refine hs_ite (fun _ => ?_) (fun _ => ?_)
  · skip
    exact hs_mono (hj_X11_steals_27 L k11_a0 k11_a0) (fun _ hr => u2.t (hr))
  · skip
    refine hs_ite (fun _ => ?_) (fun _ => ?_)
    · skip
      exact hs_mono (hj_X11_steals_27 L k11_a0 k11_a0) (fun _ hr => u2.t (hr))
    · skip
      exact hs_mono (hj_X11_steals_28 L k11_a0 k11_a0) (fun _ hr => u2.t (hr))
theorem hl_X11_reached_21 {ad : List Nat} {h : hp} (L : Lay TLx ad h) {N : Nat} {a0 : Nat} {x1 : Int32} (k11_a0 : q_K h.1 a0 = 11) : ∀ (n : Nat) (x2v : Int32) (x3v : Int32) (δ : dp), hs (L_X11_reached_21 N h.1 a0 x1 n x2v x3v δ) (fun r => HG true true ad δ r.2) := by
  intro n
  induction n with
  | zero => intro x2v x3v δ; unfold L_X11_reached_21; exact hs_none
  | succ n ih =>
    intro x2v x3v δ
    unfold L_X11_reached_21
    refine hs_ob (fun b_8 hb_8 => ?_)
    refine hs_bind (hf_X5_mostInSets L) (fun r_10 u1' => ?_)
    have u1 : HG true true ad δ r_10.2 := u1'
    refine hs_ite (fun _ => ?_) (fun _ => ?_)
    · skip
      exact hs_some u1
    · skip
      refine hs_ob (fun b_12 hb_12 => ?_)
      refine hs_bind (hf_X10_learn L (kO_11_9 L k11_a0 hb_12)) (fun r_14 u2' => ?_)
      have u2 : HG true true ad δ r_14 := u1.t (u2')
      refine hs_ob (fun b_15 hb_15 => ?_)
      refine hs_ob (fun b_17 hb_17 => ?_)
      refine hs_gd (fun gz3 => ?_)
      refine hs_ob (fun b_19 hb_19 => ?_)
      refine hs_gd (fun gz4 => ?_)
      refine hs_ite (fun _ => ?_) (fun _ => ?_)
      · skip
        exact hs_some u2
      · skip
        refine hs_biv (fun x_22 _ => ?_)
        exact hs_mono (ih x2v x_22 r_14) (fun _ hr => u2.t (hr))
theorem hf_X11_reached {ad : List Nat} {h : hp} (L : Lay TLx ad h) {N : Nat} {a0 : Nat} {x1 : Int32} (k11_a0 : q_K h.1 a0 = 11) {δ : dp} : hs (D_X11_reached N h.1 a0 x1 δ) (fun r => HG true false ad δ r.2) := by
  unfold D_X11_reached
  refine hs_bind (hf_X11_mayGoThroughAll L) (fun r_1 u1' => ?_)
  have u1 : HG true false ad δ r_1.2 := (u1').w (by decide) (by decide)
  refine hs_bxv (hf_X11_need L k11_a0) (fun _ _ u2' => u1.t (u2')) (fun δ_4 u2' => ?_)
  have u2 : HG true false ad δ δ_4 := u1.t (u2')
  refine hs_ob (fun b_5 hb_5 => ?_)
  refine hs_bind (hf_X5_boundOf L) (fun r_7 u3' => ?_)
  have u3 : HG true false ad δ r_7.2 := u2.t ((u3').w (by decide) (by decide))
  exact hs_mono (hl_X11_reached_21 L k11_a0 N r_7.1 0 r_7.2) (fun _ hr => u3.t ((hr).w (by decide) (by decide)))
theorem hj_X5_mostInRows_14 {ad : List Nat} {h : hp} (L : Lay TLx ad h) {N : Nat} {a0 : Nat} {xs0 : Int32}  {δ : dp} : hs (J_X5_mostInRows_14 N h.1 a0 xs0 δ) (fun r => HG true true ad δ r.2) := by
  unfold J_X5_mostInRows_14
  exact hs_some HG_r
theorem hf_X5_mostInRows {ad : List Nat} {h : hp} (L : Lay TLx ad h) {N : Nat} {a0 : Nat}  {δ : dp} : hs (D_X5_mostInRows N h.1 a0 δ) (fun r => HG true true ad δ r.2) := by
  unfold D_X5_mostInRows
  refine hs_ite (fun _ => ?_) (fun _ => ?_)
  · skip
    exact hj_X5_mostInRows_14 L
  · skip
    exact hj_X5_mostInRows_14 L
theorem hf_X0_limitOf {ad : List Nat} {h : hp} (L : Lay TLx ad h) {N : Nat} {a0 : Nat} {x1 : Int32} {x2 : Int32} {x3 : Int32}  {δ : dp} : hs (D_X0_limitOf N h.1 a0 x1 x2 x3 δ) (fun r => HG true true ad δ r.2) := by
  unfold D_X0_limitOf
  refine hs_ob (fun b_1 hb_1 => ?_)
  refine hs_ob (fun b_3 hb_3 => ?_)
  refine hs_bind (hf_X5_mostTouches L) (fun r_5 u1' => ?_)
  have u1 : HG true true ad δ r_5.2 := u1'
  refine hs_ob (fun b_6 hb_6 => ?_)
  refine hs_gd (fun gz2 => ?_)
  refine hs_ob (fun b_8 hb_8 => ?_)
  refine hs_gd (fun gz3 => ?_)
  refine hs_biv (fun x_10 _ => ?_)
  refine hs_ite (fun _ => ?_) (fun _ => ?_)
  · skip
    refine hs_ob (fun b_27 hb_27 => ?_)
    refine hs_gd (fun gz4 => ?_)
    refine hs_ob (fun b_29 hb_29 => ?_)
    refine hs_gd (fun gz5 => ?_)
    exact hs_some u1
  · skip
    refine hs_ite (fun _ => ?_) (fun _ => ?_)
    · skip
      refine hs_ob (fun b_14 hb_14 => ?_)
      refine hs_ob (fun b_16 hb_16 => ?_)
      refine hs_bind (hf_X5_mostTouches L) (fun r_18 u6' => ?_)
      have u6 : HG true true ad δ r_18.2 := u1.t (u6')
      refine hs_biv (fun x_19 _ => ?_)
      refine hs_ob (fun b_21 hb_21 => ?_)
      refine hs_gd (fun gz7 => ?_)
      refine hs_ob (fun b_23 hb_23 => ?_)
      refine hs_bind (hf_J9_max_7cf53 L) (fun r_25 u8' => ?_)
      have u8 : HG true true ad δ r_25.2 := u6.t (u8')
      refine hs_gd (fun gz9 => ?_)
      refine hs_bind (hf_J9_max_7cf53 L) (fun r_26 u10' => ?_)
      have u10 : HG true true ad δ r_26.2 := u8.t (u10')
      exact hs_some u10
    · skip
      exact hs_some u1
theorem hl_X0_setLimits_29 {ad : List Nat} {h : hp} (L : Lay TLx ad h) {N : Nat} {a0 : Nat} {kt2 : Int32 → dp → Option (dp)} {kt10 : Int32 → Int32 → dp → Option (dp)} (k0_a0 : q_K h.1 a0 = 0) (h_kt2 : ∀ (y0 : Int32) (δ1 : dp), hs (kt2 y0 δ1) (fun r => HG true true ad δ1 r)) (h_kt10 : ∀ (y0 : Int32) (y1 : Int32) (δ1 : dp), hs (kt10 y0 y1 δ1) (fun r => HG true true ad δ1 r)) : ∀ (n : Nat) (x1v : Int32) (x2v : Int32) (x3v : Int32) (δ : dp), hs (L_X0_setLimits_29 N h.1 a0 kt2 kt10 n x1v x2v x3v δ) (fun r => HG true true ad δ r) := by
  intro n
  induction n with
  | zero => intro x1v x2v x3v δ; unfold L_X0_setLimits_29; exact hs_none
  | succ n ih =>
    intro x1v x2v x3v δ
    unfold L_X0_setLimits_29
    refine hs_ite (fun _ => ?_) (fun _ => ?_)
    · skip
      refine hs_biv (fun x_14 _ => ?_)
      exact h_kt10 x1v x_14 δ
    · skip
      refine hs_ob (fun b_16 hb_16 => ?_)
      refine hs_gd (fun gz1 => ?_)
      refine hs_ob (fun b_18 hb_18 => ?_)
      refine hs_ob (fun b_20 hb_20 => ?_)
      refine hs_gd (fun gz2 => ?_)
      refine hs_ob (fun b_22 hb_22 => ?_)
      refine hs_gd (fun gz3 => ?_)
      refine hs_bind (hf_X0_limitOf L) (fun r_24 u4' => ?_)
      have u4 : HG true true ad δ r_24.2 := u4'
      refine hs_bind (hf_J9_max_7cf53 L) (fun r_25 u5' => ?_)
      have u5 : HG true true ad δ r_25.2 := u4.t (u5')
      refine hs_gd (fun gz6 => ?_)
      refine hs_bdv (fun δ_26 e7 => ?_)
      have u7 : HG true true ad δ δ_26 := HG.R u5 e7 (nrE_0_3 L k0_a0 hb_16 (Nat.lt_of_not_le (fun z => gz1 (Or.inr z))) hb_18)
      refine hs_biv (fun x_28 _ => ?_)
      exact hs_mono (ih x1v x2v x_28 δ_26) (fun _ hr => u7.t (hr))
theorem hl_X0_setLimits_10 {ad : List Nat} {h : hp} (L : Lay TLx ad h) {N : Nat} {a0 : Nat} {kt2 : Int32 → dp → Option (dp)} (k0_a0 : q_K h.1 a0 = 0) (h_kt2 : ∀ (y0 : Int32) (δ1 : dp), hs (kt2 y0 δ1) (fun r => HG true true ad δ1 r)) : ∀ (n : Nat) (x1v : Int32) (x2v : Int32) (δ : dp), hs (L_X0_setLimits_10 N h.1 a0 kt2 n x1v x2v δ) (fun r => HG true true ad δ r) := by
  intro n
  induction n with
  | zero => intro x1v x2v δ; unfold L_X0_setLimits_10; exact hs_none
  | succ n ih =>
    intro x1v x2v δ
    unfold L_X0_setLimits_10
    refine hs_ite (fun _ => ?_) (fun _ => ?_)
    · skip
      refine hs_biv (fun x_5 _ => ?_)
      exact h_kt2 x_5 δ
    · skip
      refine hs_ob (fun b_7 hb_7 => ?_)
      refine hs_gd (fun gz1 => ?_)
      refine hs_ob (fun b_9 hb_9 => ?_)
      refine hs_gd (fun gz2 => ?_)
      refine hs_bdv (fun δ_11 e3 => ?_)
      have u3 : HG true true ad δ δ_11 := HG.R HG_r e3 (nrE_0_3 L k0_a0 hb_7 (Nat.lt_of_not_le (fun z => gz1 (Or.inr z))) hb_9)
      exact hs_mono (hl_X0_setLimits_29 L k0_a0 h_kt2 ih N x1v x2v 0 δ_11) (fun _ hr => u3.t (hr))
theorem hl_X0_setLimits_2 {ad : List Nat} {h : hp} (L : Lay TLx ad h) {N : Nat} {a0 : Nat} (k0_a0 : q_K h.1 a0 = 0) : ∀ (n : Nat) (x1v : Int32) (δ : dp), hs (L_X0_setLimits_2 N h.1 a0 n x1v δ) (fun r => HG true true ad δ r) := by
  intro n
  induction n with
  | zero => intro x1v δ; unfold L_X0_setLimits_2; exact hs_none
  | succ n ih =>
    intro x1v δ
    unfold L_X0_setLimits_2
    refine hs_ite (fun _ => ?_) (fun _ => ?_)
    · skip
      refine hs_bdv (fun δ_2 e1 => ?_)
      have u1 : HG true true ad δ δ_2 := HG.I HG_r e1 (by decide) (by decide)
      exact hs_some u1
    · skip
      exact hl_X0_setLimits_10 L k0_a0 ih N x1v 0 δ
theorem hf_X0_setLimits {ad : List Nat} {h : hp} (L : Lay TLx ad h) {N : Nat} {a0 : Nat} (k0_a0 : q_K h.1 a0 = 0) {δ : dp} : hs (D_X0_setLimits N h.1 a0 δ) (fun r => HG true true ad δ r) := by
  unfold D_X0_setLimits
  exact hl_X0_setLimits_2 L k0_a0 N 1 δ
theorem hj_X0_learn_64 {ad : List Nat} {h : hp} (L : Lay TLx ad h) {N : Nat} {a0 : Nat} {x1 : Int32}  {δ : dp} : hs (J_X0_learn_64 N h.1 a0 x1 δ) (fun r => HG true true ad δ r.2) := by
  unfold J_X0_learn_64
  exact hs_some HG_r
theorem hj_X0_find_35 {ad : List Nat} {h : hp} (L : Lay TLx ad h) {N : Nat} {T : Nat → Int32 → Int32 → dp → Option (Int32 × dp)} {a0 : Nat} {x1 : Int32} {x2 : Int32} {xs0 : Int32} (h_T : ∀ (y0 : Nat) (y1 : Int32) (y2 : Int32) (δ1 : dp), q_K h.1 y0 = 0 → hs (T y0 y1 y2 δ1) (fun r => HG true true ad δ1 r.2)) {δ : dp} : hs (J_X0_find_35 N h.1 T a0 x1 x2 xs0 δ) (fun r => HG true true ad δ r.2) := by
  unfold J_X0_find_35
  refine hs_gp (fun gk1 => ?_)
  exact hs_some HG_r
theorem hj_X0_find_34 {ad : List Nat} {h : hp} (L : Lay TLx ad h) {N : Nat} {T : Nat → Int32 → Int32 → dp → Option (Int32 × dp)} {a0 : Nat} {x1 : Int32} {x2 : Int32} (h_T : ∀ (y0 : Nat) (y1 : Int32) (y2 : Int32) (δ1 : dp), q_K h.1 y0 = 0 → hs (T y0 y1 y2 δ1) (fun r => HG true true ad δ1 r.2)) {δ : dp} : hs (J_X0_find_34 N h.1 T a0 x1 x2 δ) (fun r => HG true true ad δ r.2) := by
  unfold J_X0_find_34
  exact hj_X0_find_35 L h_T
theorem hj_X0_find_22 {ad : List Nat} {h : hp} (L : Lay TLx ad h) {N : Nat} {T : Nat → Int32 → Int32 → dp → Option (Int32 × dp)} {a0 : Nat} {x1 : Int32} {x2 : Int32} (h_T : ∀ (y0 : Nat) (y1 : Int32) (y2 : Int32) (δ1 : dp), q_K h.1 y0 = 0 → hs (T y0 y1 y2 δ1) (fun r => HG true true ad δ1 r.2)) {δ : dp} : hs (J_X0_find_22 N h.1 T a0 x1 x2 δ) (fun r => HG true true ad δ r.2) := by
  unfold J_X0_find_22
  refine hs_ite (fun _ => ?_) (fun _ => ?_)
  · skip
    exact hj_X0_find_34 L h_T
  · skip
    refine hs_ite (fun _ => ?_) (fun _ => ?_)
    · skip
      exact hj_X0_find_34 L h_T
    · skip
      exact hj_X0_find_35 L h_T
theorem hj_X0_findBehind_98 {ad : List Nat} {h : hp} (L : Lay TLx ad h) {N : Nat} {T : Nat → Int32 → Int32 → dp → Option (Int32 × dp)} {a0 : Nat} {x1 : Int32} {x2 : Int32} {x3 : Int32} {x4 : Int32} {x8v : Int32} (h_T : ∀ (y0 : Nat) (y1 : Int32) (y2 : Int32) (δ1 : dp), q_K h.1 y0 = 0 → hs (T y0 y1 y2 δ1) (fun r => HG true true ad δ1 r.2)) {δ : dp} : hs (J_X0_findBehind_98 N h.1 T a0 x1 x2 x3 x4 x8v δ) (fun r => HG true true ad δ r.2) := by
  unfold J_X0_findBehind_98
  refine hs_gp (fun gk1 => ?_)
  exact hs_some HG_r
theorem hj_X0_findBehind_84 {ad : List Nat} {h : hp} (L : Lay TLx ad h) {N : Nat} {T : Nat → Int32 → Int32 → dp → Option (Int32 × dp)} {a0 : Nat} {x1 : Int32} {x2 : Int32} {x3 : Int32} {x4 : Int32} {x7v : Int32} {x8v : Int32} (k0_a0 : q_K h.1 a0 = 0) (h_T : ∀ (y0 : Nat) (y1 : Int32) (y2 : Int32) (δ1 : dp), q_K h.1 y0 = 0 → hs (T y0 y1 y2 δ1) (fun r => HG true true ad δ1 r.2)) {δ : dp} : hs (J_X0_findBehind_84 N h.1 T a0 x1 x2 x3 x4 x7v x8v δ) (fun r => HG true true ad δ r.2) := by
  unfold J_X0_findBehind_84
  refine hs_ite (fun _ => ?_) (fun _ => ?_)
  · skip
    exact hj_X0_findBehind_98 L h_T
  · skip
    refine hs_ob (fun b_9 hb_9 => ?_)
    refine hs_bind (hf_X3_add L (c3O_0_1 L k0_a0 hb_9)) (fun r_11 u1' => ?_)
    have u1 : HG true true ad δ r_11.2 := u1'
    exact hs_mono (hj_X0_findBehind_98 L h_T) (fun _ hr => u1.t (hr))
theorem hj_X0_findBehind_54 {ad : List Nat} {h : hp} (L : Lay TLx ad h) {N : Nat} {T : Nat → Int32 → Int32 → dp → Option (Int32 × dp)} {a0 : Nat} {x1 : Int32} {x2 : Int32} {x3 : Int32} {x4 : Int32} {xs0 : Int32} {x5v : Int32} {x6v : Int32} (k0_a0 : q_K h.1 a0 = 0) (h_T : ∀ (y0 : Nat) (y1 : Int32) (y2 : Int32) (δ1 : dp), q_K h.1 y0 = 0 → hs (T y0 y1 y2 δ1) (fun r => HG true true ad δ1 r.2)) {δ : dp} : hs (J_X0_findBehind_54 N h.1 T a0 x1 x2 x3 x4 xs0 x5v x6v δ) (fun r => HG true true ad δ r.2) := by
  unfold J_X0_findBehind_54
  refine hs_bind (h_T a0 (x3 - (1 : Int32)) (x4 - x5v) δ k0_a0) (fun r_6 u1' => ?_)
  have u1 : HG true true ad δ r_6.2 := u1'
  refine hs_ite (fun _ => ?_) (fun _ => ?_)
  · skip
    exact hs_mono (hj_X0_findBehind_84 L k0_a0 h_T) (fun _ hr => u1.t (hr))
  · skip
    refine hs_ob (fun b_12 hb_12 => ?_)
    refine hs_bind (hf_X3_remove L (c3O_0_1 L k0_a0 hb_12)) (fun r_14 u2' => ?_)
    have u2 : HG true true ad δ r_14.2 := u1.t (u2')
    exact hs_mono (hj_X0_findBehind_84 L k0_a0 h_T) (fun _ hr => u2.t (hr))
theorem hj_X0_findBehind_53 {ad : List Nat} {h : hp} (L : Lay TLx ad h) {N : Nat} {T : Nat → Int32 → Int32 → dp → Option (Int32 × dp)} {a0 : Nat} {x1 : Int32} {x2 : Int32} {x3 : Int32} {x4 : Int32} {x5v : Int32} {x6v : Int32} (k0_a0 : q_K h.1 a0 = 0) (h_T : ∀ (y0 : Nat) (y1 : Int32) (y2 : Int32) (δ1 : dp), q_K h.1 y0 = 0 → hs (T y0 y1 y2 δ1) (fun r => HG true true ad δ1 r.2)) {δ : dp} : hs (J_X0_findBehind_53 N h.1 T a0 x1 x2 x3 x4 x5v x6v δ) (fun r => HG true true ad δ r.2) := by
  unfold J_X0_findBehind_53
  exact hj_X0_findBehind_54 L k0_a0 h_T
theorem hj_X0_findBehind_31 {ad : List Nat} {h : hp} (L : Lay TLx ad h) {N : Nat} {T : Nat → Int32 → Int32 → dp → Option (Int32 × dp)} {a0 : Nat} {x1 : Int32} {x2 : Int32} {x3 : Int32} {x4 : Int32} {xs0 : Int32} {x5v : Int32} (k0_a0 : q_K h.1 a0 = 0) (h_T : ∀ (y0 : Nat) (y1 : Int32) (y2 : Int32) (δ1 : dp), q_K h.1 y0 = 0 → hs (T y0 y1 y2 δ1) (fun r => HG true true ad δ1 r.2)) {δ : dp} : hs (J_X0_findBehind_31 N h.1 T a0 x1 x2 x3 x4 xs0 x5v δ) (fun r => HG true true ad δ r.2) := by
  unfold J_X0_findBehind_31
  refine hs_ite (fun _ => ?_) (fun _ => ?_)
  · skip
    refine hs_ob (fun b_15 hb_15 => ?_)
    refine hs_bind (hf_X3_remove L (c3O_0_1 L k0_a0 hb_15)) (fun r_17 u1' => ?_)
    have u1 : HG true true ad δ r_17.2 := u1'
    refine hs_ite (fun _ => ?_) (fun _ => ?_)
    · skip
      exact hs_mono (hj_X0_findBehind_53 L k0_a0 h_T) (fun _ hr => u1.t (hr))
    · skip
      exact hs_mono (hj_X0_findBehind_54 L k0_a0 h_T) (fun _ hr => u1.t (hr))
  · skip
    exact hj_X0_findBehind_53 L k0_a0 h_T
theorem hj_X0_findBehind_30 {ad : List Nat} {h : hp} (L : Lay TLx ad h) {N : Nat} {T : Nat → Int32 → Int32 → dp → Option (Int32 × dp)} {a0 : Nat} {x1 : Int32} {x2 : Int32} {x3 : Int32} {x4 : Int32} {x5v : Int32} (k0_a0 : q_K h.1 a0 = 0) (h_T : ∀ (y0 : Nat) (y1 : Int32) (y2 : Int32) (δ1 : dp), q_K h.1 y0 = 0 → hs (T y0 y1 y2 δ1) (fun r => HG true true ad δ1 r.2)) {δ : dp} : hs (J_X0_findBehind_30 N h.1 T a0 x1 x2 x3 x4 x5v δ) (fun r => HG true true ad δ r.2) := by
  unfold J_X0_findBehind_30
  exact hj_X0_findBehind_31 L k0_a0 h_T
theorem hb_X0_findBehind {ad : List Nat} {h : hp} (L : Lay TLx ad h) {N : Nat} {T : Nat → Int32 → Int32 → dp → Option (Int32 × dp)} {a0 : Nat} {x1 : Int32} {x2 : Int32} {x3 : Int32} {x4 : Int32} (k0_a0 : q_K h.1 a0 = 0) (h_T : ∀ (y0 : Nat) (y1 : Int32) (y2 : Int32) (δ1 : dp), q_K h.1 y0 = 0 → hs (T y0 y1 y2 δ1) (fun r => HG true true ad δ1 r.2)) {δ : dp} : hs (B_X0_findBehind N h.1 T a0 x1 x2 x3 x4 δ) (fun r => HG true true ad δ r.2) := by
  unfold B_X0_findBehind
  refine hs_ob (fun b_1 hb_1 => ?_)
  refine hs_bind (hf_X1_touchesOf L) (fun r_3 u1' => ?_)
  have u1 : HG true true ad δ r_3.2 := u1'
  refine hs_ite (fun _ => ?_) (fun _ => ?_)
  · skip
    refine hs_ob (fun b_19 hb_19 => ?_)
    refine hs_bind (hf_X3_add L (c3O_0_1 L k0_a0 hb_19)) (fun r_21 u2' => ?_)
    have u2 : HG true true ad δ r_21.2 := u1.t (u2')
    refine hs_ite (fun _ => ?_) (fun _ => ?_)
    · skip
      exact hs_mono (hj_X0_findBehind_30 L k0_a0 h_T) (fun _ hr => u2.t (hr))
    · skip
      exact hs_mono (hj_X0_findBehind_31 L k0_a0 h_T) (fun _ hr => u2.t (hr))
  · skip
    exact hs_mono (hj_X0_findBehind_30 L k0_a0 h_T) (fun _ hr => u1.t (hr))
theorem hj_X0_find_120 {ad : List Nat} {h : hp} (L : Lay TLx ad h) {N : Nat} {T : Nat → Int32 → Int32 → dp → Option (Int32 × dp)} {a0 : Nat} {x1 : Int32} {x2 : Int32} {kt38 : Int32 → dp → Option (Int32 × dp)} {x3v : Int32} (h_T : ∀ (y0 : Nat) (y1 : Int32) (y2 : Int32) (δ1 : dp), q_K h.1 y0 = 0 → hs (T y0 y1 y2 δ1) (fun r => HG true true ad δ1 r.2)) (h_kt38 : ∀ (y0 : Int32) (δ1 : dp), hs (kt38 y0 δ1) (fun r => HG true true ad δ1 r.2)) {δ : dp} : hs (J_X0_find_120 N h.1 T a0 x1 x2 kt38 x3v δ) (fun r => HG true true ad δ r.2) := by
  unfold J_X0_find_120
  refine hs_biv (fun x_20 _ => ?_)
  exact h_kt38 x_20 δ
theorem hl_X0_find_70 {ad : List Nat} {h : hp} (L : Lay TLx ad h) {N : Nat} {T : Nat → Int32 → Int32 → dp → Option (Int32 × dp)} {a0 : Nat} {x1 : Int32} {x2 : Int32} {kt38 : Int32 → dp → Option (Int32 × dp)} (k0_a0 : q_K h.1 a0 = 0) (h_T : ∀ (y0 : Nat) (y1 : Int32) (y2 : Int32) (δ1 : dp), q_K h.1 y0 = 0 → hs (T y0 y1 y2 δ1) (fun r => HG true true ad δ1 r.2)) (h_kt38 : ∀ (y0 : Int32) (δ1 : dp), hs (kt38 y0 δ1) (fun r => HG true true ad δ1 r.2)) : ∀ (n : Nat) (x3v : Int32) (x4v : Int32) (x5v : Int32) (δ : dp), hs (L_X0_find_70 N h.1 T a0 x1 x2 kt38 n x3v x4v x5v δ) (fun r => HG true true ad δ r.2) := by
  intro n
  induction n with
  | zero => intro x3v x4v x5v δ; unfold L_X0_find_70; exact hs_none
  | succ n ih =>
    intro x3v x4v x5v δ
    unfold L_X0_find_70
    refine hs_ob (fun b_16 hb_16 => ?_)
    refine hs_bind (hf_X5_greatest L) (fun r_18 u1' => ?_)
    have u1 : HG true true ad δ r_18.2 := u1'
    refine hs_ite (fun _ => ?_) (fun _ => ?_)
    · skip
      exact hs_mono (hj_X0_find_120 L h_T h_kt38) (fun _ hr => u1.t (hr))
    · skip
      refine hs_ite (fun _ => ?_) (fun _ => ?_)
      · skip
        exact hs_mono (hj_X0_find_120 L h_T h_kt38) (fun _ hr => u1.t (hr))
      · skip
        refine hs_bind (hb_X0_findBehind L k0_a0 h_T) (fun r_23 u2' => ?_)
        have u2 : HG true true ad δ r_23.2 := u1.t (u2')
        refine hs_ite (fun _ => ?_) (fun _ => ?_)
        · skip
          refine hs_biv (fun x_25 _ => ?_)
          exact hs_mono (ih x3v x4v x_25 r_23.2) (fun _ hr => u2.t (hr))
        · skip
          refine hs_ob (fun b_27 hb_27 => ?_)
          refine hs_gd (fun gz3 => ?_)
          refine hs_bdv (fun δ_29 e4 => ?_)
          have u4 : HG true true ad δ δ_29 := HG.R u2 e4 (nrO_0_5 L k0_a0 hb_27)
          refine hs_gp (fun gk5 => ?_)
          exact hs_some u4
theorem hj_X0_find_65 {ad : List Nat} {h : hp} (L : Lay TLx ad h) {N : Nat} {T : Nat → Int32 → Int32 → dp → Option (Int32 × dp)} {a0 : Nat} {x1 : Int32} {x2 : Int32} {kt38 : Int32 → dp → Option (Int32 × dp)} {xs0 : Int32} {x3v : Int32} (k0_a0 : q_K h.1 a0 = 0) (h_T : ∀ (y0 : Nat) (y1 : Int32) (y2 : Int32) (δ1 : dp), q_K h.1 y0 = 0 → hs (T y0 y1 y2 δ1) (fun r => HG true true ad δ1 r.2)) (h_kt38 : ∀ (y0 : Int32) (δ1 : dp), hs (kt38 y0 δ1) (fun r => HG true true ad δ1 r.2)) {δ : dp} : hs (J_X0_find_65 N h.1 T a0 x1 x2 kt38 xs0 x3v δ) (fun r => HG true true ad δ r.2) := by
  unfold J_X0_find_65
  exact hl_X0_find_70 L k0_a0 h_T h_kt38 N x3v xs0 0 δ
theorem hl_X0_find_38 {ad : List Nat} {h : hp} (L : Lay TLx ad h) {N : Nat} {T : Nat → Int32 → Int32 → dp → Option (Int32 × dp)} {a0 : Nat} {x1 : Int32} {x2 : Int32} (k0_a0 : q_K h.1 a0 = 0) (h_T : ∀ (y0 : Nat) (y1 : Int32) (y2 : Int32) (δ1 : dp), q_K h.1 y0 = 0 → hs (T y0 y1 y2 δ1) (fun r => HG true true ad δ1 r.2)) : ∀ (n : Nat) (x3v : Int32) (δ : dp), hs (L_X0_find_38 N h.1 T a0 x1 x2 n x3v δ) (fun r => HG true true ad δ r.2) := by
  intro n
  induction n with
  | zero => intro x3v δ; unfold L_X0_find_38; exact hs_none
  | succ n ih =>
    intro x3v δ
    unfold L_X0_find_38
    refine hs_ite (fun _ => ?_) (fun _ => ?_)
    · skip
      refine hs_gp (fun gk1 => ?_)
      exact hs_some HG_r
    · skip
      refine hs_ob (fun b_12 hb_12 => ?_)
      refine hs_bind (hf_X0_limitOf L) (fun r_14 u2' => ?_)
      have u2 : HG true true ad δ r_14.2 := u2'
      refine hs_ite (fun _ => ?_) (fun _ => ?_)
      · skip
        exact hs_mono (hj_X0_find_65 L k0_a0 h_T ih) (fun _ hr => u2.t (hr))
      · skip
        exact hs_mono (hj_X0_find_65 L k0_a0 h_T ih) (fun _ hr => u2.t (hr))
theorem hb_X0_find {ad : List Nat} {h : hp} (L : Lay TLx ad h) {N : Nat} {T : Nat → Int32 → Int32 → dp → Option (Int32 × dp)} {a0 : Nat} {x1 : Int32} {x2 : Int32} (k0_a0 : q_K h.1 a0 = 0) (h_T : ∀ (y0 : Nat) (y1 : Int32) (y2 : Int32) (δ1 : dp), q_K h.1 y0 = 0 → hs (T y0 y1 y2 δ1) (fun r => HG true true ad δ1 r.2)) {δ : dp} : hs (B_X0_find N h.1 T a0 x1 x2 δ) (fun r => HG true true ad δ r.2) := by
  unfold B_X0_find
  refine hs_ite (fun _ => ?_) (fun _ => ?_)
  · skip
    exact hj_X0_find_22 L h_T
  · skip
    refine hs_ob (fun b_4 hb_4 => ?_)
    refine hs_gd (fun gz1 => ?_)
    refine hs_ob (fun b_6 hb_6 => ?_)
    refine hs_ob (fun b_8 hb_8 => ?_)
    refine hs_gd (fun gz2 => ?_)
    refine hs_ite (fun _ => ?_) (fun _ => ?_)
    · skip
      exact hl_X0_find_38 L k0_a0 h_T N 0 δ
    · skip
      exact hj_X0_find_22 L h_T
theorem he_X0_find {ad : List Nat} {h : hp} (L : Lay TLx ad h) {N : Nat} : ∀ (k : Nat) (a0 : Nat) (x1 : Int32) (x2 : Int32) (δ : dp), q_K h.1 a0 = 0 → hs (E_X0_find N h.1 k a0 x1 x2 δ) (fun r => HG true true ad δ r.2) := by
  intro k
  induction k with
  | zero => intro a0 x1 x2 δ k0_a0; unfold E_X0_find; exact hs_none
  | succ k ih =>
    intro a0 x1 x2 δ k0_a0
    unfold E_X0_find
    exact hb_X0_find L k0_a0 ih
theorem hf_X0_find {ad : List Nat} {h : hp} (L : Lay TLx ad h) {N : Nat} {a0 : Nat} {x1 : Int32} {x2 : Int32} (k0_a0 : q_K h.1 a0 = 0) {δ : dp} : hs (D_X0_find N h.1 a0 x1 x2 δ) (fun r => HG true true ad δ r.2) := by
  unfold D_X0_find
  exact he_X0_find L 20 a0 x1 x2 δ k0_a0
theorem hj_X0_learn_54 {ad : List Nat} {h : hp} (L : Lay TLx ad h) {N : Nat} {a0 : Nat} {x1 : Int32} {x2v : Int32}  {δ : dp} : hs (J_X0_learn_54 N h.1 a0 x1 x2v δ) (fun r => HG true true ad δ r.2) := by
  unfold J_X0_learn_54
  refine hs_bdv (fun δ_13 e1 => ?_)
  have u1 : HG true true ad δ δ_13 := HG.I HG_r e1 (by decide) (by decide)
  refine hs_bdv (fun δ_15 e2 => ?_)
  have u2 : HG true true ad δ δ_15 := HG.I u1 e2 (by decide) (by decide)
  exact hs_mono (hj_X0_learn_64 L) (fun _ hr => u2.t (hr))
theorem hl_X0_learn_35 {ad : List Nat} {h : hp} (L : Lay TLx ad h) {N : Nat} {a0 : Nat} {x1 : Int32} (k0_a0 : q_K h.1 a0 = 0) : ∀ (n : Nat) (x2v : Int32) (δ : dp), hs (L_X0_learn_35 N h.1 a0 x1 n x2v δ) (fun r => HG true true ad δ r.2) := by
  intro n
  induction n with
  | zero => intro x2v δ; unfold L_X0_learn_35; exact hs_none
  | succ n ih =>
    intro x2v δ
    unfold L_X0_learn_35
    refine hs_ite (fun _ => ?_) (fun _ => ?_)
    · skip
      exact hj_X0_learn_54 L
    · skip
      refine hs_bind (hf_X0_find L k0_a0) (fun r_17 u1' => ?_)
      have u1 : HG true true ad δ r_17.2 := u1'
      refine hs_ite (fun _ => ?_) (fun _ => ?_)
      · skip
        refine hs_biv (fun x_19 _ => ?_)
        exact hs_mono (ih x_19 r_17.2) (fun _ hr => u1.t (hr))
      · skip
        exact hs_mono (hj_X0_learn_54 L) (fun _ hr => u1.t (hr))
theorem hj_X0_learn_11 {ad : List Nat} {h : hp} (L : Lay TLx ad h) {N : Nat} {a0 : Nat} {x1 : Int32} (k0_a0 : q_K h.1 a0 = 0) {δ : dp} : hs (J_X0_learn_11 N h.1 a0 x1 δ) (fun r => HG true true ad δ r.2) := by
  unfold J_X0_learn_11
  refine hs_ite (fun _ => ?_) (fun _ => ?_)
  · skip
    exact hj_X0_learn_64 L
  · skip
    refine hs_ob (fun b_3 hb_3 => ?_)
    refine hs_bind (hf_X3_clear L (c3O_0_1 L k0_a0 hb_3)) (fun r_5 u1' => ?_)
    have u1 : HG true true ad δ r_5 := u1'
    refine hs_ob (fun b_6 hb_6 => ?_)
    refine hs_gd (fun gz2 => ?_)
    refine hs_ob (fun b_8 hb_8 => ?_)
    refine hs_gd (fun gz3 => ?_)
    refine hs_biv (fun x_10 _ => ?_)
    exact hs_mono (hl_X0_learn_35 L k0_a0 N x_10 r_5) (fun _ hr => u1.t (hr))
theorem hf_X0_learn {ad : List Nat} {h : hp} (L : Lay TLx ad h) {N : Nat} {a0 : Nat} {x1 : Int32} (k0_a0 : q_K h.1 a0 = 0) {δ : dp} : hs (D_X0_learn N h.1 a0 x1 δ) (fun r => HG true true ad δ r.2) := by
  unfold D_X0_learn
  refine hs_ite (fun _ => ?_) (fun _ => ?_)
  · skip
    refine hs_bind (hf_X0_setLimits L k0_a0) (fun r_21 u1' => ?_)
    have u1 : HG true true ad δ r_21 := u1'
    exact hs_mono (hj_X0_learn_11 L k0_a0) (fun _ hr => u1.t (hr))
  · skip
    exact hj_X0_learn_11 L k0_a0
theorem hj_X11_row_32 {ad : List Nat} {h : hp} (L : Lay TLx ad h) {N : Nat} {a0 : Nat} {x1 : Int32} {xs0 : Int32} {as1 : Nat} (k11_a0 : q_K h.1 a0 = 11) (k11_as1 : q_K h.1 as1 = 11) {δ : dp} : hs (J_X11_row_32 N h.1 a0 x1 xs0 as1 δ) (fun r => HG true false ad δ r.2) := by
  unfold J_X11_row_32
  refine hs_bxv (hf_X11_need L k11_as1) (fun _ _ u1' => u1') (fun δ_7 u1' => ?_)
  have u1 : HG true false ad δ δ_7 := u1'
  refine hs_ob (fun b_8 hb_8 => ?_)
  refine hs_bind (hf_X0_learn L (kO_11_10 L k11_a0 hb_8)) (fun r_10 u2' => ?_)
  have u2 : HG true false ad δ r_10.2 := u1.t ((u2').w (by decide) (by decide))
  exact hs_some u2
theorem hj_X11_row_31 {ad : List Nat} {h : hp} (L : Lay TLx ad h) {N : Nat} {a0 : Nat} {x1 : Int32} {as0 : Nat} (k11_a0 : q_K h.1 a0 = 11) (k11_as0 : q_K h.1 as0 = 11) {δ : dp} : hs (J_X11_row_31 N h.1 a0 x1 as0 δ) (fun r => HG true false ad δ r.2) := by
  unfold J_X11_row_31
  exact hj_X11_row_32 L k11_a0 k11_as0
theorem hf_X11_row {ad : List Nat} {h : hp} (L : Lay TLx ad h) {N : Nat} {a0 : Nat} {x1 : Int32} (k11_a0 : q_K h.1 a0 = 11) {δ : dp} : hs (D_X11_row N h.1 a0 x1 δ) (fun r => HG true false ad δ r.2) := by
  unfold D_X11_row
  refine hs_ob (fun b_1 hb_1 => ?_)
  refine hs_bind (hf_X5_isSmall L) (fun r_3 u1' => ?_)
  have u1 : HG true false ad δ r_3.2 := (u1').w (by decide) (by decide)
  refine hs_ite (fun _ => ?_) (fun _ => ?_)
  · skip
    exact hs_mono (hj_X11_row_31 L k11_a0 k11_a0) (fun _ hr => u1.t (hr))
  · skip
    refine hs_ite (fun _ => ?_) (fun _ => ?_)
    · skip
      exact hs_mono (hj_X11_row_31 L k11_a0 k11_a0) (fun _ hr => u1.t (hr))
    · skip
      refine hs_ob (fun b_12 hb_12 => ?_)
      refine hs_bind (hf_X5_mostInRows L) (fun r_14 u2' => ?_)
      have u2 : HG true false ad δ r_14.2 := u1.t ((u2').w (by decide) (by decide))
      refine hs_ite (fun _ => ?_) (fun _ => ?_)
      · skip
        exact hs_mono (hj_X11_row_31 L k11_a0 k11_a0) (fun _ hr => u2.t (hr))
      · skip
        exact hs_mono (hj_X11_row_32 L k11_a0 k11_a0) (fun _ hr => u2.t (hr))
theorem hj_X0_callAt_21 {ad : List Nat} {h : hp} (L : Lay TLx ad h) {N : Nat} {a0 : Nat} {x1 : Int32} {x2 : Int32} {xs0 : Int32}  {δ : dp} : hs (J_X0_callAt_21 N h.1 a0 x1 x2 xs0 δ) (fun r => HG true true ad δ r.2) := by
  unfold J_X0_callAt_21
  exact hs_some HG_r
theorem hj_X0_callAt_9 {ad : List Nat} {h : hp} (L : Lay TLx ad h) {N : Nat} {a0 : Nat} {x1 : Int32} {x2 : Int32}  {δ : dp} : hs (J_X0_callAt_9 N h.1 a0 x1 x2 δ) (fun r => HG true true ad δ r.2) := by
  unfold J_X0_callAt_9
  exact hj_X0_callAt_21 L
theorem hf_X0_callAt {ad : List Nat} {h : hp} (L : Lay TLx ad h) {N : Nat} {a0 : Nat} {x1 : Int32} {x2 : Int32}  {δ : dp} : hs (D_X0_callAt N h.1 a0 x1 x2 δ) (fun r => HG true true ad δ r.2) := by
  unfold D_X0_callAt
  refine hs_ite (fun _ => ?_) (fun _ => ?_)
  · skip
    exact hj_X0_callAt_9 L
  · skip
    refine hs_ite (fun _ => ?_) (fun _ => ?_)
    · skip
      refine hs_ob (fun b_3 hb_3 => ?_)
      refine hs_gd (fun gz1 => ?_)
      exact hj_X0_callAt_21 L
    · skip
      exact hj_X0_callAt_9 L
theorem hj_X11_rowCall_32 {ad : List Nat} {h : hp} (L : Lay TLx ad h) {N : Nat} {a0 : Nat} {x1 : Int32} {x2 : Int32} {xs0 : Int32} {as1 : Nat} (k11_a0 : q_K h.1 a0 = 11) (k11_as1 : q_K h.1 as1 = 11) {δ : dp} : hs (J_X11_rowCall_32 N h.1 a0 x1 x2 xs0 as1 δ) (fun r => HG true false ad δ r.2) := by
  unfold J_X11_rowCall_32
  refine hs_bxv (hf_X11_need L k11_as1) (fun _ _ u1' => u1') (fun δ_7 u1' => ?_)
  have u1 : HG true false ad δ δ_7 := u1'
  refine hs_ob (fun b_8 hb_8 => ?_)
  refine hs_bind (hf_X0_learn L (kO_11_10 L k11_a0 hb_8)) (fun r_10 u2' => ?_)
  have u2 : HG true false ad δ r_10.2 := u1.t ((u2').w (by decide) (by decide))
  refine hs_ob (fun b_11 hb_11 => ?_)
  refine hs_bind (hf_X0_callAt L) (fun r_13 u3' => ?_)
  have u3 : HG true false ad δ r_13.2 := u2.t ((u3').w (by decide) (by decide))
  exact hs_some u3
theorem hj_X11_rowCall_31 {ad : List Nat} {h : hp} (L : Lay TLx ad h) {N : Nat} {a0 : Nat} {x1 : Int32} {x2 : Int32} {as0 : Nat} (k11_a0 : q_K h.1 a0 = 11) (k11_as0 : q_K h.1 as0 = 11) {δ : dp} : hs (J_X11_rowCall_31 N h.1 a0 x1 x2 as0 δ) (fun r => HG true false ad δ r.2) := by
  unfold J_X11_rowCall_31
  exact hj_X11_rowCall_32 L k11_a0 k11_as0
theorem hf_X11_rowCall {ad : List Nat} {h : hp} (L : Lay TLx ad h) {N : Nat} {a0 : Nat} {x1 : Int32} {x2 : Int32} (k11_a0 : q_K h.1 a0 = 11) {δ : dp} : hs (D_X11_rowCall N h.1 a0 x1 x2 δ) (fun r => HG true false ad δ r.2) := by
  unfold D_X11_rowCall
  refine hs_ob (fun b_1 hb_1 => ?_)
  refine hs_bind (hf_X5_isSmall L) (fun r_3 u1' => ?_)
  have u1 : HG true false ad δ r_3.2 := (u1').w (by decide) (by decide)
  refine hs_ite (fun _ => ?_) (fun _ => ?_)
  · skip
    exact hs_mono (hj_X11_rowCall_31 L k11_a0 k11_a0) (fun _ hr => u1.t (hr))
  · skip
    refine hs_ite (fun _ => ?_) (fun _ => ?_)
    · skip
      exact hs_mono (hj_X11_rowCall_31 L k11_a0 k11_a0) (fun _ hr => u1.t (hr))
    · skip
      refine hs_ob (fun b_15 hb_15 => ?_)
      refine hs_bind (hf_X5_mostInRows L) (fun r_17 u2' => ?_)
      have u2 : HG true false ad δ r_17.2 := u1.t ((u2').w (by decide) (by decide))
      refine hs_ite (fun _ => ?_) (fun _ => ?_)
      · skip
        exact hs_mono (hj_X11_rowCall_31 L k11_a0 k11_a0) (fun _ hr => u2.t (hr))
      · skip
        exact hs_mono (hj_X11_rowCall_32 L k11_a0 k11_a0) (fun _ hr => u2.t (hr))
theorem hj_X3_widestGap_44 {ad : List Nat} {h : hp} (L : Lay TLx ad h) {N : Nat} {a0 : Nat} {kt6 : Int32 → Int32 → Int32 → dp → Option (Int32 × dp)} {x1v : Int32} {x2v : Int32} {x3v : Int32} (h_kt6 : ∀ (y0 : Int32) (y1 : Int32) (y2 : Int32) (δ1 : dp), hs (kt6 y0 y1 y2 δ1) (fun r => HG true true ad δ1 r.2)) {δ : dp} : hs (J_X3_widestGap_44 N h.1 a0 kt6 x1v x2v x3v δ) (fun r => HG true true ad δ r.2) := by
  unfold J_X3_widestGap_44
  refine hs_biv (fun x_9 _ => ?_)
  exact h_kt6 x1v x2v x_9 δ
theorem hl_X3_widestGap_6 {ad : List Nat} {h : hp} (L : Lay TLx ad h) {N : Nat} {a0 : Nat}  : ∀ (n : Nat) (x1v : Int32) (x2v : Int32) (x3v : Int32) (δ : dp), hs (L_X3_widestGap_6 N h.1 a0 n x1v x2v x3v δ) (fun r => HG true true ad δ r.2) := by
  intro n
  induction n with
  | zero => intro x1v x2v x3v δ; unfold L_X3_widestGap_6; exact hs_none
  | succ n ih =>
    intro x1v x2v x3v δ
    unfold L_X3_widestGap_6
    refine hs_ite (fun _ => ?_) (fun _ => ?_)
    · skip
      exact hs_some HG_r
    · skip
      refine hs_ob (fun b_2 hb_2 => ?_)
      refine hs_gd (fun gz1 => ?_)
      refine hs_ob (fun b_4 hb_4 => ?_)
      refine hs_gd (fun gz2 => ?_)
      refine hs_biv (fun x_6 _ => ?_)
      refine hs_ite (fun _ => ?_) (fun _ => ?_)
      · skip
        exact hj_X3_widestGap_44 L ih
      · skip
        exact hj_X3_widestGap_44 L ih
theorem hf_X3_widestGap {ad : List Nat} {h : hp} (L : Lay TLx ad h) {N : Nat} {a0 : Nat}  {δ : dp} : hs (D_X3_widestGap N h.1 a0 δ) (fun r => HG true true ad δ r.2) := by
  unfold D_X3_widestGap
  exact hl_X3_widestGap_6 L N (-1) 0 0 δ
theorem hj_X11_gap_75 {ad : List Nat} {h : hp} (L : Lay TLx ad h) {N : Nat} {a0 : Nat} {x1 : Int32} {x2 : Int32} {xs0 : Int32}  {δ : dp} : hs (J_X11_gap_75 N h.1 a0 x1 x2 xs0 δ) (fun r => HG true true ad δ r.2) := by
  unfold J_X11_gap_75
  exact hs_some HG_r
theorem hj_X11_gap_20 {ad : List Nat} {h : hp} (L : Lay TLx ad h) {N : Nat} {a0 : Nat} {x1 : Int32} {x2 : Int32} {xs0 : Int32} {as1 : Nat} (k11_as1 : q_K h.1 as1 = 11) {δ : dp} : hs (J_X11_gap_20 N h.1 a0 x1 x2 xs0 as1 δ) (fun r => HG true false ad δ r.2) := by
  unfold J_X11_gap_20
  refine hs_bxv (hf_X11_need L k11_as1) (fun _ _ u1' => u1') (fun δ_7 u1' => ?_)
  have u1 : HG true false ad δ δ_7 := u1'
  refine hs_ob (fun b_8 hb_8 => ?_)
  refine hs_gd (fun gz2 => ?_)
  refine hs_ob (fun b_10 hb_10 => ?_)
  refine hs_ob (fun b_12 hb_12 => ?_)
  refine hs_bind (hf_X3_widestGap L) (fun r_14 u3' => ?_)
  have u3 : HG true false ad δ r_14.2 := u1.t ((u3').w (by decide) (by decide))
  refine hs_ite (fun _ => ?_) (fun _ => ?_)
  · skip
    exact hs_some u3
  · skip
    refine hs_ite (fun _ => ?_) (fun _ => ?_)
    · skip
      refine hs_bind (hf_X3_at L) (fun r_18 u4' => ?_)
      have u4 : HG true false ad δ r_18.2 := u3.t ((u4').w (by decide) (by decide))
      refine hs_bind (hf_X3_at L) (fun r_19 u5' => ?_)
      have u5 : HG true false ad δ r_19.2 := u4.t ((u5').w (by decide) (by decide))
      exact hs_mono (hj_X11_gap_75 L) (fun _ hr => u5.t ((hr).w (by decide) (by decide)))
    · skip
      refine hs_bind (hf_X3_at L) (fun r_17 u6' => ?_)
      have u6 : HG true false ad δ r_17.2 := u3.t ((u6').w (by decide) (by decide))
      exact hs_mono (hj_X11_gap_75 L) (fun _ hr => u6.t ((hr).w (by decide) (by decide)))
theorem hj_X11_gap_15 {ad : List Nat} {h : hp} (L : Lay TLx ad h) {N : Nat} {a0 : Nat} {x1 : Int32} {x2 : Int32} {as0 : Nat} (k11_as0 : q_K h.1 as0 = 11) {δ : dp} : hs (J_X11_gap_15 N h.1 a0 x1 x2 as0 δ) (fun r => HG true false ad δ r.2) := by
  unfold J_X11_gap_15
  exact hj_X11_gap_20 L k11_as0
theorem hf_X11_gap {ad : List Nat} {h : hp} (L : Lay TLx ad h) {N : Nat} {a0 : Nat} {x1 : Int32} {x2 : Int32} (k11_a0 : q_K h.1 a0 = 11) {δ : dp} : hs (D_X11_gap N h.1 a0 x1 x2 δ) (fun r => HG true false ad δ r.2) := by
  unfold D_X11_gap
  refine hs_bxv (hf_X11_needHouse L k11_a0) (fun _ _ u1' => u1') (fun δ_3 u1' => ?_)
  have u1 : HG true false ad δ δ_3 := u1'
  refine hs_ite (fun _ => ?_) (fun _ => ?_)
  · skip
    exact hs_mono (hj_X11_gap_15 L k11_a0) (fun _ hr => u1.t (hr))
  · skip
    refine hs_ite (fun _ => ?_) (fun _ => ?_)
    · skip
      exact hs_mono (hj_X11_gap_15 L k11_a0) (fun _ hr => u1.t (hr))
    · skip
      exact hs_mono (hj_X11_gap_20 L k11_a0) (fun _ hr => u1.t (hr))
theorem hj_X11_seeds_130 {ad : List Nat} {h : hp} (L : Lay TLx ad h) {N : Nat} {a0 : Nat} {x1 : Int32} {x2 : Int32} {x3 : Int32} {x4 : Int32} {x5 : Int32} {kt72 : Int32 → Int32 → Int32 → Int32 → dp → Option ((Int32 ⊕ Nat) × dp)} {x6v : Int32} {x7v : Int32} {x8v : Int32} {x9v : Int32} (h_kt72 : ∀ (y0 : Int32) (y1 : Int32) (y2 : Int32) (y3 : Int32) (δ1 : dp), hs (kt72 y0 y1 y2 y3 δ1) (fun r => HG false true ad δ1 r.2)) {δ : dp} : hs (J_X11_seeds_130 N h.1 a0 x1 x2 x3 x4 x5 kt72 x6v x7v x8v x9v δ) (fun r => HG false true ad δ r.2) := by
  unfold J_X11_seeds_130
  refine hs_biv (fun x_34 _ => ?_)
  exact h_kt72 x6v x7v x8v x_34 δ
theorem hj_X11_seeds_148 {ad : List Nat} {h : hp} (L : Lay TLx ad h) {N : Nat} {a0 : Nat} {x1 : Int32} {x2 : Int32} {x3 : Int32} {x4 : Int32} {x5 : Int32} {xs0 : Int32}  {δ : dp} : hs (J_X11_seeds_148 N h.1 a0 x1 x2 x3 x4 x5 xs0 δ) (fun r => HG true true ad δ r.2) := by
  unfold J_X11_seeds_148
  exact hs_some HG_r
theorem hl_X11_seeds_72 {ad : List Nat} {h : hp} (L : Lay TLx ad h) {N : Nat} {a0 : Nat} {x1 : Int32} {x2 : Int32} {x3 : Int32} {x4 : Int32} {x5 : Int32} (k11_a0 : q_K h.1 a0 = 11) : ∀ (n : Nat) (x6v : Int32) (x7v : Int32) (x8v : Int32) (x9v : Int32) (δ : dp), hs (L_X11_seeds_72 N h.1 a0 x1 x2 x3 x4 x5 n x6v x7v x8v x9v δ) (fun r => HG false true ad δ r.2) := by
  intro n
  induction n with
  | zero => intro x6v x7v x8v x9v δ; unfold L_X11_seeds_72; exact hs_none
  | succ n ih =>
    intro x6v x7v x8v x9v δ
    unfold L_X11_seeds_72
    refine hs_ite (fun _ => ?_) (fun _ => ?_)
    · skip
      refine hs_ite (fun _ => ?_) (fun _ => ?_)
      · skip
        exact hs_mono (hj_X11_seeds_148 L) (fun _ hr => (hr).w (by decide) (by decide))
      · skip
        exact hs_mono (hj_X11_seeds_148 L) (fun _ hr => (hr).w (by decide) (by decide))
    · skip
      refine hs_ob (fun b_18 hb_18 => ?_)
      refine hs_ob (fun b_20 hb_20 => ?_)
      refine hs_gd (fun gz1 => ?_)
      refine hs_ob (fun b_22 hb_22 => ?_)
      refine hs_ob (fun b_24 hb_24 => ?_)
      refine hs_gd (fun gz2 => ?_)
      refine hs_ob (fun b_26 hb_26 => ?_)
      refine hs_ob (fun b_28 hb_28 => ?_)
      refine hs_bind (hf_X4_go L (kO_11_8 L k11_a0 hb_18)) (fun r_30 u3' => ?_)
      have u3 : HG false true ad δ r_30 := u3'
      refine hs_ob (fun b_31 hb_31 => ?_)
      refine hs_ite (fun _ => ?_) (fun _ => ?_)
      · skip
        exact hs_mono (hj_X11_seeds_130 L ih) (fun _ hr => u3.t (hr))
      · skip
        refine hs_ob (fun b_36 hb_36 => ?_)
        refine hs_biv (fun x_38 _ => ?_)
        exact hs_mono (hj_X11_seeds_130 L ih) (fun _ hr => u3.t (hr))
theorem hj_X11_seeds_67 {ad : List Nat} {h : hp} (L : Lay TLx ad h) {N : Nat} {a0 : Nat} {x1 : Int32} {x2 : Int32} {x3 : Int32} {x4 : Int32} {x5 : Int32} {xs0 : Int32} {x6v : Int32} {x7v : Int32} (k11_a0 : q_K h.1 a0 = 11) {δ : dp} : hs (J_X11_seeds_67 N h.1 a0 x1 x2 x3 x4 x5 xs0 x6v x7v δ) (fun r => HG false true ad δ r.2) := by
  unfold J_X11_seeds_67
  exact hl_X11_seeds_72 L k11_a0 N x6v x7v xs0 0 δ
theorem hj_X11_seeds_40 {ad : List Nat} {h : hp} (L : Lay TLx ad h) {N : Nat} {a0 : Nat} {x1 : Int32} {x2 : Int32} {x3 : Int32} {x4 : Int32} {x5 : Int32} {xs0 : Int32} {as1 : Nat} (k11_a0 : q_K h.1 a0 = 11) (k11_as1 : q_K h.1 as1 = 11) {δ : dp} : hs (J_X11_seeds_40 N h.1 a0 x1 x2 x3 x4 x5 xs0 as1 δ) (fun r => HG false false ad δ r.2) := by
  unfold J_X11_seeds_40
  refine hs_bxv (hf_X11_need L k11_as1) (fun _ _ u1' => (u1').w (by decide) (by decide)) (fun δ_10 u1' => ?_)
  have u1 : HG false false ad δ δ_10 := (u1').w (by decide) (by decide)
  refine hs_ob (fun b_11 hb_11 => ?_)
  refine hs_gd (fun gz2 => ?_)
  refine hs_ob (fun b_13 hb_13 => ?_)
  refine hs_ite (fun _ => ?_) (fun _ => ?_)
  · skip
    exact hs_mono (hj_X11_seeds_67 L k11_a0) (fun _ hr => u1.t ((hr).w (by decide) (by decide)))
  · skip
    exact hs_mono (hj_X11_seeds_67 L k11_a0) (fun _ hr => u1.t ((hr).w (by decide) (by decide)))
theorem hj_X11_seeds_35 {ad : List Nat} {h : hp} (L : Lay TLx ad h) {N : Nat} {a0 : Nat} {x1 : Int32} {x2 : Int32} {x3 : Int32} {x4 : Int32} {x5 : Int32} {as0 : Nat} (k11_a0 : q_K h.1 a0 = 11) (k11_as0 : q_K h.1 as0 = 11) {δ : dp} : hs (J_X11_seeds_35 N h.1 a0 x1 x2 x3 x4 x5 as0 δ) (fun r => HG false false ad δ r.2) := by
  unfold J_X11_seeds_35
  exact hj_X11_seeds_40 L k11_a0 k11_as0
theorem hj_X11_seeds_39 {ad : List Nat} {h : hp} (L : Lay TLx ad h) {N : Nat} {a0 : Nat} {x1 : Int32} {x2 : Int32} {x3 : Int32} {x4 : Int32} {x5 : Int32} {as0 : Nat} (k11_a0 : q_K h.1 a0 = 11) (k11_as0 : q_K h.1 as0 = 11) {δ : dp} : hs (J_X11_seeds_39 N h.1 a0 x1 x2 x3 x4 x5 as0 δ) (fun r => HG false false ad δ r.2) := by
  unfold J_X11_seeds_39
  exact hj_X11_seeds_40 L k11_a0 k11_as0
theorem hf_X11_seeds {ad : List Nat} {h : hp} (L : Lay TLx ad h) {N : Nat} {a0 : Nat} {x1 : Int32} {x2 : Int32} {x3 : Int32} {x4 : Int32} {x5 : Int32} (k11_a0 : q_K h.1 a0 = 11) {δ : dp} : hs (D_X11_seeds N h.1 a0 x1 x2 x3 x4 x5 δ) (fun r => HG false false ad δ r.2) := by
  unfold D_X11_seeds
  refine hs_bxv (hf_X11_needHouse L k11_a0) (fun _ _ u1' => (u1').w (by decide) (by decide)) (fun δ_3 u1' => ?_)
  have u1 : HG false false ad δ δ_3 := (u1').w (by decide) (by decide)
  refine hs_bxv (hf_X11_needThief L k11_a0) (fun _ _ u2' => u1.t ((u2').w (by decide) (by decide))) (fun δ_6 u2' => ?_)
  have u2 : HG false false ad δ δ_6 := u1.t ((u2').w (by decide) (by decide))
  refine hs_ite (fun _ => ?_) (fun _ => ?_)
  · skip
    exact hs_mono (hj_X11_seeds_39 L k11_a0 k11_a0) (fun _ hr => u2.t (hr))
  · skip
    refine hs_ite (fun _ => ?_) (fun _ => ?_)
    · skip
      exact hs_mono (hj_X11_seeds_39 L k11_a0 k11_a0) (fun _ hr => u2.t (hr))
    · skip
      refine hs_ite (fun _ => ?_) (fun _ => ?_)
      · skip
        exact hs_mono (hj_X11_seeds_35 L k11_a0 k11_a0) (fun _ hr => u2.t (hr))
      · skip
        refine hs_ite (fun _ => ?_) (fun _ => ?_)
        · skip
          exact hs_mono (hj_X11_seeds_35 L k11_a0 k11_a0) (fun _ hr => u2.t (hr))
        · skip
          exact hs_mono (hj_X11_seeds_39 L k11_a0 k11_a0) (fun _ hr => u2.t (hr))
theorem hj_X7_isSound_12 {ad : List Nat} {h : hp} (L : Lay TLx ad h) {N : Nat} {a0 : Nat} {xs0 : Int32}  {δ : dp} : hs (J_X7_isSound_12 N h.1 a0 xs0 δ) (fun r => HG true true ad δ r.2) := by
  unfold J_X7_isSound_12
  refine hs_gp (fun gk1 => ?_)
  exact hs_some HG_r
theorem hf_X7_isSound {ad : List Nat} {h : hp} (L : Lay TLx ad h) {N : Nat} {a0 : Nat}  {δ : dp} : hs (D_X7_isSound N h.1 a0 δ) (fun r => HG true true ad δ r.2) := by
  unfold D_X7_isSound
  refine hs_ite (fun _ => ?_) (fun _ => ?_)
  · skip
    exact hj_X7_isSound_12 L
  · skip
    exact hj_X7_isSound_12 L
theorem hf_X7_open {ad : List Nat} {h : hp} (L : Lay TLx ad h) {N : Nat} {a0 : Nat} {x1 : Int32}  {δ : dp} : hs (D_X7_open N h.1 a0 x1 δ) (fun r => HG true true ad δ r) := by
  unfold D_X7_open
  refine hs_bdv (fun δ_1 e1 => ?_)
  have u1 : HG true true ad δ δ_1 := HG.I HG_r e1 (by decide) (by decide)
  refine hs_bdv (fun δ_3 e2 => ?_)
  have u2 : HG true true ad δ δ_3 := HG.I u1 e2 (by decide) (by decide)
  refine hs_bdv (fun δ_5 e3 => ?_)
  have u3 : HG true true ad δ δ_5 := HG.I u2 e3 (by decide) (by decide)
  refine hs_bdv (fun δ_7 e4 => ?_)
  have u4 : HG true true ad δ δ_7 := HG.I u3 e4 (by decide) (by decide)
  refine hs_bdv (fun δ_9 e5 => ?_)
  have u5 : HG true true ad δ δ_9 := HG.I u4 e5 (by decide) (by decide)
  exact hs_some u5
theorem hf_X8_clear {ad : List Nat} {h : hp} (L : Lay TLx ad h) {N : Nat} {a0 : Nat}  {δ : dp} : hs (D_X8_clear N h.1 a0 δ) (fun r => HG true true ad δ r) := by
  unfold D_X8_clear
  refine hs_bdv (fun δ_1 e1 => ?_)
  have u1 : HG true true ad δ δ_1 := HG.I HG_r e1 (by decide) (by decide)
  refine hs_bdv (fun δ_3 e2 => ?_)
  have u2 : HG true true ad δ δ_3 := HG.I u1 e2 (by decide) (by decide)
  exact hs_some u2
theorem hj_X7_ahead_70 {ad : List Nat} {h : hp} (L : Lay TLx ad h) {N : Nat} {a0 : Nat} {xs0 : Int32}  {δ : dp} : hs (J_X7_ahead_70 N h.1 a0 xs0 δ) (fun r => HG true true ad δ r.2) := by
  unfold J_X7_ahead_70
  exact hs_some HG_r
theorem hj_X7_ahead_38 {ad : List Nat} {h : hp} (L : Lay TLx ad h) {N : Nat} {a0 : Nat}  {δ : dp} : hs (J_X7_ahead_38 N h.1 a0 δ) (fun r => HG true true ad δ r.2) := by
  unfold J_X7_ahead_38
  refine hs_bdv (fun δ_2 e1 => ?_)
  have u1 : HG true true ad δ δ_2 := HG.I HG_r e1 (by decide) (by decide)
  refine hs_ite (fun _ => ?_) (fun _ => ?_)
  · skip
    exact hs_mono (hj_X7_ahead_70 L) (fun _ hr => u1.t (hr))
  · skip
    refine hs_ob (fun b_5 hb_5 => ?_)
    refine hs_gd (fun gz2 => ?_)
    exact hs_mono (hj_X7_ahead_70 L) (fun _ hr => u1.t (hr))
theorem hl_X7_ahead_0 {ad : List Nat} {h : hp} (L : Lay TLx ad h) {N : Nat} {a0 : Nat}  : ∀ (n : Nat) (δ : dp), hs (L_X7_ahead_0 N h.1 a0 n δ) (fun r => HG true true ad δ r.2) := by
  intro n
  induction n with
  | zero => intro δ; unfold L_X7_ahead_0; exact hs_none
  | succ n ih =>
    intro δ
    unfold L_X7_ahead_0
    refine hs_ite (fun _ => ?_) (fun _ => ?_)
    · skip
      exact hj_X7_ahead_38 L
    · skip
      refine hs_ob (fun b_7 hb_7 => ?_)
      refine hs_gd (fun gz1 => ?_)
      refine hs_ite (fun _ => ?_) (fun _ => ?_)
      · skip
        refine hs_bdv (fun δ_10 e2 => ?_)
        have u2 : HG true true ad δ δ_10 := HG.I HG_r e2 (by decide) (by decide)
        exact hs_mono (ih δ_10) (fun _ hr => u2.t (hr))
      · skip
        exact hj_X7_ahead_38 L
theorem hf_X7_ahead {ad : List Nat} {h : hp} (L : Lay TLx ad h) {N : Nat} {a0 : Nat}  {δ : dp} : hs (D_X7_ahead N h.1 a0 δ) (fun r => HG true true ad δ r.2) := by
  unfold D_X7_ahead
  exact hl_X7_ahead_0 L N δ
theorem hj_X9_isOver_23 {ad : List Nat} {h : hp} (L : Lay TLx ad h) {N : Nat} {a0 : Nat} {xs0 : Int32}  {δ : dp} : hs (J_X9_isOver_23 N h.1 a0 xs0 δ) (fun r => HG true true ad δ r.2) := by
  unfold J_X9_isOver_23
  refine hs_gp (fun gk1 => ?_)
  exact hs_some HG_r
theorem hj_X9_isOver_22 {ad : List Nat} {h : hp} (L : Lay TLx ad h) {N : Nat} {a0 : Nat}  {δ : dp} : hs (J_X9_isOver_22 N h.1 a0 δ) (fun r => HG true true ad δ r.2) := by
  unfold J_X9_isOver_22
  exact hj_X9_isOver_23 L
theorem hf_X9_isOver {ad : List Nat} {h : hp} (L : Lay TLx ad h) {N : Nat} {a0 : Nat}  {δ : dp} : hs (D_X9_isOver N h.1 a0 δ) (fun r => HG true true ad δ r.2) := by
  unfold D_X9_isOver
  refine hs_ite (fun _ => ?_) (fun _ => ?_)
  · skip
    refine hs_ob (fun b_2 hb_2 => ?_)
    refine hs_gp (fun gk1 => ?_)
    refine hs_bind (hf_X7_ahead L) (fun r_5 u2' => ?_)
    have u2 : HG true true ad δ r_5.2 := u2'
    refine hs_ite (fun _ => ?_) (fun _ => ?_)
    · skip
      exact hs_mono (hj_X9_isOver_23 L) (fun _ hr => u2.t (hr))
    · skip
      exact hs_mono (hj_X9_isOver_22 L) (fun _ hr => u2.t (hr))
  · skip
    exact hj_X9_isOver_22 L
theorem hj_X7_takeSign_28 {ad : List Nat} {h : hp} (L : Lay TLx ad h) {N : Nat} {a0 : Nat} {x1 : Int32} {x2v : Int32}  {δ : dp} : hs (J_X7_takeSign_28 N h.1 a0 x1 x2v δ) (fun r => HG true true ad δ r.2) := by
  unfold J_X7_takeSign_28
  refine hs_gp (fun gk1 => ?_)
  exact hs_some HG_r
theorem hj_X7_takeSign_13 {ad : List Nat} {h : hp} (L : Lay TLx ad h) {N : Nat} {a0 : Nat} {x1 : Int32} {xs0 : Int32}  {δ : dp} : hs (J_X7_takeSign_13 N h.1 a0 x1 xs0 δ) (fun r => HG true true ad δ r.2) := by
  unfold J_X7_takeSign_13
  refine hs_ite (fun _ => ?_) (fun _ => ?_)
  · skip
    exact hj_X7_takeSign_28 L
  · skip
    refine hs_bdv (fun δ_4 e1 => ?_)
    have u1 : HG true true ad δ δ_4 := HG.I HG_r e1 (by decide) (by decide)
    exact hs_mono (hj_X7_takeSign_28 L) (fun _ hr => u1.t (hr))
theorem hf_X7_takeSign {ad : List Nat} {h : hp} (L : Lay TLx ad h) {N : Nat} {a0 : Nat} {x1 : Int32}  {δ : dp} : hs (D_X7_takeSign N h.1 a0 x1 δ) (fun r => HG true true ad δ r.2) := by
  unfold D_X7_takeSign
  refine hs_bind (hf_X7_ahead L) (fun r_1 u1' => ?_)
  have u1 : HG true true ad δ r_1.2 := u1'
  refine hs_ite (fun _ => ?_) (fun _ => ?_)
  · skip
    exact hs_mono (hj_X7_takeSign_13 L) (fun _ hr => u1.t (hr))
  · skip
    exact hs_mono (hj_X7_takeSign_13 L) (fun _ hr => u1.t (hr))
theorem hj_X8_add_58 {ad : List Nat} {h : hp} (L : Lay TLx ad h) {N : Nat} {a0 : Nat} {x1 : Int32} {x2 : Int32} {xs0 : Int32} {as1 : Nat}  {δ : dp} : hs (J_X8_add_58 N h.1 a0 x1 x2 xs0 as1 δ) (fun r => HG true true ad δ r) := by
  unfold J_X8_add_58
  refine hs_gp (fun gk1 => ?_)
  refine hs_bdv (fun δ_3 e2 => ?_)
  have u2 : HG true true ad δ δ_3 := HG.I HG_r e2 (by decide) (by decide)
  exact hs_some u2
theorem hj_X8_add_53 {ad : List Nat} {h : hp} (L : Lay TLx ad h) {N : Nat} {a0 : Nat} {x1 : Int32} {x2 : Int32} {as0 : Nat}  {δ : dp} : hs (J_X8_add_53 N h.1 a0 x1 x2 as0 δ) (fun r => HG true true ad δ r) := by
  unfold J_X8_add_53
  exact hj_X8_add_58 L
theorem hj_X8_add_40 {ad : List Nat} {h : hp} (L : Lay TLx ad h) {N : Nat} {a0 : Nat} {x1 : Int32} {x2 : Int32}  {δ : dp} : hs (J_X8_add_40 N h.1 a0 x1 x2 δ) (fun r => HG true true ad δ r) := by
  unfold J_X8_add_40
  refine hs_ite (fun _ => ?_) (fun _ => ?_)
  · skip
    refine hs_ite (fun _ => ?_) (fun _ => ?_)
    · skip
      exact hj_X8_add_53 L
    · skip
      exact hj_X8_add_58 L
  · skip
    exact hj_X8_add_53 L
theorem hf_X8_add {ad : List Nat} {h : hp} (L : Lay TLx ad h) {N : Nat} {a0 : Nat} {x1 : Int32} {x2 : Int32} (k8_a0 : q_K h.1 a0 = 8) {δ : dp} : hs (D_X8_add N h.1 a0 x1 x2 δ) (fun r => HG true true ad δ r) := by
  unfold D_X8_add
  refine hs_ite (fun _ => ?_) (fun _ => ?_)
  · skip
    exact hj_X8_add_40 L
  · skip
    refine hs_ob (fun b_7 hb_7 => ?_)
    refine hs_gd (fun gz1 => ?_)
    refine hs_bdv (fun δ_9 e2 => ?_)
    have u2 : HG true true ad δ δ_9 := HG.R HG_r e2 (nrO_8_0 L k8_a0 hb_7)
    refine hs_ob (fun b_11 hb_11 => ?_)
    refine hs_gd (fun gz3 => ?_)
    refine hs_bdv (fun δ_13 e4 => ?_)
    have u4 : HG true true ad δ δ_13 := HG.R u2 e4 (nrO_8_1 L k8_a0 hb_11)
    refine hs_bdv (fun δ_15 e5 => ?_)
    have u5 : HG true true ad δ δ_15 := HG.I u4 e5 (by decide) (by decide)
    exact hs_mono (hj_X8_add_40 L) (fun _ hr => u5.t (hr))
theorem hj_X9_closeLoop_63 {ad : List Nat} {h : hp} (L : Lay TLx ad h) {N : Nat} {a0 : Nat}  {δ : dp} : hs (J_X9_closeLoop_63 N h.1 a0 δ) (fun r => HG true true ad δ r) := by
  unfold J_X9_closeLoop_63
  exact hs_some HG_r
theorem hf_X9_closeLoop {ad : List Nat} {h : hp} (L : Lay TLx ad h) {N : Nat} {a0 : Nat}  {δ : dp} : hs (D_X9_closeLoop N h.1 a0 δ) (fun r => HG true true ad δ r) := by
  unfold D_X9_closeLoop
  refine hs_bdv (fun δ_1 e1 => ?_)
  have u1 : HG true true ad δ δ_1 := HG.I HG_r e1 (by decide) (by decide)
  refine hs_ob (fun b_3 hb_3 => ?_)
  refine hs_gd (fun gz2 => ?_)
  refine hs_ite (fun _ => ?_) (fun _ => ?_)
  · skip
    refine hs_ob (fun b_12 hb_12 => ?_)
    refine hs_gp (fun gk3 => ?_)
    refine hs_ob (fun b_15 hb_15 => ?_)
    refine hs_gd (fun gz4 => ?_)
    refine hs_bdv (fun δ_17 e5 => ?_)
    have u5 : HG true true ad δ δ_17 := HG.I u1 e5 (by decide) (by decide)
    exact hs_mono (hj_X9_closeLoop_63 L) (fun _ hr => u5.t (hr))
  · skip
    refine hs_ob (fun b_6 hb_6 => ?_)
    refine hs_gp (fun gk6 => ?_)
    refine hs_ob (fun b_9 hb_9 => ?_)
    refine hs_gd (fun gz7 => ?_)
    refine hs_bind (hf_X8_add L gk6) (fun r_11 u8' => ?_)
    have u8 : HG true true ad δ r_11 := u1.t (u8')
    exact hs_mono (hj_X9_closeLoop_63 L) (fun _ hr => u8.t (hr))
theorem hj_X7_readWord_57 {ad : List Nat} {h : hp} (L : Lay TLx ad h) {N : Nat} {a0 : Nat}  {δ : dp} : hs (J_X7_readWord_57 N h.1 a0 δ) (fun r => HG true true ad δ r) := by
  unfold J_X7_readWord_57
  exact hs_some HG_r
theorem hl_X7_readWord_5 {ad : List Nat} {h : hp} (L : Lay TLx ad h) {N : Nat} {a0 : Nat}  : ∀ (n : Nat) (δ : dp), hs (L_X7_readWord_5 N h.1 a0 n δ) (fun r => HG true true ad δ r) := by
  intro n
  induction n with
  | zero => intro δ; unfold L_X7_readWord_5; exact hs_none
  | succ n ih =>
    intro δ
    unfold L_X7_readWord_5
    refine hs_ite (fun _ => ?_) (fun _ => ?_)
    · skip
      exact hj_X7_readWord_57 L
    · skip
      refine hs_ob (fun b_3 hb_3 => ?_)
      refine hs_gd (fun gz1 => ?_)
      refine hs_ite (fun _ => ?_) (fun _ => ?_)
      · skip
        exact hj_X7_readWord_57 L
      · skip
        refine hs_ob (fun b_6 hb_6 => ?_)
        refine hs_gd (fun gz2 => ?_)
        refine hs_ite (fun _ => ?_) (fun _ => ?_)
        · skip
          exact hj_X7_readWord_57 L
        · skip
          refine hs_bdv (fun δ_9 e3 => ?_)
          have u3 : HG true true ad δ δ_9 := HG.I HG_r e3 (by decide) (by decide)
          exact hs_mono (ih δ_9) (fun _ hr => u3.t (hr))
theorem hf_X7_readWord {ad : List Nat} {h : hp} (L : Lay TLx ad h) {N : Nat} {a0 : Nat}  {δ : dp} : hs (D_X7_readWord N h.1 a0 δ) (fun r => HG true true ad δ r) := by
  unfold D_X7_readWord
  refine hs_bind (hf_X7_ahead L) (fun r_1 u1' => ?_)
  have u1 : HG true true ad δ r_1.2 := u1'
  exact hs_mono (hl_X7_readWord_5 L N r_1.2) (fun _ hr => u1.t (hr))
theorem hj_X7_refuse_20 {ad : List Nat} {h : hp} (L : Lay TLx ad h) {N : Nat} {a0 : Nat} {x1 : Int32}  {δ : dp} : hs (J_X7_refuse_20 N h.1 a0 x1 δ) (fun r => HG true true ad δ r) := by
  unfold J_X7_refuse_20
  exact hs_some HG_r
theorem hf_X7_refuse {ad : List Nat} {h : hp} (L : Lay TLx ad h) {N : Nat} {a0 : Nat} {x1 : Int32}  {δ : dp} : hs (D_X7_refuse N h.1 a0 x1 δ) (fun r => HG true true ad δ r) := by
  unfold D_X7_refuse
  refine hs_ite (fun _ => ?_) (fun _ => ?_)
  · skip
    refine hs_bdv (fun δ_2 e1 => ?_)
    have u1 : HG true true ad δ δ_2 := HG.I HG_r e1 (by decide) (by decide)
    refine hs_bdv (fun δ_4 e2 => ?_)
    have u2 : HG true true ad δ δ_4 := HG.I u1 e2 (by decide) (by decide)
    exact hs_mono (hj_X7_refuse_20 L) (fun _ hr => u2.t (hr))
  · skip
    exact hj_X7_refuse_20 L
theorem hj_J0_coder_7d493_14 {ad : List Nat} {h : hp} (L : Lay TLx ad h) {N : Nat} {a0 : Nat} {xs0 : Int32}  {δ : dp} : hs (J_J0_coder_7d493_14 N h.1 a0 xs0 δ) (fun r => HG true true ad δ r.2) := by
  unfold J_J0_coder_7d493_14
  refine hs_gp (fun gk1 => ?_)
  exact hs_some HG_r
theorem hf_J0_coder_7d493 {ad : List Nat} {h : hp} (L : Lay TLx ad h) {N : Nat} {a0 : Nat}  {δ : dp} : hs (D_J0_coder_7d493 N h.1 a0 δ) (fun r => HG true true ad δ r.2) := by
  unfold D_J0_coder_7d493
  refine hs_ite (fun _ => ?_) (fun _ => ?_)
  · skip
    exact hj_J0_coder_7d493_14 L
  · skip
    exact hj_J0_coder_7d493_14 L
theorem hf_J0_length_8abf5 {ad : List Nat} {h : hp} (L : Lay TLx ad h) {N : Nat} {a0 : Nat}  {δ : dp} : hs (D_J0_length_8abf5 N h.1 a0 δ) (fun r => HG true true ad δ r.2) := by
  unfold D_J0_length_8abf5
  refine hs_bind (hf_J0_coder_7d493 L) (fun r_1 u1' => ?_)
  have u1 : HG true true ad δ r_1.2 := u1'
  exact hs_some u1
theorem hj_J0_isLatin1_aae02_18 {ad : List Nat} {h : hp} (L : Lay TLx ad h) {N : Nat} {a0 : Nat} {xs0 : Int32}  {δ : dp} : hs (J_J0_isLatin1_aae02_18 N h.1 a0 xs0 δ) (fun r => HG true true ad δ r.2) := by
  unfold J_J0_isLatin1_aae02_18
  refine hs_gp (fun gk1 => ?_)
  exact hs_some HG_r
theorem hj_J0_isLatin1_aae02_17 {ad : List Nat} {h : hp} (L : Lay TLx ad h) {N : Nat} {a0 : Nat}  {δ : dp} : hs (J_J0_isLatin1_aae02_17 N h.1 a0 δ) (fun r => HG true true ad δ r.2) := by
  unfold J_J0_isLatin1_aae02_17
  exact hj_J0_isLatin1_aae02_18 L
theorem hf_J0_isLatin1_aae02 {ad : List Nat} {h : hp} (L : Lay TLx ad h) {N : Nat} {a0 : Nat}  {δ : dp} : hs (D_J0_isLatin1_aae02 N h.1 a0 δ) (fun r => HG true true ad δ r.2) := by
  unfold D_J0_isLatin1_aae02
  refine hs_ite (fun _ => ?_) (fun _ => ?_)
  · skip
    exact hj_J0_isLatin1_aae02_17 L
  · skip
    refine hs_ite (fun _ => ?_) (fun _ => ?_)
    · skip
      exact hj_J0_isLatin1_aae02_18 L
    · skip
      exact hj_J0_isLatin1_aae02_17 L
theorem hf_J3_checkIndex_8e157 {ad : List Nat} {h : hp} (L : Lay TLx ad h) {N : Nat} {x0 : Int32} {x1 : Int32}  {δ : dp} : hs (D_J3_checkIndex_8e157 N h.1 x0 x1 δ) (fun r => HG true true ad δ r.2) := by
  unfold D_J3_checkIndex_8e157
  refine hs_gd (fun gz1 => ?_)
  refine hs_gp (fun gk2 => ?_)
  exact hs_some HG_r
theorem hf_J0_checkIndex_df160 {ad : List Nat} {h : hp} (L : Lay TLx ad h) {N : Nat} {x0 : Int32} {x1 : Int32}  {δ : dp} : hs (D_J0_checkIndex_df160 N h.1 x0 x1 δ) (fun r => HG true true ad δ r) := by
  unfold D_J0_checkIndex_df160
  refine hs_bind (hf_J3_checkIndex_8e157 L) (fun r_2 u1' => ?_)
  have u1 : HG true true ad δ r_2.2 := u1'
  exact hs_some u1
theorem hf_J1_charAt_3b067 {ad : List Nat} {h : hp} (L : Lay TLx ad h) {N : Nat} {a0 : Nat} {x1 : Int32}  {δ : dp} : hs (D_J1_charAt_3b067 N h.1 a0 x1 δ) (fun r => HG true true ad δ r.2) := by
  unfold D_J1_charAt_3b067
  refine hs_bind (hf_J0_checkIndex_df160 L) (fun r_1 u1' => ?_)
  have u1 : HG true true ad δ r_1 := u1'
  refine hs_gd (fun gz2 => ?_)
  refine hs_gp (fun gk3 => ?_)
  exact hs_some u1
theorem hf_J0_charAt_5068e {ad : List Nat} {h : hp} (L : Lay TLx ad h) {N : Nat} {a0 : Nat} {x1 : Int32}  {δ : dp} : hs (D_J0_charAt_5068e N h.1 a0 x1 δ) (fun r => HG true true ad δ r.2) := by
  unfold D_J0_charAt_5068e
  refine hs_bind (hf_J0_isLatin1_aae02 L) (fun r_1 u1' => ?_)
  have u1 : HG true true ad δ r_1.2 := u1'
  refine hs_gd (fun gz2 => ?_)
  refine hs_bind (hf_J1_charAt_3b067 L) (fun r_3 u3' => ?_)
  have u3 : HG true true ad δ r_3.2 := u1.t (u3')
  refine hs_gp (fun gk4 => ?_)
  exact hs_some u3
theorem hl_X7_wordIs_20 {ad : List Nat} {h : hp} (L : Lay TLx ad h) {N : Nat} {a0 : Nat} {a1 : Nat}  : ∀ (n : Nat) (x2v : Int32) (δ : dp), hs (L_X7_wordIs_20 N h.1 a0 a1 n x2v δ) (fun r => HG true true ad δ r.2) := by
  intro n
  induction n with
  | zero => intro x2v δ; unfold L_X7_wordIs_20; exact hs_none
  | succ n ih =>
    intro x2v δ
    unfold L_X7_wordIs_20
    refine hs_bind (hf_J0_length_8abf5 L) (fun r_3 u1' => ?_)
    have u1 : HG true true ad δ r_3.2 := u1'
    refine hs_ite (fun _ => ?_) (fun _ => ?_)
    · skip
      refine hs_gp (fun gk2 => ?_)
      exact hs_some u1
    · skip
      refine hs_ob (fun b_5 hb_5 => ?_)
      refine hs_gd (fun gz3 => ?_)
      refine hs_bind (hf_J0_charAt_5068e L) (fun r_7 u4' => ?_)
      have u4 : HG true true ad δ r_7.2 := u1.t (u4')
      refine hs_ite (fun _ => ?_) (fun _ => ?_)
      · skip
        refine hs_biv (fun x_9 _ => ?_)
        exact hs_mono (ih x_9 r_7.2) (fun _ hr => u4.t (hr))
      · skip
        refine hs_gp (fun gk5 => ?_)
        exact hs_some u4
theorem hf_X7_wordIs {ad : List Nat} {h : hp} (L : Lay TLx ad h) {N : Nat} {a0 : Nat} {a1 : Nat}  {δ : dp} : hs (D_X7_wordIs N h.1 a0 a1 δ) (fun r => HG true true ad δ r.2) := by
  unfold D_X7_wordIs
  refine hs_bind (hf_J0_length_8abf5 L) (fun r_1 u1' => ?_)
  have u1 : HG true true ad δ r_1.2 := u1'
  refine hs_ite (fun _ => ?_) (fun _ => ?_)
  · skip
    exact hs_mono (hl_X7_wordIs_20 L N 0 r_1.2) (fun _ hr => u1.t (hr))
  · skip
    refine hs_gp (fun gk2 => ?_)
    exact hs_some u1
theorem hj_X9_callOfWord_73 {ad : List Nat} {h : hp} (L : Lay TLx ad h) {N : Nat} {a0 : Nat} {xs0 : Int32}  {δ : dp} : hs (J_X9_callOfWord_73 N h.1 a0 xs0 δ) (fun r => HG true true ad δ r.2) := by
  unfold J_X9_callOfWord_73
  exact hs_some HG_r
theorem hf_X9_callOfWord {ad : List Nat} {h : hp} (L : Lay TLx ad h) {N : Nat} {a0 : Nat}  {δ : dp} : hs (D_X9_callOfWord N h.1 a0 δ) (fun r => HG true true ad δ r.2) := by
  unfold D_X9_callOfWord
  refine hs_ob (fun b_1 hb_1 => ?_)
  refine hs_gp (fun gk1 => ?_)
  refine hs_bind (hf_X7_wordIs L) (fun r_4 u2' => ?_)
  have u2 : HG true true ad δ r_4.2 := u2'
  refine hs_ite (fun _ => ?_) (fun _ => ?_)
  · skip
    refine hs_ob (fun b_6 hb_6 => ?_)
    refine hs_gp (fun gk3 => ?_)
    refine hs_bind (hf_X7_wordIs L) (fun r_9 u4' => ?_)
    have u4 : HG true true ad δ r_9.2 := u2.t (u4')
    refine hs_ite (fun _ => ?_) (fun _ => ?_)
    · skip
      refine hs_ob (fun b_11 hb_11 => ?_)
      refine hs_gp (fun gk5 => ?_)
      refine hs_bind (hf_X7_wordIs L) (fun r_14 u6' => ?_)
      have u6 : HG true true ad δ r_14.2 := u4.t (u6')
      refine hs_ite (fun _ => ?_) (fun _ => ?_)
      · skip
        refine hs_ob (fun b_16 hb_16 => ?_)
        refine hs_gp (fun gk7 => ?_)
        refine hs_bind (hf_X7_wordIs L) (fun r_19 u8' => ?_)
        have u8 : HG true true ad δ r_19.2 := u6.t (u8')
        refine hs_ite (fun _ => ?_) (fun _ => ?_)
        · skip
          refine hs_ob (fun b_21 hb_21 => ?_)
          refine hs_gp (fun gk9 => ?_)
          refine hs_bind (hf_X7_wordIs L) (fun r_24 u10' => ?_)
          have u10 : HG true true ad δ r_24.2 := u8.t (u10')
          refine hs_ite (fun _ => ?_) (fun _ => ?_)
          · skip
            exact hs_mono (hj_X9_callOfWord_73 L) (fun _ hr => u10.t (hr))
          · skip
            exact hs_mono (hj_X9_callOfWord_73 L) (fun _ hr => u10.t (hr))
        · skip
          exact hs_some u8
      · skip
        exact hs_some u6
    · skip
      exact hs_some u4
  · skip
    exact hs_some u2
theorem hj_X9_readStep_163 {ad : List Nat} {h : hp} (L : Lay TLx ad h) {N : Nat} {a0 : Nat}  {δ : dp} : hs (J_X9_readStep_163 N h.1 a0 δ) (fun r => HG true true ad δ r) := by
  unfold J_X9_readStep_163
  exact hs_some HG_r
theorem hj_X9_readStep_87 {ad : List Nat} {h : hp} (L : Lay TLx ad h) {N : Nat} {a0 : Nat}  {δ : dp} : hs (J_X9_readStep_87 N h.1 a0 δ) (fun r => HG true true ad δ r) := by
  unfold J_X9_readStep_87
  refine hs_ob (fun b_13 hb_13 => ?_)
  refine hs_gp (fun gk1 => ?_)
  refine hs_bind (hf_X7_refuse L) (fun r_16 u2' => ?_)
  have u2 : HG true true ad δ r_16 := u2'
  exact hs_mono (hj_X9_readStep_163 L) (fun _ hr => u2.t (hr))
theorem hj_X7_needSign_26 {ad : List Nat} {h : hp} (L : Lay TLx ad h) {N : Nat} {a0 : Nat} {x1 : Int32}  {δ : dp} : hs (J_X7_needSign_26 N h.1 a0 x1 δ) (fun r => HG true true ad δ r) := by
  unfold J_X7_needSign_26
  exact hs_some HG_r
theorem hf_X7_needSign {ad : List Nat} {h : hp} (L : Lay TLx ad h) {N : Nat} {a0 : Nat} {x1 : Int32}  {δ : dp} : hs (D_X7_needSign N h.1 a0 x1 δ) (fun r => HG true true ad δ r) := by
  unfold D_X7_needSign
  refine hs_bind (hf_X7_ahead L) (fun r_1 u1' => ?_)
  have u1 : HG true true ad δ r_1.2 := u1'
  refine hs_ite (fun _ => ?_) (fun _ => ?_)
  · skip
    refine hs_bdv (fun δ_4 e2 => ?_)
    have u2 : HG true true ad δ δ_4 := HG.I u1 e2 (by decide) (by decide)
    exact hs_mono (hj_X7_needSign_26 L) (fun _ hr => u2.t (hr))
  · skip
    refine hs_bind (hf_X7_refuse L) (fun r_3 u3' => ?_)
    have u3 : HG true true ad δ r_3 := u1.t (u3')
    exact hs_mono (hj_X7_needSign_26 L) (fun _ hr => u3.t (hr))
theorem hj_X7_readNumber_116 {ad : List Nat} {h : hp} (L : Lay TLx ad h) {N : Nat} {a0 : Nat} {x1 : Int32} {x2 : Int32} {x3v : Int32}  {δ : dp} : hs (J_X7_readNumber_116 N h.1 a0 x1 x2 x3v δ) (fun r => HG true true ad δ r.2) := by
  unfold J_X7_readNumber_116
  exact hs_some HG_r
theorem hj_X7_readNumber_111 {ad : List Nat} {h : hp} (L : Lay TLx ad h) {N : Nat} {a0 : Nat} {x1 : Int32} {x2 : Int32} {x3v : Int32}  {δ : dp} : hs (J_X7_readNumber_111 N h.1 a0 x1 x2 x3v δ) (fun r => HG true true ad δ r.2) := by
  unfold J_X7_readNumber_111
  refine hs_bind (hf_X7_refuse L) (fun r_5 u1' => ?_)
  have u1 : HG true true ad δ r_5 := u1'
  exact hs_mono (hj_X7_readNumber_116 L) (fun _ hr => u1.t (hr))
theorem hj_X7_readNumber_82 {ad : List Nat} {h : hp} (L : Lay TLx ad h) {N : Nat} {a0 : Nat} {x1 : Int32} {x2 : Int32} {x3v : Int32}  {δ : dp} : hs (J_X7_readNumber_82 N h.1 a0 x1 x2 x3v δ) (fun r => HG true true ad δ r.2) := by
  unfold J_X7_readNumber_82
  refine hs_ite (fun _ => ?_) (fun _ => ?_)
  · skip
    refine hs_bind (hf_X7_refuse L) (fun r_7 u1' => ?_)
    have u1 : HG true true ad δ r_7 := u1'
    exact hs_mono (hj_X7_readNumber_116 L) (fun _ hr => u1.t (hr))
  · skip
    refine hs_ite (fun _ => ?_) (fun _ => ?_)
    · skip
      exact hj_X7_readNumber_111 L
    · skip
      refine hs_ite (fun _ => ?_) (fun _ => ?_)
      · skip
        exact hj_X7_readNumber_116 L
      · skip
        exact hj_X7_readNumber_111 L
theorem hl_X7_readNumber_7 {ad : List Nat} {h : hp} (L : Lay TLx ad h) {N : Nat} {a0 : Nat} {x1 : Int32} {x2 : Int32}  : ∀ (n : Nat) (x3v : Int32) (δ : dp), hs (L_X7_readNumber_7 N h.1 a0 x1 x2 n x3v δ) (fun r => HG true true ad δ r.2) := by
  intro n
  induction n with
  | zero => intro x3v δ; unfold L_X7_readNumber_7; exact hs_none
  | succ n ih =>
    intro x3v δ
    unfold L_X7_readNumber_7
    refine hs_ite (fun _ => ?_) (fun _ => ?_)
    · skip
      exact hj_X7_readNumber_82 L
    · skip
      refine hs_ob (fun b_8 hb_8 => ?_)
      refine hs_gd (fun gz1 => ?_)
      refine hs_ite (fun _ => ?_) (fun _ => ?_)
      · skip
        exact hj_X7_readNumber_82 L
      · skip
        refine hs_ob (fun b_11 hb_11 => ?_)
        refine hs_gd (fun gz2 => ?_)
        refine hs_ite (fun _ => ?_) (fun _ => ?_)
        · skip
          exact hj_X7_readNumber_82 L
        · skip
          refine hs_ob (fun b_14 hb_14 => ?_)
          refine hs_gd (fun gz3 => ?_)
          refine hs_bind (hf_J9_min_7cf53 L) (fun r_16 u4' => ?_)
          have u4 : HG true true ad δ r_16.2 := u4'
          refine hs_bdv (fun δ_17 e5 => ?_)
          have u5 : HG true true ad δ δ_17 := HG.I u4 e5 (by decide) (by decide)
          exact hs_mono (ih r_16.1 δ_17) (fun _ hr => u5.t (hr))
theorem hf_X7_readNumber {ad : List Nat} {h : hp} (L : Lay TLx ad h) {N : Nat} {a0 : Nat} {x1 : Int32} {x2 : Int32}  {δ : dp} : hs (D_X7_readNumber N h.1 a0 x1 x2 δ) (fun r => HG true true ad δ r.2) := by
  unfold D_X7_readNumber
  refine hs_bind (hf_X7_ahead L) (fun r_1 u1' => ?_)
  have u1 : HG true true ad δ r_1.2 := u1'
  exact hs_mono (hl_X7_readNumber_7 L N 0 r_1.2) (fun _ hr => u1.t (hr))
theorem hf_X9_openLoop {ad : List Nat} {h : hp} (L : Lay TLx ad h) {N : Nat} {a0 : Nat} (k9_a0 : q_K h.1 a0 = 9) {δ : dp} : hs (D_X9_openLoop N h.1 a0 δ) (fun r => HG true true ad δ r) := by
  unfold D_X9_openLoop
  refine hs_ob (fun b_1 hb_1 => ?_)
  refine hs_gp (fun gk1 => ?_)
  refine hs_bind (hf_X7_readNumber L) (fun r_4 u2' => ?_)
  have u2 : HG true true ad δ r_4.2 := u2'
  refine hs_ob (fun b_5 hb_5 => ?_)
  refine hs_gp (fun gk3 => ?_)
  refine hs_bind (hf_X7_needSign L) (fun r_8 u4' => ?_)
  have u4 : HG true true ad δ r_8 := u2.t (u4')
  refine hs_ob (fun b_9 hb_9 => ?_)
  refine hs_ob (fun b_11 hb_11 => ?_)
  refine hs_gp (fun gk5 => ?_)
  refine hs_gd (fun gz6 => ?_)
  refine hs_bdv (fun δ_14 e7 => ?_)
  have u7 : HG true true ad δ δ_14 := HG.R u4 e7 (nrO_9_5 L k9_a0 hb_9)
  refine hs_ob (fun b_16 hb_16 => ?_)
  refine hs_gd (fun gz8 => ?_)
  refine hs_bdv (fun δ_18 e9 => ?_)
  have u9 : HG true true ad δ δ_18 := HG.R u7 e9 (nrO_9_6 L k9_a0 hb_16)
  refine hs_ob (fun b_20 hb_20 => ?_)
  refine hs_gp (fun gk10 => ?_)
  refine hs_bind (hf_X8_add L gk10) (fun r_23 u11' => ?_)
  have u11 : HG true true ad δ r_23 := u9.t (u11')
  refine hs_bdv (fun δ_24 e12 => ?_)
  have u12 : HG true true ad δ δ_24 := HG.I u11 e12 (by decide) (by decide)
  exact hs_some u12
theorem hj_X9_readUnit_101 {ad : List Nat} {h : hp} (L : Lay TLx ad h) {N : Nat} {T : Nat → Int32 → dp → Option (dp)} {a0 : Nat} {x1 : Int32} (h_T : ∀ (y0 : Nat) (y1 : Int32) (δ1 : dp), hs (T y0 y1 δ1) (fun r => HG true true ad δ1 r)) {δ : dp} : hs (J_X9_readUnit_101 N h.1 T a0 x1 δ) (fun r => HG true true ad δ r) := by
  unfold J_X9_readUnit_101
  exact hs_some HG_r
theorem hj_X9_addName_151 {ad : List Nat} {h : hp} (L : Lay TLx ad h) {N : Nat} {a0 : Nat}  {δ : dp} : hs (J_X9_addName_151 N h.1 a0 δ) (fun r => HG true true ad δ r) := by
  unfold J_X9_addName_151
  exact hs_some HG_r
theorem hj_X9_addName_60 {ad : List Nat} {h : hp} (L : Lay TLx ad h) {N : Nat} {a0 : Nat} {xs0 : Int32} {as1 : Nat} {x1v : Int32} (k8_as1 : q_K h.1 as1 = 8) {δ : dp} : hs (J_X9_addName_60 N h.1 a0 xs0 as1 x1v δ) (fun r => HG true true ad δ r) := by
  unfold J_X9_addName_60
  refine hs_bind (hf_J9_max_7cf53 L) (fun r_17 u1' => ?_)
  have u1 : HG true true ad δ r_17.2 := u1'
  refine hs_bind (hf_X8_add L k8_as1) (fun r_18 u2' => ?_)
  have u2 : HG true true ad δ r_18 := u1.t (u2')
  exact hs_mono (hj_X9_addName_151 L) (fun _ hr => u2.t (hr))
theorem hj_X9_addName_45 {ad : List Nat} {h : hp} (L : Lay TLx ad h) {N : Nat} {a0 : Nat} {xs0 : Int32} {xs1 : Int32}  {δ : dp} : hs (J_X9_addName_45 N h.1 a0 xs0 xs1 δ) (fun r => HG true true ad δ r) := by
  unfold J_X9_addName_45
  refine hs_biv (fun x_11 _ => ?_)
  refine hs_ob (fun b_13 hb_13 => ?_)
  refine hs_gp (fun gk1 => ?_)
  refine hs_ite (fun _ => ?_) (fun _ => ?_)
  · skip
    exact hj_X9_addName_60 L gk1
  · skip
    exact hj_X9_addName_60 L gk1
theorem hj_X9_addName_24 {ad : List Nat} {h : hp} (L : Lay TLx ad h) {N : Nat} {a0 : Nat}  {δ : dp} : hs (J_X9_addName_24 N h.1 a0 δ) (fun r => HG true true ad δ r) := by
  unfold J_X9_addName_24
  refine hs_ob (fun b_6 hb_6 => ?_)
  refine hs_gp (fun gk1 => ?_)
  refine hs_bind (hf_X7_wordIs L) (fun r_9 u2' => ?_)
  have u2 : HG true true ad δ r_9.2 := u2'
  refine hs_ite (fun _ => ?_) (fun _ => ?_)
  · skip
    exact hs_mono (hj_X9_addName_45 L) (fun _ hr => u2.t (hr))
  · skip
    exact hs_mono (hj_X9_addName_45 L) (fun _ hr => u2.t (hr))
theorem hf_X9_addName {ad : List Nat} {h : hp} (L : Lay TLx ad h) {N : Nat} {a0 : Nat}  {δ : dp} : hs (D_X9_addName N h.1 a0 δ) (fun r => HG true true ad δ r) := by
  unfold D_X9_addName
  refine hs_ob (fun b_1 hb_1 => ?_)
  refine hs_gp (fun gk1 => ?_)
  refine hs_bind (hf_X7_wordIs L) (fun r_4 u2' => ?_)
  have u2 : HG true true ad δ r_4.2 := u2'
  refine hs_ite (fun _ => ?_) (fun _ => ?_)
  · skip
    refine hs_ob (fun b_19 hb_19 => ?_)
    refine hs_gp (fun gk3 => ?_)
    refine hs_bind (hf_X7_wordIs L) (fun r_22 u4' => ?_)
    have u4 : HG true true ad δ r_22.2 := u2.t (u4')
    refine hs_ite (fun _ => ?_) (fun _ => ?_)
    · skip
      refine hs_ob (fun b_24 hb_24 => ?_)
      refine hs_gp (fun gk5 => ?_)
      refine hs_bind (hf_X7_wordIs L) (fun r_27 u6' => ?_)
      have u6 : HG true true ad δ r_27.2 := u4.t (u6')
      refine hs_ite (fun _ => ?_) (fun _ => ?_)
      · skip
        refine hs_ob (fun b_29 hb_29 => ?_)
        refine hs_gp (fun gk7 => ?_)
        refine hs_bind (hf_X7_wordIs L) (fun r_32 u8' => ?_)
        have u8 : HG true true ad δ r_32.2 := u6.t (u8')
        refine hs_ite (fun _ => ?_) (fun _ => ?_)
        · skip
          refine hs_ob (fun b_34 hb_34 => ?_)
          refine hs_gp (fun gk9 => ?_)
          refine hs_bind (hf_X7_wordIs L) (fun r_37 u10' => ?_)
          have u10 : HG true true ad δ r_37.2 := u8.t (u10')
          refine hs_ite (fun _ => ?_) (fun _ => ?_)
          · skip
            refine hs_ob (fun b_39 hb_39 => ?_)
            refine hs_gp (fun gk11 => ?_)
            refine hs_bind (hf_X7_refuse L) (fun r_42 u12' => ?_)
            have u12 : HG true true ad δ r_42 := u10.t (u12')
            exact hs_mono (hj_X9_addName_151 L) (fun _ hr => u12.t (hr))
          · skip
            refine hs_ob (fun b_43 hb_43 => ?_)
            refine hs_gp (fun gk13 => ?_)
            refine hs_bind (hf_X8_add L gk13) (fun r_46 u14' => ?_)
            have u14 : HG true true ad δ r_46 := u10.t (u14')
            exact hs_mono (hj_X9_addName_151 L) (fun _ hr => u14.t (hr))
        · skip
          refine hs_ob (fun b_47 hb_47 => ?_)
          refine hs_gp (fun gk15 => ?_)
          refine hs_bind (hf_X8_add L gk15) (fun r_50 u16' => ?_)
          have u16 : HG true true ad δ r_50 := u8.t (u16')
          exact hs_mono (hj_X9_addName_151 L) (fun _ hr => u16.t (hr))
      · skip
        refine hs_ob (fun b_51 hb_51 => ?_)
        refine hs_gp (fun gk17 => ?_)
        refine hs_bind (hf_X8_add L gk17) (fun r_54 u18' => ?_)
        have u18 : HG true true ad δ r_54 := u6.t (u18')
        exact hs_mono (hj_X9_addName_151 L) (fun _ hr => u18.t (hr))
    · skip
      exact hs_mono (hj_X9_addName_24 L) (fun _ hr => u4.t (hr))
  · skip
    exact hs_mono (hj_X9_addName_24 L) (fun _ hr => u2.t (hr))
theorem hj_X9_readUnit_90 {ad : List Nat} {h : hp} (L : Lay TLx ad h) {N : Nat} {T : Nat → Int32 → dp → Option (dp)} {a0 : Nat} {x1 : Int32} (h_T : ∀ (y0 : Nat) (y1 : Int32) (δ1 : dp), hs (T y0 y1 δ1) (fun r => HG true true ad δ1 r)) {δ : dp} : hs (J_X9_readUnit_90 N h.1 T a0 x1 δ) (fun r => HG true true ad δ r) := by
  unfold J_X9_readUnit_90
  refine hs_ob (fun b_7 hb_7 => ?_)
  refine hs_gp (fun gk1 => ?_)
  refine hs_bind (hf_X7_readWord L) (fun r_10 u2' => ?_)
  have u2 : HG true true ad δ r_10 := u2'
  refine hs_bind (hf_X9_addName L) (fun r_11 u3' => ?_)
  have u3 : HG true true ad δ r_11 := u2.t (u3')
  exact hs_mono (hj_X9_readUnit_101 L h_T) (fun _ hr => u3.t (hr))
theorem hb_X9_readUnit {ad : List Nat} {h : hp} (L : Lay TLx ad h) {N : Nat} {T : Nat → Int32 → dp → Option (dp)} {a0 : Nat} {x1 : Int32} (h_T : ∀ (y0 : Nat) (y1 : Int32) (δ1 : dp), hs (T y0 y1 δ1) (fun r => HG true true ad δ1 r)) {δ : dp} : hs (B_X9_readUnit N h.1 T a0 x1 δ) (fun r => HG true true ad δ r) := by
  unfold B_X9_readUnit
  refine hs_ob (fun b_1 hb_1 => ?_)
  refine hs_gp (fun gk1 => ?_)
  refine hs_bind (hf_X7_ahead L) (fun r_4 u2' => ?_)
  have u2 : HG true true ad δ r_4.2 := u2'
  refine hs_ite (fun _ => ?_) (fun _ => ?_)
  · skip
    refine hs_ite (fun _ => ?_) (fun _ => ?_)
    · skip
      refine hs_ob (fun b_22 hb_22 => ?_)
      refine hs_gp (fun gk3 => ?_)
      refine hs_bind (hf_X7_needSign L) (fun r_25 u4' => ?_)
      have u4 : HG true true ad δ r_25 := u2.t (u4')
      refine hs_bind (h_T a0 (x1 + (1 : Int32)) r_25) (fun r_26 u5' => ?_)
      have u5 : HG true true ad δ r_26 := u4.t (u5')
      refine hs_ob (fun b_27 hb_27 => ?_)
      refine hs_gp (fun gk6 => ?_)
      refine hs_bind (hf_X7_needSign L) (fun r_30 u7' => ?_)
      have u7 : HG true true ad δ r_30 := u5.t (u7')
      exact hs_mono (hj_X9_readUnit_101 L h_T) (fun _ hr => u7.t (hr))
    · skip
      refine hs_ob (fun b_31 hb_31 => ?_)
      refine hs_gp (fun gk8 => ?_)
      refine hs_bind (hf_X7_refuse L) (fun r_34 u9' => ?_)
      have u9 : HG true true ad δ r_34 := u2.t (u9')
      exact hs_some u9
  · skip
    refine hs_ite (fun _ => ?_) (fun _ => ?_)
    · skip
      exact hs_mono (hj_X9_readUnit_90 L h_T) (fun _ hr => u2.t (hr))
    · skip
      refine hs_ite (fun _ => ?_) (fun _ => ?_)
      · skip
        exact hs_mono (hj_X9_readUnit_90 L h_T) (fun _ hr => u2.t (hr))
      · skip
        refine hs_ob (fun b_13 hb_13 => ?_)
        refine hs_gp (fun gk10 => ?_)
        refine hs_ob (fun b_16 hb_16 => ?_)
        refine hs_gp (fun gk11 => ?_)
        refine hs_bind (hf_X7_readNumber L) (fun r_19 u12' => ?_)
        have u12 : HG true true ad δ r_19.2 := u2.t (u12')
        refine hs_bind (hf_X8_add L gk10) (fun r_20 u13' => ?_)
        have u13 : HG true true ad δ r_20 := u12.t (u13')
        exact hs_mono (hj_X9_readUnit_101 L h_T) (fun _ hr => u13.t (hr))
theorem hj_X9_readProduct_75 {ad : List Nat} {h : hp} (L : Lay TLx ad h) {N : Nat} {T : Nat → Int32 → dp → Option (dp)} {a0 : Nat} {x1 : Int32} {kt7 : Int32 → dp → Option (dp)} {xs0 : Int32} {as1 : Nat} {x2v : Int32} (k8_as1 : q_K h.1 as1 = 8) (h_T : ∀ (y0 : Nat) (y1 : Int32) (δ1 : dp), hs (T y0 y1 δ1) (fun r => HG true true ad δ1 r)) (h_kt7 : ∀ (y0 : Int32) (δ1 : dp), hs (kt7 y0 δ1) (fun r => HG true true ad δ1 r)) {δ : dp} : hs (J_X9_readProduct_75 N h.1 T a0 x1 kt7 xs0 as1 x2v δ) (fun r => HG true true ad δ r) := by
  unfold J_X9_readProduct_75
  refine hs_bind (hf_X8_add L k8_as1) (fun r_22 u1' => ?_)
  have u1 : HG true true ad δ r_22 := u1'
  refine hs_biv (fun x_23 _ => ?_)
  exact hs_mono (h_kt7 x_23 r_22) (fun _ hr => u1.t (hr))
theorem hj_X9_readProduct_45 {ad : List Nat} {h : hp} (L : Lay TLx ad h) {N : Nat} {T : Nat → Int32 → dp → Option (dp)} {a0 : Nat} {x1 : Int32} {kt7 : Int32 → dp → Option (dp)} {x2v : Int32} {x3v : Int32} (h_T : ∀ (y0 : Nat) (y1 : Int32) (δ1 : dp), hs (T y0 y1 δ1) (fun r => HG true true ad δ1 r)) (h_kt7 : ∀ (y0 : Int32) (δ1 : dp), hs (kt7 y0 δ1) (fun r => HG true true ad δ1 r)) {δ : dp} : hs (J_X9_readProduct_45 N h.1 T a0 x1 kt7 x2v x3v δ) (fun r => HG true true ad δ r) := by
  unfold J_X9_readProduct_45
  refine hs_ob (fun b_13 hb_13 => ?_)
  refine hs_gp (fun gk1 => ?_)
  refine hs_bind (hf_X7_needSign L) (fun r_16 u2' => ?_)
  have u2 : HG true true ad δ r_16 := u2'
  refine hs_bind (hb_X9_readUnit L h_T) (fun r_17 u3' => ?_)
  have u3 : HG true true ad δ r_17 := u2.t (u3')
  refine hs_ob (fun b_18 hb_18 => ?_)
  refine hs_gp (fun gk4 => ?_)
  refine hs_ite (fun _ => ?_) (fun _ => ?_)
  · skip
    exact hs_mono (hj_X9_readProduct_75 L gk4 h_T h_kt7) (fun _ hr => u3.t (hr))
  · skip
    exact hs_mono (hj_X9_readProduct_75 L gk4 h_T h_kt7) (fun _ hr => u3.t (hr))
theorem hj_X9_readProduct_85 {ad : List Nat} {h : hp} (L : Lay TLx ad h) {N : Nat} {T : Nat → Int32 → dp → Option (dp)} {a0 : Nat} {x1 : Int32} (h_T : ∀ (y0 : Nat) (y1 : Int32) (δ1 : dp), hs (T y0 y1 δ1) (fun r => HG true true ad δ1 r)) {δ : dp} : hs (J_X9_readProduct_85 N h.1 T a0 x1 δ) (fun r => HG true true ad δ r) := by
  unfold J_X9_readProduct_85
  exact hs_some HG_r
theorem hl_X9_readProduct_7 {ad : List Nat} {h : hp} (L : Lay TLx ad h) {N : Nat} {T : Nat → Int32 → dp → Option (dp)} {a0 : Nat} {x1 : Int32} (h_T : ∀ (y0 : Nat) (y1 : Int32) (δ1 : dp), hs (T y0 y1 δ1) (fun r => HG true true ad δ1 r)) : ∀ (n : Nat) (x2v : Int32) (δ : dp), hs (L_X9_readProduct_7 N h.1 T a0 x1 n x2v δ) (fun r => HG true true ad δ r) := by
  intro n
  induction n with
  | zero => intro x2v δ; unfold L_X9_readProduct_7; exact hs_none
  | succ n ih =>
    intro x2v δ
    unfold L_X9_readProduct_7
    refine hs_ite (fun _ => ?_) (fun _ => ?_)
    · skip
      exact hj_X9_readProduct_85 L h_T
    · skip
      refine hs_ob (fun b_3 hb_3 => ?_)
      refine hs_gp (fun gk1 => ?_)
      refine hs_bind (hf_X7_isSound L) (fun r_6 u2' => ?_)
      have u2 : HG true true ad δ r_6.2 := u2'
      refine hs_ite (fun _ => ?_) (fun _ => ?_)
      · skip
        exact hs_mono (hj_X9_readProduct_85 L h_T) (fun _ hr => u2.t (hr))
      · skip
        refine hs_ob (fun b_8 hb_8 => ?_)
        refine hs_gp (fun gk3 => ?_)
        refine hs_bind (hf_X7_ahead L) (fun r_11 u4' => ?_)
        have u4 : HG true true ad δ r_11.2 := u2.t (u4')
        refine hs_ite (fun _ => ?_) (fun _ => ?_)
        · skip
          exact hs_mono (hj_X9_readProduct_45 L h_T ih) (fun _ hr => u4.t (hr))
        · skip
          refine hs_ite (fun _ => ?_) (fun _ => ?_)
          · skip
            exact hs_mono (hj_X9_readProduct_45 L h_T ih) (fun _ hr => u4.t (hr))
          · skip
            exact hs_some u4
theorem hb_X9_readProduct {ad : List Nat} {h : hp} (L : Lay TLx ad h) {N : Nat} {T : Nat → Int32 → dp → Option (dp)} {a0 : Nat} {x1 : Int32} (h_T : ∀ (y0 : Nat) (y1 : Int32) (δ1 : dp), hs (T y0 y1 δ1) (fun r => HG true true ad δ1 r)) {δ : dp} : hs (B_X9_readProduct N h.1 T a0 x1 δ) (fun r => HG true true ad δ r) := by
  unfold B_X9_readProduct
  refine hs_bind (hb_X9_readUnit L h_T) (fun r_1 u1' => ?_)
  have u1 : HG true true ad δ r_1 := u1'
  exact hs_mono (hl_X9_readProduct_7 L h_T N 0 r_1) (fun _ hr => u1.t (hr))
theorem hj_X9_readSum_74 {ad : List Nat} {h : hp} (L : Lay TLx ad h) {N : Nat} {T : Nat → Int32 → dp → Option (dp)} {a0 : Nat} {x1 : Int32} {kt7 : Int32 → dp → Option (dp)} {xs0 : Int32} {as1 : Nat} {x2v : Int32} (k8_as1 : q_K h.1 as1 = 8) (h_T : ∀ (y0 : Nat) (y1 : Int32) (δ1 : dp), hs (T y0 y1 δ1) (fun r => HG true true ad δ1 r)) (h_kt7 : ∀ (y0 : Int32) (δ1 : dp), hs (kt7 y0 δ1) (fun r => HG true true ad δ1 r)) {δ : dp} : hs (J_X9_readSum_74 N h.1 T a0 x1 kt7 xs0 as1 x2v δ) (fun r => HG true true ad δ r) := by
  unfold J_X9_readSum_74
  refine hs_bind (hf_X8_add L k8_as1) (fun r_22 u1' => ?_)
  have u1 : HG true true ad δ r_22 := u1'
  refine hs_biv (fun x_23 _ => ?_)
  exact hs_mono (h_kt7 x_23 r_22) (fun _ hr => u1.t (hr))
theorem hj_X9_readSum_45 {ad : List Nat} {h : hp} (L : Lay TLx ad h) {N : Nat} {T : Nat → Int32 → dp → Option (dp)} {a0 : Nat} {x1 : Int32} {kt7 : Int32 → dp → Option (dp)} {x2v : Int32} {x3v : Int32} (h_T : ∀ (y0 : Nat) (y1 : Int32) (δ1 : dp), hs (T y0 y1 δ1) (fun r => HG true true ad δ1 r)) (h_kt7 : ∀ (y0 : Int32) (δ1 : dp), hs (kt7 y0 δ1) (fun r => HG true true ad δ1 r)) {δ : dp} : hs (J_X9_readSum_45 N h.1 T a0 x1 kt7 x2v x3v δ) (fun r => HG true true ad δ r) := by
  unfold J_X9_readSum_45
  refine hs_ob (fun b_13 hb_13 => ?_)
  refine hs_gp (fun gk1 => ?_)
  refine hs_bind (hf_X7_needSign L) (fun r_16 u2' => ?_)
  have u2 : HG true true ad δ r_16 := u2'
  refine hs_bind (hb_X9_readProduct L h_T) (fun r_17 u3' => ?_)
  have u3 : HG true true ad δ r_17 := u2.t (u3')
  refine hs_ob (fun b_18 hb_18 => ?_)
  refine hs_gp (fun gk4 => ?_)
  refine hs_ite (fun _ => ?_) (fun _ => ?_)
  · skip
    exact hs_mono (hj_X9_readSum_74 L gk4 h_T h_kt7) (fun _ hr => u3.t (hr))
  · skip
    exact hs_mono (hj_X9_readSum_74 L gk4 h_T h_kt7) (fun _ hr => u3.t (hr))
theorem hj_X9_readSum_84 {ad : List Nat} {h : hp} (L : Lay TLx ad h) {N : Nat} {T : Nat → Int32 → dp → Option (dp)} {a0 : Nat} {x1 : Int32} (h_T : ∀ (y0 : Nat) (y1 : Int32) (δ1 : dp), hs (T y0 y1 δ1) (fun r => HG true true ad δ1 r)) {δ : dp} : hs (J_X9_readSum_84 N h.1 T a0 x1 δ) (fun r => HG true true ad δ r) := by
  unfold J_X9_readSum_84
  exact hs_some HG_r
theorem hl_X9_readSum_7 {ad : List Nat} {h : hp} (L : Lay TLx ad h) {N : Nat} {T : Nat → Int32 → dp → Option (dp)} {a0 : Nat} {x1 : Int32} (h_T : ∀ (y0 : Nat) (y1 : Int32) (δ1 : dp), hs (T y0 y1 δ1) (fun r => HG true true ad δ1 r)) : ∀ (n : Nat) (x2v : Int32) (δ : dp), hs (L_X9_readSum_7 N h.1 T a0 x1 n x2v δ) (fun r => HG true true ad δ r) := by
  intro n
  induction n with
  | zero => intro x2v δ; unfold L_X9_readSum_7; exact hs_none
  | succ n ih =>
    intro x2v δ
    unfold L_X9_readSum_7
    refine hs_ite (fun _ => ?_) (fun _ => ?_)
    · skip
      exact hj_X9_readSum_84 L h_T
    · skip
      refine hs_ob (fun b_3 hb_3 => ?_)
      refine hs_gp (fun gk1 => ?_)
      refine hs_bind (hf_X7_isSound L) (fun r_6 u2' => ?_)
      have u2 : HG true true ad δ r_6.2 := u2'
      refine hs_ite (fun _ => ?_) (fun _ => ?_)
      · skip
        exact hs_mono (hj_X9_readSum_84 L h_T) (fun _ hr => u2.t (hr))
      · skip
        refine hs_ob (fun b_8 hb_8 => ?_)
        refine hs_gp (fun gk3 => ?_)
        refine hs_bind (hf_X7_ahead L) (fun r_11 u4' => ?_)
        have u4 : HG true true ad δ r_11.2 := u2.t (u4')
        refine hs_ite (fun _ => ?_) (fun _ => ?_)
        · skip
          exact hs_mono (hj_X9_readSum_45 L h_T ih) (fun _ hr => u4.t (hr))
        · skip
          refine hs_ite (fun _ => ?_) (fun _ => ?_)
          · skip
            exact hs_mono (hj_X9_readSum_45 L h_T ih) (fun _ hr => u4.t (hr))
          · skip
            exact hs_some u4
theorem hb_X9_readSum {ad : List Nat} {h : hp} (L : Lay TLx ad h) {N : Nat} {T : Nat → Int32 → dp → Option (dp)} {a0 : Nat} {x1 : Int32} (h_T : ∀ (y0 : Nat) (y1 : Int32) (δ1 : dp), hs (T y0 y1 δ1) (fun r => HG true true ad δ1 r)) {δ : dp} : hs (B_X9_readSum N h.1 T a0 x1 δ) (fun r => HG true true ad δ r) := by
  unfold B_X9_readSum
  refine hs_bind (hb_X9_readProduct L h_T) (fun r_1 u1' => ?_)
  have u1 : HG true true ad δ r_1 := u1'
  exact hs_mono (hl_X9_readSum_7 L h_T N 0 r_1) (fun _ hr => u1.t (hr))
theorem he_X9_readSum {ad : List Nat} {h : hp} (L : Lay TLx ad h) {N : Nat} : ∀ (k : Nat) (a0 : Nat) (x1 : Int32) (δ : dp), hs (E_X9_readSum N h.1 k a0 x1 δ) (fun r => HG true true ad δ r) := by
  intro k
  induction k with
  | zero => intro a0 x1 δ ; unfold E_X9_readSum; exact hs_none
  | succ k ih =>
    intro a0 x1 δ 
    unfold E_X9_readSum
    exact hb_X9_readSum L  ih
theorem hf_X9_readSum {ad : List Nat} {h : hp} (L : Lay TLx ad h) {N : Nat} {a0 : Nat} {x1 : Int32}  {δ : dp} : hs (D_X9_readSum N h.1 a0 x1 δ) (fun r => HG true true ad δ r) := by
  unfold D_X9_readSum
  exact he_X9_readSum L 20 a0 x1 δ
theorem hj_X9_readStep_98 {ad : List Nat} {h : hp} (L : Lay TLx ad h) {N : Nat} {a0 : Nat} {x1v : Int32} {x2v : Int32} (k9_a0 : q_K h.1 a0 = 9) {δ : dp} : hs (J_X9_readStep_98 N h.1 a0 x1v x2v δ) (fun r => HG true true ad δ r) := by
  unfold J_X9_readStep_98
  refine hs_ite (fun _ => ?_) (fun _ => ?_)
  · skip
    refine hs_bdv (fun δ_19 e1 => ?_)
    have u1 : HG true true ad δ δ_19 := HG.I HG_r e1 (by decide) (by decide)
    refine hs_bdv (fun δ_21 e2 => ?_)
    have u2 : HG true true ad δ δ_21 := HG.I u1 e2 (by decide) (by decide)
    refine hs_bind (hf_X9_readSum L) (fun r_23 u3' => ?_)
    have u3 : HG true true ad δ r_23 := u2.t (u3')
    refine hs_ob (fun b_24 hb_24 => ?_)
    refine hs_gp (fun gk4 => ?_)
    refine hs_bind (hf_X7_needSign L) (fun r_27 u5' => ?_)
    have u5 : HG true true ad δ r_27 := u3.t (u5')
    refine hs_ob (fun b_28 hb_28 => ?_)
    refine hs_gp (fun gk6 => ?_)
    refine hs_bind (hf_X8_add L gk6) (fun r_31 u7' => ?_)
    have u7 : HG true true ad δ r_31 := u5.t (u7')
    exact hs_mono (hj_X9_readStep_163 L) (fun _ hr => u7.t (hr))
  · skip
    refine hs_bdv (fun δ_32 e8 => ?_)
    have u8 : HG true true ad δ δ_32 := HG.I HG_r e8 (by decide) (by decide)
    refine hs_bind (hf_X9_openLoop L k9_a0) (fun r_34 u9' => ?_)
    have u9 : HG true true ad δ r_34 := u8.t (u9')
    exact hs_mono (hj_X9_readStep_163 L) (fun _ hr => u9.t (hr))
theorem hj_X9_readStep_66 {ad : List Nat} {h : hp} (L : Lay TLx ad h) {N : Nat} {a0 : Nat} {x1v : Int32} {x2v : Int32} (k9_a0 : q_K h.1 a0 = 9) {δ : dp} : hs (J_X9_readStep_66 N h.1 a0 x1v x2v δ) (fun r => HG true true ad δ r) := by
  unfold J_X9_readStep_66
  refine hs_ite (fun _ => ?_) (fun _ => ?_)
  · skip
    exact hj_X9_readStep_87 L
  · skip
    refine hs_ite (fun _ => ?_) (fun _ => ?_)
    · skip
      exact hj_X9_readStep_98 L k9_a0
    · skip
      refine hs_ite (fun _ => ?_) (fun _ => ?_)
      · skip
        exact hj_X9_readStep_98 L k9_a0
      · skip
        exact hj_X9_readStep_87 L
theorem hj_X9_readStep_24 {ad : List Nat} {h : hp} (L : Lay TLx ad h) {N : Nat} {a0 : Nat} (k9_a0 : q_K h.1 a0 = 9) {δ : dp} : hs (J_X9_readStep_24 N h.1 a0 δ) (fun r => HG true true ad δ r) := by
  unfold J_X9_readStep_24
  refine hs_ob (fun b_2 hb_2 => ?_)
  refine hs_gp (fun gk1 => ?_)
  refine hs_bind (hf_X7_readWord L) (fun r_5 u2' => ?_)
  have u2 : HG true true ad δ r_5 := u2'
  refine hs_bind (hf_X9_callOfWord L) (fun r_6 u3' => ?_)
  have u3 : HG true true ad δ r_6.2 := u2.t (u3')
  refine hs_ob (fun b_7 hb_7 => ?_)
  refine hs_gp (fun gk4 => ?_)
  refine hs_bind (hf_X7_wordIs L) (fun r_10 u5' => ?_)
  have u5 : HG true true ad δ r_10.2 := u3.t (u5')
  refine hs_ite (fun _ => ?_) (fun _ => ?_)
  · skip
    refine hs_ite (fun _ => ?_) (fun _ => ?_)
    · skip
      refine hs_ob (fun b_37 hb_37 => ?_)
      refine hs_gp (fun gk6 => ?_)
      refine hs_bind (hf_X7_refuse L) (fun r_40 u7' => ?_)
      have u7 : HG true true ad δ r_40 := u5.t (u7')
      exact hs_mono (hj_X9_readStep_163 L) (fun _ hr => u7.t (hr))
    · skip
      exact hs_mono (hj_X9_readStep_66 L k9_a0) (fun _ hr => u5.t (hr))
  · skip
    exact hs_mono (hj_X9_readStep_66 L k9_a0) (fun _ hr => u5.t (hr))
theorem hf_X9_readStep {ad : List Nat} {h : hp} (L : Lay TLx ad h) {N : Nat} {a0 : Nat} (k9_a0 : q_K h.1 a0 = 9) {δ : dp} : hs (D_X9_readStep N h.1 a0 δ) (fun r => HG true true ad δ r) := by
  unfold D_X9_readStep
  refine hs_ite (fun _ => ?_) (fun _ => ?_)
  · skip
    exact hj_X9_readStep_24 L k9_a0
  · skip
    refine hs_ob (fun b_41 hb_41 => ?_)
    refine hs_gp (fun gk1 => ?_)
    refine hs_bind (hf_X7_takeSign L) (fun r_44 u2' => ?_)
    have u2 : HG true true ad δ r_44.2 := u2'
    refine hs_ite (fun _ => ?_) (fun _ => ?_)
    · skip
      exact hs_mono (hj_X9_readStep_24 L k9_a0) (fun _ hr => u2.t (hr))
    · skip
      refine hs_bind (hf_X9_closeLoop L) (fun r_46 u3' => ?_)
      have u3 : HG true true ad δ r_46 := u2.t (u3')
      exact hs_some u3
theorem hj_X9_read_83 {ad : List Nat} {h : hp} (L : Lay TLx ad h) {N : Nat} {a0 : Nat} {a1 : Nat} {a2 : Nat}  {δ : dp} : hs (J_X9_read_83 N h.1 a0 a1 a2 δ) (fun r => HG true true ad δ r) := by
  unfold J_X9_read_83
  exact hs_some HG_r
theorem hj_X9_read_68 {ad : List Nat} {h : hp} (L : Lay TLx ad h) {N : Nat} {a0 : Nat} {a1 : Nat} {a2 : Nat}  {δ : dp} : hs (J_X9_read_68 N h.1 a0 a1 a2 δ) (fun r => HG true true ad δ r) := by
  unfold J_X9_read_68
  refine hs_ite (fun _ => ?_) (fun _ => ?_)
  · skip
    refine hs_ob (fun b_17 hb_17 => ?_)
    refine hs_gp (fun gk1 => ?_)
    refine hs_bind (hf_X7_refuse L) (fun r_20 u2' => ?_)
    have u2 : HG true true ad δ r_20 := u2'
    exact hs_mono (hj_X9_read_83 L) (fun _ hr => u2.t (hr))
  · skip
    exact hj_X9_read_83 L
theorem hl_X9_read_34 {ad : List Nat} {h : hp} (L : Lay TLx ad h) {N : Nat} {a0 : Nat} {a1 : Nat} {a2 : Nat} (k9_a0 : q_K h.1 a0 = 9) : ∀ (n : Nat) (x3v : Int32) (δ : dp), hs (L_X9_read_34 N h.1 a0 a1 a2 n x3v δ) (fun r => HG true true ad δ r) := by
  intro n
  induction n with
  | zero => intro x3v δ; unfold L_X9_read_34; exact hs_none
  | succ n ih =>
    intro x3v δ
    unfold L_X9_read_34
    refine hs_ite (fun _ => ?_) (fun _ => ?_)
    · skip
      exact hj_X9_read_68 L
    · skip
      refine hs_ob (fun b_21 hb_21 => ?_)
      refine hs_gp (fun gk1 => ?_)
      refine hs_bind (hf_X7_isSound L) (fun r_24 u2' => ?_)
      have u2 : HG true true ad δ r_24.2 := u2'
      refine hs_ite (fun _ => ?_) (fun _ => ?_)
      · skip
        exact hs_mono (hj_X9_read_68 L) (fun _ hr => u2.t (hr))
      · skip
        refine hs_bind (hf_X9_isOver L) (fun r_26 u3' => ?_)
        have u3 : HG true true ad δ r_26.2 := u2.t (u3')
        refine hs_ite (fun _ => ?_) (fun _ => ?_)
        · skip
          refine hs_bind (hf_X9_readStep L k9_a0) (fun r_28 u4' => ?_)
          have u4 : HG true true ad δ r_28 := u3.t (u4')
          refine hs_biv (fun x_29 _ => ?_)
          exact hs_mono (ih x_29 r_28) (fun _ hr => u4.t (hr))
        · skip
          exact hs_mono (hj_X9_read_68 L) (fun _ hr => u3.t (hr))
theorem hf_X9_read {ad : List Nat} {h : hp} (L : Lay TLx ad h) {N : Nat} {a0 : Nat} {a1 : Nat} {a2 : Nat} (k9_a0 : q_K h.1 a0 = 9) {δ : dp} : hs (D_X9_read N h.1 a0 a1 a2 δ) (fun r => HG false true ad δ r) := by
  unfold D_X9_read
  refine hs_bdv (fun δ_1 e1 => ?_)
  have u1 : HG false true ad δ δ_1 := HG.V HG_r e1
  refine hs_bdv (fun δ_3 e2 => ?_)
  have u2 : HG false true ad δ δ_3 := HG.V u1 e2
  refine hs_ob (fun b_5 hb_5 => ?_)
  refine hs_gp (fun gk3 => ?_)
  refine hs_bind (hf_X8_clear L) (fun r_8 u4' => ?_)
  have u4 : HG false true ad δ r_8 := u2.t ((u4').w (by decide) (by decide))
  refine hs_bdv (fun δ_9 e5 => ?_)
  have u5 : HG false true ad δ δ_9 := HG.I u4 e5 (by decide) (by decide)
  refine hs_bdv (fun δ_11 e6 => ?_)
  have u6 : HG false true ad δ δ_11 := HG.I u5 e6 (by decide) (by decide)
  refine hs_bdv (fun δ_13 e7 => ?_)
  have u7 : HG false true ad δ δ_13 := HG.I u6 e7 (by decide) (by decide)
  exact hs_mono (hl_X9_read_34 L k9_a0 N 0 δ_13) (fun _ hr => u7.t ((hr).w (by decide) (by decide)))
theorem hj_X11_thief_21 {ad : List Nat} {h : hp} (L : Lay TLx ad h) {N : Nat} {a0 : Nat} {x1 : Int32} {xs0 : Int32} {as1 : Nat} (k11_a0 : q_K h.1 a0 = 11) (k11_as1 : q_K h.1 as1 = 11) {δ : dp} : hs (J_X11_thief_21 N h.1 a0 x1 xs0 as1 δ) (fun r => HG false false ad δ r.2) := by
  unfold J_X11_thief_21
  refine hs_bxv (hf_X11_need L k11_as1) (fun _ _ u1' => (u1').w (by decide) (by decide)) (fun δ_4 u1' => ?_)
  have u1 : HG false false ad δ δ_4 := (u1').w (by decide) (by decide)
  refine hs_ob (fun b_5 hb_5 => ?_)
  refine hs_bind (hf_X7_open L) (fun r_7 u2' => ?_)
  have u2 : HG false false ad δ r_7 := u1.t ((u2').w (by decide) (by decide))
  refine hs_ob (fun b_8 hb_8 => ?_)
  refine hs_ob (fun b_10 hb_10 => ?_)
  refine hs_ob (fun b_12 hb_12 => ?_)
  refine hs_gd (fun gz3 => ?_)
  refine hs_ob (fun b_14 hb_14 => ?_)
  refine hs_bind (hf_X9_read L (kO_11_3 L k11_a0 hb_8)) (fun r_16 u4' => ?_)
  have u4 : HG false false ad δ r_16 := u2.t ((u4').w (by decide) (by decide))
  refine hs_ob (fun b_17 hb_17 => ?_)
  refine hs_bind (hf_X7_isSound L) (fun r_19 u5' => ?_)
  have u5 : HG false false ad δ r_19.2 := u4.t ((u5').w (by decide) (by decide))
  refine hs_ite (fun _ => ?_) (fun _ => ?_)
  · skip
    refine hs_ob (fun b_24 hb_24 => ?_)
    exact hs_some u5
  · skip
    refine hs_ite (fun _ => ?_) (fun _ => ?_)
    · skip
      refine hs_bdv (fun δ_22 e6 => ?_)
      have u6 : HG false false ad δ δ_22 := HG.I u5 e6 (by decide) (by decide)
      exact hs_some u6
    · skip
      exact hs_some u5
theorem hj_X11_thief_20 {ad : List Nat} {h : hp} (L : Lay TLx ad h) {N : Nat} {a0 : Nat} {x1 : Int32} {as0 : Nat} (k11_a0 : q_K h.1 a0 = 11) (k11_as0 : q_K h.1 as0 = 11) {δ : dp} : hs (J_X11_thief_20 N h.1 a0 x1 as0 δ) (fun r => HG false false ad δ r.2) := by
  unfold J_X11_thief_20
  exact hj_X11_thief_21 L k11_a0 k11_as0
theorem hf_X11_thief {ad : List Nat} {h : hp} (L : Lay TLx ad h) {N : Nat} {a0 : Nat} {x1 : Int32} (k11_a0 : q_K h.1 a0 = 11) {δ : dp} : hs (D_X11_thief N h.1 a0 x1 δ) (fun r => HG false false ad δ r.2) := by
  unfold D_X11_thief
  refine hs_ite (fun _ => ?_) (fun _ => ?_)
  · skip
    exact hj_X11_thief_20 L k11_a0 k11_a0
  · skip
    refine hs_ob (fun b_26 hb_26 => ?_)
    refine hs_ite (fun _ => ?_) (fun _ => ?_)
    · skip
      exact hj_X11_thief_20 L k11_a0 k11_a0
    · skip
      exact hj_X11_thief_21 L k11_a0 k11_a0
theorem hj_X6_readValue_71 {ad : List Nat} {h : hp} (L : Lay TLx ad h) {N : Nat} {a0 : Nat} {a1 : Nat} {x2 : Int32}  {δ : dp} : hs (J_X6_readValue_71 N h.1 a0 a1 x2 δ) (fun r => HG true true ad δ r) := by
  unfold J_X6_readValue_71
  exact hs_some HG_r
theorem hf_X6_readValue {ad : List Nat} {h : hp} (L : Lay TLx ad h) {N : Nat} {a0 : Nat} {a1 : Nat} {x2 : Int32}  {δ : dp} : hs (D_X6_readValue N h.1 a0 a1 x2 δ) (fun r => HG true true ad δ r) := by
  unfold D_X6_readValue
  refine hs_ite (fun _ => ?_) (fun _ => ?_)
  · skip
    refine hs_bind (hf_X7_readNumber L) (fun r_15 u1' => ?_)
    have u1 : HG true true ad δ r_15.2 := u1'
    refine hs_bdv (fun δ_16 e2 => ?_)
    have u2 : HG true true ad δ δ_16 := HG.I u1 e2 (by decide) (by decide)
    exact hs_mono (hj_X6_readValue_71 L) (fun _ hr => u2.t (hr))
  · skip
    refine hs_ite (fun _ => ?_) (fun _ => ?_)
    · skip
      refine hs_bind (hf_X7_readNumber L) (fun r_12 u3' => ?_)
      have u3 : HG true true ad δ r_12.2 := u3'
      refine hs_bdv (fun δ_13 e4 => ?_)
      have u4 : HG true true ad δ δ_13 := HG.I u3 e4 (by decide) (by decide)
      exact hs_mono (hj_X6_readValue_71 L) (fun _ hr => u4.t (hr))
    · skip
      refine hs_bind (hf_X7_readWord L) (fun r_3 u5' => ?_)
      have u5 : HG true true ad δ r_3 := u5'
      refine hs_bind (hf_X7_wordIs L) (fun r_4 u6' => ?_)
      have u6 : HG true true ad δ r_4.2 := u5.t (u6')
      refine hs_gp (fun gk7 => ?_)
      refine hs_bdv (fun δ_5 e8 => ?_)
      have u8 : HG true true ad δ δ_5 := HG.I u6 e8 (by decide) (by decide)
      refine hs_ite (fun _ => ?_) (fun _ => ?_)
      · skip
        refine hs_bind (hf_X7_wordIs L) (fun r_8 u9' => ?_)
        have u9 : HG true true ad δ r_8.2 := u8.t (u9')
        refine hs_ite (fun _ => ?_) (fun _ => ?_)
        · skip
          refine hs_bind (hf_X7_refuse L) (fun r_10 u10' => ?_)
          have u10 : HG true true ad δ r_10 := u9.t (u10')
          exact hs_mono (hj_X6_readValue_71 L) (fun _ hr => u10.t (hr))
        · skip
          exact hs_mono (hj_X6_readValue_71 L) (fun _ hr => u9.t (hr))
      · skip
        exact hs_mono (hj_X6_readValue_71 L) (fun _ hr => u8.t (hr))
theorem hj_X6_readClause_94 {ad : List Nat} {h : hp} (L : Lay TLx ad h) {N : Nat} {a0 : Nat} {a1 : Nat}  {δ : dp} : hs (J_X6_readClause_94 N h.1 a0 a1 δ) (fun r => HG true true ad δ r) := by
  unfold J_X6_readClause_94
  exact hs_some HG_r
theorem hj_X6_readClause_44 {ad : List Nat} {h : hp} (L : Lay TLx ad h) {N : Nat} {a0 : Nat} {a1 : Nat} {xs0 : Int32} (k6_a0 : q_K h.1 a0 = 6) {δ : dp} : hs (J_X6_readClause_44 N h.1 a0 a1 xs0 δ) (fun r => HG true true ad δ r) := by
  unfold J_X6_readClause_44
  refine hs_ite (fun _ => ?_) (fun _ => ?_)
  · skip
    refine hs_bind (hf_X7_refuse L) (fun r_19 u1' => ?_)
    have u1 : HG true true ad δ r_19 := u1'
    exact hs_mono (hj_X6_readClause_94 L) (fun _ hr => u1.t (hr))
  · skip
    refine hs_ob (fun b_9 hb_9 => ?_)
    refine hs_gd (fun gz2 => ?_)
    refine hs_ite (fun _ => ?_) (fun _ => ?_)
    · skip
      refine hs_ob (fun b_12 hb_12 => ?_)
      refine hs_gd (fun gz3 => ?_)
      refine hs_bdv (fun δ_14 e4 => ?_)
      have u4 : HG true true ad δ δ_14 := HG.R HG_r e4 (nrO_6_3 L k6_a0 hb_12)
      refine hs_bind (hf_X6_readValue L) (fun r_16 u5' => ?_)
      have u5 : HG true true ad δ r_16 := u4.t (u5')
      refine hs_bind (hf_X7_needSign L) (fun r_17 u6' => ?_)
      have u6 : HG true true ad δ r_17 := u5.t (u6')
      exact hs_mono (hj_X6_readClause_94 L) (fun _ hr => u6.t (hr))
    · skip
      refine hs_bind (hf_X7_refuse L) (fun r_18 u7' => ?_)
      have u7 : HG true true ad δ r_18 := u7'
      exact hs_mono (hj_X6_readClause_94 L) (fun _ hr => u7.t (hr))
theorem hf_X6_readClause {ad : List Nat} {h : hp} (L : Lay TLx ad h) {N : Nat} {a0 : Nat} {a1 : Nat} (k6_a0 : q_K h.1 a0 = 6) {δ : dp} : hs (D_X6_readClause N h.1 a0 a1 δ) (fun r => HG true true ad δ r) := by
  unfold D_X6_readClause
  refine hs_bind (hf_X7_readWord L) (fun r_1 u1' => ?_)
  have u1 : HG true true ad δ r_1 := u1'
  refine hs_bind (hf_X7_wordIs L) (fun r_2 u2' => ?_)
  have u2 : HG true true ad δ r_2.2 := u1.t (u2')
  refine hs_ite (fun _ => ?_) (fun _ => ?_)
  · skip
    refine hs_bind (hf_X7_wordIs L) (fun r_4 u3' => ?_)
    have u3 : HG true true ad δ r_4.2 := u2.t (u3')
    refine hs_ite (fun _ => ?_) (fun _ => ?_)
    · skip
      refine hs_bind (hf_X7_wordIs L) (fun r_6 u4' => ?_)
      have u4 : HG true true ad δ r_6.2 := u3.t (u4')
      refine hs_ite (fun _ => ?_) (fun _ => ?_)
      · skip
        exact hs_mono (hj_X6_readClause_44 L k6_a0) (fun _ hr => u4.t (hr))
      · skip
        exact hs_mono (hj_X6_readClause_44 L k6_a0) (fun _ hr => u4.t (hr))
    · skip
      exact hs_mono (hj_X6_readClause_44 L k6_a0) (fun _ hr => u3.t (hr))
  · skip
    exact hs_mono (hj_X6_readClause_44 L k6_a0) (fun _ hr => u2.t (hr))
theorem hj_X6_read_71 {ad : List Nat} {h : hp} (L : Lay TLx ad h) {N : Nat} {a0 : Nat} {a1 : Nat}  {δ : dp} : hs (J_X6_read_71 N h.1 a0 a1 δ) (fun r => HG true true ad δ r) := by
  unfold J_X6_read_71
  exact hs_some HG_r
theorem hl_X6_read_38 {ad : List Nat} {h : hp} (L : Lay TLx ad h) {N : Nat} {a0 : Nat} {a1 : Nat} (k6_a0 : q_K h.1 a0 = 6) : ∀ (n : Nat) (x2v : Int32) (δ : dp), hs (L_X6_read_38 N h.1 a0 a1 n x2v δ) (fun r => HG true true ad δ r) := by
  intro n
  induction n with
  | zero => intro x2v δ; unfold L_X6_read_38; exact hs_none
  | succ n ih =>
    intro x2v δ
    unfold L_X6_read_38
    refine hs_ite (fun _ => ?_) (fun _ => ?_)
    · skip
      exact hj_X6_read_71 L
    · skip
      refine hs_bind (hf_X7_isSound L) (fun r_9 u1' => ?_)
      have u1 : HG true true ad δ r_9.2 := u1'
      refine hs_ite (fun _ => ?_) (fun _ => ?_)
      · skip
        exact hs_mono (hj_X6_read_71 L) (fun _ hr => u1.t (hr))
      · skip
        refine hs_bind (hf_X7_ahead L) (fun r_11 u2' => ?_)
        have u2 : HG true true ad δ r_11.2 := u1.t (u2')
        refine hs_ite (fun _ => ?_) (fun _ => ?_)
        · skip
          exact hs_mono (hj_X6_read_71 L) (fun _ hr => u2.t (hr))
        · skip
          refine hs_bind (hf_X6_readClause L k6_a0) (fun r_13 u3' => ?_)
          have u3 : HG true true ad δ r_13 := u2.t (u3')
          refine hs_biv (fun x_14 _ => ?_)
          exact hs_mono (ih x_14 r_13) (fun _ hr => u3.t (hr))
theorem hl_X6_read_18 {ad : List Nat} {h : hp} (L : Lay TLx ad h) {N : Nat} {a0 : Nat} {a1 : Nat} (k6_a0 : q_K h.1 a0 = 6) : ∀ (n : Nat) (x2v : Int32) (δ : dp), hs (L_X6_read_18 N h.1 a0 a1 n x2v δ) (fun r => HG true true ad δ r) := by
  intro n
  induction n with
  | zero => intro x2v δ; unfold L_X6_read_18; exact hs_none
  | succ n ih =>
    intro x2v δ
    unfold L_X6_read_18
    refine hs_ite (fun _ => ?_) (fun _ => ?_)
    · skip
      exact hl_X6_read_38 L k6_a0 N 0 δ
    · skip
      refine hs_ob (fun b_16 hb_16 => ?_)
      refine hs_gd (fun gz1 => ?_)
      refine hs_bdv (fun δ_18 e2 => ?_)
      have u2 : HG true true ad δ δ_18 := HG.R HG_r e2 (nrO_6_3 L k6_a0 hb_16)
      refine hs_biv (fun x_20 _ => ?_)
      exact hs_mono (ih x_20 δ_18) (fun _ hr => u2.t (hr))
theorem hf_X6_read {ad : List Nat} {h : hp} (L : Lay TLx ad h) {N : Nat} {a0 : Nat} {a1 : Nat} (k6_a0 : q_K h.1 a0 = 6) {δ : dp} : hs (D_X6_read N h.1 a0 a1 δ) (fun r => HG true true ad δ r) := by
  unfold D_X6_read
  refine hs_bdv (fun δ_1 e1 => ?_)
  have u1 : HG true true ad δ δ_1 := HG.I HG_r e1 (by decide) (by decide)
  refine hs_bdv (fun δ_3 e2 => ?_)
  have u2 : HG true true ad δ δ_3 := HG.I u1 e2 (by decide) (by decide)
  refine hs_bdv (fun δ_5 e3 => ?_)
  have u3 : HG true true ad δ δ_5 := HG.I u2 e3 (by decide) (by decide)
  exact hs_mono (hl_X6_read_18 L k6_a0 N 0 δ_5) (fun _ hr => u3.t (hr))
theorem hj_X2_refusal_37 {ad : List Nat} {h : hp} (L : Lay TLx ad h) {N : Nat} {a0 : Nat} {x1 : Int32} {x2 : Int32} {xs0 : Int32}  {δ : dp} : hs (J_X2_refusal_37 N h.1 a0 x1 x2 xs0 δ) (fun r => HG true true ad δ r.2) := by
  unfold J_X2_refusal_37
  exact hs_some HG_r
theorem hf_X2_refusal {ad : List Nat} {h : hp} (L : Lay TLx ad h) {N : Nat} {a0 : Nat} {x1 : Int32} {x2 : Int32}  {δ : dp} : hs (D_X2_refusal N h.1 a0 x1 x2 δ) (fun r => HG true true ad δ r.2) := by
  unfold D_X2_refusal
  refine hs_ob (fun b_1 hb_1 => ?_)
  refine hs_ite (fun _ => ?_) (fun _ => ?_)
  · skip
    refine hs_ite (fun _ => ?_) (fun _ => ?_)
    · skip
      exact hj_X2_refusal_37 L
    · skip
      exact hj_X2_refusal_37 L
  · skip
    exact hs_some HG_r
theorem hf_X5_take {ad : List Nat} {h : hp} (L : Lay TLx ad h) {N : Nat} {a0 : Nat} {a1 : Nat}  {δ : dp} : hs (D_X5_take N h.1 a0 a1 δ) (fun r => HG true true ad δ r) := by
  unfold D_X5_take
  refine hs_bdv (fun δ_1 e1 => ?_)
  have u1 : HG true true ad δ δ_1 := HG.I HG_r e1 (by decide) (by decide)
  refine hs_gp (fun gk2 => ?_)
  refine hs_bdv (fun δ_3 e3 => ?_)
  have u3 : HG true true ad δ δ_3 := HG.I u1 e3 (by decide) (by decide)
  refine hs_bdv (fun δ_5 e4 => ?_)
  have u4 : HG true true ad δ δ_5 := HG.I u3 e4 (by decide) (by decide)
  exact hs_some u4
theorem hf_X0_forget {ad : List Nat} {h : hp} (L : Lay TLx ad h) {N : Nat} {a0 : Nat}  {δ : dp} : hs (D_X0_forget N h.1 a0 δ) (fun r => HG true true ad δ r) := by
  unfold D_X0_forget
  refine hs_bdv (fun δ_1 e1 => ?_)
  have u1 : HG true true ad δ δ_1 := HG.I HG_r e1 (by decide) (by decide)
  refine hs_bdv (fun δ_3 e2 => ?_)
  have u2 : HG true true ad δ δ_3 := HG.I u1 e2 (by decide) (by decide)
  exact hs_some u2
theorem hl_X10_forget_2 {ad : List Nat} {h : hp} (L : Lay TLx ad h) {N : Nat} {a0 : Nat} (k10_a0 : q_K h.1 a0 = 10) : ∀ (n : Nat) (x1v : Int32) (δ : dp), hs (L_X10_forget_2 N h.1 a0 n x1v δ) (fun r => HG true true ad δ r) := by
  intro n
  induction n with
  | zero => intro x1v δ; unfold L_X10_forget_2; exact hs_none
  | succ n ih =>
    intro x1v δ
    unfold L_X10_forget_2
    refine hs_ite (fun _ => ?_) (fun _ => ?_)
    · skip
      exact hs_some HG_r
    · skip
      refine hs_ob (fun b_2 hb_2 => ?_)
      refine hs_gd (fun gz1 => ?_)
      refine hs_bdv (fun δ_4 e2 => ?_)
      have u2 : HG true true ad δ δ_4 := HG.R HG_r e2 (nrO_10_3 L k10_a0 hb_2)
      refine hs_biv (fun x_6 _ => ?_)
      exact hs_mono (ih x_6 δ_4) (fun _ hr => u2.t (hr))
theorem hf_X10_forget {ad : List Nat} {h : hp} (L : Lay TLx ad h) {N : Nat} {a0 : Nat} (k10_a0 : q_K h.1 a0 = 10) {δ : dp} : hs (D_X10_forget N h.1 a0 δ) (fun r => HG true true ad δ r) := by
  unfold D_X10_forget
  exact hl_X10_forget_2 L k10_a0 N 0 δ
theorem hf_X4_forget {ad : List Nat} {h : hp} (L : Lay TLx ad h) {N : Nat} {a0 : Nat}  {δ : dp} : hs (D_X4_forget N h.1 a0 δ) (fun r => HG true true ad δ r) := by
  unfold D_X4_forget
  refine hs_bdv (fun δ_1 e1 => ?_)
  have u1 : HG true true ad δ δ_1 := HG.I HG_r e1 (by decide) (by decide)
  exact hs_some u1
end
section
/-! rows that rise, and what CHANGES make of them -/
def PL (M : Int) (R : Nat → Int) (x : Int) (p : Nat) : Prop := (p : Int) ≤ M ∧ (∀ i : Nat, i < p → R i < x) ∧ ∀ i : Nat, p ≤ i → (i : Int) < M → x ≤ R i
def AT (M : Int) (R : Nat → Int) (k v : Int) : Prop := (∃ i : Nat, k = (i : Int) ∧ (i : Int) < M ∧ v = R i) ∨ ((k < 0 ∨ M ≤ k) ∧ v = -1)
def ME (M : Int) (R : Nat → Int) (x : Int) : Prop := ∃ i : Nat, (i : Int) < M ∧ R i = x
def SR (M : Int) (R : Nat → Int) : Prop := ∀ i j : Nat, i < j → (j : Int) < M → R i < R j
/-- the same row -/
def RE (M : Int) (R : Nat → Int) (M1 : Int) (R1 : Nat → Int) : Prop := M1 = M ∧ ∀ i : Nat, (i : Int) < M → R1 i = R i
theorem RE.r {M : Int} {R : Nat → Int} : RE M R M R := ⟨rfl, fun _ _ => rfl⟩
theorem RE.s {M M1 : Int} {R R1 : Nat → Int} (e : RE M R M1 R1) : RE M1 R1 M R := ⟨e.1.symm, fun i hi => (e.2 i (by rw [← e.1]; exact hi)).symm⟩
theorem RE.t {M M1 M2 : Int} {R R1 R2 : Nat → Int} (e : RE M R M1 R1) (f : RE M1 R1 M2 R2) : RE M R M2 R2 := ⟨f.1.trans e.1, fun i hi => (f.2 i (by rw [e.1]; exact hi)).trans (e.2 i hi)⟩
theorem PL_u {M : Int} {R : Nat → Int} {x : Int} {p q : Nat} (P : PL M R x p) (Q : PL M R x q) : p = q := by
  obtain ⟨p1, p2, p3⟩ := P
  obtain ⟨q1, q2, q3⟩ := Q
  rcases (show p < q ∨ p = q ∨ q < p by omega) with h | h | h
  · have := q2 p h
    have := p3 p (Nat.le_refl _) (by omega)
    omega
  · exact h
  · have := p2 q h
    have := q3 q (Nat.le_refl _) (by omega)
    omega
theorem PL_c {M M1 : Int} {R R1 : Nat → Int} {x : Int} {p : Nat} (e : RE M R M1 R1) (P : PL M R x p) : PL M1 R1 x p := by
  obtain ⟨p1, p2, p3⟩ := P
  refine ⟨by rw [e.1]; exact p1, fun i hi => ?_, fun i h1 h2 => ?_⟩
  · rw [e.2 i (by omega)]; exact p2 i hi
  · rw [e.1] at h2
    rw [e.2 i h2]; exact p3 i h1 h2
theorem AT_u {M : Int} {R : Nat → Int} {k v w : Int} (h : AT M R k v) (g : AT M R k w) : v = w := by
  rcases h with ⟨i, h1, h2, h3⟩ | ⟨h1, h2⟩
  · rcases g with ⟨j, g1, g2, g3⟩ | ⟨g1, g2⟩
    · obtain rfl : i = j := by omega
      rw [h3, g3]
    · exfalso; omega
  · rcases g with ⟨j, g1, g2, g3⟩ | ⟨g1, g2⟩
    · exfalso; omega
    · rw [h2, g2]
theorem AT_c {M M1 : Int} {R R1 : Nat → Int} {k v : Int} (e : RE M R M1 R1) (h : AT M R k v) : AT M1 R1 k v := by
  rcases h with ⟨i, h1, h2, h3⟩ | ⟨h1, h2⟩
  · exact Or.inl ⟨i, h1, by rw [e.1]; exact h2, by rw [e.2 i h2]; exact h3⟩
  · exact Or.inr ⟨by rw [e.1]; exact h1, h2⟩
theorem ME_c {M M1 : Int} {R R1 : Nat → Int} {x : Int} (e : RE M R M1 R1) (h : ME M R x) : ME M1 R1 x := by
  obtain ⟨i, h1, h2⟩ := h
  exact ⟨i, by rw [e.1]; exact h1, by rw [e.2 i h1]; exact h2⟩
theorem ME_i {M M1 : Int} {R R1 : Nat → Int} {x : Int} (e : RE M R M1 R1) : ME M R x ↔ ME M1 R1 x := ⟨ME_c e, ME_c e.s⟩
theorem SR_c {M M1 : Int} {R R1 : Nat → Int} (e : RE M R M1 R1) (S : SR M R) : SR M1 R1 := fun i j hij hj => by
  rw [e.1] at hj
  rw [e.2 i (by omega), e.2 j hj]
  exact S i j hij hj
theorem PL_m {M : Int} {R : Nat → Int} {x : Int} {p : Nat} (S : SR M R) (P : PL M R x p) : ME M R x ↔ (p : Int) < M ∧ R p = x := by
  obtain ⟨p1, p2, p3⟩ := P
  constructor
  · rintro ⟨i, h1, h2⟩
    rcases (show i < p ∨ i = p ∨ p < i by omega) with c | c | c
    · have := p2 i c; omega
    · subst c; exact ⟨h1, h2⟩
    · have := S p i c h1
      have := p3 p (Nat.le_refl _) (by omega)
      omega
  · rintro ⟨h1, h2⟩; exact ⟨p, h1, h2⟩
/-- x comes at p -/
def IN (M : Int) (R : Nat → Int) (x : Int) (p : Nat) (M1 : Int) (R1 : Nat → Int) : Prop := M1 = M + 1 ∧ ∀ i : Nat, (i : Int) ≤ M → R1 i = if i < p then R i else if i = p then x else R (i - 1)
/-- what is at p goes -/
def DE (M : Int) (R : Nat → Int) (p : Nat) (M1 : Int) (R1 : Nat → Int) : Prop := M1 = M - 1 ∧ ∀ i : Nat, (i : Int) + 1 < M → R1 i = if i < p then R i else R (i + 1)
theorem IN_m {M M1 : Int} {R R1 : Nat → Int} {x : Int} {p : Nat} (hp : (p : Int) ≤ M) (I : IN M R x p M1 R1) (y : Int) : ME M1 R1 y ↔ y = x ∨ ME M R y := by
  obtain ⟨i1, i2⟩ := I
  constructor
  · rintro ⟨i, h1, h2⟩
    rw [i1] at h1
    rw [i2 i (by omega)] at h2
    by_cases c : i < p
    · rw [if_pos c] at h2; exact Or.inr ⟨i, by omega, h2⟩
    · rw [if_neg c] at h2
      by_cases c2 : i = p
      · rw [if_pos c2] at h2; exact Or.inl h2.symm
      · rw [if_neg c2] at h2; exact Or.inr ⟨i - 1, by omega, h2⟩
  · rintro (h | ⟨i, h1, h2⟩)
    · refine ⟨p, by omega, ?_⟩
      rw [i2 p hp, if_neg (by omega), if_pos rfl]; exact h.symm
    · by_cases c : i < p
      · refine ⟨i, by omega, ?_⟩
        rw [i2 i (by omega), if_pos c]; exact h2
      · refine ⟨i + 1, by omega, ?_⟩
        rw [i2 (i + 1) (by omega), if_neg (by omega), if_neg (by omega)]; exact h2
theorem IN_s {M M1 : Int} {R R1 : Nat → Int} {x : Int} {p : Nat} (S : SR M R) (P : PL M R x p) (nm : ¬ ME M R x) (I : IN M R x p M1 R1) : SR M1 R1 := by
  obtain ⟨i1, i2⟩ := I
  obtain ⟨p1, p2, p3⟩ := P
  have gt : ∀ i : Nat, p ≤ i → (i : Int) < M → x < R i := fun i h1 h2 => by
    have h3 := p3 i h1 h2
    have h4 : R i ≠ x := fun z => nm ⟨i, h2, z⟩
    omega
  intro i j hij hj
  rw [i1] at hj
  rw [i2 i (by omega), i2 j (by omega)]
  by_cases c1 : j < p
  · rw [if_pos c1, if_pos (by omega)]; exact S i j hij (by omega)
  · rw [if_neg c1]
    by_cases c2 : j = p
    · rw [if_pos c2, if_pos (by omega)]; exact p2 i (by omega)
    · rw [if_neg c2]
      by_cases c4 : i < p
      · rw [if_pos c4]
        have h1 := p2 i c4
        have h2 := gt (j - 1) (by omega) (by omega)
        omega
      · rw [if_neg c4]
        by_cases c5 : i = p
        · rw [if_pos c5]; exact gt (j - 1) (by omega) (by omega)
        · rw [if_neg c5]; exact S (i - 1) (j - 1) (by omega) (by omega)
theorem DE_m {M M1 : Int} {R R1 : Nat → Int} {x : Int} {p : Nat} (S : SR M R) (hp : (p : Int) < M) (hx : R p = x) (D : DE M R p M1 R1) (y : Int) : ME M1 R1 y ↔ y ≠ x ∧ ME M R y := by
  obtain ⟨d1, d2⟩ := D
  constructor
  · rintro ⟨i, h1, h2⟩
    rw [d1] at h1
    rw [d2 i (by omega)] at h2
    by_cases c : i < p
    · rw [if_pos c] at h2
      have := S i p c hp
      exact ⟨by omega, i, by omega, h2⟩
    · rw [if_neg c] at h2
      have := S p (i + 1) (by omega) (by omega)
      exact ⟨by omega, i + 1, by omega, h2⟩
  · rintro ⟨h0, i, h1, h2⟩
    rcases (show i < p ∨ i = p ∨ p < i by omega) with c | c | c
    · refine ⟨i, by omega, ?_⟩
      rw [d2 i (by omega), if_pos c]; exact h2
    · subst c; omega
    · refine ⟨i - 1, by omega, ?_⟩
      rw [d2 (i - 1) (by omega), if_neg (by omega), show i - 1 + 1 = i by omega]; exact h2
theorem DE_s {M M1 : Int} {R R1 : Nat → Int} {p : Nat} (S : SR M R) (D : DE M R p M1 R1) : SR M1 R1 := by
  obtain ⟨d1, d2⟩ := D
  intro i j hij hj
  rw [d1] at hj
  rw [d2 i (by omega), d2 j (by omega)]
  by_cases c1 : j < p
  · rw [if_pos c1, if_pos (by omega)]; exact S i j hij (by omega)
  · rw [if_neg c1]
    by_cases c2 : i < p
    · rw [if_pos c2]; exact S i (j + 1) (by omega) (by omega)
    · rw [if_neg c2]; exact S (i + 1) (j + 1) (by omega) (by omega)
theorem IN_e {M M1 N N1 : Int} {R R1 Q Q1 : Nat → Int} {x : Int} {p : Nat} (hp : (p : Int) ≤ M) (e : RE M R N Q) (I : IN M R x p M1 R1) (J : IN N Q x p N1 Q1) : RE M1 R1 N1 Q1 := by
  obtain ⟨i1, i2⟩ := I
  obtain ⟨j1, j2⟩ := J
  obtain ⟨e1, e2⟩ := e
  refine ⟨by rw [i1, j1, e1], fun i hi => ?_⟩
  rw [i1] at hi
  rw [i2 i (by omega), j2 i (by omega)]
  by_cases c : i < p
  · rw [if_pos c, if_pos c]; exact e2 i (by omega)
  · rw [if_neg c, if_neg c]
    by_cases c2 : i = p
    · rw [if_pos c2, if_pos c2]
    · rw [if_neg c2, if_neg c2]; exact e2 (i - 1) (by omega)
theorem DE_e {M M1 N N1 : Int} {R R1 Q Q1 : Nat → Int} {p : Nat} (e : RE M R N Q) (I : DE M R p M1 R1) (J : DE N Q p N1 Q1) : RE M1 R1 N1 Q1 := by
  obtain ⟨i1, i2⟩ := I
  obtain ⟨j1, j2⟩ := J
  obtain ⟨e1, e2⟩ := e
  refine ⟨by rw [i1, j1, e1], fun i hi => ?_⟩
  rw [i1] at hi
  rw [i2 i (by omega), j2 i (by omega)]
  by_cases c : i < p
  · rw [if_pos c, if_pos c]; exact e2 i (by omega)
  · rw [if_neg c, if_neg c]; exact e2 (i + 1) (by omega)
/-- rows that rise and hold the same are the same -/
theorem rows_u {M N : Int} {R Q : Nat → Int} (S : SR M R) (T : SR N Q) (hM : 0 ≤ M) (hN : 0 ≤ N) (h : ∀ y, ME M R y ↔ ME N Q y) : RE M R N Q := by
  have key : ∀ n i : Nat, i < n → ((i : Int) < M ∨ (i : Int) < N) → (i : Int) < M ∧ (i : Int) < N ∧ Q i = R i := by
    intro n
    induction n with
    | zero => intro i hi; omega
    | succ n ih =>
      intro i hi hc
      have prev : ∀ j, j < i → (j : Int) < M ∧ (j : Int) < N ∧ Q j = R j := fun j hj => ih j (by omega) (by omega)
      have A : (i : Int) < M → (i : Int) < N ∧ Q i ≤ R i := fun hm => by
        obtain ⟨k, k1, k2⟩ := (h (R i)).mp ⟨i, hm, rfl⟩
        have ki : i ≤ k := Nat.not_lt.mp (fun c => by
          have := (prev k c).2.2
          have := S k i c hm
          omega)
        refine ⟨by omega, ?_⟩
        by_cases e : k = i
        · rw [← k2, e]; exact Int.le_refl _
        · have := T i k (by omega) k1; omega
      have B : (i : Int) < N → (i : Int) < M ∧ R i ≤ Q i := fun hm => by
        obtain ⟨k, k1, k2⟩ := (h (Q i)).mpr ⟨i, hm, rfl⟩
        have ki : i ≤ k := Nat.not_lt.mp (fun c => by
          have := (prev k c).2.2
          have := T k i c hm
          omega)
        refine ⟨by omega, ?_⟩
        by_cases e : k = i
        · rw [← k2, e]; exact Int.le_refl _
        · have := S i k (by omega) k1; omega
      rcases hc with c | c
      · have a := A c
        have b := B a.1
        exact ⟨c, a.1, by omega⟩
      · have b := B c
        have a := A b.1
        exact ⟨b.1, c, by omega⟩
  refine ⟨?_, fun i hi => (key (i + 1) i (by omega) (Or.inl hi)).2.2⟩
  rcases (show M < N ∨ N = M ∨ N < M by omega) with c | c | c
  · have := (key (M.toNat + 1) M.toNat (by omega) (Or.inr (by omega))).1; omega
  · exact c
  · have := (key (N.toNat + 1) N.toNat (by omega) (Or.inl (by omega))).2.1; omega
/-- the NUMBERS behind the first t CHANGES, and how many -/
def St (nt cm : Nat → Int) : Nat → Int → Prop
  | 0, _ => False
  | t + 1, y => (cm t = 1 ∧ (y = nt t ∨ St nt cm t y)) ∨ (cm t ≠ 1 ∧ y ≠ nt t ∧ St nt cm t y)
def Ct (cm : Nat → Int) : Nat → Int
  | 0 => 0
  | t + 1 => Ct cm t + (if cm t = 1 then 1 else -1)
def Vd (A : Int) (nt cm : Nat → Int) (n : Nat) : Prop := ∀ t, t < n → 0 ≤ nt t ∧ nt t < A ∧ ((cm t = 1 ∧ ¬ St nt cm t (nt t)) ∨ (cm t = 0 ∧ St nt cm t (nt t)))
theorem St_c {nt cm nt' cm' : Nat → Int} : ∀ n, (∀ t, t < n → nt' t = nt t ∧ cm' t = cm t) → ∀ y, St nt' cm' n y ↔ St nt cm n y := by
  intro n
  induction n with
  | zero => intro _ y; exact Iff.rfl
  | succ n ih =>
    intro h y
    have i := ih (fun t ht => h t (by omega)) y
    obtain ⟨e1, e2⟩ := h n (by omega)
    unfold St
    rw [e1, e2, i]
theorem Ct_c {cm cm' : Nat → Int} : ∀ n, (∀ t, t < n → cm' t = cm t) → Ct cm' n = Ct cm n := by
  intro n
  induction n with
  | zero => intro _; rfl
  | succ n ih =>
    intro h
    unfold Ct
    rw [ih (fun t ht => h t (by omega)), h n (by omega)]
theorem Ct_le {cm : Nat → Int} : ∀ n : Nat, Ct cm n ≤ (n : Int) := by
  intro n
  induction n with
  | zero => exact Int.le_refl _
  | succ n ih => unfold Ct; split <;> omega
theorem Vd_c {A : Int} {nt cm nt' cm' : Nat → Int} {n : Nat} (h : ∀ t, t < n → nt' t = nt t ∧ cm' t = cm t) (V : Vd A nt cm n) : Vd A nt' cm' n := by
  intro t ht
  obtain ⟨e1, e2⟩ := h t ht
  have s := St_c t (fun u hu => h u (by omega)) (nt t)
  obtain ⟨v1, v2, v3⟩ := V t ht
  rw [e1, e2, s]
  exact ⟨v1, v2, v3⟩
theorem Vd_w {A : Int} {nt cm : Nat → Int} {n m : Nat} (h : m ≤ n) (V : Vd A nt cm n) : Vd A nt cm m := fun t ht => V t (by omega)
theorem St_put {nt cm : Nat → Int} {t : Nat} (h : cm t = 1) (y : Int) : St nt cm (t + 1) y ↔ y = nt t ∨ St nt cm t y := by
  show (cm t = 1 ∧ (y = nt t ∨ St nt cm t y)) ∨ (cm t ≠ 1 ∧ y ≠ nt t ∧ St nt cm t y) ↔ _
  constructor
  · rintro (⟨_, z⟩ | ⟨z, _⟩)
    · exact z
    · exact absurd h z
  · intro z; exact Or.inl ⟨h, z⟩
theorem St_drop {nt cm : Nat → Int} {t : Nat} (h : cm t = 0) (y : Int) : St nt cm (t + 1) y ↔ y ≠ nt t ∧ St nt cm t y := by
  show (cm t = 1 ∧ (y = nt t ∨ St nt cm t y)) ∨ (cm t ≠ 1 ∧ y ≠ nt t ∧ St nt cm t y) ↔ _
  constructor
  · rintro (⟨z, _⟩ | ⟨_, z⟩)
    · omega
    · exact z
  · intro z; exact Or.inr ⟨by omega, z⟩
theorem Ct_put {cm : Nat → Int} {t : Nat} (h : cm t = 1) : Ct cm (t + 1) = Ct cm t + 1 := by
  show Ct cm t + (if cm t = 1 then 1 else -1) = _
  rw [if_pos h]
theorem Ct_drop {cm : Nat → Int} {t : Nat} (h : cm t = 0) : Ct cm (t + 1) = Ct cm t - 1 := by
  show Ct cm t + (if cm t = 1 then 1 else -1) = _
  rw [if_neg (by omega)]
  omega
/-! answers -/
def aAb (M : Int) (R : Nat → Int) (x v : Int) : Prop := ∃ p : Nat, PL M R (x + 1) p ∧ AT M R p v
def aBe (M : Int) (R : Nat → Int) (x v : Int) : Prop := ∃ p : Nat, PL M R x p ∧ AT M R ((p : Int) - 1) v
def aTe (M : Int) (R : Nat → Int) (w v : Int) : Prop := (w = 0 ∧ v = M) ∨ (w = 1 ∧ AT M R 0 v) ∨ (w ≠ 0 ∧ w ≠ 1 ∧ AT M R (M - 1) v)
def aHo (M : Int) (R : Nat → Int) (x v : Int) : Prop := (v = 1 ∧ ME M R x) ∨ (v = 0 ∧ ¬ ME M R x)
def aAn (M : Int) (R : Nat → Int) (call x v : Int) : Prop := (call = 3 ∧ aAb M R x v) ∨ (call = 4 ∧ aBe M R x v) ∨ (call ≠ 3 ∧ call ≠ 4 ∧ aHo M R x v)
theorem aAb_u {M N : Int} {R Q : Nat → Int} {x v w : Int} (e : RE M R N Q) (h : aAb M R x v) (g : aAb N Q x w) : v = w := by
  obtain ⟨p, p1, p2⟩ := h
  obtain ⟨q, q1, q2⟩ := g
  obtain rfl := PL_u (PL_c e p1) q1
  exact AT_u (AT_c e p2) q2
theorem aBe_u {M N : Int} {R Q : Nat → Int} {x v w : Int} (e : RE M R N Q) (h : aBe M R x v) (g : aBe N Q x w) : v = w := by
  obtain ⟨p, p1, p2⟩ := h
  obtain ⟨q, q1, q2⟩ := g
  obtain rfl := PL_u (PL_c e p1) q1
  exact AT_u (AT_c e p2) q2
theorem aTe_u {M N : Int} {R Q : Nat → Int} {x v w : Int} (e : RE M R N Q) (h : aTe M R x v) (g : aTe N Q x w) : v = w := by
  rcases h with ⟨h1, h2⟩ | ⟨h1, h2⟩ | ⟨h1, h3, h2⟩ <;> rcases g with ⟨g1, g2⟩ | ⟨g1, g2⟩ | ⟨g1, g3, g2⟩ <;> first | (exfalso; omega) | skip
  · rw [h2, g2, e.1]
  · exact AT_u (AT_c e h2) g2
  · exact AT_u (AT_c e h2) (by rw [← e.1]; exact g2)
theorem aHo_u {M N : Int} {R Q : Nat → Int} {x v w : Int} (e : RE M R N Q) (h : aHo M R x v) (g : aHo N Q x w) : v = w := by
  rcases h with ⟨h1, h2⟩ | ⟨h1, h2⟩ <;> rcases g with ⟨g1, g2⟩ | ⟨g1, g2⟩
  · rw [h1, g1]
  · exact absurd (ME_c e h2) g2
  · exact absurd (ME_c e.s g2) h2
  · rw [h1, g1]
theorem aAn_u {M N : Int} {R Q : Nat → Int} {c x v w : Int} (e : RE M R N Q) (h : aAn M R c x v) (g : aAn N Q c x w) : v = w := by
  rcases h with ⟨h1, h2⟩ | ⟨h1, h2⟩ | ⟨h1, h3, h2⟩ <;> rcases g with ⟨g1, g2⟩ | ⟨g1, g2⟩ | ⟨g1, g3, g2⟩ <;> first | (exfalso; omega) | skip
  · exact aAb_u e h2 g2
  · exact aBe_u e h2 g2
  · exact aHo_u e h2 g2
/-- what a refused or answered call says: 1, 2 what it throws, else its answer -/
def OC (c1 c2 : Prop) (Q : Int → Prop) (k v : Int) : Prop := (c1 ∧ k = 1) ∨ (¬ c1 ∧ c2 ∧ k = 2) ∨ (¬ c1 ∧ ¬ c2 ∧ k = 0 ∧ Q v)
theorem OC_u {c1 c2 d1 d2 : Prop} {Q P : Int → Prop} {k v l w : Int} (e1 : c1 ↔ d1) (e2 : ¬ c1 → (c2 ↔ d2)) (hq : ¬ c1 → ¬ c2 → ∀ v w, Q v → P w → v = w) (h : OC c1 c2 Q k v) (g : OC d1 d2 P l w) : l = k ∧ (k = 0 → v = w) := by
  rcases h with ⟨h1, h2⟩ | ⟨h1, h3, h2⟩ | ⟨h1, h3, h2, h4⟩ <;> rcases g with ⟨g1, g2⟩ | ⟨g1, g3, g2⟩ | ⟨g1, g3, g2, g4⟩
  · exact ⟨by omega, fun z => by omega⟩
  · exact absurd (e1.mp h1) g1
  · exact absurd (e1.mp h1) g1
  · exact absurd (e1.mpr g1) h1
  · exact ⟨by omega, fun z => by omega⟩
  · exact absurd ((e2 h1).mp h3) g3
  · exact absurd (e1.mpr g1) h1
  · exact absurd ((e2 h1).mpr g3) h3
  · exact ⟨by omega, fun _ => hq h1 h3 _ _ h4 g4⟩
end
section
/-! the class's rows: what is asked of them, what comes and goes -/
theorem h3_first {ad : List Nat} {h : hp} (L : Lay TLx ad h) {δ0 : dp} {N : Nat} (hN : 10000000 ≤ N) {a b : Nat} {x : Int32} (ka : q_K h.1 a = 3) (hb : q_O h.1 3 0 a = some b) {δ : dp} (I : CI ad h.1 δ0 δ) (S : SR (mM δ a) (mR δ b)) : hs (D_X3_firstFrom N h.1 a x δ) (fun r => r.2 = δ ∧ ∃ p : Nat, r.1.toInt = (p : Int) ∧ PL (mM δ a) (mR δ b) x.toInt p) := ok_h (f_firstFrom L hN ka hb I S)
theorem h3_at {N : Nat} {g : gp} {a b : Nat} {x : Int32} (hb : q_O g 3 0 a = some b) {δ : dp} : hs (D_X3_at N g a x δ) (fun r => r.2 = δ ∧ AT (mM δ a) (mR δ b) x.toInt r.1.toInt) := by
  have z0 : (0 : Int32).toInt = 0 := rfl
  unfold D_X3_at J_X3_at_12 J_X3_at_22
  refine hs_ite (fun c => ?_) (fun c => ?_)
  · have c1 := o_lt c
    exact hs_some ⟨rfl, Or.inr ⟨Or.inl (by omega), rfl⟩⟩
  · have c1 := o_nlt c
    refine hs_ite (fun d => ?_) (fun d => ?_)
    · have d1 := o_lt d
      have tx := ti_tn x
      exact hs_at hb (hs_gd (fun _ => hs_some ⟨rfl, Or.inl ⟨x.toNatClampNeg, by omega, by unfold mM; omega, rfl⟩⟩))
    · exact hs_some ⟨rfl, Or.inr ⟨Or.inr (o_nlt d), rfl⟩⟩
theorem h3_holds {ad : List Nat} {h : hp} (L : Lay TLx ad h) {δ0 : dp} {N : Nat} (hN : 10000000 ≤ N) {a b : Nat} {x : Int32} (ka : q_K h.1 a = 3) (hb : q_O h.1 3 0 a = some b) {δ : dp} (I : CI ad h.1 δ0 δ) (S : SR (mM δ a) (mR δ b)) : hs (D_X3_holds N h.1 a x δ) (fun r => r.2 = δ ∧ ((r.1 = 1 ∧ ME (mM δ a) (mR δ b) x.toInt) ∨ (r.1 = 0 ∧ ¬ ME (mM δ a) (mR δ b) x.toInt))) := by
  unfold D_X3_holds
  refine hs_bind (h3_first L hN (x := x) ka hb I S) (fun r hr => ?_)
  obtain ⟨e, p, hp, P⟩ := hr
  rw [e]
  have PM := PL_m S P
  have tp := ti_tn r.1
  refine hs_ite (fun c => ?_) (fun c => ?_)
  · have c1 := o_le c
    unfold J_X3_holds_28 J_X3_holds_29
    exact hs_gp (fun _ => hs_some ⟨rfl, Or.inr ⟨rfl, fun z => by have := (PM.mp z).1; unfold mM at this; omega⟩⟩)
  · have c1 := o_nle c
    refine hs_at hb (hs_gd (fun _ => ?_))
    have ep : r.1.toNatClampNeg = p := by omega
    rw [ep]
    refine hs_ite (fun z => ?_) (fun z => ?_)
    · unfold J_X3_holds_29
      exact hs_gp (fun _ => hs_some ⟨rfl, Or.inl ⟨rfl, PM.mpr ⟨by unfold mM; omega, congrArg Int32.toInt z⟩⟩⟩)
    · unfold J_X3_holds_28 J_X3_holds_29
      exact hs_gp (fun _ => hs_some ⟨rfl, Or.inr ⟨rfl, fun y => z (i_eq (PM.mp y).2)⟩⟩)
theorem h3_above {ad : List Nat} {h : hp} (L : Lay TLx ad h) {δ0 : dp} {N : Nat} (hN : 10000000 ≤ N) {a b : Nat} {x : Int32} (ka : q_K h.1 a = 3) (hb : q_O h.1 3 0 a = some b) {δ : dp} (I : CI ad h.1 δ0 δ) (S : SR (mM δ a) (mR δ b)) (h1 : x.toInt < 2147483647) : hs (D_X3_above N h.1 a x δ) (fun r => r.2 = δ ∧ aAb (mM δ a) (mR δ b) x.toInt r.1.toInt) := by
  have bx := ti_b x
  have t := te_addc (c := 1) (n := 1) rfl x (by omega) (by omega)
  unfold D_X3_above
  refine hs_bind (h3_first L hN (x := x + 1) ka hb I S) (fun r hr => ?_)
  obtain ⟨e, p, hp, P⟩ := hr
  rw [e]
  refine hs_bind (h3_at (x := r.1) hb) (fun r2 h2 => hs_some ⟨h2.1, p, ?_, ?_⟩)
  · rw [t.1] at P; exact P
  · rw [← hp]; exact h2.2
theorem h3_below {ad : List Nat} {h : hp} (L : Lay TLx ad h) {δ0 : dp} {N : Nat} (hN : 10000000 ≤ N) {a b : Nat} {x : Int32} (ka : q_K h.1 a = 3) (hb : q_O h.1 3 0 a = some b) {δ : dp} (I : CI ad h.1 δ0 δ) (S : SR (mM δ a) (mR δ b)) : hs (D_X3_below N h.1 a x δ) (fun r => r.2 = δ ∧ aBe (mM δ a) (mR δ b) x.toInt r.1.toInt) := by
  unfold D_X3_below
  refine hs_bind (h3_first L hN (x := x) ka hb I S) (fun r hr => ?_)
  obtain ⟨e, p, hp, P⟩ := hr
  rw [e]
  have br := ti_b r.1
  have t := te_subc (c := 1) (n := 1) rfl r.1 (by omega) (by omega)
  refine hs_bind (h3_at (x := r.1 - 1) hb) (fun r2 h2 => hs_some ⟨h2.1, p, P, ?_⟩)
  rw [← hp, ← t.1]; exact h2.2
theorem h3_tell {ad : List Nat} {h : hp} {δ0 : dp} {N : Nat} {a b : Nat} {x : Int32} (ka : q_K h.1 a = 3) (hb : q_O h.1 3 0 a = some b) {δ : dp} (I : CI ad h.1 δ0 δ) : hs (D_X3_tell N h.1 a x δ) (fun r => r.2 = δ ∧ aTe (mM δ a) (mR δ b) x.toInt r.1.toInt) := by
  have z0 : (0 : Int32).toInt = 0 := rfl
  have z1 : (1 : Int32).toInt = 1 := rfl
  have hB := cb_3_1 I ka hb
  have bm := ti_b (q_I δ 3 1 a)
  have t := te_subc (c := 1) (n := 1) rfl (q_I δ 3 1 a) (by omega) (by omega)
  unfold D_X3_tell J_X3_tell_34
  refine hs_ite (fun c => ?_) (fun c => ?_)
  · exact hs_some ⟨rfl, Or.inl ⟨by rw [c]; rfl, rfl⟩⟩
  · have c1 := o_ne c
    refine hs_ite (fun d => ?_) (fun d => ?_)
    · exact hs_bind (h3_at (x := 0) hb) (fun r2 h2 => hs_some ⟨h2.1, Or.inr (Or.inl ⟨by rw [d]; rfl, h2.2⟩)⟩)
    · have d1 := o_ne d
      refine hs_bind (h3_at (x := q_I δ 3 1 a - 1) hb) (fun r2 h2 => hs_some ⟨h2.1, Or.inr (Or.inr ⟨by omega, by omega, ?_⟩)⟩)
      have h3 := h2.2
      rw [t.1] at h3
      exact h3
/-- what add and remove leave -/
def fr3 (a b : Nat) (δ δ1 : dp) : Prop := (∀ c k a', ¬ (c = 3 ∧ k = 1 ∧ a' = a) → q_I δ1 c k a' = q_I δ c k a') ∧ ∀ b', b' ≠ b → q_R δ1 b' = q_R δ b'
theorem fr3.r {a b : Nat} {δ : dp} : fr3 a b δ δ := ⟨fun _ _ _ _ => rfl, fun _ _ => rfl⟩
theorem fr3.t {a b : Nat} {δ δ1 δ2 : dp} (h : fr3 a b δ δ1) (k : fr3 a b δ1 δ2) : fr3 a b δ δ2 := ⟨fun c q a' n => (k.1 c q a' n).trans (h.1 c q a' n), fun b' n => (k.2 b' n).trans (h.2 b' n)⟩
theorem fr3.M {a b : Nat} {δ δ1 : dp} {v : Int32} (e : δ1 = s_I δ 3 1 a v) : fr3 a b δ δ1 := ⟨fun c k a' n => by rw [e, qI_sI, if_neg n], fun _ _ => by rw [e]; rfl⟩
theorem fr3.R {a b : Nat} {δ δ1 : dp} {i : Nat} {v : Int32} (e : δ1 = s_R δ b i v) : fr3 a b δ δ1 := ⟨fun c k a' n => by rw [e]; rfl, fun b' n => by rw [e]; exact rR_o n⟩
theorem fr3.C {a b c0 : Nat} {δ δ1 : dp} {i j n : Nat} (e : δ1 = s_C δ c0 b i j n) : fr3 a b δ δ1 := ⟨fun c k a' n => by rw [e]; rfl, fun b' n => by rw [e]; exact va_up_ne _ _ n⟩
theorem g3_add {ad : List Nat} {h : hp} (L : Lay TLx ad h) {δ0 : dp} {N : Nat} (hN : 10000000 ≤ N) {a b : Nat} {x : Int32} (ka : q_K h.1 a = 3) (hb : q_O h.1 3 0 a = some b) {δ : dp} (I : CI ad h.1 δ0 δ) : hs (D_X3_add N h.1 a x δ) (fun r => fr3 a b δ r.2) := by
  have J : ∀ y, hs (J_X3_add_24 N h.1 a x y δ) (fun r => fr3 a b δ r.2) := by
    intro y
    unfold J_X3_add_24
    refine hs_at hb (hs_ite (fun c => ?_) (fun c => ?_))
    · refine hs_at hb (hs_at hb (hs_gd (fun _ => hs_bdv (fun d1 e1 => hs_at hb (hs_gd (fun _ => hs_bdv (fun d2 e2 => hs_bdv (fun d3 e3 => ?_))))))))
      exact hs_gp (fun _ => hs_some (((fr3.C e1).t (fr3.R e2)).t (fr3.M e3)))
    · unfold J_X3_add_36
      exact hs_gp (fun _ => hs_some fr3.r)
  unfold D_X3_add
  refine hs_bind (ok_h (k_X3_firstFrom L hN (x1 := x) ka I)) (fun r hr => ?_)
  rw [hr.1]
  refine hs_ite (fun c => J _) (fun c => hs_at hb (hs_gd (fun _ => hs_ite (fun _ => ?_) (fun _ => J _))))
  unfold J_X3_add_36
  exact hs_gp (fun _ => hs_some fr3.r)
theorem g3_remove {ad : List Nat} {h : hp} (L : Lay TLx ad h) {δ0 : dp} {N : Nat} (hN : 10000000 ≤ N) {a b : Nat} {x : Int32} (ka : q_K h.1 a = 3) (hb : q_O h.1 3 0 a = some b) {δ : dp} (I : CI ad h.1 δ0 δ) : hs (D_X3_remove N h.1 a x δ) (fun r => fr3 a b δ r.2) := by
  have J : hs (J_X3_remove_24 N h.1 a x δ) (fun r => fr3 a b δ r.2) := by
    unfold J_X3_remove_24
    exact hs_gp (fun _ => hs_some fr3.r)
  unfold D_X3_remove
  refine hs_bind (ok_h (k_X3_firstFrom L hN (x1 := x) ka I)) (fun r hr => ?_)
  rw [hr.1]
  refine hs_ite (fun c => J) (fun c => hs_at hb (hs_gd (fun _ => hs_ite (fun _ => ?_) (fun _ => J))))
  refine hs_bdv (fun d1 e1 => hs_at hb (hs_at hb (hs_gd (fun _ => hs_bdv (fun d2 e2 => ?_)))))
  exact hs_gp (fun _ => hs_some ((fr3.M e1).t (fr3.C e2)))
theorem IN_of {δ δ1 : dp} {a b p : Nat} {x : Int32} (H : ins δ δ1 a b x p) : IN (mM δ a) (mR δ b) x.toInt p (mM δ1 a) (mR δ1 b) := ⟨H.1, fun i hi => by
  show (q_R δ1 b i).toInt = _
  rw [H.2 i hi]
  by_cases c : i < p
  · rw [if_pos c, if_pos c]; rfl
  · rw [if_neg c, if_neg c]
    by_cases c2 : i = p
    · rw [if_pos c2, if_pos c2]
    · rw [if_neg c2, if_neg c2]; rfl⟩
theorem DE_of {δ δ1 : dp} {a b p : Nat} (H : del δ δ1 a b p) : DE (mM δ a) (mR δ b) p (mM δ1 a) (mR δ1 b) := ⟨H.1, fun i hi => by
  show (q_R δ1 b i).toInt = _
  rw [H.2 i hi]
  by_cases c : i < p
  · rw [if_pos c, if_pos c]; rfl
  · rw [if_neg c, if_neg c]; rfl⟩
/-- add: it was there (or there is no place), or it comes -/
theorem h3_add {ad : List Nat} {h : hp} (L : Lay TLx ad h) {δ0 : dp} {N : Nat} (hN : 10000000 ≤ N) {a b : Nat} {x : Int32} (ka : q_K h.1 a = 3) (hb : q_O h.1 3 0 a = some b) {δ : dp} (I : CI ad h.1 δ0 δ) (S : SR (mM δ a) (mR δ b)) : hs (D_X3_add N h.1 a x δ) (fun r => fr3 a b δ r.2 ∧ CI ad h.1 δ0 r.2 ∧ q_V r.2 = q_V δ ∧ ((r.1 = 0 ∧ r.2 = δ ∧ ((q_N h.1 b : Int) ≤ mM δ a ∨ ME (mM δ a) (mR δ b) x.toInt)) ∨ (r.1 = 1 ∧ ¬ ME (mM δ a) (mR δ b) x.toInt ∧ ∃ p : Nat, PL (mM δ a) (mR δ b) x.toInt p ∧ IN (mM δ a) (mR δ b) x.toInt p (mM r.2 a) (mR r.2 b)))) := by
  refine hs_mono (hs_and (hs_and (g3_add L hN (x := x) ka hb I) (ok_h (k_X3_add L hN (x1 := x) ka I))) (ok_h (f_add L hN (x := x) ka hb I S))) (fun r hr => ?_)
  obtain ⟨⟨h1, h2, ⟨_, h3⟩, _⟩, h4⟩ := hr
  refine ⟨h1, h2, h3, ?_⟩
  rcases h4 with ⟨e1, e2, e3⟩ | ⟨e1, p, P, ne, H⟩
  · refine Or.inl ⟨e1, e2, ?_⟩
    rcases e3 with e3 | ⟨p, P, e4, e5⟩
    · exact Or.inl e3
    · exact Or.inr ⟨p, e4, congrArg Int32.toInt e5⟩
  · refine Or.inr ⟨e1, fun z => ?_, p, P, IN_of H⟩
    obtain ⟨z1, z2⟩ := (PL_m S P).mp z
    exact ne z1 (i_eq z2)
theorem h3_remove {ad : List Nat} {h : hp} (L : Lay TLx ad h) {δ0 : dp} {N : Nat} (hN : 10000000 ≤ N) {a b : Nat} {x : Int32} (ka : q_K h.1 a = 3) (hb : q_O h.1 3 0 a = some b) {δ : dp} (I : CI ad h.1 δ0 δ) (S : SR (mM δ a) (mR δ b)) : hs (D_X3_remove N h.1 a x δ) (fun r => fr3 a b δ r.2 ∧ CI ad h.1 δ0 r.2 ∧ q_V r.2 = q_V δ ∧ ((r.1 = 0 ∧ r.2 = δ ∧ ¬ ME (mM δ a) (mR δ b) x.toInt) ∨ (r.1 = 1 ∧ ∃ p : Nat, (p : Int) < mM δ a ∧ mR δ b p = x.toInt ∧ DE (mM δ a) (mR δ b) p (mM r.2 a) (mR r.2 b)))) := by
  refine hs_mono (hs_and (hs_and (g3_remove L hN (x := x) ka hb I) (ok_h (k_X3_remove L hN (x1 := x) ka I))) (ok_h (f_remove L hN (x := x) ka hb I S))) (fun r hr => ?_)
  obtain ⟨⟨h1, h2, ⟨_, h3⟩, _⟩, h4⟩ := hr
  refine ⟨h1, h2, h3, ?_⟩
  rcases h4 with ⟨e1, e2, p, P, ne⟩ | ⟨e1, p, P, e4, e5, H⟩
  · refine Or.inl ⟨e1, e2, fun z => ?_⟩
    obtain ⟨z1, z2⟩ := (PL_m S P).mp z
    exact ne z1 (i_eq z2)
  · exact Or.inr ⟨e1, p, e4, congrArg Int32.toInt e5, DE_of H⟩
/-- answers of has, next, before -/
theorem h3_answer {ad : List Nat} {h : hp} (L : Lay TLx ad h) {δ0 : dp} {N : Nat} (hN : 10000000 ≤ N) {a b : Nat} {c x : Int32} (ka : q_K h.1 a = 3) (hb : q_O h.1 3 0 a = some b) {δ : dp} (I : CI ad h.1 δ0 δ) (S : SR (mM δ a) (mR δ b)) (h1 : x.toInt < 2147483647) (h2 : 2 ≤ c.toInt) : hs (D_X3_answer N h.1 a c x δ) (fun r => r.2 = δ ∧ aAn (mM δ a) (mR δ b) c.toInt x.toInt r.1.toInt) := by
  have z0 : (0 : Int32).toInt = 0 := rfl
  have z1 : (1 : Int32).toInt = 1 := rfl
  have z3 : (3 : Int32).toInt = 3 := rfl
  have z4 : (4 : Int32).toInt = 4 := rfl
  unfold D_X3_answer
  refine hs_ite (fun e => ?_) (fun e => ?_)
  · have e1 := o_eq e
    exact hs_bind (h3_above L hN (x := x) ka hb I S h1) (fun r hr => hs_some ⟨hr.1, Or.inl ⟨by omega, hr.2⟩⟩)
  · have e1 := o_ne e
    refine hs_ite (fun f => ?_) (fun f => ?_)
    · have f1 := o_eq f
      exact hs_bind (h3_below L hN (x := x) ka hb I S) (fun r hr => hs_some ⟨hr.1, Or.inr (Or.inl ⟨by omega, hr.2⟩)⟩)
    · have f1 := o_ne f
      refine hs_ite (fun k => by have := o_eq k; omega) (fun _ => hs_ite (fun k => by have := o_eq k; omega) (fun _ => ?_))
      refine hs_bind (h3_holds L hN (x := x) ka hb I S) (fun r hr => ?_)
      obtain ⟨q, hm⟩ := hr
      unfold J_X3_answer_52 J_X3_answer_62
      rcases hm with ⟨w, hm⟩ | ⟨w, hm⟩
      · rw [w]
        refine hs_ite (fun z => absurd z (by decide)) (fun _ => ?_)
        exact hs_some ⟨q, Or.inr (Or.inr ⟨by omega, by omega, Or.inl ⟨rfl, hm⟩⟩)⟩
      · rw [w]
        refine hs_ite (fun _ => ?_) (fun z => absurd rfl z)
        exact hs_some ⟨q, Or.inr (Or.inr ⟨by omega, by omega, Or.inr ⟨rfl, hm⟩⟩)⟩
end
