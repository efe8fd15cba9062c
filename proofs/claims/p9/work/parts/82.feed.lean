/-! feed on both sides: the same bytes -/
/-- the j-th byte of x -/
def bz (x : Int32) (j : Nat) : Int32 := (x >>> ((Int32.ofInt (24 - 8 * (j : Int))) &&& 31)) &&& 255
theorem bz_0 (x : Int32) (j : Nat) : 0 ≤ (bz x j).toInt := (an_le (a := x >>> ((Int32.ofInt (24 - 8 * (j : Int))) &&& 31)) (b := 255) (by decide)).1
theorem of_i {x : Int32} {v : Int} (h : x.toInt = v) : x = Int32.ofInt v := by rw [← h, Int32.ofInt_toInt]
theorem f7_take {N : Nat} {g : gp} {t bt T : Nat} (ob : q_O g 7 0 t = some bt) (nb : q_N g bt = 500) (hT : T + 4 ≤ 500) {x : Int32} : ∀ (m j : Nat) (y : Int32) (δ : dp), y.toInt = 24 - 8 * (j : Int) → j ≤ 4 → (q_I δ 7 1 t).toInt = ((T + j : Nat) : Int) → 4 - j < m → ok (L_X7_take_3 N g t x m y δ) (fun r => kp [(7, 1)] δ r ∧ q_V r = q_V δ ∧ (∀ b, b ≠ bt → q_R r b = q_R δ b) ∧ (q_I r 7 1 t).toInt = ((T + 4 : Nat) : Int) ∧ ∀ i, q_R r bt i = if T + j ≤ i ∧ i < T + 4 then bz x (i - T) else q_R δ bt i) := by
  intro m
  induction m with
  | zero => intro j y δ _ _ _ hm; omega
  | succ m ih =>
    intro j y δ hy hj hq hm
    have z0 : (0 : Int32).toInt = 0 := rfl
    have z5 : (500 : Int32).toInt = 500 := rfl
    unfold L_X7_take_3 J_X7_take_49
    refine ok_ite (fun c => ?_) (fun c => ?_)
    · have c1 := o_lt c
      obtain rfl : j = 4 := by omega
      exact ok_some ⟨fun _ _ _ _ => rfl, rfl, fun _ _ => rfl, hq, fun i => by rw [if_neg (by omega)]⟩
    · have c1 := o_nlt c
      refine ok_ite (fun c => by have := o_le c; omega) (fun _ => ?_)
      have tn := ti_tn (q_I δ 7 1 t)
      refine ok_at ob (ok_gd (fun z => ?_) ?_)
      · rcases z with z | z
        · have := o_lt z; omega
        · rw [nb] at z; omega
      have ix : (q_I δ 7 1 t).toNatClampNeg = T + j := by omega
      rw [ix]
      refine ok_bdv (fun d e => ok_bdv (fun d2 e2 => ok_biv (fun w ew => ?_)))
      have y1 := te_addc (c := -8) (n := -8) (by decide) y (by omega) (by omega)
      rw [← ew] at y1
      have d7 : q_I d 7 1 t = q_I δ 7 1 t := by rw [e]; rfl
      have a1 := te_addc (c := 1) (n := 1) rfl (q_I d 7 1 t) (by rw [d7]; omega) (by rw [d7]; omega)
      rw [d7] at a1
      refine ok_mono (ih (j + 1) w d2 (by omega) (by omega) (by rw [e2, rI_s, d7]; omega) (by omega)) (fun r hr => ?_)
      obtain ⟨h1, h2, h3, h4, h5⟩ := hr
      have kd : kp [(7, 1)] δ d2 := kp_w (by decide) (kp_I (kp_N (W := []) kp_r (show q_I d = q_I δ by rw [e]; rfl)) e2)
      refine ⟨kp_w (by decide) (kp_t kd h1), by rw [h2, e2, e]; rfl, fun b hb => ?_, h4, fun i => ?_⟩
      · rw [h3 b hb, e2, e]
        show q_R (s_R δ bt (T + j) _) b = _
        exact rR_o hb
      · rw [h5]
        have r2 : q_R d2 bt i = if i = T + j then (x >>> (y &&& 31)) &&& 255 else q_R δ bt i := by
          rw [e2, e]
          show q_R (s_R δ bt (T + j) _) bt i = _
          rw [qR_sR]
          by_cases z : i = T + j
          · rw [if_pos ⟨rfl, z⟩, if_pos z]
          · rw [if_neg (fun q => z q.2), if_neg z]
        rw [r2]
        by_cases z : i = T + j
        · subst z
          rw [if_neg (by omega), if_pos rfl, if_pos (by omega), of_i hy]
          unfold bz
          rw [show T + j - T = j by omega]
        · by_cases z2 : T + (j + 1) ≤ i ∧ i < T + 4
          · rw [if_pos z2, if_pos (by omega)]
          · rw [if_neg z2, if_neg z, if_neg (by omega)]
theorem fD_take {N : Nat} (hN : 10000000 ≤ N) {g : gp} {t bt T : Nat} (ob : q_O g 7 0 t = some bt) (nb : q_N g bt = 500) (hT : T + 4 ≤ 500) {x : Int32} {δ : dp} (hq : (q_I δ 7 1 t).toInt = (T : Int)) : ok (D_X7_take N g t x δ) (fun r => kp [(7, 1)] δ r ∧ q_V r = q_V δ ∧ (∀ b, b ≠ bt → q_R r b = q_R δ b) ∧ (q_I r 7 1 t).toInt = ((T + 4 : Nat) : Int) ∧ ∀ i, q_R r bt i = if T ≤ i ∧ i < T + 4 then bz x (i - T) else q_R δ bt i) := f7_take ob nb hT N 0 24 δ rfl (by omega) (by rw [hq]; rfl) (by omega)
/-- the k-th byte of a feed -/
def bY (x1 x2 x3 x4 x5 : Int32) (k : Nat) : Int32 := bz (if k < 4 then x1 else if k < 8 then x2 else if k < 12 then x3 else if k < 16 then x4 else x5) (k % 4)
theorem fc_feed {ad : List Nat} {h : hp} (L : Lay TLx ad h) {N : Nat} (hN : 10000000 ≤ N) {x1 x2 x3 x4 x5 : Int32} {δ : dp} (I : CI ad h.1 δ δ) : ok (D_X11_feed N h.1 (Ad ad 0) x1 x2 x3 x4 x5 δ) (fun r => kp [(7, 1)] δ r.2 ∧ q_V r.2 = q_V δ ∧ (∀ b, b ≠ Ad ad 2 → q_R r.2 b = q_R δ b) ∧ ((q_I δ 7 1 (Ad ad 1)).toInt + 20 ≤ 500 ∧ r.1.toInt = (q_I δ 7 1 (Ad ad 1)).toInt + 20 ∧ (q_I r.2 7 1 (Ad ad 1)).toInt = (q_I δ 7 1 (Ad ad 1)).toInt + 20 ∧ (∀ i, q_R r.2 (Ad ad 2) i = if (q_I δ 7 1 (Ad ad 1)).toInt.toNat ≤ i ∧ i < (q_I δ 7 1 (Ad ad 1)).toInt.toNat + 20 then bY x1 x2 x3 x4 x5 (i - (q_I δ 7 1 (Ad ad 1)).toInt.toNat) else q_R δ (Ad ad 2) i) ∨ 500 < (q_I δ 7 1 (Ad ad 1)).toInt + 20 ∧ r.1.toInt = -1 ∧ r.2 = δ)) := by
  have kt : q_K h.1 (Ad ad 1) = 7 := (lay_knd L (by decide)).trans (by decide)
  have b := cb_7_1 I kt
  have ob := fO_1_0 L
  have nb : q_N h.1 (Ad ad 2) = 500 := fN_2 L
  obtain ⟨T, hT⟩ : ∃ T : Nat, (q_I δ 7 1 (Ad ad 1)).toInt = (T : Int) := ⟨(q_I δ 7 1 (Ad ad 1)).toInt.toNat, by omega⟩
  rw [hT]
  unfold D_X11_feed
  refine ok_at (fO_0_0 L) ?_
  refine ok_bind (k_X7_hasPlace L hN kt I) (fun r3 h3 => ?_)
  obtain ⟨g1, g2, g3, g4⟩ := h3
  rw [g1]
  have bo3 := bo_t g2
  refine ok_ite (fun c => ?_) (fun c => ?_)
  · have c1 := o_eq c
    have z0 : (0 : Int32).toInt = 0 := rfl
    exact ok_some ⟨fun _ _ _ _ => rfl, rfl, fun _ _ => rfl, Or.inr ⟨by omega, rfl, rfl⟩⟩
  · have c1 := o_ne c
    have z0 : (0 : Int32).toInt = 0 := rfl
    have hT20 : T + 20 ≤ 500 := by omega
    refine ok_at (fO_0_0 L) (ok_bind (fD_take hN ob nb (by omega) hT) (fun d1 q1 => ?_))
    obtain ⟨a1, a2, a3, a4, a5⟩ := q1
    refine ok_at (fO_0_0 L) (ok_bind (fD_take hN ob nb (by omega) a4) (fun d2 q2 => ?_))
    obtain ⟨b1, b2, b3, b4, b5⟩ := q2
    refine ok_at (fO_0_0 L) (ok_bind (fD_take hN ob nb (by omega) b4) (fun d3 q3 => ?_))
    obtain ⟨c1', c2, c3, c4, c5⟩ := q3
    refine ok_at (fO_0_0 L) (ok_bind (fD_take hN ob nb (by omega) c4) (fun d4 q4 => ?_))
    obtain ⟨e1, e2, e3, e4, e5⟩ := q4
    refine ok_at (fO_0_0 L) (ok_bind (fD_take hN ob nb (by omega) e4) (fun d5 q5 => ?_))
    obtain ⟨f1, f2, f3, f4, f5⟩ := q5
    refine ok_at (fO_0_0 L) (ok_some ⟨kp_w (by decide) (kp_t (kp_t (kp_t (kp_t a1 b1) c1') e1) f1), f2.trans (e2.trans (c2.trans (b2.trans a2))), fun b hb => (f3 b hb).trans ((e3 b hb).trans ((c3 b hb).trans ((b3 b hb).trans (a3 b hb)))), Or.inl ⟨by omega, ?_, ?_, fun i => ?_⟩⟩)
    · show (q_I d5 7 1 (Ad ad 1)).toInt = _
      rw [f4]; omega
    · rw [f4]; omega
    · rw [show ((T : Int)).toNat = T by omega]
      rw [f5, e5, c5, b5, a5]
      by_cases w : T ≤ i ∧ i < T + 20
      · rw [if_pos w]
        unfold bY
        obtain ⟨k, rfl⟩ : ∃ k, i = T + k := ⟨i - T, by omega⟩
        rw [show T + k - T = k by omega]
        by_cases k4 : k < 4
        · rw [if_neg (by omega), if_neg (by omega), if_neg (by omega), if_neg (by omega), if_pos (by omega), if_pos k4, show k % 4 = k by omega]
        · by_cases k8 : k < 8
          · rw [if_neg (by omega), if_neg (by omega), if_neg (by omega), if_pos (by omega), if_neg k4, if_pos k8, show T + k - (T + 4) = k % 4 by omega]
          · by_cases k12 : k < 12
            · rw [if_neg (by omega), if_neg (by omega), if_pos (by omega), if_neg k4, if_neg k8, if_pos k12, show T + k - (T + 4 + 4) = k % 4 by omega]
            · by_cases k16 : k < 16
              · rw [if_neg (by omega), if_pos (by omega), if_neg k4, if_neg k8, if_neg k12, if_pos k16, show T + k - (T + 4 + 4 + 4) = k % 4 by omega]
              · rw [if_pos (by omega), if_neg k4, if_neg k8, if_neg k12, if_neg k16, show T + k - (T + 4 + 4 + 4 + 4) = k % 4 by omega]
      · rw [if_neg w, if_neg (by omega), if_neg (by omega), if_neg (by omega), if_neg (by omega), if_neg (by omega)]
theorem r_feed {N : Nat} {g : gp} {t bt T : Nat} (ob : q_O g 12 9 t = some bt) {x1 x2 x3 x4 x5 : Int32} : ∀ (m k : Nat) (y : Int32) (δ : dp), y.toInt = (k : Int) → k ≤ 20 → T ≤ 480 → (q_I δ 12 2 t).toInt = ((T + k : Nat) : Int) → hs (L_X12_feed_23 N g t x1 x2 x3 x4 x5 m y δ) (fun r => ∀ i, q_R r.2 bt i = if T + k ≤ i ∧ i < T + 20 then bY x1 x2 x3 x4 x5 (i - T) else q_R δ bt i) := by
  intro m
  induction m with
  | zero => intro k y δ _ _ _ _; exact hs_none
  | succ m ih =>
    intro k y δ hy hk hT hq
    have z0 : (0 : Int32).toInt = 0 := rfl
    have e4 : (4 : Int32).toInt = 4 := rfl
    have e8 : (8 : Int32).toInt = 8 := rfl
    have e12 : (12 : Int32).toInt = 12 := rfl
    have e16 : (16 : Int32).toInt = 16 := rfl
    have e20 : (20 : Int32).toInt = 20 := rfl
    have go : k < 20 → ∀ x : Int32, x = (if k < 4 then x1 else if k < 8 then x2 else if k < 12 then x3 else if k < 16 then x4 else x5) → hs (J_X12_feed_76 N g t x1 x2 x3 x4 x5 (L_X12_feed_23 N g t x1 x2 x3 x4 x5 m) x y δ) (fun r => ∀ i, q_R r.2 bt i = if T + k ≤ i ∧ i < T + 20 then bY x1 x2 x3 x4 x5 (i - T) else q_R δ bt i) := by
      intro hk20 x hx
      unfold J_X12_feed_76
      refine hs_at ob (hs_gd (fun _ => hs_bdv (fun d e => hs_bdv (fun d2 e2 => hs_biv (fun w ew => ?_)))))
      have tn := ti_tn (q_I δ 12 2 t)
      have ix : (q_I δ 12 2 t).toNatClampNeg = T + k := by omega
      have d7 : q_I d 12 2 t = q_I δ 12 2 t := by rw [e]; rfl
      have a1 := te_addc (c := 1) (n := 1) rfl (q_I d 12 2 t) (by rw [d7]; omega) (by rw [d7]; omega)
      rw [d7] at a1
      have y1 := te_addc (c := 1) (n := 1) rfl y (by omega) (by omega)
      rw [← ew] at y1
      have dv := ti_div (c := 4) (n := 4) rfl (by decide) y (by omega)
      have mu := te_mulr (c := 4) (n := 4) rfl (y / 4) (by omega) (by omega)
      have su := te_sub y (y / 4 * 4) (by omega) (by omega)
      have m8 := te_mulc (c := 8) (n := 8) rfl (y - y / 4 * 4) (by omega) (by omega)
      have s8 := te_csub (c := 24) (n := 24) rfl ((8 : Int32) * (y - y / 4 * 4)) (by omega) (by omega)
      refine hs_mono (ih (k + 1) w d2 (by omega) (by omega) hT (by rw [e2, rI_s, d7]; omega)) (fun r hr i => ?_)
      rw [hr i]
      have r2 : q_R d2 bt i = if i = T + k then bz x (k % 4) else q_R δ bt i := by
        rw [e2, e, ix]
        show q_R (s_R δ bt (T + k) _) bt i = _
        rw [qR_sR]
        by_cases z : i = T + k
        · rw [if_pos ⟨rfl, z⟩, if_pos z]
          unfold bz
          rw [of_i (v := 24 - 8 * ((k % 4 : Nat) : Int)) (x := (24 : Int32) - ((8 : Int32) * (y - y / 4 * 4))) (by omega)]
        · rw [if_neg (fun q => z q.2), if_neg z]
      rw [r2]
      by_cases z : i = T + k
      · subst z
        rw [if_neg (by omega), if_pos rfl, if_pos (by omega)]
        unfold bY
        rw [show T + k - T = k by omega, hx]
      · by_cases z2 : T + (k + 1) ≤ i ∧ i < T + 20
        · rw [if_pos z2, if_pos (by omega)]
        · rw [if_neg z2, if_neg z, if_neg (by omega)]
    unfold L_X12_feed_23
    refine hs_ite (fun c => hs_some (fun i => ?_)) (fun c => ?_)
    · have := o_le c
      rw [if_neg (by omega)]
    · have c1 := o_nle c
      refine hs_ite (fun a => ?_) (fun a => ?_)
      · have a1 := o_le a
        refine hs_ite (fun b => ?_) (fun b => ?_)
        · have b1 := o_le b
          refine hs_ite (fun c => ?_) (fun c => ?_)
          · have c1 := o_le c
            refine hs_ite (fun d => ?_) (fun d => ?_)
            · have d1 := o_le d
              exact go (by omega) _ (by rw [if_neg (by omega), if_neg (by omega), if_neg (by omega), if_neg (by omega)])
            · have d1 := o_nle d
              exact go (by omega) _ (by rw [if_neg (by omega), if_neg (by omega), if_neg (by omega), if_pos (by omega)])
          · have c1 := o_nle c
            exact go (by omega) _ (by rw [if_neg (by omega), if_neg (by omega), if_pos (by omega)])
        · have b1 := o_nle b
          exact go (by omega) _ (by rw [if_neg (by omega), if_pos (by omega)])
      · have a1 := o_nle a
        exact go (by omega) _ (by rw [if_pos (by omega)])
theorem hr_feed {N : Nat} {g : gp} {t bt T : Nat} (ob : q_O g 12 9 t = some bt) {x1 x2 x3 x4 x5 : Int32} {δ : dp} (hq : (q_I δ 12 2 t).toInt = (T : Int)) (hT : T ≤ 500) : hs (D_X12_feed N g t x1 x2 x3 x4 x5 δ) (fun r => (T + 20 ≤ 500 → ∀ i, q_R r.2 bt i = if T ≤ i ∧ i < T + 20 then bY x1 x2 x3 x4 x5 (i - T) else q_R δ bt i) ∧ (500 < T + 20 → q_R r.2 bt = q_R δ bt)) := by
  have e500 : (500 : Int32).toInt = 500 := rfl
  unfold D_X12_feed
  refine hs_bdv (fun d e => ?_)
  have d2 : q_I d 12 2 t = q_I δ 12 2 t := by rw [e, rI_o (by decide)]
  have dR : q_R d = q_R δ := by rw [e]; rfl
  have a1 := te_addc (c := 20) (n := 20) rfl (q_I d 12 2 t) (by rw [d2]; omega) (by rw [d2]; omega)
  rw [d2] at a1
  rw [d2]
  refine hs_ite (fun c => ?_) (fun c => ?_)
  · have c1 := o_le c
    refine hs_mono (r_feed (T := T) ob N 0 0 d rfl (by omega) (by omega) (by rw [d2, hq]; rfl)) (fun r hr => ⟨fun _ i => ?_, fun z => by omega⟩)
    rw [hr i, dR]; rfl
  · have c1 := o_nle c
    exact hs_some ⟨fun z => by omega, fun _ => by rw [dR]⟩
