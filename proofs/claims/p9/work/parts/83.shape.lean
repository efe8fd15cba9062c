/-! shape on both sides: the same answer, the same SHAPE -/
theorem hs_bxv {ρ : Type} {F : Option ((Unit ⊕ Nat) × dp)} {tw : Nat → dp → ρ} {o : dp → Option ρ} {P : (Unit ⊕ Nat) × dp → Prop} {Q : ρ → Prop} (h : hs F P) (k1 : ∀ n δ, P (.inr n, δ) → Q (tw n δ)) (k2 : ∀ δ, P (.inl (), δ) → hs (o δ) Q) : hs (bxv F tw o) Q := by
  unfold bxv
  refine hs_bind h (fun r hr => ?_)
  obtain ⟨c | n, d⟩ := r
  · cases c; exact k2 d hr
  · exact hs_some (k1 n d hr)
/-- the class's SHAPE and the number of its images -/
def KS (ad : List Nat) (δ r : dp) : Prop := q_I r 5 0 (Ad ad 3) = q_I δ 5 0 (Ad ad 3) ∧ q_I r 5 1 (Ad ad 3) = q_I δ 5 1 (Ad ad 3) ∧ q_I r 5 2 (Ad ad 3) = q_I δ 5 2 (Ad ad 3) ∧ q_I r 11 12 (Ad ad 0) = q_I δ 11 12 (Ad ad 0)
theorem KS.k {ad : List Nat} {δ r : dp} {W : List (Nat × Nat)} (k : kp W δ r) (h0 : (5, 0) ∉ W) (h1 : (5, 1) ∉ W) (h2 : (5, 2) ∉ W) (h3 : (11, 12) ∉ W) : KS ad δ r := ⟨k 5 0 _ h0, k 5 1 _ h1, k 5 2 _ h2, k 11 12 _ h3⟩
/-- what the class's shape leaves -/
def SE (ad : List Nat) (δ : dp) (o : Nat ⊕ PS) (v : Int32) (r : dp) : Prop := match o with
  | .inl k => v.toInt = (k : Int) - 10 ∧ KS ad δ r
  | .inr y => v = y.2.2.1 ∧ q_I r 5 0 (Ad ad 3) = y.2.2.1 ∧ q_I r 5 1 (Ad ad 3) = y.2.2.2.1 ∧ q_I r 5 2 (Ad ad 3) = y.2.2.2.2 ∧ q_I r 11 12 (Ad ad 0) = 0
theorem hl_77 {ad : List Nat} {h : hp} (L : Lay TLx ad h) {δ0 : dp} {N : Nat} (hN : 10000000 ≤ N) {x1 : Int32} : ∀ (m i : Nat) (y : Int32) (δ : dp), y.toInt = (i : Int) → i ≤ 4 → CI ad h.1 δ0 δ → hs (L_X11_shape_77 N h.1 (Ad ad 0) x1 m y δ) (fun r => ∃ v, r.1 = .inl v ∧ v = q_I δ 5 0 (Ad ad 3) ∧ q_I r.2 5 0 (Ad ad 3) = q_I δ 5 0 (Ad ad 3) ∧ q_I r.2 5 1 (Ad ad 3) = q_I δ 5 1 (Ad ad 3) ∧ q_I r.2 5 2 (Ad ad 3) = q_I δ 5 2 (Ad ad 3) ∧ q_I r.2 11 12 (Ad ad 0) = 0) := by
  have k0 : q_K h.1 (Ad ad 0) = 11 := (lay_knd L (by decide)).trans (by decide)
  intro m
  induction m with
  | zero => intro i y δ _ _ _; exact hs_none
  | succ m ih =>
    intro i y δ hy hi I
    have e4 : (4 : Int32).toInt = 4 := rfl
    unfold L_X11_shape_77
    refine hs_ite (fun c => ?_) (fun c => ?_)
    · refine hs_bdv (fun d e => ?_)
      have id : CI ad h.1 δ0 d := by rw [e]; exact cs_11_12 L I k0 (by decide) (by decide)
      have kd : kp [(11, 12)] δ d := kp_w (by decide) (kp_I kp_r e)
      obtain ⟨b8, o8, q8⟩ := gO_11_8 L k0
      refine hs_at o8 (hs_bind (ok_h (k_X4_forget L hN q8 id)) (fun d2 h2 => ?_))
      obtain ⟨i2, ⟨u2, _⟩⟩ := h2
      obtain ⟨b9, o9, q9⟩ := gO_11_9 L k0
      refine hs_at o9 (hs_bind (ok_h (k_X10_forget L hN q9 i2)) (fun d3 h3 => ?_))
      obtain ⟨i3, ⟨u3, _⟩⟩ := h3
      obtain ⟨b10, o10, q10⟩ := gO_11_10 L k0
      refine hs_at o10 (hs_bind (ok_h (k_X0_forget L hN q10 i3)) (fun d4 h4 => ?_))
      obtain ⟨i4, ⟨u4, _⟩⟩ := h4
      refine hs_at (fO_0_1 L) (hs_some ?_)
      have K : kp [(0, 4), (0, 6), (4, 16), (11, 12)] δ d4 := kp_w (by decide) (kp_t (kp_t (kp_t kd u2) u3) u4)
      have K2 : kp [(0, 4), (0, 6), (4, 16)] d d4 := kp_w (by decide) (kp_t (kp_t u2 u3) u4)
      exact ⟨_, rfl, K 5 0 _ (by decide), K 5 0 _ (by decide), K 5 1 _ (by decide), K 5 2 _ (by decide), by rw [K2 11 12 _ (by decide), e, rI_s]⟩
    · have c1 := o_nle c
      have ty := ti_tn y
      obtain ⟨b6, o6, q6⟩ := gO_11_6 L k0
      refine hs_at o6 (hs_gd (fun _ => ?_))
      obtain ⟨d, od, qd⟩ := gE_11_6 L k0 o6 (i := y.toNatClampNeg) (by omega)
      refine hs_at od (hs_bind (ok_h (k_X2_clear L hN (by first | exact qd | exact qd.1) I)) (fun d2 h2 => ?_))
      obtain ⟨i2, ⟨u2, _⟩⟩ := h2
      refine hs_biv (fun w ew => ?_)
      have y1 := te_addc (c := 1) (n := 1) rfl y (by omega) (by omega)
      rw [← ew] at y1
      refine hs_mono (ih (i + 1) w d2 (by omega) (by omega) i2) (fun r hr => ?_)
      obtain ⟨v, a1, a2, a3, a4, a5, a6⟩ := hr
      exact ⟨v, a1, a2.trans (u2 5 0 _ (by decide)), a3.trans (u2 5 0 _ (by decide)), a4.trans (u2 5 1 _ (by decide)), a5.trans (u2 5 2 _ (by decide)), a6⟩
set_option maxHeartbeats 4000000 in
theorem hc_shape {ad : List Nat} {h : hp} (L : Lay TLx ad h) {δ0 : dp} {N : Nat} (hN : 10000000 ≤ N) {x1 : Int32} {δ : dp} (I : CI ad h.1 δ0 δ) (hβ : ∀ i : Nat, (i : Int) < (q_I δ 7 1 (Ad ad 1)).toInt → 0 ≤ (q_R δ (Ad ad 2) i).toInt) : hs (D_X11_shape N h.1 (Ad ad 0) x1 δ) (fun r => match r.1 with | .inl v => SE ad δ (rZ (q_R δ (Ad ad 2)) x1.toInt.toNat 501 (0, 0, 8, 1, 1)) v r.2 | .inr _ => KS ad δ r.2) := by
  have k0 : q_K h.1 (Ad ad 0) = 11 := (lay_knd L (by decide)).trans (by decide)
  have k1 : q_K h.1 (Ad ad 1) = 7 := (lay_knd L (by decide)).trans (by decide)
  have k3 : q_K h.1 (Ad ad 3) = 5 := (lay_knd L (by decide)).trans (by decide)
  have k4 : q_K h.1 (Ad ad 4) = 6 := (lay_knd L (by decide)).trans (by decide)
  have z0 : (0 : Int32).toInt = 0 := rfl
  have b71 := cb_7_1 I k1
  have no : hs (J_X11_shape_20 N h.1 (Ad ad 0) x1 (Ad ad 0) δ) (fun r => match r.1 with | .inl v => SE ad δ (rZ (q_R δ (Ad ad 2)) x1.toInt.toNat 501 (0, 0, 8, 1, 1)) v r.2 | .inr _ => KS ad δ r.2) := by
    unfold J_X11_shape_20 J_X11_shape_21
    refine hs_bxv (ok_h (k_X11_need L hN (x1 := 0) k0 I)) (fun n d hd => ?_) (fun d hd => ?_)
    · exact KS.k hd.2.1.1 (by decide) (by decide) (by decide) (by decide)
    · exact absurd z0 (show (0 : Int32).toInt ≠ 0 from hd.2.2)
  unfold D_X11_shape
  refine hs_ite (fun _ => no) (fun c1 => ?_)
  have c2 := o_nlt c1
  refine hs_at (fO_0_0 L) (hs_ite (fun _ => no) (fun c3 => ?_))
  have c4 := o_nlt c3
  unfold J_X11_shape_21
  refine hs_bxv (ok_h (k_X11_need L hN (x1 := 1) k0 I)) (fun n d hd => ?_) (fun d hd => ?_)
  · exact KS.k hd.2.1.1 (by decide) (by decide) (by decide) (by decide)
  obtain ⟨id, ⟨ud, _⟩, _⟩ := hd
  have r2 : ∀ e, CI ad h.1 δ0 e → q_R e (Ad ad 2) = q_R δ (Ad ad 2) := fun e ie => (ie.2.2.2.2 2 (Or.inr rfl) (by decide)).trans (I.2.2.2.2 2 (Or.inr rfl) (by decide)).symm
  refine hs_at (fO_0_0 L) (hs_bind (hs_and (ok_h (k_X7_open L hN (x1 := x1) k1 (by omega) (by omega) id)) (Q := fun r => q_I r 7 2 (Ad ad 1) = x1 ∧ (q_I r 7 3 (Ad ad 1)).toInt = 0) ?_) (fun e he => ?_))
  · unfold D_X7_open
    refine hs_bdv (fun d1 e1 => hs_bdv (fun d2 e2 => hs_bdv (fun d3 e3 => hs_bdv (fun d4 e4 => hs_bdv (fun d5 e5 => hs_some ⟨?_, ?_⟩)))))
    · rw [e5, rI_o (by decide), e4, rI_o (by decide), e3, rI_o (by decide), e2, rI_s]
    · rw [e5, rI_o (by decide), e4, rI_o (by decide), e3, rI_s]; rfl
  obtain ⟨⟨ie, ⟨ue, _, _⟩, e5, _⟩, e2, e3⟩ := he
  refine hs_at (fO_0_2 L) (hs_at (fO_0_0 L) ?_)
  have nb : Ad ad 2 ≠ Ad ad 5 := ad_ne L (by decide) (by decide) (by decide)
  refine hs_bind (hs_and (ok_h (k_X6_read L hN k4 k1 ie)) (hD_read6 (n := x1.toInt.toNat) (by omega) (fO_1_0 L) (fO_4_3 L) nb (fun j hj => by rw [r2 e ie]; exact hβ j (by omega)) e3 (by rw [e2]; omega) (i_eq e5))) (fun f hf => ?_)
  obtain ⟨⟨jf, ⟨uf, _⟩, sf⟩, ce⟩ := hf
  rw [r2 e ie] at ce
  have kf : kp [(6, 0), (6, 1), (6, 2), (7, 1), (7, 2), (7, 3), (7, 4), (7, 5), (7, 6)] δ f := kp_w (by decide) (kp_t (kp_t ud ue) uf)
  refine hs_at (fO_0_0 L) ?_
  refine hs_bind (P := fun r => r.2 = f ∧ (r.1 = 1 ∧ q_I f 7 5 (Ad ad 1) = 0 ∨ r.1 = 0 ∧ q_I f 7 5 (Ad ad 1) ≠ 0)) ?_ (fun r hr => ?_)
  · unfold D_X7_isSound J_X7_isSound_12
    exact hs_ite (fun c => hs_gp (fun _ => hs_some ⟨rfl, Or.inl ⟨rfl, c⟩⟩)) (fun c => hs_gp (fun _ => hs_some ⟨rfl, Or.inr ⟨rfl, c⟩⟩))
  obtain ⟨g1, g2⟩ := hr
  rw [g1]
  refine hs_ite (fun c => ?_) (fun c => ?_)
  · refine hs_at (fO_0_0 L) (hs_some ?_)
    rcases g2 with ⟨a, _⟩ | ⟨_, b⟩
    · rw [a] at c; exact absurd c (by decide)
    show SE ad δ _ _ _
    cases hz : rZ (q_R δ (Ad ad 2)) x1.toInt.toNat 501 (0, 0, 8, 1, 1) with
    | inl k =>
      rw [hz] at ce
      obtain ⟨ce1, ce2⟩ := ce
      have bk := ti_b (q_I f 7 5 (Ad ad 1))
      refine ⟨?_, KS.k kf (by decide) (by decide) (by decide) (by decide)⟩
      have s1 := te_subc (c := 10) (n := 10) rfl (q_I f 7 5 (Ad ad 1)) (by omega) (by omega)
      omega
    | inr y =>
      rw [hz] at ce
      exact absurd ce.1 b
  · have f0 : q_I f 7 5 (Ad ad 1) = 0 := by
      rcases g2 with ⟨_, b⟩ | ⟨a, _⟩
      · exact b
      · exact absurd a c
    cases hz : rZ (q_R δ (Ad ad 2)) x1.toInt.toNat 501 (0, 0, 8, 1, 1) with
    | inl k =>
      rw [hz] at ce
      have := ce.1
      rw [f0] at this
      exact absurd (show (0 : Int) = k from this) (by have := ce.2; omega)
    | inr y =>
      rw [hz] at ce
      obtain ⟨_, w1, w2, w3⟩ := ce
      obtain ⟨s1, s2, s3, s4⟩ := sf (by rw [f0]; rfl)
      refine hs_at (fO_0_1 L) (hs_at (fO_0_2 L) (hs_bind (hs_and (ok_h (k_X5_take L hN k3 k4 s1 s2 s3 s4 jf)) (Q := fun q => q_I q 5 0 (Ad ad 3) = q_I f 6 0 (Ad ad 4) ∧ q_I q 5 1 (Ad ad 3) = q_I f 6 1 (Ad ad 4) ∧ q_I q 5 2 (Ad ad 3) = q_I f 6 2 (Ad ad 4)) ?_) (fun q hq => ?_)))
      · unfold D_X5_take
        refine hs_bdv (fun d1 e1 => hs_gp (fun _ => hs_bdv (fun d2 e2 => hs_bdv (fun d3 e3 => hs_some ⟨?_, ?_, ?_⟩))))
        · rw [e3, rI_o (by decide), e2, rI_o (by decide), e1, rI_s]
        · rw [e3, rI_o (by decide), e2, rI_s, e1, rI_o (by decide)]
        · rw [e3, rI_s, e2, rI_o (by decide), e1, rI_o (by decide)]
      obtain ⟨⟨iq, _⟩, t0, t1, t2⟩ := hq
      refine hs_mono (hl_77 L hN N 0 0 q rfl (by omega) iq) (fun r hr => ?_)
      obtain ⟨v, a1, a2, a3, a4, a5, a6⟩ := hr
      rw [a1]
      show SE ad δ (.inr y) v r.2
      exact ⟨by rw [a2, t0, w1], by rw [a3, t0, w1], by rw [a4, t1, w2], by rw [a5, t2, w3], a6⟩
/-- the reference's shape -/
theorem hr_shape {ad : List Nat} {h : hp} (L : Lay TLx ad h) {δ0 : dp} {N : Nat} (hN : 10000000 ≤ N) {x1 : Int32} {t : Nat} (kt : q_K h.1 t = 12) {δ : dp} (I : RI ad h.1 δ0 δ) : hs (D_X12_shape N h.1 t x1 δ) (fun r => (0 ≤ x1.toInt ∧ x1.toInt ≤ (q_I δ 12 2 t).toInt → RF t δ (rZ (q_R δ (Ad ad 101)) x1.toInt.toNat 501 (0, 0, 8, 1, 1)) r) ∧ ((x1.toInt < 0 ∨ (q_I δ 12 2 t).toInt < x1.toInt) → q_I r.2 12 10 t = q_I δ 12 10 t ∧ q_I r.2 12 11 t = q_I δ 12 11 t ∧ q_I r.2 12 12 t = q_I δ 12 12 t ∧ q_I r.2 12 18 t = q_I δ 12 18 t)) := by
  have z0 : (0 : Int32).toInt = 0 := rfl
  have b2 := cb_12_2 I kt
  obtain ⟨bt, ob, _⟩ := gO_12_9 L kt
  have eb := gS_12_9 L kt ob
  unfold D_X12_shape
  refine hs_bdv (fun d e => ?_)
  have id : RI ad h.1 δ0 d := by rw [e]; exact cs_12_0 L I
  have kd : kp [(12, 0)] δ d := kp_w (by decide) (kp_I kp_r e)
  have dR : q_R d = q_R δ := by rw [e]; rfl
  have d2 := kd 12 2 t (by decide)
  have no : x1.toInt < 0 ∨ (q_I δ 12 2 t).toInt < x1.toInt → hs (J_X12_shape_22 N h.1 t x1 t d) (fun r => (0 ≤ x1.toInt ∧ x1.toInt ≤ (q_I δ 12 2 t).toInt → RF t δ (rZ (q_R δ (Ad ad 101)) x1.toInt.toNat 501 (0, 0, 8, 1, 1)) r) ∧ ((x1.toInt < 0 ∨ (q_I δ 12 2 t).toInt < x1.toInt) → q_I r.2 12 10 t = q_I δ 12 10 t ∧ q_I r.2 12 11 t = q_I δ 12 11 t ∧ q_I r.2 12 12 t = q_I δ 12 12 t ∧ q_I r.2 12 18 t = q_I δ 12 18 t)) := by
    intro hx
    unfold J_X12_shape_22 J_X12_shape_23
    refine hs_bind (ok_h (k_X12_may L hN (a0 := t) (x1 := 0) (x2 := 1) (x3 := 2) kt (by decide) (by decide) (by decide) id)) (fun r hr => ?_)
    obtain ⟨i4, ⟨u4, _, _⟩, b4, g4, _⟩ := hr
    have K : kp [(12, 0)] δ r.2 := kp_w (by decide) (kp_t kd u4)
    refine hs_ite (fun _ => hs_some ⟨fun z => by omega, fun _ => ⟨K 12 10 _ (by decide), K 12 11 _ (by decide), K 12 12 _ (by decide), K 12 18 _ (by decide)⟩⟩) (fun c => ?_)
    have n4 := bo_l b4
    have m4 := o_ne c
    exact absurd z0 (g4 (by omega))
  refine hs_ite (fun c => no (by have := o_lt c; omega)) (fun c1 => ?_)
  rw [d2]
  refine hs_ite (fun c => no (by have := o_lt c; omega)) (fun c2 => ?_)
  have c3 := o_nlt c1
  have c4 := o_nlt c2
  unfold J_X12_shape_23
  refine hs_bind (ok_h (k_X12_may L hN (a0 := t) (x1 := 1) (x2 := 1) (x3 := 2) kt (by decide) (by decide) (by decide) id)) (fun r hr => ?_)
  obtain ⟨i4, ⟨u4, _, w4⟩, b4, _, g5⟩ := hr
  have K : kp [(12, 0)] δ r.2 := kp_w (by decide) (kp_t kd u4)
  refine hs_ite (fun c => ?_) (fun _ => ?_)
  · have := g5 (by rw [e, rI_s]; rfl) (o_eq c)
    exact absurd this (by decide)
  have r101 : q_R r.2 (Ad ad 101) = q_R δ (Ad ad 101) := by rw [w4 101 (by decide) (by decide) (by decide), dR]
  refine hs_bind (P := fun q => kp [(12, 2), (12, 3), (12, 4), (12, 5), (12, 7), (12, 8)] r.2 q ∧ q_R q = q_R r.2 ∧ RS t x1.toInt.toNat 0 q) ?_ (fun q hq => ?_)
  · unfold D_X12_begins
    refine hs_bdv (fun d1 e1 => hs_bdv (fun d2 e2 => hs_bdv (fun d3 e3 => hs_bdv (fun d4 e4 => hs_bdv (fun d5 e5 => hs_bdv (fun d6 e6 => hs_some ⟨kp_w (by decide) (kp_I (kp_I (kp_I (kp_I (kp_I (kp_I kp_r e1) e2) e3) e4) e5) e6), by rw [e6, e5, e4, e3, e2, e1]; rfl, ?_, ?_, ?_⟩))))))
    · rw [e6, rI_o (by decide), e5, rI_o (by decide), e4, rI_s]; rfl
    · rw [e6, rI_o (by decide), e5, rI_o (by decide), e4, rI_o (by decide), e3, rI_s]; omega
    · rw [e6, rI_o (by decide), e5, rI_s]
  · obtain ⟨q1, q2, q3⟩ := hq
    have qb : q_R q bt = q_R δ (Ad ad 101) := by rw [q2, eb]; exact r101
    refine hs_mono (rl_49 hN (by omega) ob N 501 0 0 8 1 1 q (Nat.zero_le _) (by decide) (by omega) qb q3) (fun y hy => ⟨fun _ => ?_, fun z => by omega⟩)
    exact (hy.k q1 (by decide) (by decide) (by decide) (by decide)).k K (by decide) (by decide) (by decide) (by decide)
