section
/-! a THIEF at work; the house is put back -/
theorem TH_k {ad : List Nat} {a0 : Nat} {δ d : dp} (T : TH ad a0 δ) (h24 : q_I d 12 24 a0 = q_I δ 12 24 a0) (h2 : q_R d (Ad ad 112) = q_R δ (Ad ad 112)) (h3 : q_R d (Ad ad 113) = q_R δ (Ad ad 113)) (h4 : q_R d (Ad ad 114) = q_R δ (Ad ad 114)) (h5 : q_R d (Ad ad 115) = q_R δ (Ad ad 115)) (h6 : q_R d (Ad ad 116) = q_R δ (Ad ad 116)) : TH ad a0 d := by
  have e : tN a0 d = tN a0 δ := by unfold tN; rw [h24]
  intro t ht
  rw [h2, h3, h4, h5, h6]
  exact T t (by omega)
theorem stp_q {κ φ τ ρ : Nat → Int32} {t S : Nat} (s : stp κ φ τ ρ t 0 S 0 (500 * t + 500)) : ∃ dl, stq κ φ τ ρ t S dl := by
  obtain ⟨dl, h⟩ := s
  exact ⟨dl, fun i hi => (h i (Nat.zero_le _) hi).2⟩
abbrev WW : List (Nat × Nat) := [(12, 36), (12, 47), (12, 49), (12, 50), (12, 51), (12, 52), (12, 53), (12, 54), (12, 55), (12, 56), (12, 58), (12, 59)]
/-- a state between keeps and goes -/
def WS (ad : List Nat) (g : gp) (δ0 δ d : dp) : Prop := RI ad g δ0 d ∧ kp WW δ d ∧ q_R d = q_R δ
theorem WS.w {ad : List Nat} {h : hp} (L : Lay TLx ad h) {δ0 δ d d1 : dp} (w : WS ad h.1 δ0 δ d) {k a : Nat} {v : Int32} (e : d1 = s_I d 12 k a v) (hb : b12 k = (-2147483648, 2147483647)) (hk : ∀ x ∈ (12, k) :: WW, x ∈ WW) : WS ad h.1 δ0 δ d1 := by
  have b := ti_b v
  refine ⟨by rw [e]; exact RI.sI L w.1 (by rw [hb]; exact b.1) (by rw [hb]; exact b.2), kp_w hk (kp_I w.2.1 e), by rw [e]; exact w.2.2⟩
set_option maxHeartbeats 4000000 in
theorem f_works {ad : List Nat} {h : hp} (L : Lay TLx ad h) {δ0 : dp} {N : Nat} (hN : 10000000 ≤ N) {a0 : Nat} {x1 x2 x3 : Int32} (k_a0 : q_K h.1 a0 = 12) {δ : dp} (t0 : 0 ≤ x1.toInt) (t1 : x1.toInt < (q_I δ 12 24 a0).toInt) (h20 : 0 ≤ x2.toInt) (h21 : x2.toInt ≤ 3) (I : RI ad h.1 δ0 δ) (T : TH ad a0 δ) (S : ∀ K, K < 4 → 0 ≤ hM ad δ K) : ok (D_X12_works N h.1 a0 x1 x2 x3 δ) (fun r => RI ad h.1 δ0 r ∧ kp WW δ r ∧ kr ad [102, 103, 118, 119, 124, 126] δ r ∧ bak ad δ r) := by
  have z0 : (0 : Int32).toInt = 0 := rfl
  have bt := cb_12_24 I k_a0
  obtain ⟨H, hH⟩ : ∃ H : Nat, x2.toInt = (H : Int) := ⟨x2.toInt.toNat, by omega⟩
  have tn := tnH hH
  obtain ⟨t, ht⟩ : ∃ t : Nat, x1.toInt = (t : Int) := ⟨x1.toInt.toNat, by omega⟩
  have tt := tnH ht
  obtain ⟨b1, o1, _, n1⟩ := gO_12_28 L k_a0
  obtain rfl := gS_12_28 L k_a0 o1
  obtain ⟨b2, o2, _, n2⟩ := gO_12_14 L k_a0
  obtain rfl := gS_12_14 L k_a0 o2
  unfold D_X12_works
  refine ok_bind (ok_and (k_X12_keeps L hN (x1 := x2) k_a0 h20 h21 I) (f_keeps L hN k_a0 hH (by omega) I (S H (by omega)))) (fun r1 hr1 => ?_)
  obtain ⟨⟨i1, ⟨u1, v1, w1⟩, _⟩, k1⟩ := hr1
  have W0 : WS ad h.1 δ0 r1 r1 := ⟨i1, fun _ _ _ _ => rfl, rfl⟩
  refine ok_bdv (fun d2 e2 => ?_)
  have W2 := W0.w L e2 (by decide) (by decide)
  refine ok_bdv (fun d3 e3 => ?_)
  have W3 := W2.w L e3 (by decide) (by decide)
  refine ok_bdv (fun d4 e4 => ?_)
  have W4 := W3.w L e4 (by decide) (by decide)
  refine ok_bdv (fun d5 e5 => ?_)
  have W5 := W4.w L e5 (by decide) (by decide)
  refine ok_bdv (fun d6 e6 => ?_)
  have W6 := W5.w L e6 (by decide) (by decide)
  refine ok_bdv (fun d7 e7 => ?_)
  have W7 := W6.w L e7 (by decide) (by decide)
  refine ok_bdv (fun d8 e8 => ?_)
  have W8 := W7.w L e8 (by decide) (by decide)
  refine ok_bdv (fun d9 e9 => ?_)
  have W9 := W8.w L e9 (by decide) (by decide)
  refine ok_bdv (fun d10 e10 => ?_)
  have W10 := W9.w L e10 (by decide) (by decide)
  have k47 : q_I d10 12 47 a0 = q_I r1 12 47 a0 := by
    rw [e10, rI_o (by decide), e9, rI_o (by decide), e8, rI_o (by decide), e7, rI_o (by decide), e6, rI_o (by decide), e5, rI_o (by decide), e4, rI_o (by decide), e3, rI_o (by decide), e2, rI_o (by decide)]
  have k10 : kpt ad a0 H δ d10 := k1.t (sgk_k (by rw [W10.2.2]) (by rw [W10.2.2])) (by rw [W10.2.2]) k47
  have rows : ∀ c, c ∈ [112, 113, 114, 115, 116] → q_R d10 (Ad ad c) = q_R δ (Ad ad c) := by
    intro c hc
    rw [W10.2.2]
    refine w1 c ?_ ?_ ?_ <;> (simp only [List.mem_cons, List.not_mem_nil, or_false] at hc ⊢; omega)
  refine ok_at o1 ?_
  refine ok_gd (fun z => ?_) ?_
  · rcases z with z | z
    · have := o_lt z; omega
    · rw [n1, tt] at z; omega
  rw [tt, rows 112 (by decide)]
  have hs := rb_112 L I t
  obtain ⟨dl, st⟩ := stp_q (T t (by unfold tN; omega))
  have G := fe_goes L hN k_a0 (t := t) (S := (q_R δ (Ad ad 112) t).toInt.toNat) (dl := dl) (by omega) (by omega) st ht h20 h21 20 0 0 (q_R δ (Ad ad 112) t) 0 (q_R δ (Ad ad 112) t).toInt.toNat d10 (by omega) (by omega) rfl (by omega) (by omega) (Nat.le_refl _) (fun _ _ _ => Nat.zero_le _) W10.1 (rows 113 (by decide)) (rows 114 (by decide)) (rows 115 (by decide)) (rows 116 (by decide)) (by rw [e10, rI_s]; rfl)
  refine ok_bind G (fun r hr => ?_)
  obtain ⟨⟨g1, g2, g3, g4⟩, _, _⟩ := hr
  rw [tn] at g4
  have kr2 : kpt ad a0 H δ r.2 := k10.t g4 (g3 124 (by decide) (by decide) (by decide)) (g2 12 47 a0 (by decide))
  refine ok_at o2 ?_
  refine ok_gd (fun z => ?_) ?_
  · rcases z with z | z
    · have := o_lt z; omega
    · rw [n2, tn] at z; omega
  refine ok_bdv (fun d11 e11 => ?_)
  have i11 : RI ad h.1 δ0 d11 := by rw [e11]; exact cs_12_59 L g1
  have k11 : kpt ad a0 H δ d11 := kr2.t (by rw [e11]; exact sgk_r) (by rw [e11]; rfl) (by rw [e11, rI_o (by decide)])
  refine ok_bind (ok_and (k_X12_comesBack L hN (x1 := x2) k_a0 h20 h21 i11) (f_back L hN k_a0 hH (by omega) I S k11)) (fun r3 hr3 => ok_some ?_)
  obtain ⟨⟨i3, u3, v3, w3⟩, b3⟩ := hr3
  refine ⟨i3, ?_, ?_, b3⟩
  · exact kp_w (by decide) (kp_t (kp_t (kp_t (kp_t u1 W10.2.1) g2) (kp_I kp_r e11)) u3)
  · exact kr_w (by decide) (kr_t (kr_t (kr_t (kr_N w1 W10.2.2) g3) (kr_N kr_r (show q_R d11 = q_R r.2 by rw [e11]; rfl))) w3)
abbrev WS0 : List (Nat × Nat) := [(12, 0), (12, 36), (12, 47), (12, 49), (12, 50), (12, 51), (12, 52), (12, 53), (12, 54), (12, 55), (12, 56), (12, 58), (12, 59)]
/-- what steals and seeds leave -/
def SPo (ad : List Nat) (g : gp) (δ0 δ r : dp) : Prop := RI ad g δ0 r ∧ kp WS0 δ r ∧ kr ad [100, 102, 103, 118, 119, 124, 126] δ r ∧ bak ad δ r
theorem SPo.k {ad : List Nat} {g : gp} {δ0 δ d : dp} (I : RI ad g δ0 d) (u : kp [(12, 0)] δ d) (w : kr ad [100] δ d) : SPo ad g δ0 δ d := ⟨I, kp_w (by decide) u, kr_w (by decide) w, bak_k (w 102 (by decide) (by decide) (by decide)) (w 103 (by decide) (by decide) (by decide))⟩
theorem SPo.w {ad : List Nat} {g : gp} {δ0 δ d r : dp} (s : SPo ad g δ0 δ d) (w : RI ad g δ0 r ∧ kp WW d r ∧ kr ad [102, 103, 118, 119, 124, 126] d r ∧ bak ad d r) : SPo ad g δ0 δ r := ⟨w.1, kp_w (by decide) (kp_t s.2.1 w.2.1), kr_w (by decide) (kr_t s.2.2.1 w.2.2.1), s.2.2.2.t w.2.2.2⟩
theorem SPo.T {ad : List Nat} {g : gp} {a0 : Nat} {δ0 δ r : dp} (s : SPo ad g δ0 δ r) (T : TH ad a0 δ) : TH ad a0 r := TH_k T (s.2.1 12 24 a0 (by decide)) (s.2.2.1 112 (by decide) (by decide) (by decide)) (s.2.2.1 113 (by decide) (by decide) (by decide)) (s.2.2.1 114 (by decide) (by decide) (by decide)) (s.2.2.1 115 (by decide) (by decide) (by decide)) (s.2.2.1 116 (by decide) (by decide) (by decide))
set_option maxHeartbeats 4000000 in
theorem f_steals {ad : List Nat} {h : hp} (L : Lay TLx ad h) {δ0 : dp} {N : Nat} (hN : 10000000 ≤ N) {a0 : Nat} {x1 x2 x3 x4 : Int32} (k_a0 : q_K h.1 a0 = 12) {δ : dp} (I : RI ad h.1 δ0 δ) (T : TH ad a0 δ) (S : ∀ K, K < 4 → 0 ≤ hM ad δ K) : ok (D_X12_steals N h.1 a0 x1 x2 x3 x4 δ) (fun r => SPo ad h.1 δ0 δ r.2) := by
  have z0 : (0 : Int32).toInt = 0 := rfl
  unfold D_X12_steals
  refine ok_bdv (fun d1 e1 => ?_)
  have i1 : RI ad h.1 δ0 d1 := by rw [e1]; exact cs_12_0 L I
  have w1 := kr_N (ad := ad) (W := []) (δ := δ) kr_r (show q_R d1 = q_R δ by rw [e1]; rfl)
  have u1 := kp_I kp_r e1
  refine ok_bind (k_X12_isHouse L hN (a0 := a0) (x1 := x2) (x2 := 1) k_a0 (by decide) i1) (fun r2 hr2 => ?_)
  obtain ⟨i2, ⟨u2, v2, w2⟩, b2, g2⟩ := hr2
  have u2' : kp [(12, 0)] δ r2.2 := kp_w (by decide) (kp_t u1 u2)
  have w2' : kr ad [100] δ r2.2 := kr_w (by decide) (kr_t w1 w2)
  refine ok_ite (fun _ => ?_) (fun c2 => ?_)
  · unfold J_X12_steals_39; exact ok_some (SPo.k i2 u2' w2')
  have n2 := bo_l b2
  have m2 := o_ne c2
  have hx := g2 (by omega)
  refine ok_bind (k_X12_isThief L hN (a0 := a0) (x1 := x1) k_a0 i2) (fun r3 hr3 => ?_)
  obtain ⟨i3, ⟨u3, v3, w3⟩, b3, g3⟩ := hr3
  have u3' : kp [(12, 0)] δ r3.2 := kp_w (by decide) (kp_t u2' u3)
  have w3' : kr ad [100] δ r3.2 := kr_w (by decide) (kr_t w2' w3)
  refine ok_ite (fun _ => ?_) (fun c3 => ?_)
  · unfold J_X12_steals_39; exact ok_some (SPo.k i3 u3' w3')
  have n3 := bo_l b3
  have m3 := o_ne c3
  have hy := g3 (by omega)
  refine ok_bind (k_X12_within L hN (x0 := x4) (x1 := 0) (x2 := 6) i3) (fun r5 hr5 => ?_)
  obtain ⟨e5, b5, _, _⟩ := hr5
  rw [e5]
  refine ok_bind (k_X12_may L hN (a0 := a0) (x1 := r5.1) (x2 := 3) (x3 := 2) k_a0 (by decide) (by decide) (by decide) i3) (fun r hr => ?_)
  obtain ⟨i4, ⟨u4, v4, w4⟩, b4, g4, _⟩ := hr
  have u4' : kp [(12, 0)] δ r.2 := kp_w (by decide) (kp_t u3' u4)
  have w4' : kr ad [100] δ r.2 := kr_w (by decide) (kr_t w3' w4)
  have P4 := SPo.k i4 u4' w4'
  refine ok_ite (fun _ => ?_) (fun c4 => ?_)
  · unfold J_X12_steals_39; exact ok_some P4
  have h24 : q_I r.2 12 24 a0 = q_I r2.2 12 24 a0 := (u4 12 24 a0 (by decide)).trans (u3 12 24 a0 (by decide))
  refine ok_bind (f_works L hN (x1 := x1) (x2 := x2) (x3 := x3) k_a0 hy.1 (by rw [h24]; exact hy.2) hx.1 hx.2 i4 (P4.T T) (fun K hK => by rw [(P4.2.2.2 K hK).1]; exact S K hK)) (fun r9 hr9 => ?_)
  have P9 := P4.w hr9
  refine ok_ite (fun _ => ok_some P9) (fun _ => ?_)
  refine ok_ite (fun _ => ok_some P9) (fun _ => ?_)
  refine ok_ite (fun _ => ok_some P9) (fun _ => ?_)
  refine ok_ite (fun _ => ok_some P9) (fun _ => ?_)
  refine ok_ite (fun _ => ok_some P9) (fun _ => ?_)
  exact ok_ite (fun _ => ok_some P9) (fun _ => ok_some P9)
set_option maxHeartbeats 4000000 in
theorem fl_seeds {ad : List Nat} {h : hp} (L : Lay TLx ad h) {δ0 : dp} {N : Nat} (hN : 10000000 ≤ N) {a0 : Nat} {x1 x2 x3 x4 x5 : Int32} (k_a0 : q_K h.1 a0 = 12) {δ : dp} (T : TH ad a0 δ) (S : ∀ K, K < 4 → 0 ≤ hM ad δ K) (t0 : 0 ≤ x1.toInt) (t1 : x1.toInt < (q_I δ 12 24 a0).toInt) (h20 : 0 ≤ x2.toInt) (h21 : x2.toInt ≤ 3) (h4 : x4.toInt ≤ 20) : ∀ (n : Nat) (x6v x7v x8v : Int32) (d : dp), 0 ≤ x8v.toInt → x8v.toInt ≤ 20 → SPo ad h.1 δ0 δ d → 20 - x8v.toInt < (n : Int) → ok (L_X12_seeds_68 N h.1 a0 x1 x2 x3 x4 x5 n x6v x7v x8v d) (fun r => SPo ad h.1 δ0 δ r.2) := by
  intro n
  induction n with
  | zero => intro x6v x7v x8v d _ _ _ hm; exfalso; omega
  | succ n ih =>
    intro x6v x7v x8v d q0 q1 P hm
    unfold L_X12_seeds_68 J_X12_seeds_103 J_X12_seeds_113 J_X12_seeds_131
    refine ok_ite (fun _ => ok_ite (fun _ => ok_some P) (fun _ => ok_some P)) (fun c => ?_)
    have c1 := o_nle c
    refine ok_bind (f_works L hN (x1 := x1) (x2 := x2) (x3 := x3 + x8v) k_a0 t0 (by rw [P.2.1 12 24 a0 (by decide)]; exact t1) h20 h21 P.1 (P.T T) (fun K hK => by rw [(P.2.2.2 K hK).1]; exact S K hK)) (fun r hr => ?_)
    have P9 := P.w hr
    have hx := te_addc (c := 1) (n := 1) rfl x8v (by omega) (by omega)
    have go : ∀ (a b : Int32), ok (bi (x8v + 1) fun x_17 => L_X12_seeds_68 N h.1 a0 x1 x2 x3 x4 x5 n a b x_17 r) (fun r => SPo ad h.1 δ0 δ r.2) := by
      intro a b
      refine ok_biv (fun x ex => ?_)
      rw [← ex] at hx
      exact ih a b x r (by omega) (by omega) P9 (by omega)
    refine ok_ite (fun _ => ?_) (fun _ => ?_)
    · exact ok_biv (fun y ey => go _ _)
    · refine ok_ite (fun _ => ?_) (fun _ => ?_)
      · exact ok_biv (fun y ey => go _ _)
      · exact go _ _
set_option maxHeartbeats 4000000 in
theorem f_seeds {ad : List Nat} {h : hp} (L : Lay TLx ad h) {δ0 : dp} {N : Nat} (hN : 10000000 ≤ N) {a0 : Nat} {x1 x2 x3 x4 x5 : Int32} (k_a0 : q_K h.1 a0 = 12) {δ : dp} (I : RI ad h.1 δ0 δ) (T : TH ad a0 δ) (S : ∀ K, K < 4 → 0 ≤ hM ad δ K) : ok (D_X12_seeds N h.1 a0 x1 x2 x3 x4 x5 δ) (fun r => SPo ad h.1 δ0 δ r.2) := by
  have z0 : (0 : Int32).toInt = 0 := rfl
  have z20 : (20 : Int32).toInt = 20 := rfl
  unfold D_X12_seeds J_X12_seeds_48 J_X12_seeds_49 J_X12_seeds_57
  refine ok_bdv (fun d1 e1 => ?_)
  have i1 : RI ad h.1 δ0 d1 := by rw [e1]; exact cs_12_0 L I
  have w1 := kr_N (ad := ad) (W := []) (δ := δ) kr_r (show q_R d1 = q_R δ by rw [e1]; rfl)
  have u1 := kp_I kp_r e1
  refine ok_bind (k_X12_isHouse L hN (a0 := a0) (x1 := x2) (x2 := 1) k_a0 (by decide) i1) (fun r2 hr2 => ?_)
  obtain ⟨i2, ⟨u2, v2, w2⟩, b2, g2⟩ := hr2
  have u2' : kp [(12, 0)] δ r2.2 := kp_w (by decide) (kp_t u1 u2)
  have w2' : kr ad [100] δ r2.2 := kr_w (by decide) (kr_t w1 w2)
  refine ok_ite (fun _ => ok_some (SPo.k i2 u2' w2')) (fun c2 => ?_)
  have n2 := bo_l b2
  have m2 := o_ne c2
  have hx := g2 (by omega)
  refine ok_bind (k_X12_isThief L hN (a0 := a0) (x1 := x1) k_a0 i2) (fun r3 hr3 => ?_)
  obtain ⟨i3, ⟨u3, v3, w3⟩, b3, g3⟩ := hr3
  have u3' : kp [(12, 0)] δ r3.2 := kp_w (by decide) (kp_t u2' u3)
  have w3' : kr ad [100] δ r3.2 := kr_w (by decide) (kr_t w2' w3)
  refine ok_ite (fun _ => ok_some (SPo.k i3 u3' w3')) (fun c3 => ?_)
  have n3 := bo_l b3
  have m3 := o_ne c3
  have hy := g3 (by omega)
  have h24 : q_I r2.2 12 24 a0 = q_I δ 12 24 a0 := u2' 12 24 a0 (by decide)
  have last : ∀ (y : Int32), (y.toInt ≠ 0 → x4.toInt ≤ 20) → ok ((D_X12_may N h.1 a0 y 3 2 r3.2).bind fun r_9 => if r_9.1 = 0 then (some (0, r_9.2)) else (L_X12_seeds_68 N h.1 a0 x1 x2 x3 x4 x5 N ((-1)) 0 0 r_9.2)) (fun r => SPo ad h.1 δ0 δ r.2) := by
    intro y hy4
    refine ok_bind (k_X12_may L hN (a0 := a0) (x1 := y) (x2 := 3) (x3 := 2) k_a0 (by decide) (by decide) (by decide) i3) (fun r hr => ?_)
    obtain ⟨i4, ⟨u4, v4, w4⟩, b4, g4, _⟩ := hr
    have P4 : SPo ad h.1 δ0 δ r.2 := SPo.k i4 (kp_w (by decide) (kp_t u3' u4)) (kr_w (by decide) (kr_t w3' w4))
    refine ok_ite (fun _ => ok_some P4) (fun c4 => ?_)
    have n4 := bo_l b4
    have m4 := o_ne c4
    exact fl_seeds L hN k_a0 T S hy.1 (by rw [← h24]; exact hy.2) hx.1 hx.2 (hy4 (g4 (by omega))) N _ 0 0 r.2 (by decide) (by decide) P4 (by omega)
  refine ok_bind (k_X12_within L hN (x0 := x4) (x1 := 1) (x2 := 20) i3) (fun r5 hr5 => ?_)
  obtain ⟨e5, b5, g5, _⟩ := hr5
  have n5 := bo_l b5
  rw [e5]
  refine ok_ite (fun c => last 0 (fun z => absurd z0 z)) (fun c5 => ?_)
  have m5 := o_ne c5
  have g55 := g5 (by omega)
  refine ok_bind (k_X12_within L hN (x0 := x5) (x1 := 0) (x2 := 1) i3) (fun r6 hr6 => ?_)
  obtain ⟨e6, b6, _, _⟩ := hr6
  rw [e6]
  exact ok_ite (fun c => last 0 (fun z => absurd z0 z)) (fun _ => last 1 (fun _ => by omega))
end
section
/-! what image and restore copy -/
/-- rows 107 and 108 behind image -/
def PI (ad : List Nat) (a0 J k : Nat) (δ r : dp) : Prop := (q_I r 12 18 a0).toInt = (J : Int) + 1 ∧ (∀ i, q_R r (Ad ad 107) i = if 8000 * J + k ≤ i ∧ i < 8000 * J + 8000 then q_R δ (Ad ad 102) (i - 8000 * J) else q_R δ (Ad ad 107) i) ∧ ∀ i, q_R r (Ad ad 108) i = if 4 * J ≤ i ∧ i < 4 * J + 4 then q_R δ (Ad ad 103) (i - 4 * J) else q_R δ (Ad ad 108) i
set_option maxHeartbeats 4000000 in
theorem fl_image_110 {ad : List Nat} {h : hp} (L : Lay TLx ad h) {N : Nat} {a0 : Nat} (k_a0 : q_K h.1 a0 = 12) {J : Nat} (hJ : J ≤ 2) : ∀ (n : Nat) (k : Nat) (x : Int32) (δ : dp), x.toInt = (k : Int) → k ≤ 4 → (q_I δ 12 18 a0).toInt = (J : Int) → 4 - k < n → ok (L_X12_image_110 N h.1 a0 n x δ) (fun r => (q_I r.2 12 18 a0).toInt = (J : Int) + 1 ∧ q_R r.2 (Ad ad 107) = q_R δ (Ad ad 107) ∧ ∀ i, q_R r.2 (Ad ad 108) i = if 4 * J + k ≤ i ∧ i < 4 * J + 4 then q_R δ (Ad ad 103) (i - 4 * J) else q_R δ (Ad ad 108) i) := by
  obtain ⟨b1, o1, _, n1⟩ := gO_12_20 L k_a0
  obtain rfl := gS_12_20 L k_a0 o1
  obtain ⟨b2, o2, _, n2⟩ := gO_12_14 L k_a0
  obtain rfl := gS_12_14 L k_a0 o2
  obtain ⟨b3, o3, _, n3⟩ := gO_12_23 L k_a0
  obtain rfl := gS_12_23 L k_a0 o3
  obtain ⟨b4, o4, _, n4⟩ := gO_12_17 L k_a0
  obtain rfl := gS_12_17 L k_a0 o4
  have z0 : (0 : Int32).toInt = 0 := rfl
  have z4 : (4 : Int32).toInt = 4 := rfl
  have ne1 : Ad ad 107 ≠ Ad ad 108 := ad_ne L (by decide) (by decide) (by decide)
  have ne2 : Ad ad 107 ≠ Ad ad 111 := ad_ne L (by decide) (by decide) (by decide)
  have ne3 : Ad ad 108 ≠ Ad ad 111 := ad_ne L (by decide) (by decide) (by decide)
  have ne4 : Ad ad 103 ≠ Ad ad 111 := ad_ne L (by decide) (by decide) (by decide)
  have ne5 : Ad ad 103 ≠ Ad ad 108 := ad_ne L (by decide) (by decide) (by decide)
  intro n
  induction n with
  | zero => intro k x δ _ _ _ hm; exfalso; omega
  | succ n ih =>
    intro k x δ ex hk hI hm
    unfold L_X12_image_110
    have tx := ti_tn x
    have m1 := te_mulc (c := 4) (n := 4) rfl (q_I δ 12 18 a0) (by omega) (by omega)
    have m2 := te_add ((4 : Int32) * q_I δ 12 18 a0) x (by omega) (by omega)
    have m3 := ti_tn (((4 : Int32) * q_I δ 12 18 a0) + x)
    refine ok_ite (fun c => ?_) (fun c => ?_)
    · have c1 := o_le c
      refine ok_bdv (fun d e => ok_some ⟨?_, ?_, fun i => ?_⟩)
      · rw [e, rI_s]
        have := te_addc (c := 1) (n := 1) rfl (q_I δ 12 18 a0) (by omega) (by omega)
        omega
      · rw [e]; rfl
      · rw [if_neg (by omega), e]; rfl
    · have c1 := o_nle c
      refine ok_at o1 (ok_at o2 ?_)
      refine ok_gd (fun z => ?_) ?_
      · rcases z with z | z
        · have := o_lt z; omega
        · rw [n2] at z; omega
      refine ok_gd (fun z => ?_) ?_
      · rcases z with z | z
        · have := o_lt z; omega
        · rw [n1] at z; omega
      refine ok_bdv (fun d e => ?_)
      have ed : q_I d 12 18 a0 = q_I δ 12 18 a0 := by rw [e]; rfl
      refine ok_at o3 (ok_at o4 ?_)
      refine ok_gd (fun z => ?_) ?_
      · rcases z with z | z
        · have := o_lt z; omega
        · rw [n4] at z; omega
      rw [ed]
      refine ok_gd (fun z => ?_) ?_
      · rcases z with z | z
        · have := o_lt z; omega
        · rw [n3] at z; omega
      refine ok_bdv (fun d2 e2 => ?_)
      refine ok_biv (fun y ey => ?_)
      have y1 := te_addc (c := 1) (n := 1) rfl x (by omega) (by omega)
      rw [← ey] at y1
      have ed2 : q_I d2 12 18 a0 = q_I δ 12 18 a0 := by rw [e2]; exact ed
      refine ok_mono (ih (k + 1) y d2 (by omega) (by omega) (by rw [ed2]; exact hI) (by omega)) (fun r hr => ?_)
      obtain ⟨h1, h2, h3⟩ := hr
      refine ⟨h1, ?_, fun i => ?_⟩
      · rw [h2, e2, rR_o ne2, e, rR_o ne1]
      · rw [h3, e2, rR_o ne4, rR_o ne3, e, rR_o ne5, qR_sR]
        have ix : (((4 : Int32) * q_I δ 12 18 a0) + x).toNatClampNeg = 4 * J + k := by omega
        have ik : x.toNatClampNeg = k := by omega
        rw [ix, ik]
        by_cases c2 : i = 4 * J + k
        · subst c2
          rw [if_neg (by omega), if_pos ⟨rfl, rfl⟩, if_pos (by omega)]
          congr 1; omega
        · by_cases c3 : 4 * J + (k + 1) ≤ i ∧ i < 4 * J + 4
          · rw [if_pos c3, if_pos (by omega)]
          · rw [if_neg c3, if_neg (fun z => c2 z.2), if_neg (by omega)]
set_option maxHeartbeats 4000000 in
theorem fl_image_53 {ad : List Nat} {h : hp} (L : Lay TLx ad h) {N : Nat} (hN : 10000000 ≤ N) {a0 : Nat} (k_a0 : q_K h.1 a0 = 12) {J : Nat} (hJ : J ≤ 2) : ∀ (n : Nat) (k : Nat) (x : Int32) (δ : dp), x.toInt = (k : Int) → k ≤ 4000 → (q_I δ 12 18 a0).toInt = (J : Int) → 4000 - k < n → ok (L_X12_image_53 N h.1 a0 n x δ) (fun r => (q_I r.2 12 18 a0).toInt = (J : Int) + 1 ∧ q_R r.2 (Ad ad 107) = q_R δ (Ad ad 107) ∧ ∀ i, q_R r.2 (Ad ad 108) i = if 4 * J ≤ i ∧ i < 4 * J + 4 then q_R δ (Ad ad 103) (i - 4 * J) else q_R δ (Ad ad 108) i) := by
  obtain ⟨b1, o1, _, n1, _⟩ := gO_12_21 L k_a0
  obtain rfl := gS_12_21 L k_a0 o1
  obtain ⟨b2, o2, _, n2, _⟩ := gO_12_15 L k_a0
  obtain rfl := gS_12_15 L k_a0 o2
  obtain ⟨b3, o3, _, n3, _⟩ := gO_12_22 L k_a0
  obtain rfl := gS_12_22 L k_a0 o3
  obtain ⟨b4, o4, _, n4, _⟩ := gO_12_16 L k_a0
  obtain rfl := gS_12_16 L k_a0 o4
  have z0 : (0 : Int32).toInt = 0 := rfl
  have z4 : (4000 : Int32).toInt = 4000 := rfl
  intro n
  induction n with
  | zero => intro k x δ _ _ _ hm; exfalso; omega
  | succ n ih =>
    intro k x δ ex hk hI hm
    unfold L_X12_image_53
    have tx := ti_tn x
    have m1 := te_mulc (c := 4000) (n := 4000) rfl (q_I δ 12 18 a0) (by omega) (by omega)
    have m2 := te_add ((4000 : Int32) * q_I δ 12 18 a0) x (by omega) (by omega)
    have m3 := ti_tn (((4000 : Int32) * q_I δ 12 18 a0) + x)
    refine ok_ite (fun c => ?_) (fun c => ?_)
    · exact fl_image_110 L k_a0 hJ N 0 0 δ rfl (by omega) hI (by omega)
    · have c1 := o_nle c
      refine ok_at o1 (ok_at o2 ?_)
      refine ok_gd (fun z => ?_) ?_
      · rcases z with z | z
        · have := o_lt z; omega
        · rw [n2] at z; omega
      refine ok_gd (fun z => ?_) ?_
      · rcases z with z | z
        · have := o_lt z; omega
        · rw [n1] at z; omega
      refine ok_bdv (fun d e => ?_)
      have ed : q_I d 12 18 a0 = q_I δ 12 18 a0 := by rw [e]; rfl
      refine ok_at o3 (ok_at o4 ?_)
      refine ok_gd (fun z => ?_) ?_
      · rcases z with z | z
        · have := o_lt z; omega
        · rw [n4] at z; omega
      rw [ed]
      refine ok_gd (fun z => ?_) ?_
      · rcases z with z | z
        · have := o_lt z; omega
        · rw [n3] at z; omega
      refine ok_bdv (fun d2 e2 => ?_)
      refine ok_biv (fun y ey => ?_)
      have y1 := te_addc (c := 1) (n := 1) rfl x (by omega) (by omega)
      rw [← ey] at y1
      have ed2 : q_I d2 12 18 a0 = q_I δ 12 18 a0 := by rw [e2]; exact ed
      have R : ∀ c, c ∈ [103, 107, 108] → q_R d2 (Ad ad c) = q_R δ (Ad ad c) := by
        intro c hc
        simp only [List.mem_cons, List.not_mem_nil, or_false] at hc
        rcases hc with rfl | rfl | rfl <;> rw [e2, rR_o (ad_ne L (by decide) (by decide) (by decide)), e, rR_o (ad_ne L (by decide) (by decide) (by decide))]
      refine ok_mono (ih (k + 1) y d2 (by omega) (by omega) (by rw [ed2]; exact hI) (by omega)) (fun r hr => ?_)
      obtain ⟨h1, h2, h3⟩ := hr
      rw [R 107 (by decide)] at h2
      rw [R 103 (by decide), R 108 (by decide)] at h3
      exact ⟨h1, h2, h3⟩
set_option maxHeartbeats 4000000 in
theorem fl_image_17 {ad : List Nat} {h : hp} (L : Lay TLx ad h) {N : Nat} (hN : 10000000 ≤ N) {a0 : Nat} (k_a0 : q_K h.1 a0 = 12) {J : Nat} (hJ : J ≤ 2) : ∀ (n : Nat) (k : Nat) (x : Int32) (δ : dp), x.toInt = (k : Int) → k ≤ 8000 → (q_I δ 12 18 a0).toInt = (J : Int) → 8000 - k < n → ok (L_X12_image_17 N h.1 a0 n x δ) (fun r => PI ad a0 J k δ r.2) := by
  obtain ⟨b1, o1, _, n1, _⟩ := gO_12_19 L k_a0
  obtain rfl := gS_12_19 L k_a0 o1
  obtain ⟨b2, o2, _, n2, _⟩ := gO_12_13 L k_a0
  obtain rfl := gS_12_13 L k_a0 o2
  have z0 : (0 : Int32).toInt = 0 := rfl
  have z4 : (8000 : Int32).toInt = 8000 := rfl
  have ne1 : Ad ad 102 ≠ Ad ad 107 := ad_ne L (by decide) (by decide) (by decide)
  have ne2 : Ad ad 103 ≠ Ad ad 107 := ad_ne L (by decide) (by decide) (by decide)
  have ne3 : Ad ad 108 ≠ Ad ad 107 := ad_ne L (by decide) (by decide) (by decide)
  intro n
  induction n with
  | zero => intro k x δ _ _ _ hm; exfalso; omega
  | succ n ih =>
    intro k x δ ex hk hI hm
    unfold L_X12_image_17
    have tx := ti_tn x
    have m1 := te_mulc (c := 8000) (n := 8000) rfl (q_I δ 12 18 a0) (by omega) (by omega)
    have m2 := te_add ((8000 : Int32) * q_I δ 12 18 a0) x (by omega) (by omega)
    have m3 := ti_tn (((8000 : Int32) * q_I δ 12 18 a0) + x)
    refine ok_ite (fun c => ?_) (fun c => ?_)
    · have c1 := o_le c
      refine ok_mono (fl_image_53 L hN k_a0 hJ N 0 0 δ rfl (by omega) hI (by omega)) (fun r hr => ⟨hr.1, fun i => ?_, hr.2.2⟩)
      rw [if_neg (by omega), hr.2.1]
    · have c1 := o_nle c
      refine ok_at o1 (ok_at o2 ?_)
      refine ok_gd (fun z => ?_) ?_
      · rcases z with z | z
        · have := o_lt z; omega
        · rw [n2] at z; omega
      refine ok_gd (fun z => ?_) ?_
      · rcases z with z | z
        · have := o_lt z; omega
        · rw [n1] at z; omega
      refine ok_bdv (fun d e => ?_)
      have ed : q_I d 12 18 a0 = q_I δ 12 18 a0 := by rw [e]; rfl
      refine ok_biv (fun y ey => ?_)
      have y1 := te_addc (c := 1) (n := 1) rfl x (by omega) (by omega)
      rw [← ey] at y1
      refine ok_mono (ih (k + 1) y d (by omega) (by omega) (by rw [ed]; exact hI) (by omega)) (fun r hr => ?_)
      obtain ⟨h1, h2, h3⟩ := hr
      refine ⟨h1, fun i => ?_, fun i => ?_⟩
      · rw [h2, e, rR_o ne1, qR_sR]
        have ix : (((8000 : Int32) * q_I δ 12 18 a0) + x).toNatClampNeg = 8000 * J + k := by omega
        have ik : x.toNatClampNeg = k := by omega
        rw [ix, ik]
        by_cases c2 : i = 8000 * J + k
        · subst c2
          rw [if_neg (by omega), if_pos ⟨rfl, rfl⟩, if_pos (by omega)]
          congr 1; omega
        · by_cases c3 : 8000 * J + (k + 1) ≤ i ∧ i < 8000 * J + 8000
          · rw [if_pos c3, if_pos (by omega)]
          · rw [if_neg c3, if_neg (fun z => c2 z.2), if_neg (by omega)]
      · rw [h3, e, rR_o ne2, rR_o ne3]
/-- rows 102 and 103 behind restore -/
def PR (ad : List Nat) (a0 J k : Nat) (δ r : dp) : Prop := q_I r 12 18 a0 = q_I δ 12 18 a0 ∧ (∀ i, k ≤ i → i < 8000 → q_R r (Ad ad 102) i = q_R δ (Ad ad 107) (8000 * J + i)) ∧ (∀ i, i < k → q_R r (Ad ad 102) i = q_R δ (Ad ad 102) i) ∧ ∀ i, i < 4 → q_R r (Ad ad 103) i = q_R δ (Ad ad 108) (4 * J + i)
set_option maxHeartbeats 4000000 in
theorem fl_restore_119 {ad : List Nat} {h : hp} (L : Lay TLx ad h) {N : Nat} {a0 : Nat} (k_a0 : q_K h.1 a0 = 12) {J : Nat} (hJ : J ≤ 2) : ∀ (n : Nat) (k : Nat) (x : Int32) (δ : dp), x.toInt = (k : Int) → k ≤ 4 → (q_I δ 12 18 a0).toInt = (J : Int) → 4 - k < n → ok (L_X12_restore_119 N h.1 a0 n x δ) (fun r => q_I r.2 12 18 a0 = q_I δ 12 18 a0 ∧ q_R r.2 (Ad ad 102) = q_R δ (Ad ad 102) ∧ (∀ i, k ≤ i → i < 4 → q_R r.2 (Ad ad 103) i = q_R δ (Ad ad 108) (4 * J + i)) ∧ ∀ i, i < k → q_R r.2 (Ad ad 103) i = q_R δ (Ad ad 103) i) := by
  obtain ⟨b1, o1, _, n1⟩ := gO_12_20 L k_a0
  obtain rfl := gS_12_20 L k_a0 o1
  obtain ⟨b2, o2, _, n2⟩ := gO_12_14 L k_a0
  obtain rfl := gS_12_14 L k_a0 o2
  obtain ⟨b3, o3, _, n3⟩ := gO_12_23 L k_a0
  obtain rfl := gS_12_23 L k_a0 o3
  obtain ⟨b4, o4, _, n4⟩ := gO_12_17 L k_a0
  obtain rfl := gS_12_17 L k_a0 o4
  have z0 : (0 : Int32).toInt = 0 := rfl
  have z4 : (4 : Int32).toInt = 4 := rfl
  have ne1 : Ad ad 102 ≠ Ad ad 103 := ad_ne L (by decide) (by decide) (by decide)
  have ne2 : Ad ad 102 ≠ Ad ad 106 := ad_ne L (by decide) (by decide) (by decide)
  have ne3 : Ad ad 108 ≠ Ad ad 106 := ad_ne L (by decide) (by decide) (by decide)
  have ne4 : Ad ad 108 ≠ Ad ad 103 := ad_ne L (by decide) (by decide) (by decide)
  have ne5 : Ad ad 103 ≠ Ad ad 106 := ad_ne L (by decide) (by decide) (by decide)
  intro n
  induction n with
  | zero => intro k x δ _ _ _ hm; exfalso; omega
  | succ n ih =>
    intro k x δ ex hk hI hm
    unfold L_X12_restore_119
    have tx := ti_tn x
    have m1 := te_mulc (c := 4) (n := 4) rfl (q_I δ 12 18 a0) (by omega) (by omega)
    have m2 := te_add ((4 : Int32) * q_I δ 12 18 a0) x (by omega) (by omega)
    have m3 := ti_tn (((4 : Int32) * q_I δ 12 18 a0) + x)
    refine ok_ite (fun c => ?_) (fun c => ?_)
    · have c1 := o_le c
      exact ok_some ⟨rfl, rfl, fun i h1 h2 => by omega, fun i _ => rfl⟩
    · have c1 := o_nle c
      refine ok_at o2 (ok_at o1 ?_)
      refine ok_gd (fun z => ?_) ?_
      · rcases z with z | z
        · have := o_lt z; omega
        · rw [n1] at z; omega
      refine ok_gd (fun z => ?_) ?_
      · rcases z with z | z
        · have := o_lt z; omega
        · rw [n2] at z; omega
      refine ok_bdv (fun d e => ?_)
      have ed : q_I d 12 18 a0 = q_I δ 12 18 a0 := by rw [e]; rfl
      refine ok_at o4 (ok_at o3 ?_)
      rw [ed]
      refine ok_gd (fun z => ?_) ?_
      · rcases z with z | z
        · have := o_lt z; omega
        · rw [n3] at z; omega
      refine ok_gd (fun z => ?_) ?_
      · rcases z with z | z
        · have := o_lt z; omega
        · rw [n4] at z; omega
      refine ok_bdv (fun d2 e2 => ?_)
      refine ok_biv (fun y ey => ?_)
      have y1 := te_addc (c := 1) (n := 1) rfl x (by omega) (by omega)
      rw [← ey] at y1
      have ed2 : q_I d2 12 18 a0 = q_I δ 12 18 a0 := by rw [e2]; exact ed
      have ix : (((4 : Int32) * q_I δ 12 18 a0) + x).toNatClampNeg = 4 * J + k := by omega
      have ik : x.toNatClampNeg = k := by omega
      rw [ix, ik] at e
      have r8 : q_R d2 (Ad ad 108) = q_R δ (Ad ad 108) := by rw [e2, rR_o ne3, e, rR_o ne4]
      have r3 : ∀ i, q_R d2 (Ad ad 103) i = if i = k then q_R δ (Ad ad 108) (4 * J + k) else q_R δ (Ad ad 103) i := by
        intro i
        rw [e2, rR_o ne5, e, qR_sR]
        by_cases c : i = k
        · rw [if_pos ⟨rfl, c⟩, if_pos c]
        · rw [if_neg (fun z => c z.2), if_neg c]
      refine ok_mono (ih (k + 1) y d2 (by omega) (by omega) (by rw [ed2]; exact hI) (by omega)) (fun r hr => ?_)
      obtain ⟨h1, h2, h3, h4⟩ := hr
      refine ⟨h1.trans ed2, ?_, fun i i1 i2 => ?_, fun i i1 => ?_⟩
      · rw [h2, e2, rR_o ne2, e, rR_o ne1]
      · by_cases c : i = k
        · rw [h4 i (by omega), r3, if_pos c, c]
        · rw [h3 i (by omega) i2, r8]
      · rw [h4 i (by omega), r3, if_neg (by omega)]
set_option maxHeartbeats 4000000 in
theorem fl_restore_62 {ad : List Nat} {h : hp} (L : Lay TLx ad h) {N : Nat} (hN : 10000000 ≤ N) {a0 : Nat} (k_a0 : q_K h.1 a0 = 12) {J : Nat} (hJ : J ≤ 2) : ∀ (n : Nat) (k : Nat) (x : Int32) (δ : dp), x.toInt = (k : Int) → k ≤ 4000 → (q_I δ 12 18 a0).toInt = (J : Int) → 4000 - k < n → ok (L_X12_restore_62 N h.1 a0 n x δ) (fun r => q_I r.2 12 18 a0 = q_I δ 12 18 a0 ∧ q_R r.2 (Ad ad 102) = q_R δ (Ad ad 102) ∧ ∀ i, i < 4 → q_R r.2 (Ad ad 103) i = q_R δ (Ad ad 108) (4 * J + i)) := by
  obtain ⟨b1, o1, _, n1, _⟩ := gO_12_21 L k_a0
  obtain rfl := gS_12_21 L k_a0 o1
  obtain ⟨b2, o2, _, n2, _⟩ := gO_12_15 L k_a0
  obtain rfl := gS_12_15 L k_a0 o2
  obtain ⟨b3, o3, _, n3, _⟩ := gO_12_22 L k_a0
  obtain rfl := gS_12_22 L k_a0 o3
  obtain ⟨b4, o4, _, n4, _⟩ := gO_12_16 L k_a0
  obtain rfl := gS_12_16 L k_a0 o4
  have z0 : (0 : Int32).toInt = 0 := rfl
  have z4 : (4000 : Int32).toInt = 4000 := rfl
  intro n
  induction n with
  | zero => intro k x δ _ _ _ hm; exfalso; omega
  | succ n ih =>
    intro k x δ ex hk hI hm
    unfold L_X12_restore_62
    have tx := ti_tn x
    have m1 := te_mulc (c := 4000) (n := 4000) rfl (q_I δ 12 18 a0) (by omega) (by omega)
    have m2 := te_add ((4000 : Int32) * q_I δ 12 18 a0) x (by omega) (by omega)
    have m3 := ti_tn (((4000 : Int32) * q_I δ 12 18 a0) + x)
    refine ok_ite (fun c => ?_) (fun c => ?_)
    · refine ok_mono (fl_restore_119 L k_a0 hJ N 0 0 δ rfl (by omega) hI (by omega)) (fun r hr => ⟨hr.1, hr.2.1, fun i hi => hr.2.2.1 i (Nat.zero_le _) hi⟩)
    · have c1 := o_nle c
      refine ok_at o2 (ok_at o1 ?_)
      refine ok_gd (fun z => ?_) ?_
      · rcases z with z | z
        · have := o_lt z; omega
        · rw [n1] at z; omega
      refine ok_gd (fun z => ?_) ?_
      · rcases z with z | z
        · have := o_lt z; omega
        · rw [n2] at z; omega
      refine ok_bdv (fun d e => ?_)
      have ed : q_I d 12 18 a0 = q_I δ 12 18 a0 := by rw [e]; rfl
      refine ok_at o4 (ok_at o3 ?_)
      rw [ed]
      refine ok_gd (fun z => ?_) ?_
      · rcases z with z | z
        · have := o_lt z; omega
        · rw [n3] at z; omega
      refine ok_gd (fun z => ?_) ?_
      · rcases z with z | z
        · have := o_lt z; omega
        · rw [n4] at z; omega
      refine ok_bdv (fun d2 e2 => ?_)
      refine ok_biv (fun y ey => ?_)
      have y1 := te_addc (c := 1) (n := 1) rfl x (by omega) (by omega)
      rw [← ey] at y1
      have ed2 : q_I d2 12 18 a0 = q_I δ 12 18 a0 := by rw [e2]; exact ed
      have R : ∀ c, c ∈ [102, 108] → q_R d2 (Ad ad c) = q_R δ (Ad ad c) := by
        intro c hc
        simp only [List.mem_cons, List.not_mem_nil, or_false] at hc
        rcases hc with rfl | rfl <;> rw [e2, rR_o (ad_ne L (by decide) (by decide) (by decide)), e, rR_o (ad_ne L (by decide) (by decide) (by decide))]
      refine ok_mono (ih (k + 1) y d2 (by omega) (by omega) (by rw [ed2]; exact hI) (by omega)) (fun r hr => ?_)
      obtain ⟨h1, h2, h3⟩ := hr
      rw [R 102 (by decide)] at h2
      rw [R 108 (by decide)] at h3
      exact ⟨h1.trans ed2, h2, h3⟩
set_option maxHeartbeats 4000000 in
theorem fl_restore_26 {ad : List Nat} {h : hp} (L : Lay TLx ad h) {N : Nat} (hN : 10000000 ≤ N) {a0 : Nat} (k_a0 : q_K h.1 a0 = 12) {J : Nat} (hJ : J ≤ 2) : ∀ (n : Nat) (k : Nat) (x : Int32) (δ : dp), x.toInt = (k : Int) → k ≤ 8000 → (q_I δ 12 18 a0).toInt = (J : Int) → 8000 - k < n → ok (L_X12_restore_26 N h.1 a0 n x δ) (fun r => PR ad a0 J k δ r.2) := by
  obtain ⟨b1, o1, _, n1, _⟩ := gO_12_19 L k_a0
  obtain rfl := gS_12_19 L k_a0 o1
  obtain ⟨b2, o2, _, n2, _⟩ := gO_12_13 L k_a0
  obtain rfl := gS_12_13 L k_a0 o2
  have z0 : (0 : Int32).toInt = 0 := rfl
  have z4 : (8000 : Int32).toInt = 8000 := rfl
  have ne1 : Ad ad 107 ≠ Ad ad 102 := ad_ne L (by decide) (by decide) (by decide)
  have ne2 : Ad ad 108 ≠ Ad ad 102 := ad_ne L (by decide) (by decide) (by decide)
  intro n
  induction n with
  | zero => intro k x δ _ _ _ hm; exfalso; omega
  | succ n ih =>
    intro k x δ ex hk hI hm
    unfold L_X12_restore_26
    have tx := ti_tn x
    have m1 := te_mulc (c := 8000) (n := 8000) rfl (q_I δ 12 18 a0) (by omega) (by omega)
    have m2 := te_add ((8000 : Int32) * q_I δ 12 18 a0) x (by omega) (by omega)
    have m3 := ti_tn (((8000 : Int32) * q_I δ 12 18 a0) + x)
    refine ok_ite (fun c => ?_) (fun c => ?_)
    · have c1 := o_le c
      refine ok_mono (fl_restore_62 L hN k_a0 hJ N 0 0 δ rfl (by omega) hI (by omega)) (fun r hr => ⟨hr.1, fun i h1 h2 => by omega, fun i _ => by rw [hr.2.1], hr.2.2⟩)
    · have c1 := o_nle c
      refine ok_at o2 (ok_at o1 ?_)
      refine ok_gd (fun z => ?_) ?_
      · rcases z with z | z
        · have := o_lt z; omega
        · rw [n1] at z; omega
      refine ok_gd (fun z => ?_) ?_
      · rcases z with z | z
        · have := o_lt z; omega
        · rw [n2] at z; omega
      refine ok_bdv (fun d e => ?_)
      have ed : q_I d 12 18 a0 = q_I δ 12 18 a0 := by rw [e]; rfl
      refine ok_biv (fun y ey => ?_)
      have y1 := te_addc (c := 1) (n := 1) rfl x (by omega) (by omega)
      rw [← ey] at y1
      have ix : (((8000 : Int32) * q_I δ 12 18 a0) + x).toNatClampNeg = 8000 * J + k := by omega
      have ik : x.toNatClampNeg = k := by omega
      rw [ix, ik] at e
      have r7 : q_R d (Ad ad 107) = q_R δ (Ad ad 107) := by rw [e, rR_o ne1]
      have r8 : q_R d (Ad ad 108) = q_R δ (Ad ad 108) := by rw [e, rR_o ne2]
      have r2 : ∀ i, q_R d (Ad ad 102) i = if i = k then q_R δ (Ad ad 107) (8000 * J + k) else q_R δ (Ad ad 102) i := by
        intro i
        rw [e, qR_sR]
        by_cases c : i = k
        · rw [if_pos ⟨rfl, c⟩, if_pos c]
        · rw [if_neg (fun z => c z.2), if_neg c]
      refine ok_mono (ih (k + 1) y d (by omega) (by omega) (by rw [ed]; exact hI) (by omega)) (fun r hr => ?_)
      obtain ⟨h1, h2, h3, h4⟩ := hr
      refine ⟨h1.trans ed, fun i i1 i2 => ?_, fun i i1 => ?_, fun i i1 => ?_⟩
      · by_cases c : i = k
        · rw [h3 i (by omega), r2, if_pos c, c]
        · rw [h2 i (by omega) i2, r7]
      · rw [h3 i (by omega), r2, if_neg (by omega)]
      · rw [h4 i i1, r8]
end
section
/-! what holds of the reference between two calls -/
/-- a house: its numbers rise, and are the SHAPE's -/
def HK (ρ μ : Nat → Int32) (A : Int) (o m : Nat) : Prop := 0 ≤ (μ m).toInt ∧ (∀ i j : Nat, i < j → (j : Int) < (μ m).toInt → (ρ (o + i)).toInt < (ρ (o + j)).toInt) ∧ ∀ i : Nat, (i : Int) < (μ m).toInt → 0 ≤ (ρ (o + i)).toInt ∧ (ρ (o + i)).toInt < A
theorem HK.c {ρ μ ρ' μ' : Nat → Int32} {A A' : Int} {o m o' m' : Nat} (H : HK ρ μ A o m) (eA : A' = A) (em : (μ' m').toInt = (μ m).toInt) (er : ∀ i : Nat, (i : Int) < (μ m).toInt → ρ' (o' + i) = ρ (o + i)) : HK ρ' μ' A' o' m' := by
  obtain ⟨h1, h2, h3⟩ := H
  refine ⟨by rw [em]; exact h1, fun i j hij hj => ?_, fun i hi => ?_⟩
  · rw [em] at hj
    rw [er i (by omega), er j hj]
    exact h2 i j hij hj
  · rw [em] at hi
    rw [er i hi, eA]
    exact h3 i hi
abbrev shA (a0 : Nat) (δ : dp) : Int := ((1 : Int32) <<< (q_I δ 12 10 a0 &&& 31)).toInt
theorem HK.h {ad : List Nat} {a0 : Nat} {δ : dp} {K : Nat} (S : hok ad a0 δ K) : HK (q_R δ (Ad ad 102)) (q_R δ (Ad ad 103)) (shA a0 δ) (2000 * K) K := by
  obtain ⟨⟨s1, s2⟩, s3⟩ := S
  exact ⟨s1, s2, fun i hi => s3 (q_R δ (Ad ad 102) (2000 * K + i)) ⟨i, hi, rfl⟩⟩
theorem HK.k {ad : List Nat} {a0 : Nat} {δ : dp} {K : Nat} (H : HK (q_R δ (Ad ad 102)) (q_R δ (Ad ad 103)) (shA a0 δ) (2000 * K) K) : hok ad a0 δ K := by
  obtain ⟨h1, h2, h3⟩ := H
  refine ⟨⟨h1, h2⟩, fun y hy => ?_⟩
  obtain ⟨i, hi, e⟩ := hy
  have := h3 i hi
  have e' : (q_R δ (Ad ad 102) (2000 * K + i)).toInt = y.toInt := e
  rw [e'] at this
  exact this
/-- the images -/
def IM (ad : List Nat) (a0 : Nat) (δ : dp) : Prop := ∀ j : Nat, (j : Int) < (q_I δ 12 18 a0).toInt → ∀ K, K < 4 → HK (q_R δ (Ad ad 107)) (q_R δ (Ad ad 108)) (shA a0 δ) (8000 * j + 2000 * K) (4 * j + K)
def OI (ad : List Nat) (a0 : Nat) (δ : dp) : Prop := (∀ K, K < 4 → hok ad a0 δ K) ∧ TH ad a0 δ ∧ IM ad a0 δ
theorem IM.c {ad : List Nat} {a0 : Nat} {δ d : dp} (M : IM ad a0 δ) (e10 : q_I d 12 10 a0 = q_I δ 12 10 a0) (e18 : q_I d 12 18 a0 = q_I δ 12 18 a0) (r7 : q_R d (Ad ad 107) = q_R δ (Ad ad 107)) (r8 : q_R d (Ad ad 108) = q_R δ (Ad ad 108)) : IM ad a0 d := by
  intro j hj K hK
  rw [e18] at hj
  have eA : shA a0 d = shA a0 δ := by unfold shA; rw [e10]
  rw [r7, r8, eA]
  exact M j hj K hK
theorem OI.h {ad : List Nat} {a0 : Nat} {δ : dp} (O : OI ad a0 δ) {K : Nat} (hK : K < 4) : 0 ≤ hM ad δ K := (O.1 K hK).1.1
/-- the rows and fields that OI speaks of, houses aside -/
theorem OI.s {ad : List Nat} {a0 : Nat} {δ d : dp} (O : OI ad a0 δ) {W : List (Nat × Nat)} {V : List Nat} (u : kp W δ d) (w : kr ad V δ d) (hW : ∀ k ∈ [10, 18, 24], (12, k) ∉ W) (hV : ∀ c ∈ [107, 108, 112, 113, 114, 115, 116], c ∉ V) (S : ∀ K, K < 4 → hok ad a0 d K) : OI ad a0 d :=
  ⟨S, TH_k O.2.1 (u 12 24 a0 (hW 24 (by decide))) (w 112 (by decide) (by decide) (hV 112 (by decide))) (w 113 (by decide) (by decide) (hV 113 (by decide))) (w 114 (by decide) (by decide) (hV 114 (by decide))) (w 115 (by decide) (by decide) (hV 115 (by decide))) (w 116 (by decide) (by decide) (hV 116 (by decide))), O.2.2.c (u 12 10 a0 (hW 10 (by decide))) (u 12 18 a0 (hW 18 (by decide))) (w 107 (by decide) (by decide) (hV 107 (by decide))) (w 108 (by decide) (by decide) (hV 108 (by decide)))⟩
theorem OI.b {ad : List Nat} {a0 : Nat} {δ d : dp} (O : OI ad a0 δ) {W : List (Nat × Nat)} {V : List Nat} (u : kp W δ d) (w : kr ad V δ d) (hW : ∀ k ∈ [10, 18, 24], (12, k) ∉ W) (hV : ∀ c ∈ [107, 108, 112, 113, 114, 115, 116], c ∉ V) (B : bak ad δ d) : OI ad a0 d := O.s u w hW hV (fun K hK => B.o (u 12 10 a0 (hW 10 (by decide))) hK (O.1 K hK))
theorem OI.n {ad : List Nat} {a0 : Nat} {δ d : dp} (O : OI ad a0 δ) {W : List (Nat × Nat)} {V : List Nat} (u : kp W δ d) (w : kr ad V δ d) (hW : ∀ k ∈ [10, 18, 24], (12, k) ∉ W) (hV : ∀ c ∈ [107, 108, 112, 113, 114, 115, 116], c ∉ V) (h2 : 102 ∉ V) (h3 : 103 ∉ V) : OI ad a0 d := O.b u w hW hV (bak_k (w 102 (by decide) (by decide) h2) (w 103 (by decide) (by decide) h3))
/-- what a call of the reference leaves: its tape is as long -/
def OR (ad : List Nat) (g : gp) (a0 : Nat) (δ0 δ r : dp) : Prop := RI ad g δ0 r ∧ OI ad a0 r ∧ (q_I r 12 2 a0).toInt = (q_I δ 12 2 a0).toInt ∧ q_R r (Ad ad 101) = q_R δ (Ad ad 101) ∧ q_I r 12 10 a0 = q_I δ 12 10 a0 ∧ q_I r 12 11 a0 = q_I δ 12 11 a0 ∧ q_I r 12 12 a0 = q_I δ 12 12 a0
theorem o_shape {ad : List Nat} {h : hp} (L : Lay TLx ad h) {δ0 : dp} {N : Nat} (hN : 10000000 ≤ N) {a0 : Nat} {x1 : Int32} (k_a0 : q_K h.1 a0 = 12) {δ : dp} (I : RI ad h.1 δ0 δ) (O : OI ad a0 δ) : ok (D_X12_shape N h.1 a0 x1 δ) (fun r => RI ad h.1 δ0 r.2 ∧ OI ad a0 r.2 ∧ (0 ≤ x1.toInt ∧ x1.toInt ≤ (q_I δ 12 2 a0).toInt → (q_I r.2 12 2 a0).toInt = 0) ∧ (x1.toInt < 0 ∨ (q_I δ 12 2 a0).toInt < x1.toInt → (q_I r.2 12 2 a0).toInt = (q_I δ 12 2 a0).toInt)) := by
  refine ok_mono (k_X12_shape L hN (x1 := x1) k_a0 I) (fun r hr => ?_)
  obtain ⟨i, ⟨u, v, w⟩, s, t1, t2⟩ := hr
  have T : TH ad a0 r.2 := TH_k O.2.1 (u 12 24 a0 (by decide)) (w 112 (by decide) (by decide) (by decide)) (w 113 (by decide) (by decide) (by decide)) (w 114 (by decide) (by decide) (by decide)) (w 115 (by decide) (by decide) (by decide)) (w 116 (by decide) (by decide) (by decide))
  refine ⟨i, ?_, t1, t2⟩
  rcases s with s | s
  · exact ⟨fun K hK => (bak_k (w 102 (by decide) (by decide) (by decide)) s.1).o s.2.1 hK (O.1 K hK), T, O.2.2.c s.2.1 s.2.2 (w 107 (by decide) (by decide) (by decide)) (w 108 (by decide) (by decide) (by decide))⟩
  · refine ⟨fun K hK => HK.k ?_, T, fun j hj => ?_⟩
    · have z := s.2 K hK
      exact ⟨by omega, fun i j _ hj => by omega, fun i hi => by omega⟩
    · rw [s.1] at hj; omega
theorem o_thief {ad : List Nat} {h : hp} (L : Lay TLx ad h) {δ0 : dp} {N : Nat} (hN : 10000000 ≤ N) {a0 : Nat} {x1 : Int32} (k_a0 : q_K h.1 a0 = 12) {δ : dp} (I : RI ad h.1 δ0 δ) (O : OI ad a0 δ) : ok (D_X12_thief N h.1 a0 x1 δ) (fun r => RI ad h.1 δ0 r.2 ∧ OI ad a0 r.2 ∧ (0 ≤ x1.toInt ∧ x1.toInt ≤ (q_I δ 12 2 a0).toInt → (q_I r.2 12 2 a0).toInt = 0) ∧ (x1.toInt < 0 ∨ (q_I δ 12 2 a0).toInt < x1.toInt → (q_I r.2 12 2 a0).toInt = (q_I δ 12 2 a0).toInt)) := by
  refine ok_mono (k_X12_thief L hN (x1 := x1) k_a0 I) (fun r hr => ?_)
  obtain ⟨i, ⟨u, v, w⟩, s, t1, t2⟩ := hr
  exact ⟨i, ⟨fun K hK => (bak_k (w 102 (by decide) (by decide) (by decide)) (w 103 (by decide) (by decide) (by decide))).o (u 12 10 a0 (by decide)) hK (O.1 K hK), s (fun t _ => (rb_112 L I t).2) O.2.1, O.2.2.c (u 12 10 a0 (by decide)) (u 12 18 a0 (by decide)) (w 107 (by decide) (by decide) (by decide)) (w 108 (by decide) (by decide) (by decide))⟩, t1, t2⟩
theorem o_feed {ad : List Nat} {h : hp} (L : Lay TLx ad h) {δ0 : dp} {N : Nat} (hN : 10000000 ≤ N) {a0 : Nat} {x1 x2 x3 x4 x5 : Int32} (k_a0 : q_K h.1 a0 = 12) {δ : dp} (I : RI ad h.1 δ0 δ) (O : OI ad a0 δ) : ok (D_X12_feed N h.1 a0 x1 x2 x3 x4 x5 δ) (fun r => RI ad h.1 δ0 r.2 ∧ OI ad a0 r.2 ∧ ((q_I δ 12 2 a0).toInt + 20 ≤ 500 → (r.1).toInt = (q_I δ 12 2 a0).toInt + 20 ∧ (q_I r.2 12 2 a0).toInt = (q_I δ 12 2 a0).toInt + 20) ∧ (500 < (q_I δ 12 2 a0).toInt + 20 → (r.1).toInt = -1 ∧ (q_I r.2 12 2 a0).toInt = (q_I δ 12 2 a0).toInt)) := by
  refine ok_mono (k_X12_feed L hN (x1 := x1) (x2 := x2) (x3 := x3) (x4 := x4) (x5 := x5) k_a0 I) (fun r hr => ?_)
  obtain ⟨i, ⟨u, v, w⟩, t1, t2⟩ := hr
  exact ⟨i, O.n u w (by decide) (by decide) (by decide) (by decide), t1, t2⟩
theorem f_image {ad : List Nat} {h : hp} (L : Lay TLx ad h) {δ0 : dp} {N : Nat} (hN : 10000000 ≤ N) {a0 : Nat} (k_a0 : q_K h.1 a0 = 12) {δ : dp} (I : RI ad h.1 δ0 δ) : ok (D_X12_image N h.1 a0 δ) (fun r => (q_I r.2 12 18 a0 = q_I δ 12 18 a0 ∧ q_R r.2 = q_R δ) ∨ ∃ J : Nat, J ≤ 2 ∧ (q_I δ 12 18 a0).toInt = (J : Int) ∧ PI ad a0 J 0 δ r.2) := by
  have b := cb_12_18 I k_a0
  have z0 : (3 : Int32).toInt = 3 := rfl
  unfold D_X12_image
  refine ok_bdv (fun d e => ?_)
  have e18 : q_I d 12 18 a0 = q_I δ 12 18 a0 := by rw [e, rI_o (by decide)]
  refine ok_ite (fun c => ok_some (Or.inl ⟨e18, by rw [e]; rfl⟩)) (fun c => ?_)
  have c1 := o_ne c
  rw [e18] at c1
  refine ok_mono (fl_image_17 L hN k_a0 (J := (q_I δ 12 18 a0).toInt.toNat) (by omega) N 0 0 d rfl (by omega) (by rw [e18]; omega) (by omega)) (fun r hr => Or.inr ⟨(q_I δ 12 18 a0).toInt.toNat, by omega, by omega, ?_⟩)
  obtain ⟨h1, h2, h3⟩ := hr
  refine ⟨h1, fun i => ?_, fun i => ?_⟩
  · rw [h2, e]; rfl
  · rw [h3, e]; rfl
theorem o_image {ad : List Nat} {h : hp} (L : Lay TLx ad h) {δ0 : dp} {N : Nat} (hN : 10000000 ≤ N) {a0 : Nat} (k_a0 : q_K h.1 a0 = 12) {δ : dp} (I : RI ad h.1 δ0 δ) (O : OI ad a0 δ) : ok (D_X12_image N h.1 a0 δ) (fun r => OR ad h.1 a0 δ0 δ r.2) := by
  refine ok_mono (ok_and (k_X12_image L hN k_a0 I) (f_image L hN k_a0 I)) (fun r hr => ?_)
  obtain ⟨⟨i, ⟨u, v, w⟩, _⟩, f⟩ := hr
  have e10 := u 12 10 a0 (by decide)
  have eA : shA a0 r.2 = shA a0 δ := by unfold shA; rw [e10]
  refine ⟨i, ⟨fun K hK => (bak_k (w 102 (by decide) (by decide) (by decide)) (w 103 (by decide) (by decide) (by decide))).o e10 hK (O.1 K hK), TH_k O.2.1 (u 12 24 a0 (by decide)) (w 112 (by decide) (by decide) (by decide)) (w 113 (by decide) (by decide) (by decide)) (w 114 (by decide) (by decide) (by decide)) (w 115 (by decide) (by decide) (by decide)) (w 116 (by decide) (by decide) (by decide)), ?_⟩, by rw [u 12 2 a0 (by decide)], w 101 (by decide) (by decide) (by decide), u 12 10 a0 (by decide), u 12 11 a0 (by decide), u 12 12 a0 (by decide)⟩
  rcases f with ⟨e, er⟩ | ⟨J, hJ, eJ, h1, h2, h3⟩
  · exact O.2.2.c e10 e (by rw [er]) (by rw [er])
  · intro j hj K hK
    rw [h1] at hj
    by_cases c : j = J
    · subst c
      have b := rb_103 L I K
      refine (HK.h (O.1 K hK)).c eA ?_ (fun i hi => ?_)
      · rw [h3, if_pos (by omega), show 4 * j + K - 4 * j = K by omega]
      · rw [h2, if_pos (by omega), show 8000 * j + 2000 * K + i - 8000 * j = 2000 * K + i by omega]
    · have b := rb_108 L I (4 * j + K)
      refine (O.2.2 j (by omega) K hK).c eA ?_ (fun i hi => ?_)
      · rw [h3, if_neg (by omega)]
      · rw [h2, if_neg (by omega)]
theorem f_restore {ad : List Nat} {h : hp} (L : Lay TLx ad h) {δ0 : dp} {N : Nat} (hN : 10000000 ≤ N) {a0 : Nat} (k_a0 : q_K h.1 a0 = 12) {δ : dp} (I : RI ad h.1 δ0 δ) : ok (D_X12_restore N h.1 a0 δ) (fun r => (q_I r.2 12 18 a0 = q_I δ 12 18 a0 ∧ q_R r.2 = q_R δ) ∨ ∃ J : Nat, (q_I δ 12 18 a0).toInt = (J : Int) + 1 ∧ (q_I r.2 12 18 a0).toInt = (J : Int) ∧ (∀ i, i < 8000 → q_R r.2 (Ad ad 102) i = q_R δ (Ad ad 107) (8000 * J + i)) ∧ ∀ i, i < 4 → q_R r.2 (Ad ad 103) i = q_R δ (Ad ad 108) (4 * J + i)) := by
  have b := cb_12_18 I k_a0
  have z0 : (0 : Int32).toInt = 0 := rfl
  unfold D_X12_restore
  refine ok_bdv (fun d e => ?_)
  have e18 : q_I d 12 18 a0 = q_I δ 12 18 a0 := by rw [e, rI_o (by decide)]
  refine ok_ite (fun c => ok_some (Or.inl ⟨e18, by rw [e]; rfl⟩)) (fun c => ?_)
  have c1 := o_ne c
  rw [e18] at c1
  refine ok_bdv (fun d2 e2 => ?_)
  have s1 := te_subc (c := 1) (n := 1) rfl (q_I δ 12 18 a0) (by omega) (by omega)
  have f18 : (q_I d2 12 18 a0).toInt = (((q_I δ 12 18 a0).toInt - 1).toNat : Int) := by rw [e2, rI_s, e18]; omega
  refine ok_mono (fl_restore_26 L hN k_a0 (J := ((q_I δ 12 18 a0).toInt - 1).toNat) (by omega) N 0 0 d2 rfl (by omega) f18 (by omega)) (fun r hr => Or.inr ⟨((q_I δ 12 18 a0).toInt - 1).toNat, by omega, ?_⟩)
  obtain ⟨h1, h2, _, h4⟩ := hr
  refine ⟨by rw [h1]; exact f18, fun i hi => ?_, fun i hi => ?_⟩
  · rw [h2 i (Nat.zero_le _) hi, e2, e]; rfl
  · rw [h4 i hi, e2, e]; rfl
theorem o_restore {ad : List Nat} {h : hp} (L : Lay TLx ad h) {δ0 : dp} {N : Nat} (hN : 10000000 ≤ N) {a0 : Nat} (k_a0 : q_K h.1 a0 = 12) {δ : dp} (I : RI ad h.1 δ0 δ) (O : OI ad a0 δ) : ok (D_X12_restore N h.1 a0 δ) (fun r => OR ad h.1 a0 δ0 δ r.2) := by
  refine ok_mono (ok_and (k_X12_restore L hN k_a0 I) (f_restore L hN k_a0 I)) (fun r hr => ?_)
  obtain ⟨⟨i, ⟨u, v, w⟩, _⟩, f⟩ := hr
  have e10 := u 12 10 a0 (by decide)
  have eA : shA a0 r.2 = shA a0 δ := by unfold shA; rw [e10]
  have T : TH ad a0 r.2 := TH_k O.2.1 (u 12 24 a0 (by decide)) (w 112 (by decide) (by decide) (by decide)) (w 113 (by decide) (by decide) (by decide)) (w 114 (by decide) (by decide) (by decide)) (w 115 (by decide) (by decide) (by decide)) (w 116 (by decide) (by decide) (by decide))
  have r7 := w 107 (by decide) (by decide) (by decide)
  have r8 := w 108 (by decide) (by decide) (by decide)
  refine ⟨i, ?_, by rw [u 12 2 a0 (by decide)], w 101 (by decide) (by decide) (by decide), u 12 10 a0 (by decide), u 12 11 a0 (by decide), u 12 12 a0 (by decide)⟩
  rcases f with ⟨e, er⟩ | ⟨J, eJ, fJ, h2, h3⟩
  · exact ⟨fun K hK => (bak_k (by rw [er]) (by rw [er])).o e10 hK (O.1 K hK), T, O.2.2.c e10 e r7 r8⟩
  · refine ⟨fun K hK => HK.k ?_, T, fun j hj K hK => ?_⟩
    · have b := rb_108 L I (4 * J + K)
      refine (O.2.2 J (by omega) K hK).c eA ?_ (fun i hi => ?_)
      · rw [h3 K hK]
      · rw [h2 _ (by omega), show 8000 * J + (2000 * K + i) = 8000 * J + 2000 * K + i by omega]
    · rw [fJ] at hj
      rw [r7, r8, eA]
      exact O.2.2 j (by omega) K hK
end
section
/-! each call of the reference keeps it -/
theorem o_fault {ad : List Nat} {h : hp} (L : Lay TLx ad h) {δ0 : dp} {N : Nat} (hN : 10000000 ≤ N) {a0 : Nat} (k_a0 : q_K h.1 a0 = 12) {δ : dp} (I : RI ad h.1 δ0 δ) (O : OI ad a0 δ) : ok (D_X12_fault N h.1 a0 δ) (fun r => OR ad h.1 a0 δ0 δ r.2 ∧ q_I r.2 12 18 a0 = q_I δ 12 18 a0) := by
  refine ok_mono (k_X12_fault L hN  k_a0 I) (fun r hr => ?_)
  obtain ⟨i, ⟨u, v, _, w⟩⟩ := hr
  exact ⟨⟨i, O.n u w (by decide) (by decide) (by decide) (by decide), by rw [u 12 2 a0 (by decide)], w 101 (by decide) (by decide) (by decide), u 12 10 a0 (by decide), u 12 11 a0 (by decide), u 12 12 a0 (by decide)⟩, u 12 18 a0 (by decide)⟩
theorem o_told {ad : List Nat} {h : hp} (L : Lay TLx ad h) {δ0 : dp} {N : Nat} (hN : 10000000 ≤ N) {a0 : Nat} {x1 : Int32} (k_a0 : q_K h.1 a0 = 12) {δ : dp} (I : RI ad h.1 δ0 δ) (O : OI ad a0 δ) : ok (D_X12_told N h.1 a0 x1 δ) (fun r => OR ad h.1 a0 δ0 δ r.2 ∧ q_I r.2 12 18 a0 = q_I δ 12 18 a0) := by
  refine ok_mono (k_X12_told L hN (x1 := x1) k_a0 I) (fun r hr => ?_)
  obtain ⟨i, ⟨u, v, w⟩⟩ := hr
  exact ⟨⟨i, O.n u w (by decide) (by decide) (by decide) (by decide), by rw [u 12 2 a0 (by decide)], w 101 (by decide) (by decide) (by decide), u 12 10 a0 (by decide), u 12 11 a0 (by decide), u 12 12 a0 (by decide)⟩, u 12 18 a0 (by decide)⟩
theorem o_has {ad : List Nat} {h : hp} (L : Lay TLx ad h) {δ0 : dp} {N : Nat} (hN : 10000000 ≤ N) {a0 : Nat} {x1 x2 : Int32} (k_a0 : q_K h.1 a0 = 12) {δ : dp} (I : RI ad h.1 δ0 δ) (O : OI ad a0 δ) : ok (D_X12_has N h.1 a0 x1 x2 δ) (fun r => OR ad h.1 a0 δ0 δ r.2 ∧ q_I r.2 12 18 a0 = q_I δ 12 18 a0) := by
  refine ok_mono (k_X12_has L hN (x1 := x1) (x2 := x2) k_a0 I) (fun r hr => ?_)
  obtain ⟨i, ⟨u, v, w⟩⟩ := hr
  exact ⟨⟨i, O.n u w (by decide) (by decide) (by decide) (by decide), by rw [u 12 2 a0 (by decide)], w 101 (by decide) (by decide) (by decide), u 12 10 a0 (by decide), u 12 11 a0 (by decide), u 12 12 a0 (by decide)⟩, u 12 18 a0 (by decide)⟩
theorem o_of_ {ad : List Nat} {h : hp} (L : Lay TLx ad h) {δ0 : dp} {N : Nat} (hN : 10000000 ≤ N) {a0 : Nat} {x1 x2 : Int32} (k_a0 : q_K h.1 a0 = 12) {δ : dp} (I : RI ad h.1 δ0 δ) (O : OI ad a0 δ) : ok (D_X12_of_ N h.1 a0 x1 x2 δ) (fun r => OR ad h.1 a0 δ0 δ r.2 ∧ q_I r.2 12 18 a0 = q_I δ 12 18 a0) := by
  refine ok_mono (k_X12_of_ L hN (x1 := x1) (x2 := x2) k_a0 I) (fun r hr => ?_)
  obtain ⟨i, ⟨u, v, w⟩⟩ := hr
  exact ⟨⟨i, O.n u w (by decide) (by decide) (by decide) (by decide), by rw [u 12 2 a0 (by decide)], w 101 (by decide) (by decide) (by decide), u 12 10 a0 (by decide), u 12 11 a0 (by decide), u 12 12 a0 (by decide)⟩, u 12 18 a0 (by decide)⟩
theorem o_next {ad : List Nat} {h : hp} (L : Lay TLx ad h) {δ0 : dp} {N : Nat} (hN : 10000000 ≤ N) {a0 : Nat} {x1 x2 : Int32} (k_a0 : q_K h.1 a0 = 12) {δ : dp} (I : RI ad h.1 δ0 δ) (O : OI ad a0 δ) : ok (D_X12_next N h.1 a0 x1 x2 δ) (fun r => OR ad h.1 a0 δ0 δ r.2 ∧ q_I r.2 12 18 a0 = q_I δ 12 18 a0) := by
  refine ok_mono (k_X12_next L hN (x1 := x1) (x2 := x2) k_a0 I) (fun r hr => ?_)
  obtain ⟨i, ⟨u, v, w⟩⟩ := hr
  exact ⟨⟨i, O.n u w (by decide) (by decide) (by decide) (by decide), by rw [u 12 2 a0 (by decide)], w 101 (by decide) (by decide) (by decide), u 12 10 a0 (by decide), u 12 11 a0 (by decide), u 12 12 a0 (by decide)⟩, u 12 18 a0 (by decide)⟩
theorem o_before {ad : List Nat} {h : hp} (L : Lay TLx ad h) {δ0 : dp} {N : Nat} (hN : 10000000 ≤ N) {a0 : Nat} {x1 x2 : Int32} (k_a0 : q_K h.1 a0 = 12) {δ : dp} (I : RI ad h.1 δ0 δ) (O : OI ad a0 δ) : ok (D_X12_before N h.1 a0 x1 x2 δ) (fun r => OR ad h.1 a0 δ0 δ r.2 ∧ q_I r.2 12 18 a0 = q_I δ 12 18 a0) := by
  refine ok_mono (k_X12_before L hN (x1 := x1) (x2 := x2) k_a0 I) (fun r hr => ?_)
  obtain ⟨i, ⟨u, v, w⟩⟩ := hr
  exact ⟨⟨i, O.n u w (by decide) (by decide) (by decide) (by decide), by rw [u 12 2 a0 (by decide)], w 101 (by decide) (by decide) (by decide), u 12 10 a0 (by decide), u 12 11 a0 (by decide), u 12 12 a0 (by decide)⟩, u 12 18 a0 (by decide)⟩
theorem o_kth {ad : List Nat} {h : hp} (L : Lay TLx ad h) {δ0 : dp} {N : Nat} (hN : 10000000 ≤ N) {a0 : Nat} {x1 x2 : Int32} (k_a0 : q_K h.1 a0 = 12) {δ : dp} (I : RI ad h.1 δ0 δ) (O : OI ad a0 δ) : ok (D_X12_kth N h.1 a0 x1 x2 δ) (fun r => OR ad h.1 a0 δ0 δ r.2 ∧ q_I r.2 12 18 a0 = q_I δ 12 18 a0) := by
  refine ok_mono (k_X12_kth L hN (x1 := x1) (x2 := x2) k_a0 I) (fun r hr => ?_)
  obtain ⟨i, ⟨u, v, w⟩⟩ := hr
  exact ⟨⟨i, O.n u w (by decide) (by decide) (by decide) (by decide), by rw [u 12 2 a0 (by decide)], w 101 (by decide) (by decide) (by decide), u 12 10 a0 (by decide), u 12 11 a0 (by decide), u 12 12 a0 (by decide)⟩, u 12 18 a0 (by decide)⟩
theorem o_between {ad : List Nat} {h : hp} (L : Lay TLx ad h) {δ0 : dp} {N : Nat} (hN : 10000000 ≤ N) {a0 : Nat} {x1 x2 x3 : Int32} (k_a0 : q_K h.1 a0 = 12) {δ : dp} (I : RI ad h.1 δ0 δ) (O : OI ad a0 δ) : ok (D_X12_between N h.1 a0 x1 x2 x3 δ) (fun r => OR ad h.1 a0 δ0 δ r.2 ∧ q_I r.2 12 18 a0 = q_I δ 12 18 a0) := by
  refine ok_mono (k_X12_between L hN (x1 := x1) (x2 := x2) (x3 := x3) k_a0 I) (fun r hr => ?_)
  obtain ⟨i, ⟨u, v, w⟩⟩ := hr
  exact ⟨⟨i, O.n u w (by decide) (by decide) (by decide) (by decide), by rw [u 12 2 a0 (by decide)], w 101 (by decide) (by decide) (by decide), u 12 10 a0 (by decide), u 12 11 a0 (by decide), u 12 12 a0 (by decide)⟩, u 12 18 a0 (by decide)⟩
theorem o_touches {ad : List Nat} {h : hp} (L : Lay TLx ad h) {δ0 : dp} {N : Nat} (hN : 10000000 ≤ N) {a0 : Nat} {x1 x2 x3 x4 : Int32} (k_a0 : q_K h.1 a0 = 12) {δ : dp} (I : RI ad h.1 δ0 δ) (O : OI ad a0 δ) : ok (D_X12_touches N h.1 a0 x1 x2 x3 x4 δ) (fun r => OR ad h.1 a0 δ0 δ r.2 ∧ q_I r.2 12 18 a0 = q_I δ 12 18 a0) := by
  refine ok_mono (k_X12_touches L hN (x1 := x1) (x2 := x2) (x3 := x3) (x4 := x4) k_a0 I) (fun r hr => ?_)
  obtain ⟨i, ⟨u, v, w⟩⟩ := hr
  exact ⟨⟨i, O.n u w (by decide) (by decide) (by decide) (by decide), by rw [u 12 2 a0 (by decide)], w 101 (by decide) (by decide) (by decide), u 12 10 a0 (by decide), u 12 11 a0 (by decide), u 12 12 a0 (by decide)⟩, u 12 18 a0 (by decide)⟩
theorem o_size {ad : List Nat} {h : hp} (L : Lay TLx ad h) {δ0 : dp} {N : Nat} (hN : 10000000 ≤ N) {a0 : Nat} {x1 x2 : Int32} (k_a0 : q_K h.1 a0 = 12) {δ : dp} (I : RI ad h.1 δ0 δ) (O : OI ad a0 δ) : ok (D_X12_size N h.1 a0 x1 x2 δ) (fun r => OR ad h.1 a0 δ0 δ r.2 ∧ q_I r.2 12 18 a0 = q_I δ 12 18 a0) := by
  refine ok_mono (k_X12_size L hN (x1 := x1) (x2 := x2) k_a0 I) (fun r hr => ?_)
  obtain ⟨i, ⟨u, v, w⟩⟩ := hr
  exact ⟨⟨i, O.n u w (by decide) (by decide) (by decide) (by decide), by rw [u 12 2 a0 (by decide)], w 101 (by decide) (by decide) (by decide), u 12 10 a0 (by decide), u 12 11 a0 (by decide), u 12 12 a0 (by decide)⟩, u 12 18 a0 (by decide)⟩
theorem o_bound {ad : List Nat} {h : hp} (L : Lay TLx ad h) {δ0 : dp} {N : Nat} (hN : 10000000 ≤ N) {a0 : Nat} {x1 : Int32} (k_a0 : q_K h.1 a0 = 12) {δ : dp} (I : RI ad h.1 δ0 δ) (O : OI ad a0 δ) : ok (D_X12_bound N h.1 a0 x1 δ) (fun r => OR ad h.1 a0 δ0 δ r.2 ∧ q_I r.2 12 18 a0 = q_I δ 12 18 a0) := by
  refine ok_mono (k_X12_bound L hN (x1 := x1) k_a0 I) (fun r hr => ?_)
  obtain ⟨i, ⟨u, v, w⟩⟩ := hr
  exact ⟨⟨i, O.n u w (by decide) (by decide) (by decide) (by decide), by rw [u 12 2 a0 (by decide)], w 101 (by decide) (by decide) (by decide), u 12 10 a0 (by decide), u 12 11 a0 (by decide), u 12 12 a0 (by decide)⟩, u 12 18 a0 (by decide)⟩
theorem o_worst {ad : List Nat} {h : hp} (L : Lay TLx ad h) {δ0 : dp} {N : Nat} (hN : 10000000 ≤ N) {a0 : Nat} {x1 x2 x3 : Int32} (k_a0 : q_K h.1 a0 = 12) {δ : dp} (I : RI ad h.1 δ0 δ) (O : OI ad a0 δ) : ok (D_X12_worst N h.1 a0 x1 x2 x3 δ) (fun r => OR ad h.1 a0 δ0 δ r.2 ∧ q_I r.2 12 18 a0 = q_I δ 12 18 a0) := by
  refine ok_mono (k_X12_worst L hN (x1 := x1) (x2 := x2) (x3 := x3) k_a0 I) (fun r hr => ?_)
  obtain ⟨i, ⟨u, v, w⟩⟩ := hr
  exact ⟨⟨i, O.n u w (by decide) (by decide) (by decide) (by decide), by rw [u 12 2 a0 (by decide)], w 101 (by decide) (by decide) (by decide), u 12 10 a0 (by decide), u 12 11 a0 (by decide), u 12 12 a0 (by decide)⟩, u 12 18 a0 (by decide)⟩
theorem o_bad {ad : List Nat} {h : hp} (L : Lay TLx ad h) {δ0 : dp} {N : Nat} (hN : 10000000 ≤ N) {a0 : Nat} {x1 x2 x3 : Int32} (k_a0 : q_K h.1 a0 = 12) {δ : dp} (I : RI ad h.1 δ0 δ) (O : OI ad a0 δ) : ok (D_X12_bad N h.1 a0 x1 x2 x3 δ) (fun r => OR ad h.1 a0 δ0 δ r.2 ∧ q_I r.2 12 18 a0 = q_I δ 12 18 a0) := by
  refine ok_mono (k_X12_bad L hN (x1 := x1) (x2 := x2) (x3 := x3) k_a0 I) (fun r hr => ?_)
  obtain ⟨i, ⟨u, v, w⟩⟩ := hr
  exact ⟨⟨i, O.n u w (by decide) (by decide) (by decide) (by decide), by rw [u 12 2 a0 (by decide)], w 101 (by decide) (by decide) (by decide), u 12 10 a0 (by decide), u 12 11 a0 (by decide), u 12 12 a0 (by decide)⟩, u 12 18 a0 (by decide)⟩
theorem o_since {ad : List Nat} {h : hp} (L : Lay TLx ad h) {δ0 : dp} {N : Nat} (hN : 10000000 ≤ N) {a0 : Nat} {x1 x2 x3 : Int32} (k_a0 : q_K h.1 a0 = 12) {δ : dp} (I : RI ad h.1 δ0 δ) (O : OI ad a0 δ) : ok (D_X12_since N h.1 a0 x1 x2 x3 δ) (fun r => OR ad h.1 a0 δ0 δ r.2 ∧ q_I r.2 12 18 a0 = q_I δ 12 18 a0) := by
  refine ok_mono (k_X12_since L hN (x1 := x1) (x2 := x2) (x3 := x3) k_a0 I) (fun r hr => ?_)
  obtain ⟨i, ⟨u, v, w⟩⟩ := hr
  exact ⟨⟨i, O.n u w (by decide) (by decide) (by decide) (by decide), by rw [u 12 2 a0 (by decide)], w 101 (by decide) (by decide) (by decide), u 12 10 a0 (by decide), u 12 11 a0 (by decide), u 12 12 a0 (by decide)⟩, u 12 18 a0 (by decide)⟩
theorem o_reached {ad : List Nat} {h : hp} (L : Lay TLx ad h) {δ0 : dp} {N : Nat} (hN : 10000000 ≤ N) {a0 : Nat} {x1 : Int32} (k_a0 : q_K h.1 a0 = 12) {δ : dp} (I : RI ad h.1 δ0 δ) (O : OI ad a0 δ) : ok (D_X12_reached N h.1 a0 x1 δ) (fun r => OR ad h.1 a0 δ0 δ r.2 ∧ q_I r.2 12 18 a0 = q_I δ 12 18 a0) := by
  refine ok_mono (k_X12_reached L hN (x1 := x1) k_a0 I) (fun r hr => ?_)
  obtain ⟨i, ⟨u, v, w⟩⟩ := hr
  exact ⟨⟨i, O.n u w (by decide) (by decide) (by decide) (by decide), by rw [u 12 2 a0 (by decide)], w 101 (by decide) (by decide) (by decide), u 12 10 a0 (by decide), u 12 11 a0 (by decide), u 12 12 a0 (by decide)⟩, u 12 18 a0 (by decide)⟩
theorem o_row {ad : List Nat} {h : hp} (L : Lay TLx ad h) {δ0 : dp} {N : Nat} (hN : 10000000 ≤ N) {a0 : Nat} {x1 : Int32} (k_a0 : q_K h.1 a0 = 12) {δ : dp} (I : RI ad h.1 δ0 δ) (O : OI ad a0 δ) : ok (D_X12_row N h.1 a0 x1 δ) (fun r => OR ad h.1 a0 δ0 δ r.2 ∧ q_I r.2 12 18 a0 = q_I δ 12 18 a0) := by
  refine ok_mono (k_X12_row L hN (x1 := x1) k_a0 I) (fun r hr => ?_)
  obtain ⟨i, ⟨u, v, w⟩⟩ := hr
  exact ⟨⟨i, O.n u w (by decide) (by decide) (by decide) (by decide), by rw [u 12 2 a0 (by decide)], w 101 (by decide) (by decide) (by decide), u 12 10 a0 (by decide), u 12 11 a0 (by decide), u 12 12 a0 (by decide)⟩, u 12 18 a0 (by decide)⟩
theorem o_rowCall {ad : List Nat} {h : hp} (L : Lay TLx ad h) {δ0 : dp} {N : Nat} (hN : 10000000 ≤ N) {a0 : Nat} {x1 x2 : Int32} (k_a0 : q_K h.1 a0 = 12) {δ : dp} (I : RI ad h.1 δ0 δ) (O : OI ad a0 δ) : ok (D_X12_rowCall N h.1 a0 x1 x2 δ) (fun r => OR ad h.1 a0 δ0 δ r.2 ∧ q_I r.2 12 18 a0 = q_I δ 12 18 a0) := by
  refine ok_mono (k_X12_rowCall L hN (x1 := x1) (x2 := x2) k_a0 I) (fun r hr => ?_)
  obtain ⟨i, ⟨u, v, w⟩⟩ := hr
  exact ⟨⟨i, O.n u w (by decide) (by decide) (by decide) (by decide), by rw [u 12 2 a0 (by decide)], w 101 (by decide) (by decide) (by decide), u 12 10 a0 (by decide), u 12 11 a0 (by decide), u 12 12 a0 (by decide)⟩, u 12 18 a0 (by decide)⟩
theorem o_gap {ad : List Nat} {h : hp} (L : Lay TLx ad h) {δ0 : dp} {N : Nat} (hN : 10000000 ≤ N) {a0 : Nat} {x1 x2 : Int32} (k_a0 : q_K h.1 a0 = 12) {δ : dp} (I : RI ad h.1 δ0 δ) (O : OI ad a0 δ) : ok (D_X12_gap N h.1 a0 x1 x2 δ) (fun r => OR ad h.1 a0 δ0 δ r.2 ∧ q_I r.2 12 18 a0 = q_I δ 12 18 a0) := by
  refine ok_mono (k_X12_gap L hN (x1 := x1) (x2 := x2) k_a0 I) (fun r hr => ?_)
  obtain ⟨i, ⟨u, v, w⟩⟩ := hr
  exact ⟨⟨i, O.n u w (by decide) (by decide) (by decide) (by decide), by rw [u 12 2 a0 (by decide)], w 101 (by decide) (by decide) (by decide), u 12 10 a0 (by decide), u 12 11 a0 (by decide), u 12 12 a0 (by decide)⟩, u 12 18 a0 (by decide)⟩
theorem o_status {ad : List Nat} {h : hp} (L : Lay TLx ad h) {δ0 : dp} {N : Nat} (hN : 10000000 ≤ N) {a0 : Nat} {x1 : Int32} (k_a0 : q_K h.1 a0 = 12) {δ : dp} (I : RI ad h.1 δ0 δ) (O : OI ad a0 δ) : ok (D_X12_status N h.1 a0 x1 δ) (fun r => OR ad h.1 a0 δ0 δ r.2 ∧ q_I r.2 12 18 a0 = q_I δ 12 18 a0) := by
  refine ok_mono (k_X12_status L hN (x1 := x1) k_a0 I) (fun r hr => ?_)
  obtain ⟨i, ⟨u, v, _, w⟩⟩ := hr
  exact ⟨⟨i, O.n u w (by decide) (by decide) (by decide) (by decide), by rw [u 12 2 a0 (by decide)], w 101 (by decide) (by decide) (by decide), u 12 10 a0 (by decide), u 12 11 a0 (by decide), u 12 12 a0 (by decide)⟩, u 12 18 a0 (by decide)⟩
theorem o_count {ad : List Nat} {h : hp} (L : Lay TLx ad h) {δ0 : dp} {N : Nat} (hN : 10000000 ≤ N) {a0 : Nat} {x1 : Int32} (k_a0 : q_K h.1 a0 = 12) {δ : dp} (I : RI ad h.1 δ0 δ) (O : OI ad a0 δ) : ok (D_X12_count N h.1 a0 x1 δ) (fun r => OR ad h.1 a0 δ0 δ r.2 ∧ q_I r.2 12 18 a0 = q_I δ 12 18 a0) := by
  refine ok_mono (k_X12_count L hN (x1 := x1) k_a0 I) (fun r hr => ?_)
  obtain ⟨i, ⟨u, v, _, w⟩⟩ := hr
  exact ⟨⟨i, O.n u w (by decide) (by decide) (by decide) (by decide), by rw [u 12 2 a0 (by decide)], w 101 (by decide) (by decide) (by decide), u 12 10 a0 (by decide), u 12 11 a0 (by decide), u 12 12 a0 (by decide)⟩, u 12 18 a0 (by decide)⟩
theorem o_put {ad : List Nat} {h : hp} (L : Lay TLx ad h) {δ0 : dp} {N : Nat} (hN : 10000000 ≤ N) {a0 : Nat} {x1 x2 : Int32} (k_a0 : q_K h.1 a0 = 12) {δ : dp} (I : RI ad h.1 δ0 δ) (O : OI ad a0 δ) : ok (D_X12_put N h.1 a0 x1 x2 δ) (fun r => OR ad h.1 a0 δ0 δ r.2 ∧ q_I r.2 12 18 a0 = q_I δ 12 18 a0) := by
  refine ok_mono (f12_put L hN (x1 := x1) (x2 := x2) k_a0 I O.1) (fun r hr => ?_)
  obtain ⟨i, u, w, S⟩ := hr
  exact ⟨⟨i, O.s u w (by decide) (by decide) S, by rw [u 12 2 a0 (by decide)], w 101 (by decide) (by decide) (by decide), u 12 10 a0 (by decide), u 12 11 a0 (by decide), u 12 12 a0 (by decide)⟩, u 12 18 a0 (by decide)⟩
theorem o_drop {ad : List Nat} {h : hp} (L : Lay TLx ad h) {δ0 : dp} {N : Nat} (hN : 10000000 ≤ N) {a0 : Nat} {x1 x2 : Int32} (k_a0 : q_K h.1 a0 = 12) {δ : dp} (I : RI ad h.1 δ0 δ) (O : OI ad a0 δ) : ok (D_X12_drop N h.1 a0 x1 x2 δ) (fun r => OR ad h.1 a0 δ0 δ r.2 ∧ q_I r.2 12 18 a0 = q_I δ 12 18 a0) := by
  refine ok_mono (f12_drop L hN (x1 := x1) (x2 := x2) k_a0 I O.1) (fun r hr => ?_)
  obtain ⟨i, u, w, S⟩ := hr
  exact ⟨⟨i, O.s u w (by decide) (by decide) S, by rw [u 12 2 a0 (by decide)], w 101 (by decide) (by decide) (by decide), u 12 10 a0 (by decide), u 12 11 a0 (by decide), u 12 12 a0 (by decide)⟩, u 12 18 a0 (by decide)⟩
theorem o_joins {ad : List Nat} {h : hp} (L : Lay TLx ad h) {δ0 : dp} {N : Nat} (hN : 10000000 ≤ N) {a0 : Nat} {x1 x2 x3 : Int32} (k_a0 : q_K h.1 a0 = 12) {δ : dp} (I : RI ad h.1 δ0 δ) (O : OI ad a0 δ) : ok (D_X12_joins N h.1 a0 x1 x2 x3 δ) (fun r => OR ad h.1 a0 δ0 δ r.2 ∧ q_I r.2 12 18 a0 = q_I δ 12 18 a0) := by
  refine ok_mono (f12_joins L hN (x1 := x1) (x2 := x2) (x3 := x3) k_a0 I O.1) (fun r hr => ?_)
  obtain ⟨i, u, w, S⟩ := hr
  exact ⟨⟨i, O.s u w (by decide) (by decide) S, by rw [u 12 2 a0 (by decide)], w 101 (by decide) (by decide) (by decide), u 12 10 a0 (by decide), u 12 11 a0 (by decide), u 12 12 a0 (by decide)⟩, u 12 18 a0 (by decide)⟩
theorem o_split {ad : List Nat} {h : hp} (L : Lay TLx ad h) {δ0 : dp} {N : Nat} (hN : 10000000 ≤ N) {a0 : Nat} {x1 x2 x3 : Int32} (k_a0 : q_K h.1 a0 = 12) {δ : dp} (I : RI ad h.1 δ0 δ) (O : OI ad a0 δ) : ok (D_X12_split N h.1 a0 x1 x2 x3 δ) (fun r => OR ad h.1 a0 δ0 δ r.2 ∧ q_I r.2 12 18 a0 = q_I δ 12 18 a0) := by
  refine ok_mono (f12_split L hN (x1 := x1) (x2 := x2) (x3 := x3) k_a0 I O.1) (fun r hr => ?_)
  obtain ⟨i, u, w, S⟩ := hr
  exact ⟨⟨i, O.s u w (by decide) (by decide) S, by rw [u 12 2 a0 (by decide)], w 101 (by decide) (by decide) (by decide), u 12 10 a0 (by decide), u 12 11 a0 (by decide), u 12 12 a0 (by decide)⟩, u 12 18 a0 (by decide)⟩
theorem o_runs {ad : List Nat} {h : hp} (L : Lay TLx ad h) {δ0 : dp} {N : Nat} (hN : 10000000 ≤ N) {a0 : Nat} {x1 x2 : Int32} (k_a0 : q_K h.1 a0 = 12) {δ : dp} (I : RI ad h.1 δ0 δ) (O : OI ad a0 δ) : ok (D_X12_runs N h.1 a0 x1 x2 δ) (fun r => OR ad h.1 a0 δ0 δ r.2 ∧ q_I r.2 12 18 a0 = q_I δ 12 18 a0) := by
  refine ok_mono (f12_runs L hN (x1 := x1) (x2 := x2) k_a0 I O.1) (fun r hr => ?_)
  obtain ⟨i, u, w, S⟩ := hr
  exact ⟨⟨i, O.s u w (by decide) (by decide) S, by rw [u 12 2 a0 (by decide)], w 101 (by decide) (by decide) (by decide), u 12 10 a0 (by decide), u 12 11 a0 (by decide), u 12 12 a0 (by decide)⟩, u 12 18 a0 (by decide)⟩
theorem o_was {ad : List Nat} {h : hp} (L : Lay TLx ad h) {δ0 : dp} {N : Nat} (hN : 10000000 ≤ N) {a0 : Nat} {x1 x2 x3 : Int32} (k_a0 : q_K h.1 a0 = 12) {δ : dp} (I : RI ad h.1 δ0 δ) (O : OI ad a0 δ) : ok (D_X12_was N h.1 a0 x1 x2 x3 δ) (fun r => OR ad h.1 a0 δ0 δ r.2 ∧ q_I r.2 12 18 a0 = q_I δ 12 18 a0) := by
  refine ok_mono (ok_and (k_X12_was L hN (x1 := x1) (x2 := x2) (x3 := x3) k_a0 I) (f_was L hN (x1 := x1) (x2 := x2) (x3 := x3) k_a0 I (fun K hK => O.h hK))) (fun r hr => ?_)
  obtain ⟨⟨i, ⟨u, v, w⟩⟩, B⟩ := hr
  exact ⟨⟨i, O.b u w (by decide) (by decide) B, by rw [u 12 2 a0 (by decide)], w 101 (by decide) (by decide) (by decide), u 12 10 a0 (by decide), u 12 11 a0 (by decide), u 12 12 a0 (by decide)⟩, u 12 18 a0 (by decide)⟩
theorem o_asked {ad : List Nat} {h : hp} (L : Lay TLx ad h) {δ0 : dp} {N : Nat} (hN : 10000000 ≤ N) {a0 : Nat} {x1 x2 x3 x4 : Int32} (k_a0 : q_K h.1 a0 = 12) {δ : dp} (I : RI ad h.1 δ0 δ) (O : OI ad a0 δ) : ok (D_X12_asked N h.1 a0 x1 x2 x3 x4 δ) (fun r => OR ad h.1 a0 δ0 δ r.2 ∧ q_I r.2 12 18 a0 = q_I δ 12 18 a0) := by
  refine ok_mono (ok_and (k_X12_asked L hN (x1 := x1) (x2 := x2) (x3 := x3) (x4 := x4) k_a0 I) (f_asked L hN (x1 := x1) (x2 := x2) (x3 := x3) (x4 := x4) k_a0 I (fun K hK => O.h hK))) (fun r hr => ?_)
  obtain ⟨⟨i, ⟨u, v, w⟩⟩, B⟩ := hr
  exact ⟨⟨i, O.b u w (by decide) (by decide) B, by rw [u 12 2 a0 (by decide)], w 101 (by decide) (by decide) (by decide), u 12 10 a0 (by decide), u 12 11 a0 (by decide), u 12 12 a0 (by decide)⟩, u 12 18 a0 (by decide)⟩
theorem o_room {ad : List Nat} {h : hp} (L : Lay TLx ad h) {δ0 : dp} {N : Nat} (hN : 10000000 ≤ N) {a0 : Nat} {x1 x2 : Int32} (k_a0 : q_K h.1 a0 = 12) {δ : dp} (I : RI ad h.1 δ0 δ) (O : OI ad a0 δ) : ok (D_X12_room N h.1 a0 x1 x2 δ) (fun r => OR ad h.1 a0 δ0 δ r.2 ∧ q_I r.2 12 18 a0 = q_I δ 12 18 a0) := by
  refine ok_mono (ok_and (k_X12_room L hN (x1 := x1) (x2 := x2) k_a0 I) (f_room L hN (x1 := x1) (x2 := x2) k_a0 I (fun K hK => O.h hK))) (fun r hr => ?_)
  obtain ⟨⟨i, ⟨u, v, w⟩⟩, B⟩ := hr
  exact ⟨⟨i, O.b u w (by decide) (by decide) B, by rw [u 12 2 a0 (by decide)], w 101 (by decide) (by decide) (by decide), u 12 10 a0 (by decide), u 12 11 a0 (by decide), u 12 12 a0 (by decide)⟩, u 12 18 a0 (by decide)⟩
theorem o_steals {ad : List Nat} {h : hp} (L : Lay TLx ad h) {δ0 : dp} {N : Nat} (hN : 10000000 ≤ N) {a0 : Nat} {x1 x2 x3 x4 : Int32} (k_a0 : q_K h.1 a0 = 12) {δ : dp} (I : RI ad h.1 δ0 δ) (O : OI ad a0 δ) : ok (D_X12_steals N h.1 a0 x1 x2 x3 x4 δ) (fun r => OR ad h.1 a0 δ0 δ r.2 ∧ q_I r.2 12 18 a0 = q_I δ 12 18 a0) := by
  refine ok_mono (f_steals L hN (x1 := x1) (x2 := x2) (x3 := x3) (x4 := x4) k_a0 I O.2.1 (fun K hK => O.h hK)) (fun r hr => ?_)
  obtain ⟨i, u, w, B⟩ := hr
  exact ⟨⟨i, O.b u w (by decide) (by decide) B, by rw [u 12 2 a0 (by decide)], w 101 (by decide) (by decide) (by decide), u 12 10 a0 (by decide), u 12 11 a0 (by decide), u 12 12 a0 (by decide)⟩, u 12 18 a0 (by decide)⟩
theorem o_seeds {ad : List Nat} {h : hp} (L : Lay TLx ad h) {δ0 : dp} {N : Nat} (hN : 10000000 ≤ N) {a0 : Nat} {x1 x2 x3 x4 x5 : Int32} (k_a0 : q_K h.1 a0 = 12) {δ : dp} (I : RI ad h.1 δ0 δ) (O : OI ad a0 δ) : ok (D_X12_seeds N h.1 a0 x1 x2 x3 x4 x5 δ) (fun r => OR ad h.1 a0 δ0 δ r.2 ∧ q_I r.2 12 18 a0 = q_I δ 12 18 a0) := by
  refine ok_mono (f_seeds L hN (x1 := x1) (x2 := x2) (x3 := x3) (x4 := x4) (x5 := x5) k_a0 I O.2.1 (fun K hK => O.h hK)) (fun r hr => ?_)
  obtain ⟨i, u, w, B⟩ := hr
  exact ⟨⟨i, O.b u w (by decide) (by decide) B, by rw [u 12 2 a0 (by decide)], w 101 (by decide) (by decide) (by decide), u 12 10 a0 (by decide), u 12 11 a0 (by decide), u 12 12 a0 (by decide)⟩, u 12 18 a0 (by decide)⟩
end
