/-! a THIEF at work; the house is put back -/
theorem TH_k {ad : List Nat} {a0 : Nat} {δ d : dp} (T : TH ad a0 δ) (h24 : q_I d 12 24 a0 = q_I δ 12 24 a0) (h2 : q_R d (Ad ad 112) = q_R δ (Ad ad 112)) (h3 : q_R d (Ad ad 113) = q_R δ (Ad ad 113)) (h4 : q_R d (Ad ad 114) = q_R δ (Ad ad 114)) (h5 : q_R d (Ad ad 115) = q_R δ (Ad ad 115)) (h6 : q_R d (Ad ad 116) = q_R δ (Ad ad 116)) : TH ad a0 d := by
  have e : tN a0 d = tN a0 δ := by unfold tN; rw [h24]
  intro t ht
  rw [h2, h3, h4, h5, h6]
  exact T t (by omega)
theorem stp_q {κ φ τ ρ : Nat → Int32} {t S : Nat} (s : stp κ φ τ ρ t 0 S 0 (500 * t + 500)) : ∃ dl, stq κ φ τ ρ t S dl := by
  obtain ⟨dl, h⟩ := s
  exact ⟨dl, fun i hi => (h i (Nat.zero_le _) hi).2⟩
abbrev WW : List (Nat × Nat) := [(12, 36), (12, 47), (12, 49), (12, 50), (12, 51), (12, 52), (12, 53), (12, 54), (12, 55), (12, 56), (12, 58), (12, 59)]
/-- a state between keeps and goes -/
def WS (ad : List Nat) (g : gp) (δ0 δ d : dp) : Prop := RI ad g δ0 d ∧ kp WW δ d ∧ q_R d = q_R δ
theorem WS.w {ad : List Nat} {h : hp} (L : Lay TLx ad h) {δ0 δ d d1 : dp} (w : WS ad h.1 δ0 δ d) {k a : Nat} {v : Int32} (e : d1 = s_I d 12 k a v) (hb : b12 k = (-2147483648, 2147483647)) (hk : ∀ x ∈ (12, k) :: WW, x ∈ WW) : WS ad h.1 δ0 δ d1 := by
  have b := ti_b v
  refine ⟨by rw [e]; exact RI.sI L w.1 (by rw [hb]; exact b.1) (by rw [hb]; exact b.2), kp_w hk (kp_I w.2.1 e), by rw [e]; exact w.2.2⟩
set_option maxHeartbeats 4000000 in
theorem f_works {ad : List Nat} {h : hp} (L : Lay TLx ad h) {δ0 : dp} {N : Nat} (hN : 10000000 ≤ N) {a0 : Nat} {x1 x2 x3 : Int32} (k_a0 : q_K h.1 a0 = 12) {δ : dp} (t0 : 0 ≤ x1.toInt) (t1 : x1.toInt < (q_I δ 12 24 a0).toInt) (h20 : 0 ≤ x2.toInt) (h21 : x2.toInt ≤ 3) (I : RI ad h.1 δ0 δ) (T : TH ad a0 δ) (S : ∀ K, K < 4 → 0 ≤ hM ad δ K) : ok (D_X12_works N h.1 a0 x1 x2 x3 δ) (fun r => RI ad h.1 δ0 r ∧ kp WW δ r ∧ kr ad [102, 103, 118, 119, 124, 126] δ r ∧ bak ad δ r) := by
  have z0 : (0 : Int32).toInt = 0 := rfl
  have bt := cb_12_24 I k_a0
  obtain ⟨H, hH⟩ : ∃ H : Nat, x2.toInt = (H : Int) := ⟨x2.toInt.toNat, by omega⟩
  have tn := tnH hH
  obtain ⟨t, ht⟩ : ∃ t : Nat, x1.toInt = (t : Int) := ⟨x1.toInt.toNat, by omega⟩
  have tt := tnH ht
  obtain ⟨b1, o1, _, n1⟩ := gO_12_28 L k_a0
  obtain rfl := gS_12_28 L k_a0 o1
  obtain ⟨b2, o2, _, n2⟩ := gO_12_14 L k_a0
  obtain rfl := gS_12_14 L k_a0 o2
  unfold D_X12_works
  refine ok_bind (ok_and (k_X12_keeps L hN (x1 := x2) k_a0 h20 h21 I) (f_keeps L hN k_a0 hH (by omega) I (S H (by omega)))) (fun r1 hr1 => ?_)
  obtain ⟨⟨i1, ⟨u1, v1, w1⟩, _⟩, k1⟩ := hr1
  have W0 : WS ad h.1 δ0 r1 r1 := ⟨i1, fun _ _ _ _ => rfl, rfl⟩
  refine ok_bdv (fun d2 e2 => ?_)
  have W2 := W0.w L e2 (by decide) (by decide)
  refine ok_bdv (fun d3 e3 => ?_)
  have W3 := W2.w L e3 (by decide) (by decide)
  refine ok_bdv (fun d4 e4 => ?_)
  have W4 := W3.w L e4 (by decide) (by decide)
  refine ok_bdv (fun d5 e5 => ?_)
  have W5 := W4.w L e5 (by decide) (by decide)
  refine ok_bdv (fun d6 e6 => ?_)
  have W6 := W5.w L e6 (by decide) (by decide)
  refine ok_bdv (fun d7 e7 => ?_)
  have W7 := W6.w L e7 (by decide) (by decide)
  refine ok_bdv (fun d8 e8 => ?_)
  have W8 := W7.w L e8 (by decide) (by decide)
  refine ok_bdv (fun d9 e9 => ?_)
  have W9 := W8.w L e9 (by decide) (by decide)
  refine ok_bdv (fun d10 e10 => ?_)
  have W10 := W9.w L e10 (by decide) (by decide)
  have k47 : q_I d10 12 47 a0 = q_I r1 12 47 a0 := by
    rw [e10, rI_o (by decide), e9, rI_o (by decide), e8, rI_o (by decide), e7, rI_o (by decide), e6, rI_o (by decide), e5, rI_o (by decide), e4, rI_o (by decide), e3, rI_o (by decide), e2, rI_o (by decide)]
  have k10 : kpt ad a0 H δ d10 := k1.t (sgk_k (by rw [W10.2.2]) (by rw [W10.2.2])) (by rw [W10.2.2]) k47
  have rows : ∀ c, c ∈ [112, 113, 114, 115, 116] → q_R d10 (Ad ad c) = q_R δ (Ad ad c) := by
    intro c hc
    rw [W10.2.2]
    refine w1 c ?_ ?_ ?_ <;> (simp only [List.mem_cons, List.not_mem_nil, or_false] at hc ⊢; omega)
  refine ok_at o1 ?_
  refine ok_gd (fun z => ?_) ?_
  · rcases z with z | z
    · have := o_lt z; omega
    · rw [n1, tt] at z; omega
  rw [tt, rows 112 (by decide)]
  have hs := rb_112 L I t
  obtain ⟨dl, st⟩ := stp_q (T t (by unfold tN; omega))
  have G := fe_goes L hN k_a0 (t := t) (S := (q_R δ (Ad ad 112) t).toInt.toNat) (dl := dl) (by omega) (by omega) st ht h20 h21 20 0 0 (q_R δ (Ad ad 112) t) 0 (q_R δ (Ad ad 112) t).toInt.toNat d10 (by omega) (by omega) rfl (by omega) (by omega) (Nat.le_refl _) (fun _ _ _ => Nat.zero_le _) W10.1 (rows 113 (by decide)) (rows 114 (by decide)) (rows 115 (by decide)) (rows 116 (by decide)) (by rw [e10, rI_s]; rfl)
  refine ok_bind G (fun r hr => ?_)
  obtain ⟨⟨g1, g2, g3, g4⟩, _, _⟩ := hr
  rw [tn] at g4
  have kr2 : kpt ad a0 H δ r.2 := k10.t g4 (g3 124 (by decide) (by decide) (by decide)) (g2 12 47 a0 (by decide))
  refine ok_at o2 ?_
  refine ok_gd (fun z => ?_) ?_
  · rcases z with z | z
    · have := o_lt z; omega
    · rw [n2, tn] at z; omega
  refine ok_bdv (fun d11 e11 => ?_)
  have i11 : RI ad h.1 δ0 d11 := by rw [e11]; exact cs_12_59 L g1
  have k11 : kpt ad a0 H δ d11 := kr2.t (by rw [e11]; exact sgk_r) (by rw [e11]; rfl) (by rw [e11, rI_o (by decide)])
  refine ok_bind (ok_and (k_X12_comesBack L hN (x1 := x2) k_a0 h20 h21 i11) (f_back L hN k_a0 hH (by omega) I S k11)) (fun r3 hr3 => ok_some ?_)
  obtain ⟨⟨i3, u3, v3, w3⟩, b3⟩ := hr3
  refine ⟨i3, ?_, ?_, b3⟩
  · exact kp_w (by decide) (kp_t (kp_t (kp_t (kp_t u1 W10.2.1) g2) (kp_I kp_r e11)) u3)
  · exact kr_w (by decide) (kr_t (kr_t (kr_t (kr_N w1 W10.2.2) g3) (kr_N kr_r (show q_R d11 = q_R r.2 by rw [e11]; rfl))) w3)
abbrev WS0 : List (Nat × Nat) := [(12, 0), (12, 36), (12, 47), (12, 49), (12, 50), (12, 51), (12, 52), (12, 53), (12, 54), (12, 55), (12, 56), (12, 58), (12, 59)]
/-- what steals and seeds leave -/
def SPo (ad : List Nat) (g : gp) (δ0 δ r : dp) : Prop := RI ad g δ0 r ∧ kp WS0 δ r ∧ kr ad [100, 102, 103, 118, 119, 124, 126] δ r ∧ bak ad δ r
theorem SPo.k {ad : List Nat} {g : gp} {δ0 δ d : dp} (I : RI ad g δ0 d) (u : kp [(12, 0)] δ d) (w : kr ad [100] δ d) : SPo ad g δ0 δ d := ⟨I, kp_w (by decide) u, kr_w (by decide) w, bak_k (w 102 (by decide) (by decide) (by decide)) (w 103 (by decide) (by decide) (by decide))⟩
theorem SPo.w {ad : List Nat} {g : gp} {δ0 δ d r : dp} (s : SPo ad g δ0 δ d) (w : RI ad g δ0 r ∧ kp WW d r ∧ kr ad [102, 103, 118, 119, 124, 126] d r ∧ bak ad d r) : SPo ad g δ0 δ r := ⟨w.1, kp_w (by decide) (kp_t s.2.1 w.2.1), kr_w (by decide) (kr_t s.2.2.1 w.2.2.1), s.2.2.2.t w.2.2.2⟩
theorem SPo.T {ad : List Nat} {g : gp} {a0 : Nat} {δ0 δ r : dp} (s : SPo ad g δ0 δ r) (T : TH ad a0 δ) : TH ad a0 r := TH_k T (s.2.1 12 24 a0 (by decide)) (s.2.2.1 112 (by decide) (by decide) (by decide)) (s.2.2.1 113 (by decide) (by decide) (by decide)) (s.2.2.1 114 (by decide) (by decide) (by decide)) (s.2.2.1 115 (by decide) (by decide) (by decide)) (s.2.2.1 116 (by decide) (by decide) (by decide))
set_option maxHeartbeats 4000000 in
theorem f_steals {ad : List Nat} {h : hp} (L : Lay TLx ad h) {δ0 : dp} {N : Nat} (hN : 10000000 ≤ N) {a0 : Nat} {x1 x2 x3 x4 : Int32} (k_a0 : q_K h.1 a0 = 12) {δ : dp} (I : RI ad h.1 δ0 δ) (T : TH ad a0 δ) (S : ∀ K, K < 4 → 0 ≤ hM ad δ K) : ok (D_X12_steals N h.1 a0 x1 x2 x3 x4 δ) (fun r => SPo ad h.1 δ0 δ r.2) := by
  have z0 : (0 : Int32).toInt = 0 := rfl
  unfold D_X12_steals
  refine ok_bdv (fun d1 e1 => ?_)
  have i1 : RI ad h.1 δ0 d1 := by rw [e1]; exact cs_12_0 L I
  have w1 := kr_N (ad := ad) (W := []) (δ := δ) kr_r (show q_R d1 = q_R δ by rw [e1]; rfl)
  have u1 := kp_I kp_r e1
  refine ok_bind (k_X12_isHouse L hN (a0 := a0) (x1 := x2) (x2 := 1) k_a0 (by decide) i1) (fun r2 hr2 => ?_)
  obtain ⟨i2, ⟨u2, v2, w2⟩, b2, g2⟩ := hr2
  have u2' : kp [(12, 0)] δ r2.2 := kp_w (by decide) (kp_t u1 u2)
  have w2' : kr ad [100] δ r2.2 := kr_w (by decide) (kr_t w1 w2)
  refine ok_ite (fun _ => ?_) (fun c2 => ?_)
  · unfold J_X12_steals_39; exact ok_some (SPo.k i2 u2' w2')
  have n2 := bo_l b2
  have m2 := o_ne c2
  have hx := g2 (by omega)
  refine ok_bind (k_X12_isThief L hN (a0 := a0) (x1 := x1) k_a0 i2) (fun r3 hr3 => ?_)
  obtain ⟨i3, ⟨u3, v3, w3⟩, b3, g3⟩ := hr3
  have u3' : kp [(12, 0)] δ r3.2 := kp_w (by decide) (kp_t u2' u3)
  have w3' : kr ad [100] δ r3.2 := kr_w (by decide) (kr_t w2' w3)
  refine ok_ite (fun _ => ?_) (fun c3 => ?_)
  · unfold J_X12_steals_39; exact ok_some (SPo.k i3 u3' w3')
  have n3 := bo_l b3
  have m3 := o_ne c3
  have hy := g3 (by omega)
  refine ok_bind (k_X12_within L hN (x0 := x4) (x1 := 0) (x2 := 6) i3) (fun r5 hr5 => ?_)
  obtain ⟨e5, b5, _, _⟩ := hr5
  rw [e5]
  refine ok_bind (k_X12_may L hN (a0 := a0) (x1 := r5.1) (x2 := 3) (x3 := 2) k_a0 (by decide) (by decide) (by decide) i3) (fun r hr => ?_)
  obtain ⟨i4, ⟨u4, v4, w4⟩, b4, g4, _⟩ := hr
  have u4' : kp [(12, 0)] δ r.2 := kp_w (by decide) (kp_t u3' u4)
  have w4' : kr ad [100] δ r.2 := kr_w (by decide) (kr_t w3' w4)
  have P4 := SPo.k i4 u4' w4'
  refine ok_ite (fun _ => ?_) (fun c4 => ?_)
  · unfold J_X12_steals_39; exact ok_some P4
  have h24 : q_I r.2 12 24 a0 = q_I r2.2 12 24 a0 := (u4 12 24 a0 (by decide)).trans (u3 12 24 a0 (by decide))
  refine ok_bind (f_works L hN (x1 := x1) (x2 := x2) (x3 := x3) k_a0 hy.1 (by rw [h24]; exact hy.2) hx.1 hx.2 i4 (P4.T T) (fun K hK => by rw [(P4.2.2.2 K hK).1]; exact S K hK)) (fun r9 hr9 => ?_)
  have P9 := P4.w hr9
  refine ok_ite (fun _ => ok_some P9) (fun _ => ?_)
  refine ok_ite (fun _ => ok_some P9) (fun _ => ?_)
  refine ok_ite (fun _ => ok_some P9) (fun _ => ?_)
  refine ok_ite (fun _ => ok_some P9) (fun _ => ?_)
  refine ok_ite (fun _ => ok_some P9) (fun _ => ?_)
  exact ok_ite (fun _ => ok_some P9) (fun _ => ok_some P9)
set_option maxHeartbeats 4000000 in
theorem fl_seeds {ad : List Nat} {h : hp} (L : Lay TLx ad h) {δ0 : dp} {N : Nat} (hN : 10000000 ≤ N) {a0 : Nat} {x1 x2 x3 x4 x5 : Int32} (k_a0 : q_K h.1 a0 = 12) {δ : dp} (T : TH ad a0 δ) (S : ∀ K, K < 4 → 0 ≤ hM ad δ K) (t0 : 0 ≤ x1.toInt) (t1 : x1.toInt < (q_I δ 12 24 a0).toInt) (h20 : 0 ≤ x2.toInt) (h21 : x2.toInt ≤ 3) (h4 : x4.toInt ≤ 20) : ∀ (n : Nat) (x6v x7v x8v : Int32) (d : dp), 0 ≤ x8v.toInt → x8v.toInt ≤ 20 → SPo ad h.1 δ0 δ d → 20 - x8v.toInt < (n : Int) → ok (L_X12_seeds_68 N h.1 a0 x1 x2 x3 x4 x5 n x6v x7v x8v d) (fun r => SPo ad h.1 δ0 δ r.2) := by
  intro n
  induction n with
  | zero => intro x6v x7v x8v d _ _ _ hm; exfalso; omega
  | succ n ih =>
    intro x6v x7v x8v d q0 q1 P hm
    unfold L_X12_seeds_68 J_X12_seeds_103 J_X12_seeds_113 J_X12_seeds_131
    refine ok_ite (fun _ => ok_ite (fun _ => ok_some P) (fun _ => ok_some P)) (fun c => ?_)
    have c1 := o_nle c
    refine ok_bind (f_works L hN (x1 := x1) (x2 := x2) (x3 := x3 + x8v) k_a0 t0 (by rw [P.2.1 12 24 a0 (by decide)]; exact t1) h20 h21 P.1 (P.T T) (fun K hK => by rw [(P.2.2.2 K hK).1]; exact S K hK)) (fun r hr => ?_)
    have P9 := P.w hr
    have hx := te_addc (c := 1) (n := 1) rfl x8v (by omega) (by omega)
    have go : ∀ (a b : Int32), ok (bi (x8v + 1) fun x_17 => L_X12_seeds_68 N h.1 a0 x1 x2 x3 x4 x5 n a b x_17 r) (fun r => SPo ad h.1 δ0 δ r.2) := by
      intro a b
      refine ok_biv (fun x ex => ?_)
      rw [← ex] at hx
      exact ih a b x r (by omega) (by omega) P9 (by omega)
    refine ok_ite (fun _ => ?_) (fun _ => ?_)
    · exact ok_biv (fun y ey => go _ _)
    · refine ok_ite (fun _ => ?_) (fun _ => ?_)
      · exact ok_biv (fun y ey => go _ _)
      · exact go _ _
set_option maxHeartbeats 4000000 in
theorem f_seeds {ad : List Nat} {h : hp} (L : Lay TLx ad h) {δ0 : dp} {N : Nat} (hN : 10000000 ≤ N) {a0 : Nat} {x1 x2 x3 x4 x5 : Int32} (k_a0 : q_K h.1 a0 = 12) {δ : dp} (I : RI ad h.1 δ0 δ) (T : TH ad a0 δ) (S : ∀ K, K < 4 → 0 ≤ hM ad δ K) : ok (D_X12_seeds N h.1 a0 x1 x2 x3 x4 x5 δ) (fun r => SPo ad h.1 δ0 δ r.2) := by
  have z0 : (0 : Int32).toInt = 0 := rfl
  have z20 : (20 : Int32).toInt = 20 := rfl
  unfold D_X12_seeds J_X12_seeds_48 J_X12_seeds_49 J_X12_seeds_57
  refine ok_bdv (fun d1 e1 => ?_)
  have i1 : RI ad h.1 δ0 d1 := by rw [e1]; exact cs_12_0 L I
  have w1 := kr_N (ad := ad) (W := []) (δ := δ) kr_r (show q_R d1 = q_R δ by rw [e1]; rfl)
  have u1 := kp_I kp_r e1
  refine ok_bind (k_X12_isHouse L hN (a0 := a0) (x1 := x2) (x2 := 1) k_a0 (by decide) i1) (fun r2 hr2 => ?_)
  obtain ⟨i2, ⟨u2, v2, w2⟩, b2, g2⟩ := hr2
  have u2' : kp [(12, 0)] δ r2.2 := kp_w (by decide) (kp_t u1 u2)
  have w2' : kr ad [100] δ r2.2 := kr_w (by decide) (kr_t w1 w2)
  refine ok_ite (fun _ => ok_some (SPo.k i2 u2' w2')) (fun c2 => ?_)
  have n2 := bo_l b2
  have m2 := o_ne c2
  have hx := g2 (by omega)
  refine ok_bind (k_X12_isThief L hN (a0 := a0) (x1 := x1) k_a0 i2) (fun r3 hr3 => ?_)
  obtain ⟨i3, ⟨u3, v3, w3⟩, b3, g3⟩ := hr3
  have u3' : kp [(12, 0)] δ r3.2 := kp_w (by decide) (kp_t u2' u3)
  have w3' : kr ad [100] δ r3.2 := kr_w (by decide) (kr_t w2' w3)
  refine ok_ite (fun _ => ok_some (SPo.k i3 u3' w3')) (fun c3 => ?_)
  have n3 := bo_l b3
  have m3 := o_ne c3
  have hy := g3 (by omega)
  have h24 : q_I r2.2 12 24 a0 = q_I δ 12 24 a0 := u2' 12 24 a0 (by decide)
  have last : ∀ (y : Int32), (y.toInt ≠ 0 → x4.toInt ≤ 20) → ok ((D_X12_may N h.1 a0 y 3 2 r3.2).bind fun r_9 => if r_9.1 = 0 then (some (0, r_9.2)) else (L_X12_seeds_68 N h.1 a0 x1 x2 x3 x4 x5 N ((-1)) 0 0 r_9.2)) (fun r => SPo ad h.1 δ0 δ r.2) := by
    intro y hy4
    refine ok_bind (k_X12_may L hN (a0 := a0) (x1 := y) (x2 := 3) (x3 := 2) k_a0 (by decide) (by decide) (by decide) i3) (fun r hr => ?_)
    obtain ⟨i4, ⟨u4, v4, w4⟩, b4, g4, _⟩ := hr
    have P4 : SPo ad h.1 δ0 δ r.2 := SPo.k i4 (kp_w (by decide) (kp_t u3' u4)) (kr_w (by decide) (kr_t w3' w4))
    refine ok_ite (fun _ => ok_some P4) (fun c4 => ?_)
    have n4 := bo_l b4
    have m4 := o_ne c4
    exact fl_seeds L hN k_a0 T S hy.1 (by rw [← h24]; exact hy.2) hx.1 hx.2 (hy4 (g4 (by omega))) N _ 0 0 r.2 (by decide) (by decide) P4 (by omega)
  refine ok_bind (k_X12_within L hN (x0 := x4) (x1 := 1) (x2 := 20) i3) (fun r5 hr5 => ?_)
  obtain ⟨e5, b5, g5, _⟩ := hr5
  have n5 := bo_l b5
  rw [e5]
  refine ok_ite (fun c => last 0 (fun z => absurd z0 z)) (fun c5 => ?_)
  have m5 := o_ne c5
  have g55 := g5 (by omega)
  refine ok_bind (k_X12_within L hN (x0 := x5) (x1 := 0) (x2 := 1) i3) (fun r6 hr6 => ?_)
  obtain ⟨e6, b6, _, _⟩ := hr6
  rw [e6]
  exact ok_ite (fun c => last 0 (fun z => absurd z0 z)) (fun _ => last 1 (fun _ => by omega))
