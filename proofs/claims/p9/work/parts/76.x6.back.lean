/-! a house is kept, changed, and comes back -/
def kpt (ad : List Nat) (a0 H : Nat) (δ d : dp) : Prop := sgk ad H δ d ∧ (q_I d 12 47 a0).toInt = hM ad δ H ∧ ∀ i : Nat, (i : Int) < hM ad δ H → q_R d (Ad ad 124) i = q_R δ (Ad ad 102) (2000 * H + i)
theorem kpt.t {ad : List Nat} {a0 H : Nat} {δ d d1 : dp} (h : kpt ad a0 H δ d) (s : sgk ad H d d1) (e1 : q_R d1 (Ad ad 124) = q_R d (Ad ad 124)) (e2 : q_I d1 12 47 a0 = q_I d 12 47 a0) : kpt ad a0 H δ d1 := ⟨sgk_t h.1 s, by rw [e2]; exact h.2.1, fun i hi => by rw [e1]; exact h.2.2 i hi⟩
theorem fl_keeps {ad : List Nat} {h : hp} (L : Lay TLx ad h) {δ0 : dp} {N a0 H M : Nat} {x1 : Int32} (ka : q_K h.1 a0 = 12) (hx : x1.toInt = (H : Int)) (hh : H < 4) {δ : dp} (hM1 : hM ad δ H = (M : Int)) (hM2 : M ≤ 2000) : ∀ (n k : Nat) (x2 : Int32) (d : dp), x2.toInt = (k : Int) → k ≤ M → (∀ i : Nat, i < k → q_R d (Ad ad 124) i = q_R δ (Ad ad 102) (2000 * H + i)) → q_R d (Ad ad 102) = q_R δ (Ad ad 102) → q_R d (Ad ad 103) = q_R δ (Ad ad 103) → M - k < n → ok (L_X12_keeps_2 N h.1 a0 x1 n x2 d) (fun r => kpt ad a0 H δ r) := by
  have e0 : (0 : Int32).toInt = 0 := rfl
  have tn := tnH hx
  obtain ⟨bm, om, _, nm⟩ := gO_12_14 L ka
  obtain rfl := gS_12_14 L ka om
  obtain ⟨br, orr, _, nr, _⟩ := gO_12_13 L ka
  obtain rfl := gS_12_13 L ka orr
  obtain ⟨bk, okk, _, nk, _⟩ := gO_12_46 L ka
  obtain rfl := gS_12_46 L ka okk
  intro n
  induction n with
  | zero => intro k x2 d h1 h2 h3 h4 h5 hn; exfalso; omega
  | succ n ih =>
    intro k x2 d h1 h2 h3 h4 h5 hn
    have vM : (q_R d (Ad ad 103) H).toInt = (M : Int) := by rw [h5]; exact hM1
    unfold L_X12_keeps_2
    refine ok_at om ?_
    refine ok_gd (fun z => ?_) ?_
    · rcases z with z | z
      · have := o_lt z; omega
      · omega
    rw [tn]
    refine ok_ite (fun c => ?_) (fun c => ?_)
    · have c1 := o_le c
      refine ok_at om ?_
      refine ok_gd (fun z => ?_) ?_
      · rcases z with z | z
        · have := o_lt z; omega
        · omega
      refine ok_bdv (fun d1 e1 => ?_)
      refine ok_some ⟨?_, ?_, fun i hi => ?_⟩
      · rw [e1]; exact sgk_k h4 h5
      · rw [e1, rI_s, vM, hM1]
      · rw [e1]; exact h3 i (by omega)
    · have c1 := o_nle c
      refine ok_at okk ?_
      refine ok_at orr ?_
      obtain ⟨i1, i2⟩ := ix2 hx hh h1 (by omega)
      have t2 := ti_tn x2
      refine ok_gd (fun z => ?_) ?_
      · rcases z with z | z
        · have := o_lt z; omega
        · rw [i2] at z; omega
      refine ok_gd (fun z => ?_) ?_
      · rcases z with z | z
        · have := o_lt z; omega
        · omega
      rw [i2]
      refine ok_bdv (fun d1 e1 => ?_)
      refine ok_biv (fun y ey => ?_)
      have hy : y.toInt = x2.toInt + 1 := by rw [ey]; exact (te_addc (c := 1) (n := 1) rfl x2 (by omega) (by omega)).1
      refine ih (k + 1) y d1 (by omega) (by omega) (fun i hi => ?_) (by rw [e1, rR_o (ad_ne L (by decide) (by decide) (by decide)), h4]) (by rw [e1, rR_o (ad_ne L (by decide) (by decide) (by decide)), h5]) (by omega)
      rw [e1, qR_sR]
      by_cases c3 : i = k
      · rw [if_pos ⟨rfl, by omega⟩, h4, c3]
      · rw [if_neg (fun z => c3 (by omega))]; exact h3 i (by omega)
theorem f_keeps {ad : List Nat} {h : hp} (L : Lay TLx ad h) {δ0 : dp} {N : Nat} (hNN : 10000000 ≤ N) {a0 H : Nat} {x1 : Int32} (ka : q_K h.1 a0 = 12) (hx : x1.toInt = (H : Int)) (hh : H < 4) {δ : dp} (I : RI ad h.1 δ0 δ) (S : 0 ≤ hM ad δ H) : ok (D_X12_keeps N h.1 a0 x1 δ) (fun r => kpt ad a0 H δ r) := by
  have hB : -1000 ≤ hM ad δ H ∧ hM ad δ H ≤ 2000 := rb_103 L I H
  have e0 : (0 : Int32).toInt = 0 := rfl
  unfold D_X12_keeps
  exact fl_keeps (δ0 := δ0) L ka hx hh (M := (hM ad δ H).toNat) (by omega) (by omega) N 0 0 δ (by omega) (by omega) (fun i hi => by omega) rfl rfl (by omega)
theorem fl_back {ad : List Nat} {h : hp} (L : Lay TLx ad h) {δ0 : dp} {N a0 H M : Nat} {x1 : Int32} (ka : q_K h.1 a0 = 12) (hx : x1.toInt = (H : Int)) (hh : H < 4) {δ : dp} (hM1 : hM ad δ H = (M : Int)) (hM2 : M ≤ 2000) : ∀ (n k : Nat) (x2 : Int32) (d : dp), x2.toInt = (k : Int) → k ≤ M → kpt ad a0 H δ d → (∀ i : Nat, i < k → q_R d (Ad ad 102) (2000 * H + i) = q_R δ (Ad ad 102) (2000 * H + i)) → M - k < n → ok (L_X12_comesBack_2 N h.1 a0 x1 n x2 d) (fun r => sgk ad H δ r ∧ hM ad r H = hM ad δ H ∧ ∀ i : Nat, i < M → q_R r (Ad ad 102) (2000 * H + i) = q_R δ (Ad ad 102) (2000 * H + i)) := by
  have e0 : (0 : Int32).toInt = 0 := rfl
  have tn := tnH hx
  obtain ⟨bm, om, _, nm⟩ := gO_12_14 L ka
  obtain rfl := gS_12_14 L ka om
  obtain ⟨br, orr, _, nr, _⟩ := gO_12_13 L ka
  obtain rfl := gS_12_13 L ka orr
  obtain ⟨bk, okk, _, nk, _⟩ := gO_12_46 L ka
  obtain rfl := gS_12_46 L ka okk
  intro n
  induction n with
  | zero => intro k x2 d h1 h2 h3 h4 hn; exfalso; omega
  | succ n ih =>
    intro k x2 d h1 h2 h3 h4 hn
    have vM : (q_I d 12 47 a0).toInt = (M : Int) := by rw [h3.2.1]; exact hM1
    unfold L_X12_comesBack_2
    refine ok_ite (fun c => ?_) (fun c => ?_)
    · have c1 := o_le c
      refine ok_at om ?_
      refine ok_gd (fun z => ?_) ?_
      · rcases z with z | z
        · have := o_lt z; omega
        · omega
      rw [tn]
      refine ok_bdv (fun d1 e1 => ?_)
      refine ok_some ⟨?_, ?_, fun i hi => ?_⟩
      · rw [e1]; exact sgk_t h3.1 (sgk_3 L)
      · show (q_R d1 (Ad ad 103) H).toInt = _
        rw [e1, qR_sR, if_pos ⟨rfl, rfl⟩, vM, hM1]
      · rw [e1, rR_o (ad_ne L (by decide) (by decide) (by decide))]; exact h4 i (by omega)
    · have c1 := o_nle c
      refine ok_at orr ?_
      refine ok_at okk ?_
      obtain ⟨i1, i2⟩ := ix2 hx hh h1 (by omega)
      have t2 := ti_tn x2
      refine ok_gd (fun z => ?_) ?_
      · rcases z with z | z
        · have := o_lt z; omega
        · omega
      refine ok_gd (fun z => ?_) ?_
      · rcases z with z | z
        · have := o_lt z; omega
        · rw [i2] at z; omega
      rw [i2]
      have ek : x2.toNatClampNeg = k := by omega
      rw [ek]
      refine ok_bdv (fun d1 e1 => ?_)
      refine ok_biv (fun y ey => ?_)
      have hy : y.toInt = x2.toInt + 1 := by rw [ey]; exact (te_addc (c := 1) (n := 1) rfl x2 (by omega) (by omega)).1
      refine ih (k + 1) y d1 (by omega) (by omega) (h3.t (by rw [e1]; exact sgk_2 L (by omega) (by omega)) (by rw [e1, rR_o (ad_ne L (by decide) (by decide) (by decide))]) (by rw [e1]; rfl)) (fun i hi => ?_) (by omega)
      rw [e1, qR_sR]
      by_cases c3 : i = k
      · rw [if_pos ⟨rfl, by omega⟩, c3]; exact h3.2.2 k (by omega)
      · rw [if_neg (fun z => c3 (by omega))]; exact h4 i (by omega)
/-- the houses are as they were -/
def bak (ad : List Nat) (δ d : dp) : Prop := ∀ K, K < 4 → hM ad d K = hM ad δ K ∧ ∀ i : Nat, (i : Int) < hM ad δ K → hR ad d K i = hR ad δ K i
theorem bak.o {ad : List Nat} {a0 : Nat} {δ d : dp} (h : bak ad δ d) (e : q_I d 12 10 a0 = q_I δ 12 10 a0) {K : Nat} (hK : K < 4) (S : hok ad a0 δ K) : hok ad a0 d K := by
  obtain ⟨h1, h2⟩ := h K hK
  refine ⟨⟨by rw [h1]; exact S.1.1, fun i j a b => ?_⟩, fun y hy => (rg_k e).mpr (S.2 y ?_)⟩
  · rw [h1] at b
    rw [h2 i (by omega), h2 j b]
    exact S.1.2 i j a b
  · obtain ⟨i, a, b⟩ := hy
    rw [h1] at a
    rw [h2 i a] at b
    exact ⟨i, a, b⟩
theorem f_back {ad : List Nat} {h : hp} (L : Lay TLx ad h) {δ0 : dp} {N : Nat} (hNN : 10000000 ≤ N) {a0 H : Nat} {x1 : Int32} (ka : q_K h.1 a0 = 12) (hx : x1.toInt = (H : Int)) (hh : H < 4) {δ d : dp} (I : RI ad h.1 δ0 δ) (S : ∀ K, K < 4 → 0 ≤ hM ad δ K) (k : kpt ad a0 H δ d) : ok (D_X12_comesBack N h.1 a0 x1 d) (fun r => bak ad δ r) := by
  have hB : ∀ K, -1000 ≤ hM ad δ K ∧ hM ad δ K ≤ 2000 := fun K => rb_103 L I K
  have s := S H hh
  have b := hB H
  have e0 : (0 : Int32).toInt = 0 := rfl
  unfold D_X12_comesBack
  refine ok_mono (fl_back (δ0 := δ0) L ka hx hh (M := (hM ad δ H).toNat) (by omega) (by omega) N 0 0 d (by omega) (by omega) k (fun i hi => by omega) (by omega)) (fun r hr => ?_)
  obtain ⟨s1, m1, r1⟩ := hr
  intro K hK
  by_cases e : K = H
  · subst e
    exact ⟨m1, fun i hi => by unfold hR; rw [r1 i (by omega)]⟩
  · refine ⟨by unfold hM; rw [s1.2 K e], fun i hi => ?_⟩
    have bK := hB K
    unfold hR
    rw [s1.1 _ (by omega)]
theorem fl_goesTo {ad : List Nat} {h : hp} (L : Lay TLx ad h) {δ0 : dp} {N : Nat} (hNN : 10000000 ≤ N) {a0 H : Nat} {x1 x2 : Int32} (ka : q_K h.1 a0 = 12) (hx : x1.toInt = (H : Int)) (hh : H < 4) (z3 : x2.toInt ≤ 1000) {δ : dp} : ∀ (n k : Nat) (x3 : Int32) (d : dp), x3.toInt = (k : Int) → k ≤ 1000 → RI ad h.1 δ0 d → -(k : Int) ≤ (q_R d (Ad ad 103) x1.toNatClampNeg).toInt → (q_R d (Ad ad 103) x1.toNatClampNeg).toInt ≤ (k : Int) → kpt ad a0 H δ d → 1000 - k < n → ok (L_X12_goesTo_14 N h.1 a0 x1 x2 n x3 d) (fun r => kpt ad a0 H δ r) := by
  have tn := tnH hx
  intro n
  induction n with
  | zero => intro k x3 d h1 h2 I m1 m2 K hn; exfalso; omega
  | succ n ih =>
    intro k x3 d h1 h2 I m1 m2 K hn
    unfold L_X12_goesTo_14
    refine ok_ite (fun _ => ok_some K) (fun c => ?_)
    have c1 := o_nle c
    refine ok_bind (g_X12_changes L hNN (a0 := a0) (x1 := x1) (x2 := x3) ka (by omega) (by omega) (by omega) (by omega) (by omega) (by omega) I) (fun r hr => ?_)
    obtain ⟨i3, ⟨u3, v3, w3, s3⟩, p1, p2⟩ := hr
    rw [tn] at s3
    refine ok_biv (fun y ey => ?_)
    have hy : y.toInt = x3.toInt + 1 := by rw [ey]; exact (te_addc (c := 1) (n := 1) rfl x3 (by omega) (by omega)).1
    exact ih (k + 1) y r (by omega) (by omega) i3 (by omega) (by omega) (K.t s3 (w3 124 (by decide) (by decide) (by decide)) (u3 12 47 a0 (by decide))) (by omega)
theorem f_goesTo {ad : List Nat} {h : hp} (L : Lay TLx ad h) {δ0 : dp} {N : Nat} (hNN : 10000000 ≤ N) {a0 H : Nat} {x1 x2 : Int32} (ka : q_K h.1 a0 = 12) (hx : x1.toInt = (H : Int)) (hh : H < 4) (z2 : 0 ≤ x2.toInt) (z3 : x2.toInt ≤ 1000) {δ : dp} (I : RI ad h.1 δ0 δ) (S : 0 ≤ hM ad δ H) : ok (D_X12_goesTo N h.1 a0 x1 x2 δ) (fun r => kpt ad a0 H δ r) := by
  have e0 : (0 : Int32).toInt = 0 := rfl
  have tn := tnH hx
  unfold D_X12_goesTo
  refine ok_bind (ok_and (k_X12_keeps L hNN (a0 := a0) (x1 := x1) ka (by omega) (by omega) I) (f_keeps L hNN ka hx hh I S)) (fun r hr => ?_)
  obtain ⟨⟨i1, ⟨u1, v1, w1⟩, _⟩, k1⟩ := hr
  obtain ⟨bm, om, _, nm⟩ := gO_12_14 L ka
  obtain rfl := gS_12_14 L ka om
  refine ok_at om ?_
  refine ok_gd (fun z => ?_) ?_
  · rcases z with z | z
    · have := o_lt z; omega
    · omega
  refine ok_bdv (fun d1 e1 => ?_)
  have i2 : RI ad h.1 δ0 d1 := by rw [e1]; exact cr_103 L i1 (by decide) (by decide)
  have m0 : (q_R d1 (Ad ad 103) x1.toNatClampNeg).toInt = 0 := by
    rw [e1, qR_sR, if_pos ⟨rfl, rfl⟩]
    rfl
  have k2 : kpt ad a0 H δ d1 := k1.t (by rw [e1, tn]; exact sgk_3 L) (by rw [e1, rR_o (ad_ne L (by decide) (by decide) (by decide))]) (by rw [e1]; rfl)
  exact fl_goesTo L hNN ka hx hh z3 N 0 0 d1 (by omega) (by omega) i2 (by omega) (by omega) k2 (by omega)
theorem bak_k {ad : List Nat} {δ d : dp} (h2 : q_R d (Ad ad 102) = q_R δ (Ad ad 102)) (h3 : q_R d (Ad ad 103) = q_R δ (Ad ad 103)) : bak ad δ d := fun K _ => ⟨(h_rows h2 h3 K).1, fun i _ => (h_rows h2 h3 K).2 i⟩
theorem bak.t {ad : List Nat} {δ d e : dp} (h : bak ad δ d) (k : bak ad d e) : bak ad δ e := fun K hK => ⟨(k K hK).1.trans (h K hK).1, fun i hi => ((k K hK).2 i (by rw [(h K hK).1]; exact hi)).trans ((h K hK).2 i hi)⟩
set_option maxHeartbeats 4000000 in
theorem f_was {ad : List Nat} {h : hp} (L : Lay TLx ad h) {δ0 : dp} {N : Nat} (hNN : 10000000 ≤ N) {a0 : Nat} {x1 x2 x3 : Int32} (ka : q_K h.1 a0 = 12) {δ : dp} (I : RI ad h.1 δ0 δ) (S : ∀ K, K < 4 → 0 ≤ hM ad δ K) : ok (D_X12_was N h.1 a0 x1 x2 x3 δ) (fun r => bak ad δ r.2) := by
  have e0 : (0 : Int32).toInt = 0 := rfl
  unfold D_X12_was
  refine ok_bdv (fun d1 e1 => ?_)
  have i1 : RI ad h.1 δ0 d1 := by rw [e1]; exact cs_12_0 L I
  have w1 := kr_N (ad := ad) (W := []) (δ := δ) kr_r (show q_R d1 = q_R δ by rw [e1]; rfl)
  refine ok_bind (k_X12_isHouse L hNN (a0 := a0) (x1 := x1) (x2 := 1) ka (by decide) i1) (fun r2 hr2 => ?_)
  obtain ⟨i2, ⟨u2, v2, w2⟩, b2, g2⟩ := hr2
  have w2' : kr ad [100] δ r2.2 := kr_w (by decide) (kr_t w1 w2)
  have out : ∀ d, kr ad [100] δ d → bak ad δ d := fun d w => bak_k (w 102 (by decide) (by decide) (by decide)) (w 103 (by decide) (by decide) (by decide))
  refine ok_ite (fun _ => ?_) (fun c2 => ?_)
  · unfold J_X12_was_46; exact ok_some (out _ w2')
  have n2 := bo_l b2
  have m2 := o_ne c2
  have hx := g2 (by omega)
  obtain ⟨A, hA⟩ : ∃ A : Nat, x1.toInt = (A : Int) := ⟨x1.toInt.toNat, by omega⟩
  have tn := tnH hA
  have bad : ok (J_X12_was_37 N h.1 a0 x1 x2 x3 a0 r2.2) (fun r => bak ad δ r.2) := by
    unfold J_X12_was_37 J_X12_was_38
    refine ok_bind (k_X12_may L hNN (a0 := a0) (x1 := 0) (x2 := 2) (x3 := 2) ka (by decide) (by decide) (by decide) i2) (fun r hr => ?_)
    obtain ⟨i4, ⟨u4, v4, w4⟩, b4, g4, _⟩ := hr
    refine ok_ite (fun _ => ?_) (fun c4 => ?_)
    · unfold J_X12_was_46; exact ok_some (out _ (kr_w (by decide) (kr_t w2' w4)))
    · have n4 := bo_l b4
      have m4 := o_ne c4
      exact absurd rfl (g4 (by omega))
  refine ok_bind (k_X12_isTime L hNN (a0 := a0) (x1 := x1) (x2 := x2) ka (by omega) (by omega) i2) (fun r3 hr3 => ?_)
  obtain ⟨e3, b3, g3⟩ := hr3
  rw [e3]
  refine ok_ite (fun _ => bad) (fun c3 => ?_)
  have n3 := bo_l b3
  have m3 := o_ne c3
  have ht := g3 (by omega)
  have hN6 : 0 ≤ hN ad r2.2 A ∧ hN ad r2.2 A ≤ 1000 := rb_106 L i2 A
  have vN : (q_R r2.2 (Ad ad 106) x1.toNatClampNeg).toInt = hN ad r2.2 A := by rw [tn]; rfl
  refine ok_bind (k_X12_within L hNN (x0 := x3) (x1 := 0) (x2 := 2) i2) (fun r5 hr5 => ?_)
  obtain ⟨e5, b5, _, _⟩ := hr5
  rw [e5]
  refine ok_ite (fun _ => bad) (fun c5 => ?_)
  unfold J_X12_was_38
  refine ok_bind (k_X12_may L hNN (a0 := a0) (x1 := 1) (x2 := 2) (x3 := 2) ka (by decide) (by decide) (by decide) i2) (fun r hr => ?_)
  obtain ⟨i4, ⟨u4, v4, w4⟩, b4, g4, _⟩ := hr
  have w4' : kr ad [100] δ r.2 := kr_w (by decide) (kr_t w2' w4)
  have b0 := out _ w4'
  refine ok_ite (fun _ => ?_) (fun c4 => ?_)
  · unfold J_X12_was_46; exact ok_some b0
  have S4 : ∀ K, K < 4 → 0 ≤ hM ad r.2 K := fun K hK => by rw [(b0 K hK).1]; exact S K hK
  refine ok_bind (ok_and (k_X12_goesTo L hNN (a0 := a0) (x1 := x1) (x2 := x2) ka (by omega) (by omega) (by omega) (by omega) i4) (f_goesTo L hNN ka hA (by omega) (by omega) (by omega) i4 (S4 A (by omega)))) (fun r9 hr9 => ?_)
  obtain ⟨⟨i9, _⟩, k9⟩ := hr9
  have back : ∀ v : Int32, ok (J_X12_was_94 N h.1 a0 x1 x2 x3 v r9) (fun r => bak ad δ r.2) := fun v => by
    unfold J_X12_was_94
    exact ok_bind (f_back L hNN ka hA (by omega) i4 S4 k9) (fun r10 hr10 => ok_some (b0.t hr10))
  obtain ⟨bm, om, _, nm⟩ := gO_12_14 L ka
  obtain rfl := gS_12_14 L ka om
  refine ok_ite (fun _ => ?_) (fun _ => ?_)
  · refine ok_at om ?_
    refine ok_gd (fun z => ?_) (back _)
    rcases z with z | z
    · have := o_lt z; omega
    · omega
  · refine ok_ite (fun _ => ?_) (fun _ => ?_)
    · refine ok_bind (k_X12_numberAt L hNN (a0 := a0) (x1 := x1) (x2 := 0) ka (by omega) (by omega) i9) (fun r10 hr10 => ?_)
      rw [show r10.2 = r9 from hr10]
      exact back _
    · refine ok_at om ?_
      refine ok_gd (fun z => ?_) ?_
      · rcases z with z | z
        · have := o_lt z; omega
        · omega
      refine ok_bind (k_X12_numberAt L hNN (a0 := a0) (x1 := x1) (x2 := q_R r9 (Ad ad 103) x1.toNatClampNeg - 1) ka (by omega) (by omega) i9) (fun r10 hr10 => ?_)
      rw [show r10.2 = r9 from hr10]
      exact back _
set_option maxHeartbeats 4000000 in
theorem f_asked {ad : List Nat} {h : hp} (L : Lay TLx ad h) {δ0 : dp} {N : Nat} (hNN : 10000000 ≤ N) {a0 : Nat} {x1 x2 x3 x4 : Int32} (ka : q_K h.1 a0 = 12) {δ : dp} (I : RI ad h.1 δ0 δ) (S : ∀ K, K < 4 → 0 ≤ hM ad δ K) : ok (D_X12_asked N h.1 a0 x1 x2 x3 x4 δ) (fun r => bak ad δ r.2) := by
  have e0 : (0 : Int32).toInt = 0 := rfl
  unfold D_X12_asked
  refine ok_bdv (fun d1 e1 => ?_)
  have i1 : RI ad h.1 δ0 d1 := by rw [e1]; exact cs_12_0 L I
  have w1 := kr_N (ad := ad) (W := []) (δ := δ) kr_r (show q_R d1 = q_R δ by rw [e1]; rfl)
  refine ok_bind (k_X12_isHouse L hNN (a0 := a0) (x1 := x1) (x2 := 1) ka (by decide) i1) (fun r2 hr2 => ?_)
  obtain ⟨i2, ⟨u2, v2, w2⟩, b2, g2⟩ := hr2
  have w2' : kr ad [100] δ r2.2 := kr_w (by decide) (kr_t w1 w2)
  have out : ∀ d, kr ad [100] δ d → bak ad δ d := fun d w => bak_k (w 102 (by decide) (by decide) (by decide)) (w 103 (by decide) (by decide) (by decide))
  refine ok_ite (fun _ => ?_) (fun c2 => ?_)
  · unfold J_X12_asked_56; exact ok_some (out _ w2')
  have n2 := bo_l b2
  have m2 := o_ne c2
  have hx := g2 (by omega)
  obtain ⟨A, hA⟩ : ∃ A : Nat, x1.toInt = (A : Int) := ⟨x1.toInt.toNat, by omega⟩
  have tn := tnH hA
  have bad : ok (J_X12_asked_47 N h.1 a0 x1 x2 x3 x4 a0 r2.2) (fun r => bak ad δ r.2) := by
    unfold J_X12_asked_47 J_X12_asked_48
    refine ok_bind (k_X12_may L hNN (a0 := a0) (x1 := 0) (x2 := 2) (x3 := 2) ka (by decide) (by decide) (by decide) i2) (fun r hr => ?_)
    obtain ⟨i4, ⟨u4, v4, w4⟩, b4, g4, _⟩ := hr
    refine ok_ite (fun _ => ?_) (fun c4 => ?_)
    · unfold J_X12_asked_56; exact ok_some (out _ (kr_w (by decide) (kr_t w2' w4)))
    · have n4 := bo_l b4
      have m4 := o_ne c4
      exact absurd rfl (g4 (by omega))
  refine ok_bind (k_X12_isTime L hNN (a0 := a0) (x1 := x1) (x2 := x2) ka (by omega) (by omega) i2) (fun r3 hr3 => ?_)
  obtain ⟨e3, b3, g3⟩ := hr3
  rw [e3]
  refine ok_ite (fun _ => bad) (fun c3 => ?_)
  have n3 := bo_l b3
  have m3 := o_ne c3
  have ht := g3 (by omega)
  have hN6 : 0 ≤ hN ad r2.2 A ∧ hN ad r2.2 A ≤ 1000 := rb_106 L i2 A
  have vN : (q_R r2.2 (Ad ad 106) x1.toNatClampNeg).toInt = hN ad r2.2 A := by rw [tn]; rfl
  refine ok_bind (k_X12_within L hNN (x0 := x3) (x1 := 2) (x2 := 4) i2) (fun r5 hr5 => ?_)
  obtain ⟨e5, b5, _, _⟩ := hr5
  rw [e5]
  refine ok_ite (fun _ => bad) (fun c5 => ?_)
  refine ok_bind (k_X12_mayAsk L hNN (a0 := a0) (x1 := x3) (x2 := x4) ka i2) (fun r6 hr6 => ?_)
  obtain ⟨e6, b6, _⟩ := hr6
  rw [e6]
  refine ok_ite (fun _ => bad) (fun c6 => ?_)
  unfold J_X12_asked_48
  refine ok_bind (k_X12_may L hNN (a0 := a0) (x1 := 1) (x2 := 2) (x3 := 2) ka (by decide) (by decide) (by decide) i2) (fun r hr => ?_)
  obtain ⟨i4, ⟨u4, v4, w4⟩, b4, g4, _⟩ := hr
  have w4' : kr ad [100] δ r.2 := kr_w (by decide) (kr_t w2' w4)
  have b0 := out _ w4'
  refine ok_ite (fun _ => ?_) (fun c4 => ?_)
  · unfold J_X12_asked_56; exact ok_some b0
  have S4 : ∀ K, K < 4 → 0 ≤ hM ad r.2 K := fun K hK => by rw [(b0 K hK).1]; exact S K hK
  refine ok_bind (ok_and (k_X12_goesTo L hNN (a0 := a0) (x1 := x1) (x2 := x2) ka (by omega) (by omega) (by omega) (by omega) i4) (f_goesTo L hNN ka hA (by omega) (by omega) (by omega) i4 (S4 A (by omega)))) (fun r9 hr9 => ?_)
  obtain ⟨⟨i9, _⟩, k9⟩ := hr9
  refine ok_bind (k_X12_answer L hNN (a0 := a0) (x1 := x1) (x2 := x3) (x3 := x4) ka (by omega) (by omega) i9) (fun r10 hr10 => ?_)
  rw [show r10.2 = r9 from hr10]
  exact ok_bind (f_back L hNN ka hA (by omega) i4 S4 k9) (fun r11 hr11 => ok_some (b0.t hr11))
