/-! room of the reference: the house comes back -/
theorem ix1 {x1 : Int32} {h : Nat} (hx : x1.toInt = (h : Int)) (hh : h < 4) {m : Int32} {k : Nat} (hm : m.toInt = (k : Int)) (hk : k < 1000) : ((1000 : Int32) * x1 + m).toInt = ((1000 * h + k : Nat) : Int) ∧ ((1000 : Int32) * x1 + m).toNatClampNeg = 1000 * h + k := by
  have t1 := te_mulc (c := 1000) (n := 1000) rfl x1 (by omega) (by omega)
  have t2 := te_add ((1000 : Int32) * x1) m (by omega) (by omega)
  have t3 := ti_tn ((1000 : Int32) * x1 + m)
  omega
set_option maxHeartbeats 4000000 in
theorem fl_room {ad : List Nat} {h : hp} (L : Lay TLx ad h) {δ0 : dp} {N : Nat} (hNN : 10000000 ≤ N) {a0 H : Nat} {x1 x2 : Int32} (ka : q_K h.1 a0 = 12) (hx : x1.toInt = (H : Int)) (hh : H < 4) {δ : dp} (I0 : RI ad h.1 δ0 δ) (S : ∀ K, K < 4 → 0 ≤ hM ad δ K) : ∀ (n k : Nat) (x3 x4 : Int32) (d : dp), x4.toInt = (k : Int) → k ≤ 1000 → RI ad h.1 δ0 d → -(k : Int) ≤ (q_R d (Ad ad 103) x1.toNatClampNeg).toInt → (q_R d (Ad ad 103) x1.toNatClampNeg).toInt ≤ (k : Int) → kpt ad a0 H δ d → 1000 - k < n → ok (L_X12_room_60 N h.1 a0 x1 x2 n x3 x4 d) (fun r => bak ad δ r.2) := by
  have e0 : (0 : Int32).toInt = 0 := rfl
  have tn := tnH hx
  obtain ⟨b1, o1, _, n1, _⟩ := gO_12_15 L ka
  obtain rfl := gS_12_15 L ka o1
  obtain ⟨b2, o2, _, n2, _⟩ := gO_12_16 L ka
  obtain rfl := gS_12_16 L ka o2
  obtain ⟨b3, o3, _, n3⟩ := gO_12_17 L ka
  obtain rfl := gS_12_17 L ka o3
  intro n
  induction n with
  | zero => intro k x3 x4 d h1 h2 I m1 m2 K hn; exfalso; omega
  | succ n ih =>
    intro k x3 x4 d h1 h2 I m1 m2 K hn
    have hB : 0 ≤ (q_R d (Ad ad 106) H).toInt ∧ (q_R d (Ad ad 106) H).toInt ≤ 1000 := rb_106 L I H
    unfold L_X12_room_60
    refine ok_at o3 ?_
    refine ok_gd (fun z => ?_) ?_
    · rcases z with z | z
      · have := o_lt z; omega
      · omega
    rw [tn]
    refine ok_ite (fun _ => ?_) (fun c => ?_)
    · exact ok_bind (f_back L hNN ka hx hh I0 S K) (fun r hr => ok_some hr)
    · have c1 := o_nle c
      obtain ⟨i1, i2⟩ := ix1 hx hh h1 (by omega)
      have go : ∀ cc : Int32, ok (J_X12_room_96 N h.1 a0 x1 x2 (L_X12_room_60 N h.1 a0 x1 x2 n) cc x1 a0 x3 x4 d) (fun r => bak ad δ r.2) := fun cc => by
        unfold J_X12_room_96
        refine ok_at o1 ?_
        refine ok_gd (fun z => ?_) ?_
        · rcases z with z | z
          · have := o_lt z; omega
          · rw [i2] at z; omega
        refine ok_bind (k_X12_halves L hNN (a0 := a0) (x1 := x1) (x2 := cc) (x3 := q_R d (Ad ad 104) ((1000 : Int32) * x1 + x4).toNatClampNeg) ka (by omega) (by omega) I) (fun r hr => ?_)
        obtain ⟨j1, u1, v1, w1⟩ := hr
        have q3 := w1 103 (by decide) (by decide) (by decide)
        have K1 : kpt ad a0 H δ r.2 := K.t (sgk_k (w1 102 (by decide) (by decide) (by decide)) q3) (w1 124 (by decide) (by decide) (by decide)) (u1 12 47 a0 (by decide))
        refine ok_biv (fun s2 _ => ?_)
        refine ok_bind (g_X12_changes L hNN (a0 := a0) (x1 := x1) (x2 := x4) ka (by omega) (by omega) (by omega) (by omega) (by rw [q3]; omega) (by rw [q3]; omega) j1) (fun r2 hr2 => ?_)
        obtain ⟨j2, ⟨u2, v2, w2, s2'⟩, p1, p2⟩ := hr2
        rw [q3] at p1 p2
        rw [tn] at s2'
        refine ok_biv (fun y ey => ?_)
        have hy : y.toInt = x4.toInt + 1 := by rw [ey]; exact (te_addc (c := 1) (n := 1) rfl x4 (by omega) (by omega)).1
        exact ih (k + 1) s2 y r2 (by omega) (by omega) j2 (by omega) (by omega) (K1.t s2' (w2 124 (by decide) (by decide) (by decide)) (u2 12 47 a0 (by decide))) (by omega)
      refine ok_at o2 ?_
      refine ok_gd (fun z => ?_) ?_
      · rcases z with z | z
        · have := o_lt z; omega
        · rw [i2] at z; omega
      exact ok_ite (fun _ => go 0) (fun _ => go 1)
set_option maxHeartbeats 4000000 in
theorem f_room {ad : List Nat} {h : hp} (L : Lay TLx ad h) {δ0 : dp} {N : Nat} (hNN : 10000000 ≤ N) {a0 : Nat} {x1 x2 : Int32} (ka : q_K h.1 a0 = 12) {δ : dp} (I : RI ad h.1 δ0 δ) (S : ∀ K, K < 4 → 0 ≤ hM ad δ K) : ok (D_X12_room N h.1 a0 x1 x2 δ) (fun r => bak ad δ r.2) := by
  have e0 : (0 : Int32).toInt = 0 := rfl
  unfold D_X12_room
  refine ok_bdv (fun d1 e1 => ?_)
  have i1 : RI ad h.1 δ0 d1 := by rw [e1]; exact cs_12_0 L I
  have w1 := kr_N (ad := ad) (W := []) (δ := δ) kr_r (show q_R d1 = q_R δ by rw [e1]; rfl)
  refine ok_bind (k_X12_isHouse L hNN (a0 := a0) (x1 := x1) (x2 := 1) ka (by decide) i1) (fun r2 hr2 => ?_)
  obtain ⟨i2, ⟨u2, v2, w2⟩, b2, g2⟩ := hr2
  have w2' : kr ad [100] δ r2.2 := kr_w (by decide) (kr_t w1 w2)
  have out : ∀ d, kr ad [100] δ d → bak ad δ d := fun d w => bak_k (w 102 (by decide) (by decide) (by decide)) (w 103 (by decide) (by decide) (by decide))
  refine ok_ite (fun _ => ?_) (fun c2 => ?_)
  · unfold J_X12_room_29; exact ok_some (out _ w2')
  have n2 := bo_l b2
  have m2 := o_ne c2
  have hx := g2 (by omega)
  obtain ⟨A, hA⟩ : ∃ A : Nat, x1.toInt = (A : Int) := ⟨x1.toInt.toNat, by omega⟩
  have tn := tnH hA
  refine ok_bind (k_X12_within L hNN (x0 := x2) (x1 := 0) (x2 := 1) i2) (fun r5 hr5 => ?_)
  obtain ⟨e5, b5, _, _⟩ := hr5
  rw [e5]
  refine ok_bind (k_X12_may L hNN (a0 := a0) (x1 := r5.1) (x2 := 2) (x3 := 2) ka (by decide) (by decide) (by decide) i2) (fun r hr => ?_)
  obtain ⟨i4, ⟨u4, v4, w4⟩, b4, g4, _⟩ := hr
  have w4' : kr ad [100] δ r.2 := kr_w (by decide) (kr_t w2' w4)
  have b0 := out _ w4'
  refine ok_ite (fun _ => ?_) (fun c4 => ?_)
  · unfold J_X12_room_29; exact ok_some b0
  have S4 : ∀ K, K < 4 → 0 ≤ hM ad r.2 K := fun K hK => by rw [(b0 K hK).1]; exact S K hK
  obtain ⟨b3, o3, _, n3⟩ := gO_12_17 L ka
  obtain rfl := gS_12_17 L ka o3
  obtain ⟨bm, om, _, nm⟩ := gO_12_14 L ka
  obtain rfl := gS_12_14 L ka om
  refine ok_ite (fun _ => ?_) (fun _ => ?_)
  · refine ok_at o3 ?_
    refine ok_gd (fun z => ?_) (ok_some b0)
    rcases z with z | z
    · have := o_lt z; omega
    · omega
  · refine ok_bind (ok_and (k_X12_keeps L hNN (a0 := a0) (x1 := x1) ka (by omega) (by omega) i4) (f_keeps L hNN ka hA (by omega) i4 (S4 A (by omega)))) (fun r9 hr9 => ?_)
    obtain ⟨⟨i9, _⟩, k9⟩ := hr9
    refine ok_at om ?_
    refine ok_gd (fun z => ?_) ?_
    · rcases z with z | z
      · have := o_lt z; omega
      · omega
    refine ok_bdv (fun d10 e10 => ?_)
    have i10 : RI ad h.1 δ0 d10 := by rw [e10]; exact cr_103 L i9 (by decide) (by decide)
    have m0 : (q_R d10 (Ad ad 103) x1.toNatClampNeg).toInt = 0 := by
      rw [e10, qR_sR, if_pos ⟨rfl, rfl⟩]
      rfl
    have k10 : kpt ad a0 A r.2 d10 := k9.t (by rw [e10, tn]; exact sgk_3 L) (by rw [e10, rR_o (ad_ne L (by decide) (by decide) (by decide))]) (by rw [e10]; rfl)
    exact ok_mono (fl_room L hNN ka hA (by omega) i4 S4 N 0 0 0 d10 (by omega) (by omega) i10 (by omega) (by omega) k10 (by omega)) (fun r11 hr11 => b0.t hr11)
