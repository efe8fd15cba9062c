/-! 74.s12 (by gen_safe.py) -/
def WEp (b x y : Int) : Prop := b < 0 → 2 ≤ x ∧ x ≤ 16 ∧ 1 ≤ y ∧ y ≤ 5
/-- the SHAPE and the houses stay -/
def NH (ad : List Nat) (a0 : Nat) (δ δ1 : dp) : Prop := q_R δ1 (Ad ad 103) = q_R δ (Ad ad 103) ∧ q_I δ1 12 10 a0 = q_I δ 12 10 a0 ∧ q_I δ1 12 18 a0 = q_I δ 12 18 a0
/-- all houses are empty, no image is kept -/
def Z0 (ad : List Nat) (a0 : Nat) (δ : dp) : Prop := (q_I δ 12 18 a0).toInt = 0 ∧ ∀ K, K < 4 → (q_R δ (Ad ad 103) K).toInt = 0
def SHP (ad : List Nat) (a0 : Nat) (δ δ1 : dp) : Prop := NH ad a0 δ δ1 ∨ Z0 ad a0 δ1
theorem NH.r {ad : List Nat} {a0 : Nat} {δ : dp} : NH ad a0 δ δ := ⟨rfl, rfl, rfl⟩
theorem NH.t {ad : List Nat} {a0 : Nat} {δ δ1 δ2 : dp} (h : NH ad a0 δ δ1) (k : NH ad a0 δ1 δ2) : NH ad a0 δ δ2 := ⟨k.1.trans h.1, k.2.1.trans h.2.1, k.2.2.trans h.2.2⟩
theorem NH.w {ad : List Nat} {a0 : Nat} {δ δ1 : dp} {k : Nat} {v : Int32} (e : δ1 = s_I δ 12 k a0 v) (hk : k ≠ 10 ∧ k ≠ 18) : NH ad a0 δ δ1 := by
  subst e
  exact ⟨rfl, rI_o (fun z => hk.1 z.2.symm), rI_o (fun z => hk.2 z.2.symm)⟩
theorem SHP.n {ad : List Nat} {a0 : Nat} {δ δ1 : dp} (h : NH ad a0 δ δ1) : SHP ad a0 δ δ1 := Or.inl h
theorem SHP.z {ad : List Nat} {a0 : Nat} {δ δ1 : dp} (h : Z0 ad a0 δ1) : SHP ad a0 δ δ1 := Or.inr h
theorem SHP.pre {ad : List Nat} {a0 : Nat} {δ δ1 δ2 : dp} (h : NH ad a0 δ δ1) (k : SHP ad a0 δ1 δ2) : SHP ad a0 δ δ2 := k.elim (fun z => Or.inl (h.t z)) Or.inr
theorem fz_shape_299' {ad : List Nat} {h : hp} (L : Lay TLx ad h) {δ0 : dp} {N : Nat} (hN : 10000000 ≤ N) {a0 : Nat} {x1 : Int32} (k_a0 : q_K h.1 a0 = 12) : ∀ (n : Nat) (x6v : Int32) (δ : dp), RI ad h.1 δ0 δ → 0 ≤ (x6v).toInt → (x6v).toInt ≤ 4 → (∀ K : Nat, (K : Int) < x6v.toInt → (q_R δ (Ad ad 103) K).toInt = 0) → 4 - (x6v).toInt < (n : Int) → ok (L_X12_shape_299 N h.1 a0 x1 n x6v δ) (fun r => Z0 ad a0 r.2) := by
  have e4 : (4 : Int32).toInt = 4 := rfl
  have e0 : (0 : Int32).toInt = 0 := rfl
  obtain ⟨b1, o1, _, n1⟩ := gO_12_14 L k_a0
  obtain rfl := gS_12_14 L k_a0 o1
  obtain ⟨b2, o2, _, n2⟩ := gO_12_17 L k_a0
  obtain rfl := gS_12_17 L k_a0 o2
  intro n
  induction n with
  | zero => intro x6v δ I j0 j1 jz hm; exfalso; omega
  | succ n ih =>
    intro x6v δ I j0 j1 jz hm
    have t6 := ti_tn x6v
    unfold L_X12_shape_299
    refine ok_ite (fun c => ?_) (fun c => ?_)
    · have c1 := o_le c
      refine ok_bdv (fun d e => ?_)
      have i1 : RI ad h.1 δ0 d := by rw [e]; exact RI.sI L I (by decide) (by decide)
      refine ok_bind (k_X12_result L hN (x1 := (q_I d 12 10 a0)) k_a0 i1) (fun r hr => ok_some ?_)
      obtain ⟨q1, ⟨q2, q3, q5, q4⟩, _⟩ := hr
      refine ⟨?_, fun K hK => ?_⟩
      · rw [q2 12 18 a0 (by decide), e, rI_s]; rfl
      · rw [q4 103 (by decide) (by decide) (by decide), e]
        exact jz K (by omega)
    · have c1 := o_nle c
      refine ok_at o1 ?_
      refine ok_gd (fun z => ?_) ?_
      · rcases z with z | z
        · have := o_lt z; omega
        · rw [n1] at z; omega
      refine ok_bdv (fun d e => ?_)
      have i1 : RI ad h.1 δ0 d := by rw [e]; exact cr_103 L I (by decide) (by decide)
      refine ok_at o2 ?_
      refine ok_gd (fun z => ?_) ?_
      · rcases z with z | z
        · have := o_lt z; omega
        · rw [n2] at z; omega
      refine ok_bdv (fun d2 e2 => ?_)
      have i2 : RI ad h.1 δ0 d2 := by rw [e2]; exact cr_106 L i1 (by decide) (by decide)
      refine ok_biv (fun x ex => ?_)
      have hx := te_addc (c := 1) (n := 1) rfl x6v (by omega) (by omega)
      rw [← ex] at hx
      refine ih x d2 i2 (by omega) (by omega) (fun K hK => ?_) (by omega)
      rw [e2, rR_o (ad_ne L (by decide) (by decide) (by decide)), e, qR_sR]
      by_cases c : K = x6v.toNatClampNeg
      · rw [if_pos ⟨rfl, c⟩]; rfl
      · rw [if_neg (fun z => c z.2)]
        exact jz K (by omega)
set_option maxHeartbeats 4000000 in
theorem kl0_X12_shape_299 {ad : List Nat} {h : hp} (L : Lay TLx ad h) {δ0 : dp} {N : Nat} (hN : 10000000 ≤ N) {a0 : Nat} {x1 : Int32} (k_a0 : q_K h.1 a0 = 12) : ∀ (n : Nat) (x6v : Int32) (δ : dp), RI ad h.1 δ0 δ → 0 ≤ (x6v).toInt → (x6v).toInt ≤ 4 → 4 - (x6v).toInt < (n : Int) → ok (L_X12_shape_299 N h.1 a0 x1 n x6v δ) (fun r => RI ad h.1 δ0 r.2 ∧ (kp [(12, 0), (12, 2), (12, 3), (12, 4), (12, 5), (12, 6), (12, 7), (12, 8), (12, 10), (12, 11), (12, 12), (12, 18)] δ r.2 ∧ q_V r.2 = q_V δ ∧ kr ad [100, 103, 106] δ r.2) ∧ (q_I r.2 12 2 a0).toInt = (q_I δ 12 2 a0).toInt) := by
  intro n
  induction n with
  | zero =>
    intro x6v δ I j0 j1 hm
    have f1 := ti_b x6v
    exfalso; omega
  | succ n ih =>
    intro x6v δ I j0 j1 hm
    unfold L_X12_shape_299
    have f1 := ti_b x6v
    refine ok_ite (fun h2 => ?_) (fun h2 => ?_)
    · have c3 : (4 : Int) ≤ x6v.toInt := o_le h2
      refine ok_bdv (fun d4 e5 => ?_)
      have i6 : RI ad h.1 δ0 d4 := by rw [e5]; exact cs_12_18 L I k_a0 (show 0 ≤ (0 : Int) by omega) (show (0 : Int) ≤ 3 by omega)
      have u7 := kp_I kp_r e5
      have v8 : q_V d4 = q_V δ := ((show q_V d4 = q_V δ by rw [e5]; rfl)).trans rfl
      have v9 := kr_N (kr_r (ad := ad)) (show q_R d4 = q_R δ by rw [e5]; rfl)
      refine ok_bind (k_X12_result L hN (a0 := a0) (x1 := (q_I d4 12 10 a0)) k_a0 i6) (fun r10 hr11 => ?_)
      obtain ⟨i12, ⟨u14, u15, u16, u17⟩, p13⟩ := hr11
      have u18 := kp_t u7 u14
      have v19 : q_V r10.2 = q_V δ := (u15).trans v8
      have v20 := kr_t v9 u17
      have f21 := cb_12_5 i6 k_a0
      have f22 : (q_I d4 12 5 a0).toInt = (q_I δ 12 5 a0).toInt := congrArg Int32.toInt (by rw [e5]; exact rI_o (by decide))
      have f23 := cb_12_5 I k_a0
      have f24 := ti_b r10.1
      have f25 := ti_b r10.1
      have f26 := cb_12_2 i12 k_a0
      have f27 : (q_I r10.2 12 2 a0).toInt = (q_I d4 12 2 a0).toInt := congrArg Int32.toInt (u14 12 2 a0 (by decide))
      have f28 := cb_12_2 i6 k_a0
      have f29 : (q_I d4 12 2 a0).toInt = (q_I δ 12 2 a0).toInt := congrArg Int32.toInt (by rw [e5]; exact rI_o (by decide))
      have f30 := cb_12_2 I k_a0
      exact ok_some (show RI ad h.1 δ0 r10.2 ∧ (kp [(12, 0), (12, 2), (12, 3), (12, 4), (12, 5), (12, 6), (12, 7), (12, 8), (12, 10), (12, 11), (12, 12), (12, 18)] δ r10.2 ∧ q_V r10.2 = q_V δ ∧ kr ad [100, 103, 106] δ r10.2) ∧ (q_I r10.2 12 2 a0).toInt = (q_I δ 12 2 a0).toInt from ⟨i12, ⟨kp_w (by decide) u18, v19, kr_w (by decide) v20⟩, by first | assumption | omega⟩)
    · have c31 : x6v.toInt < (4 : Int) := o_nle h2
      obtain ⟨b32, o33, k34, n35⟩ := gO_12_14 L k_a0
      obtain rfl := gS_12_14 L k_a0 o33
      refine ok_at o33 ?_
      have t36 := ti_tn x6v
      refine ok_gd (fun hc37 => ?_) ?_
      · rcases hc37 with hc37 | hc37
        · have c38 : x6v.toInt < (0 : Int) := o_lt hc37
          omega
        · omega
      refine ok_bdv (fun d39 e40 => ?_)
      have i41 : RI ad h.1 δ0 d39 := by rw [e40]; exact cr_103 L I (show -1000 ≤ (0 : Int) by omega) (show (0 : Int) ≤ 2000 by omega)
      have u42 := kp_N kp_r (show q_I d39 = q_I δ by rw [e40]; rfl)
      have v43 : q_V d39 = q_V δ := ((show q_V d39 = q_V δ by rw [e40]; rfl)).trans rfl
      have v44 := kr_s L (by decide) (kr_r (ad := ad)) e40
      obtain ⟨b45, o46, k47, n48⟩ := gO_12_17 L k_a0
      obtain rfl := gS_12_17 L k_a0 o46
      refine ok_at o46 ?_
      refine ok_gd (fun hc49 => ?_) ?_
      · rcases hc49 with hc49 | hc49
        · have c50 : x6v.toInt < (0 : Int) := o_lt hc49
          omega
        · omega
      refine ok_bdv (fun d51 e52 => ?_)
      have i53 : RI ad h.1 δ0 d51 := by rw [e52]; exact cr_106 L i41 (show 0 ≤ (0 : Int) by omega) (show (0 : Int) ≤ 1000 by omega)
      have u54 := kp_N u42 (show q_I d51 = q_I d39 by rw [e52]; rfl)
      have v55 : q_V d51 = q_V δ := ((show q_V d51 = q_V d39 by rw [e52]; rfl)).trans v43
      have v56 := kr_s L (by decide) v44 e52
      refine ok_biv (fun vx57 e58 => ?_)
      first | (have q59 := te_addc (c := 1) (n := 1) rfl x6v (by omega) (by omega); rw [← e58] at q59; obtain ⟨f60, f61, f62⟩ := q59) | (obtain ⟨q59, f60, f61, f62⟩ : ∃ q : Int, vx57.toInt = x6v.toInt + (1 : Int) + 4294967296 * q ∧ -2147483648 ≤ vx57.toInt ∧ vx57.toInt ≤ 2147483647 := by rw [e58]; exact ti_addc (c := 1) (n := 1) rfl x6v)
      refine ok_mono (ih vx57 d51 i53 (show 0 ≤ (vx57).toInt by first | assumption | omega) (show (vx57).toInt ≤ 4 by first | assumption | omega) (show 4 - (vx57).toInt < _ by omega)) (fun r63 hr64 => ?_)
      obtain ⟨i65, ⟨u67, u68, u69⟩, p66⟩ := hr64
      have u70 := kp_t u54 u67
      have v71 : q_V r63.2 = q_V δ := (u68).trans v55
      have v72 := kr_t v56 u69
      have f73 := cb_12_2 i65 k_a0
      have f74 := cb_12_2 i53 k_a0
      have f75 : (q_I d51 12 2 a0).toInt = (q_I d39 12 2 a0).toInt := congrArg Int32.toInt (by rw [e52]; rfl)
      have f76 := cb_12_2 i41 k_a0
      have f77 : (q_I d39 12 2 a0).toInt = (q_I δ 12 2 a0).toInt := congrArg Int32.toInt (by rw [e40]; rfl)
      have f78 := cb_12_2 I k_a0
      have f79 := ti_b r63.1
      exact ⟨by assumption, ⟨kp_w (by decide) u70, v71, kr_w (by decide) v72⟩, by first | assumption | omega⟩
theorem fz_shape_299 {ad : List Nat} {h : hp} (L : Lay TLx ad h) {δ0 : dp} {N : Nat} (hN : 10000000 ≤ N) {a0 : Nat} {x1 : Int32} (k_a0 : q_K h.1 a0 = 12) (n : Nat) (x6v : Int32) (δ : dp) (I : RI ad h.1 δ0 δ) (j0 : 0 ≤ (x6v).toInt) (j1 : (x6v).toInt ≤ 4) (hm : 4 - (x6v).toInt < (n : Int)) : ok (L_X12_shape_299 N h.1 a0 x1 n x6v δ) (fun r => (x6v).toInt = 0 → Z0 ad a0 r.2) := by
  by_cases c : x6v.toInt = 0
  · exact ok_mono (fz_shape_299' L hN k_a0 n x6v δ I j0 j1 (fun K hK => by omega) hm) (fun r hr _ => hr)
  · refine ok_mono (kl0_X12_shape_299 L hN k_a0 n x6v δ I j0 j1 hm) (fun r hr z => absurd z c)
set_option maxHeartbeats 4000000 in
theorem kl_X12_shape_299 {ad : List Nat} {h : hp} (L : Lay TLx ad h) {δ0 : dp} {N : Nat} (hN : 10000000 ≤ N) {a0 : Nat} {x1 : Int32} (k_a0 : q_K h.1 a0 = 12) : ∀ (n : Nat) (x6v : Int32) (δ : dp), RI ad h.1 δ0 δ → 0 ≤ (x6v).toInt → (x6v).toInt ≤ 4 → 4 - (x6v).toInt < (n : Int) → ok (L_X12_shape_299 N h.1 a0 x1 n x6v δ) (fun r => RI ad h.1 δ0 r.2 ∧ (kp [(12, 0), (12, 2), (12, 3), (12, 4), (12, 5), (12, 6), (12, 7), (12, 8), (12, 10), (12, 11), (12, 12), (12, 18)] δ r.2 ∧ q_V r.2 = q_V δ ∧ kr ad [100, 103, 106] δ r.2) ∧ (q_I r.2 12 2 a0).toInt = (q_I δ 12 2 a0).toInt ∧ ((x6v).toInt = 0 → Z0 ad a0 r.2)) := by
  intro n x6v δ I j0 j1 hm
  exact ok_mono (ok_and (kl0_X12_shape_299 L hN k_a0 n x6v δ I j0 j1 hm) (fz_shape_299 L hN k_a0 n x6v δ I j0 j1 hm)) (fun r hr => ⟨hr.1.1, hr.1.2.1, hr.1.2.2, hr.2⟩)

set_option maxHeartbeats 4000000 in
theorem kj_X12_shape_258 {ad : List Nat} {h : hp} (L : Lay TLx ad h) {δ0 : dp} {N : Nat} (hN : 10000000 ≤ N) {a0 : Nat} {x1 : Int32} {kt49 : Int32 → Int32 → Int32 → Int32 → dp → Option (Int32 × dp)} {K49 : Int} (h_kt49 : ∀ (x2v : Int32) (x3v : Int32) (x4v : Int32) (x5v : Int32) (δ : dp), RI ad h.1 δ0 δ → ((q_I δ 12 5 a0).toInt < 0 → 2 ≤ (x2v).toInt ∧ (x2v).toInt ≤ 16 ∧ 1 ≤ (x3v).toInt ∧ (x3v).toInt ≤ 5) → ((x4v).toInt = 0 ∨ (x4v).toInt = 1) → 501 - (q_I δ 12 4 a0).toInt < K49 → ok (kt49 x2v x3v x4v x5v δ) (fun r => RI ad h.1 δ0 r.2 ∧ (kp [(12, 0), (12, 2), (12, 3), (12, 4), (12, 5), (12, 6), (12, 7), (12, 8), (12, 10), (12, 11), (12, 12), (12, 18)] δ r.2 ∧ q_V r.2 = q_V δ ∧ kr ad [100, 103, 106] δ r.2) ∧ (q_I r.2 12 2 a0).toInt = (q_I δ 12 2 a0).toInt ∧ SHP ad a0 δ r.2)) {x2v : Int32} {x3v : Int32} {x4v : Int32} {x5v : Int32} (k_a0 : q_K h.1 a0 = 12) {δ : dp} (z0 : (q_I δ 12 5 a0).toInt < 0 → 2 ≤ (x2v).toInt ∧ (x2v).toInt ≤ 16 ∧ 1 ≤ (x3v).toInt ∧ (x3v).toInt ≤ 5) (z1 : (x4v).toInt = 0 ∨ (x4v).toInt = 1) (z2 : 501 - (q_I δ 12 4 a0).toInt < K49) (I : RI ad h.1 δ0 δ) : ok (J_X12_shape_258 N h.1 a0 x1 kt49 x2v x3v x4v x5v δ) (fun r => RI ad h.1 δ0 r.2 ∧ (kp [(12, 0), (12, 2), (12, 3), (12, 4), (12, 5), (12, 6), (12, 7), (12, 8), (12, 10), (12, 11), (12, 12), (12, 18)] δ r.2 ∧ q_V r.2 = q_V δ ∧ kr ad [100, 103, 106] δ r.2) ∧ (q_I r.2 12 2 a0).toInt = (q_I δ 12 2 a0).toInt ∧ SHP ad a0 δ r.2) := by
  unfold J_X12_shape_258
  have f1 := cb_12_5 I k_a0
  have f2 := ti_b x2v
  have f3 := ti_b x3v
  have f4 := ti_b x4v
  have f5 := cb_12_4 I k_a0
  refine ok_bind (k_X12_sign L hN (a0 := a0) (x1 := (59 : Int32)) k_a0 (show (59 : Int) ≠ 0 by first | assumption | omega) I) (fun r6 hr7 => ?_)
  obtain ⟨i8, ⟨u12, u13, u14, u15⟩, p9, p10, p11⟩ := hr7
  have u16 := kp_t kp_r u12
  have v17 : q_V r6 = q_V δ := (u13).trans rfl
  have v18 := kr_t (kr_r (ad := ad)) u15
  have f19 := cb_12_4 i8 k_a0
  have f20 := cb_12_5 i8 k_a0
  have nh21 : NH ad a0 δ r6 := ⟨u15 103 (by decide) (by decide) (by decide), u12 12 10 _ (by decide), u12 12 18 _ (by decide)⟩
  refine ok_mono (h_kt49 x2v x3v x4v x5v r6 i8 (show (q_I r6 12 5 a0).toInt < 0 → 2 ≤ (x2v).toInt ∧ (x2v).toInt ≤ 16 ∧ 1 ≤ (x3v).toInt ∧ (x3v).toInt ≤ 5 by first | assumption | omega) (show (x4v).toInt = 0 ∨ (x4v).toInt = 1 by first | assumption | omega) (show 501 - (q_I r6 12 4 a0).toInt < _ by omega)) (fun r22 hr23 => ?_)
  obtain ⟨i24, ⟨u27, u28, u29⟩, p25, p26⟩ := hr23
  have u30 := kp_t u16 u27
  have v31 : q_V r22.2 = q_V δ := (u28).trans v17
  have v32 := kr_t v18 u29
  have f33 := cb_12_2 i24 k_a0
  have f34 := cb_12_2 i8 k_a0
  have f35 : (q_I r6 12 2 a0).toInt = (q_I δ 12 2 a0).toInt := congrArg Int32.toInt (u12 12 2 a0 (by decide))
  have f36 := cb_12_2 I k_a0
  have f37 := ti_b r22.1
  have sh38 : NH ad a0 δ r6 := NH.t NH.r nh21
  have sh39 : SHP ad a0 δ r22.2 := SHP.pre sh38 p26
  exact ⟨by assumption, ⟨kp_w (by decide) u30, v31, kr_w (by decide) v32⟩, by first | assumption | omega, sh39⟩
set_option maxHeartbeats 4000000 in
theorem kj_X12_shape_219 {ad : List Nat} {h : hp} (L : Lay TLx ad h) {δ0 : dp} {N : Nat} (hN : 10000000 ≤ N) {a0 : Nat} {x1 : Int32} {kt49 : Int32 → Int32 → Int32 → Int32 → dp → Option (Int32 × dp)} {K49 : Int} (h_kt49 : ∀ (x2v : Int32) (x3v : Int32) (x4v : Int32) (x5v : Int32) (δ : dp), RI ad h.1 δ0 δ → ((q_I δ 12 5 a0).toInt < 0 → 2 ≤ (x2v).toInt ∧ (x2v).toInt ≤ 16 ∧ 1 ≤ (x3v).toInt ∧ (x3v).toInt ≤ 5) → ((x4v).toInt = 0 ∨ (x4v).toInt = 1) → 501 - (q_I δ 12 4 a0).toInt < K49 → ok (kt49 x2v x3v x4v x5v δ) (fun r => RI ad h.1 δ0 r.2 ∧ (kp [(12, 0), (12, 2), (12, 3), (12, 4), (12, 5), (12, 6), (12, 7), (12, 8), (12, 10), (12, 11), (12, 12), (12, 18)] δ r.2 ∧ q_V r.2 = q_V δ ∧ kr ad [100, 103, 106] δ r.2) ∧ (q_I r.2 12 2 a0).toInt = (q_I δ 12 2 a0).toInt ∧ SHP ad a0 δ r.2)) {xs0 : Int32} {x2v : Int32} {x3v : Int32} {x5v : Int32} (k_a0 : q_K h.1 a0 = 12) {δ : dp} (z0 : (q_I δ 12 5 a0).toInt < 0 → 2 ≤ (x2v).toInt ∧ (x2v).toInt ≤ 16 ∧ 1 ≤ (x3v).toInt ∧ (x3v).toInt ≤ 5) (z1 : (xs0).toInt = 0 ∨ (xs0).toInt = 1) (z2 : 501 - (q_I δ 12 4 a0).toInt < K49) (I : RI ad h.1 δ0 δ) : ok (J_X12_shape_219 N h.1 a0 x1 kt49 xs0 x2v x3v x5v δ) (fun r => RI ad h.1 δ0 r.2 ∧ (kp [(12, 0), (12, 2), (12, 3), (12, 4), (12, 5), (12, 6), (12, 7), (12, 8), (12, 10), (12, 11), (12, 12), (12, 18)] δ r.2 ∧ q_V r.2 = q_V δ ∧ kr ad [100, 103, 106] δ r.2) ∧ (q_I r.2 12 2 a0).toInt = (q_I δ 12 2 a0).toInt ∧ SHP ad a0 δ r.2) := by
  unfold J_X12_shape_219
  have f1 := cb_12_5 I k_a0
  have f2 := ti_b x2v
  have f3 := ti_b x3v
  have f4 := ti_b xs0
  have f5 := cb_12_4 I k_a0
  refine ok_ite (fun h6 => ?_) (fun h6 => ?_)
  · have c7 : xs0.toInt = (0 : Int) := o_eq h6
    refine ok_bind (k_X12_word L hN (a0 := a0) k_a0 I) (fun r8 hr9 => ?_)
    obtain ⟨i10, ⟨u13, u14, u15, u16⟩, p11, p12⟩ := hr9
    have u17 := kp_t kp_r u13
    have v18 : q_V r8.2 = q_V δ := (u14).trans rfl
    have v19 := kr_t (kr_r (ad := ad)) u16
    have f20 := cb_12_4 i10 k_a0
    have f21 : hc ad r8.2 a0 = (q_R r8.2 (Ad ad 101) (q_I r8.2 12 4 a0).toNatClampNeg).toInt := rfl
    have t22 := ti_tn (q_I r8.2 12 4 a0)
    have f23 : (q_R r8.2 (Ad ad 101) (q_I r8.2 12 4 a0).toNatClampNeg).toInt = (q_R δ (Ad ad 101) (q_I r8.2 12 4 a0).toNatClampNeg).toInt := congrArg Int32.toInt (congrFun (u16 101 (by decide) (by decide) (by decide)) _)
    have f24 := ti_b (q_R δ (Ad ad 101) (q_I r8.2 12 4 a0).toNatClampNeg)
    have f25 := ti_b (q_R r8.2 (Ad ad 101) (q_I r8.2 12 4 a0).toNatClampNeg)
    have f26 := ti_b r8.1
    have f27 := cb_12_3 I k_a0
    have f28 := ti_b r8.1
    have nh29 : NH ad a0 δ r8.2 := ⟨u16 103 (by decide) (by decide) (by decide), u13 12 10 _ (by decide), u13 12 18 _ (by decide)⟩
    refine ok_bind (k_X12_of L hN (a0 := 4) (show 4 < 16 by first | assumption | omega) i10) (fun r30 hr31 => ?_)
    obtain ⟨i32, p33⟩ := hr31
    try rw [i32]
    have f34 := ti_b r30.1
    have f35 := ti_b r30.1
    refine ok_ite (fun h36 => ?_) (fun h36 => ?_)
    · have c37 : r8.1.toInt = r30.1.toInt := o_eq h36
      unfold J_X12_shape_247
      refine ok_bind (k_X12_fine L hN (a0 := a0) k_a0 i10) (fun r38 hr39 => ?_)
      obtain ⟨i40, p41, p42, p43⟩ := hr39
      try rw [i40]
      have f44 := bo_l p41
      have f45 := cb_12_5 i10 k_a0
      have f46 : (q_I r8.2 12 5 a0).toInt = (q_I δ 12 5 a0).toInt := congrArg Int32.toInt (u13 12 5 a0 (by decide))
      have f47 := ti_b r38.1
      have f48 := ti_b r38.1
      refine ok_ite (fun h49 => ?_) (fun h49 => ?_)
      · have c50 : r38.1.toInt = (0 : Int) := o_eq h49
        refine ok_mono (kj_X12_shape_258 L hN (K49 := K49) (a0 := a0) (x1 := x1) (x2v := x2v) (x3v := x3v) (x4v := xs0) (x5v := x5v) h_kt49 k_a0 (show (q_I r8.2 12 5 a0).toInt < 0 → 2 ≤ (x2v).toInt ∧ (x2v).toInt ≤ 16 ∧ 1 ≤ (x3v).toInt ∧ (x3v).toInt ≤ 5 by first | assumption | omega) (show (xs0).toInt = 0 ∨ (xs0).toInt = 1 by first | assumption | omega) (show 501 - (q_I r8.2 12 4 a0).toInt < K49 by first | assumption | omega) i10) (fun r51 hr52 => ?_)
        obtain ⟨i53, ⟨u56, u57, u58⟩, p54, p55⟩ := hr52
        have u59 := kp_t u17 u56
        have v60 : q_V r51.2 = q_V δ := (u57).trans v18
        have v61 := kr_t v19 u58
        have f62 := cb_12_2 i53 k_a0
        have f63 := cb_12_2 i10 k_a0
        have f64 : (q_I r8.2 12 2 a0).toInt = (q_I δ 12 2 a0).toInt := congrArg Int32.toInt (u13 12 2 a0 (by decide))
        have f65 := cb_12_2 I k_a0
        have f66 := ti_b r51.1
        have sh67 : NH ad a0 δ r8.2 := NH.t NH.r nh29
        have sh68 : SHP ad a0 δ r51.2 := SHP.pre sh67 p55
        exact ⟨by assumption, ⟨kp_w (by decide) u59, v60, kr_w (by decide) v61⟩, by first | assumption | omega, sh68⟩
      · have c69 : r38.1.toInt ≠ (0 : Int) := o_ne h49
        refine ok_bind (k_X12_pass L hN (a0 := a0) k_a0 i10) (fun r70 hr71 => ?_)
        obtain ⟨i72, ⟨u75, u76, u77, u78⟩, p73, p74⟩ := hr71
        have u79 := kp_t u17 u75
        have v80 : q_V r70 = q_V δ := (u76).trans v18
        have v81 := kr_t v19 u78
        have f82 := cb_12_4 i72 k_a0
        have f83 := cb_12_3 i10 k_a0
        have f84 : (q_I r8.2 12 3 a0).toInt = (q_I δ 12 3 a0).toInt := congrArg Int32.toInt (u13 12 3 a0 (by decide))
        have nh85 : NH ad a0 r8.2 r70 := ⟨u78 103 (by decide) (by decide) (by decide), u75 12 10 _ (by decide), u75 12 18 _ (by decide)⟩
        have f86 := cb_12_5 i72 k_a0
        have f87 : (q_I r70 12 5 a0).toInt = (q_I r8.2 12 5 a0).toInt := congrArg Int32.toInt (u75 12 5 a0 (by decide))
        refine ok_mono (kj_X12_shape_258 L hN (K49 := K49) (a0 := a0) (x1 := x1) (x2v := x2v) (x3v := x3v) (x4v := xs0) (x5v := x5v) h_kt49 k_a0 (show (q_I r70 12 5 a0).toInt < 0 → 2 ≤ (x2v).toInt ∧ (x2v).toInt ≤ 16 ∧ 1 ≤ (x3v).toInt ∧ (x3v).toInt ≤ 5 by first | assumption | omega) (show (xs0).toInt = 0 ∨ (xs0).toInt = 1 by first | assumption | omega) (show 501 - (q_I r70 12 4 a0).toInt < K49 by first | assumption | omega) i72) (fun r88 hr89 => ?_)
        obtain ⟨i90, ⟨u93, u94, u95⟩, p91, p92⟩ := hr89
        have u96 := kp_t u79 u93
        have v97 : q_V r88.2 = q_V δ := (u94).trans v80
        have v98 := kr_t v81 u95
        have f99 := cb_12_2 i90 k_a0
        have f100 := cb_12_2 i72 k_a0
        have f101 : (q_I r70 12 2 a0).toInt = (q_I r8.2 12 2 a0).toInt := congrArg Int32.toInt (u75 12 2 a0 (by decide))
        have f102 := cb_12_2 i10 k_a0
        have f103 : (q_I r8.2 12 2 a0).toInt = (q_I δ 12 2 a0).toInt := congrArg Int32.toInt (u13 12 2 a0 (by decide))
        have f104 := cb_12_2 I k_a0
        have f105 := ti_b r88.1
        have sh106 : NH ad a0 δ r8.2 := NH.t NH.r nh29
        have sh107 : NH ad a0 δ r70 := NH.t sh106 nh85
        have sh108 : SHP ad a0 δ r88.2 := SHP.pre sh107 p92
        exact ⟨by assumption, ⟨kp_w (by decide) u96, v97, kr_w (by decide) v98⟩, by first | assumption | omega, sh108⟩
    · have c109 : r8.1.toInt ≠ r30.1.toInt := o_ne h36
      refine ok_bind (k_X12_wrong L hN (a0 := a0) (x1 := (1 : Int32)) (x2 := (q_I r8.2 12 4 a0)) k_a0 (show 0 ≤ ((q_I r8.2 12 4 a0)).toInt by first | assumption | omega) (show ((q_I r8.2 12 4 a0)).toInt ≤ 500 by first | assumption | omega) (show 0 ≤ (1 : Int) by first | assumption | omega) (show (1 : Int) ≤ 4 by first | assumption | omega) i10) (fun r110 hr111 => ?_)
      obtain ⟨i112, ⟨u115, u116, u117, u118⟩, p113, p114⟩ := hr111
      have u119 := kp_t u17 u115
      have v120 : q_V r110 = q_V δ := (u116).trans v18
      have v121 := kr_t v19 u118
      have f122 := cb_12_5 i112 k_a0
      have f123 := cb_12_5 i10 k_a0
      have f124 : (q_I r8.2 12 5 a0).toInt = (q_I δ 12 5 a0).toInt := congrArg Int32.toInt (u13 12 5 a0 (by decide))
      have nh125 : NH ad a0 r8.2 r110 := ⟨u118 103 (by decide) (by decide) (by decide), u115 12 10 _ (by decide), u115 12 18 _ (by decide)⟩
      unfold J_X12_shape_247
      refine ok_bind (k_X12_fine L hN (a0 := a0) k_a0 i112) (fun r126 hr127 => ?_)
      obtain ⟨i128, p129, p130, p131⟩ := hr127
      try rw [i128]
      have f132 := bo_l p129
      have f133 := ti_b r126.1
      have f134 := ti_b r126.1
      refine ok_ite (fun h135 => ?_) (fun h135 => ?_)
      · have c136 : r126.1.toInt = (0 : Int) := o_eq h135
        have f137 := cb_12_4 i112 k_a0
        have f138 : (q_I r110 12 4 a0).toInt = (q_I r8.2 12 4 a0).toInt := congrArg Int32.toInt (u115 12 4 a0 (by decide))
        refine ok_mono (kj_X12_shape_258 L hN (K49 := K49) (a0 := a0) (x1 := x1) (x2v := x2v) (x3v := x3v) (x4v := xs0) (x5v := x5v) h_kt49 k_a0 (show (q_I r110 12 5 a0).toInt < 0 → 2 ≤ (x2v).toInt ∧ (x2v).toInt ≤ 16 ∧ 1 ≤ (x3v).toInt ∧ (x3v).toInt ≤ 5 by first | assumption | omega) (show (xs0).toInt = 0 ∨ (xs0).toInt = 1 by first | assumption | omega) (show 501 - (q_I r110 12 4 a0).toInt < K49 by first | assumption | omega) i112) (fun r139 hr140 => ?_)
        obtain ⟨i141, ⟨u144, u145, u146⟩, p142, p143⟩ := hr140
        have u147 := kp_t u119 u144
        have v148 : q_V r139.2 = q_V δ := (u145).trans v120
        have v149 := kr_t v121 u146
        have f150 := cb_12_2 i141 k_a0
        have f151 := cb_12_2 i112 k_a0
        have f152 : (q_I r110 12 2 a0).toInt = (q_I r8.2 12 2 a0).toInt := congrArg Int32.toInt (u115 12 2 a0 (by decide))
        have f153 := cb_12_2 i10 k_a0
        have f154 : (q_I r8.2 12 2 a0).toInt = (q_I δ 12 2 a0).toInt := congrArg Int32.toInt (u13 12 2 a0 (by decide))
        have f155 := cb_12_2 I k_a0
        have f156 := ti_b r139.1
        have sh157 : NH ad a0 δ r8.2 := NH.t NH.r nh29
        have sh158 : NH ad a0 δ r110 := NH.t sh157 nh125
        have sh159 : SHP ad a0 δ r139.2 := SHP.pre sh158 p143
        exact ⟨by assumption, ⟨kp_w (by decide) u147, v148, kr_w (by decide) v149⟩, by first | assumption | omega, sh159⟩
      · have c160 : r126.1.toInt ≠ (0 : Int) := o_ne h135
        refine ok_bind (k_X12_pass L hN (a0 := a0) k_a0 i112) (fun r161 hr162 => ?_)
        obtain ⟨i163, ⟨u166, u167, u168, u169⟩, p164, p165⟩ := hr162
        have u170 := kp_t u119 u166
        have v171 : q_V r161 = q_V δ := (u167).trans v120
        have v172 := kr_t v121 u169
        have f173 := cb_12_4 i112 k_a0
        have f174 : (q_I r110 12 4 a0).toInt = (q_I r8.2 12 4 a0).toInt := congrArg Int32.toInt (u115 12 4 a0 (by decide))
        have f175 := cb_12_4 i163 k_a0
        have f176 : hc ad r110 a0 = (q_R r110 (Ad ad 101) (q_I r110 12 4 a0).toNatClampNeg).toInt := rfl
        have t177 := ti_tn (q_I r110 12 4 a0)
        have f178 : (q_R r110 (Ad ad 101) (q_I r110 12 4 a0).toNatClampNeg).toInt = (q_R r8.2 (Ad ad 101) (q_I r110 12 4 a0).toNatClampNeg).toInt := congrArg Int32.toInt (congrFun (u118 101 (by decide) (by decide) (by decide)) _)
        have f179 : (q_R r8.2 (Ad ad 101) (q_I r110 12 4 a0).toNatClampNeg).toInt = (q_R δ (Ad ad 101) (q_I r110 12 4 a0).toNatClampNeg).toInt := congrArg Int32.toInt (congrFun (u16 101 (by decide) (by decide) (by decide)) _)
        have f180 := ti_b (q_R δ (Ad ad 101) (q_I r110 12 4 a0).toNatClampNeg)
        have f181 := ti_b (q_R r8.2 (Ad ad 101) (q_I r110 12 4 a0).toNatClampNeg)
        have f182 := ti_b (q_R r110 (Ad ad 101) (q_I r110 12 4 a0).toNatClampNeg)
        have f183 := cb_12_3 i112 k_a0
        have f184 : (q_I r110 12 3 a0).toInt = (q_I r8.2 12 3 a0).toInt := congrArg Int32.toInt (u115 12 3 a0 (by decide))
        have f185 := cb_12_3 i10 k_a0
        have f186 : (q_I r8.2 12 3 a0).toInt = (q_I δ 12 3 a0).toInt := congrArg Int32.toInt (u13 12 3 a0 (by decide))
        have nh187 : NH ad a0 r110 r161 := ⟨u169 103 (by decide) (by decide) (by decide), u166 12 10 _ (by decide), u166 12 18 _ (by decide)⟩
        have f188 := cb_12_5 i163 k_a0
        have f189 : (q_I r161 12 5 a0).toInt = (q_I r110 12 5 a0).toInt := congrArg Int32.toInt (u166 12 5 a0 (by decide))
        refine ok_mono (kj_X12_shape_258 L hN (K49 := K49) (a0 := a0) (x1 := x1) (x2v := x2v) (x3v := x3v) (x4v := xs0) (x5v := x5v) h_kt49 k_a0 (show (q_I r161 12 5 a0).toInt < 0 → 2 ≤ (x2v).toInt ∧ (x2v).toInt ≤ 16 ∧ 1 ≤ (x3v).toInt ∧ (x3v).toInt ≤ 5 by first | assumption | omega) (show (xs0).toInt = 0 ∨ (xs0).toInt = 1 by first | assumption | omega) (show 501 - (q_I r161 12 4 a0).toInt < K49 by first | assumption | omega) i163) (fun r190 hr191 => ?_)
        obtain ⟨i192, ⟨u195, u196, u197⟩, p193, p194⟩ := hr191
        have u198 := kp_t u170 u195
        have v199 : q_V r190.2 = q_V δ := (u196).trans v171
        have v200 := kr_t v172 u197
        have f201 := cb_12_2 i192 k_a0
        have f202 := cb_12_2 i163 k_a0
        have f203 : (q_I r161 12 2 a0).toInt = (q_I r110 12 2 a0).toInt := congrArg Int32.toInt (u166 12 2 a0 (by decide))
        have f204 := cb_12_2 i112 k_a0
        have f205 : (q_I r110 12 2 a0).toInt = (q_I r8.2 12 2 a0).toInt := congrArg Int32.toInt (u115 12 2 a0 (by decide))
        have f206 := cb_12_2 i10 k_a0
        have f207 : (q_I r8.2 12 2 a0).toInt = (q_I δ 12 2 a0).toInt := congrArg Int32.toInt (u13 12 2 a0 (by decide))
        have f208 := cb_12_2 I k_a0
        have f209 := ti_b r190.1
        have sh210 : NH ad a0 δ r8.2 := NH.t NH.r nh29
        have sh211 : NH ad a0 δ r110 := NH.t sh210 nh125
        have sh212 : NH ad a0 δ r161 := NH.t sh211 nh187
        have sh213 : SHP ad a0 δ r190.2 := SHP.pre sh212 p194
        exact ⟨by assumption, ⟨kp_w (by decide) u198, v199, kr_w (by decide) v200⟩, by first | assumption | omega, sh213⟩
  · have c214 : xs0.toInt ≠ (0 : Int) := o_ne h6
    unfold J_X12_shape_247
    refine ok_bind (k_X12_fine L hN (a0 := a0) k_a0 I) (fun r215 hr216 => ?_)
    obtain ⟨i217, p218, p219, p220⟩ := hr216
    try rw [i217]
    have f221 := bo_l p218
    have f222 := ti_b r215.1
    have f223 := ti_b r215.1
    refine ok_ite (fun h224 => ?_) (fun h224 => ?_)
    · have c225 : r215.1.toInt = (0 : Int) := o_eq h224
      refine ok_mono (kj_X12_shape_258 L hN (K49 := K49) (a0 := a0) (x1 := x1) (x2v := x2v) (x3v := x3v) (x4v := xs0) (x5v := x5v) h_kt49 k_a0 (show (q_I δ 12 5 a0).toInt < 0 → 2 ≤ (x2v).toInt ∧ (x2v).toInt ≤ 16 ∧ 1 ≤ (x3v).toInt ∧ (x3v).toInt ≤ 5 by first | assumption | omega) (show (xs0).toInt = 0 ∨ (xs0).toInt = 1 by first | assumption | omega) (show 501 - (q_I δ 12 4 a0).toInt < K49 by first | assumption | omega) I) (fun r226 hr227 => ?_)
      obtain ⟨i228, ⟨u231, u232, u233⟩, p229, p230⟩ := hr227
      have u234 := kp_t kp_r u231
      have v235 : q_V r226.2 = q_V δ := (u232).trans rfl
      have v236 := kr_t (kr_r (ad := ad)) u233
      have f237 := cb_12_2 i228 k_a0
      have f238 := cb_12_2 I k_a0
      have f239 := ti_b r226.1
      have sh240 : SHP ad a0 δ r226.2 := SHP.pre NH.r p230
      exact ⟨by assumption, ⟨kp_w (by decide) u234, v235, kr_w (by decide) v236⟩, by first | assumption | omega, sh240⟩
    · have c241 : r215.1.toInt ≠ (0 : Int) := o_ne h224
      refine ok_bind (k_X12_pass L hN (a0 := a0) k_a0 I) (fun r242 hr243 => ?_)
      obtain ⟨i244, ⟨u247, u248, u249, u250⟩, p245, p246⟩ := hr243
      have u251 := kp_t kp_r u247
      have v252 : q_V r242 = q_V δ := (u248).trans rfl
      have v253 := kr_t (kr_r (ad := ad)) u250
      have f254 := cb_12_4 i244 k_a0
      have f255 : hc ad δ a0 = (q_R δ (Ad ad 101) (q_I δ 12 4 a0).toNatClampNeg).toInt := rfl
      have t256 := ti_tn (q_I δ 12 4 a0)
      have f257 := ti_b (q_R δ (Ad ad 101) (q_I δ 12 4 a0).toNatClampNeg)
      have f258 := cb_12_3 I k_a0
      have nh259 : NH ad a0 δ r242 := ⟨u250 103 (by decide) (by decide) (by decide), u247 12 10 _ (by decide), u247 12 18 _ (by decide)⟩
      have f260 := cb_12_5 i244 k_a0
      have f261 : (q_I r242 12 5 a0).toInt = (q_I δ 12 5 a0).toInt := congrArg Int32.toInt (u247 12 5 a0 (by decide))
      refine ok_mono (kj_X12_shape_258 L hN (K49 := K49) (a0 := a0) (x1 := x1) (x2v := x2v) (x3v := x3v) (x4v := xs0) (x5v := x5v) h_kt49 k_a0 (show (q_I r242 12 5 a0).toInt < 0 → 2 ≤ (x2v).toInt ∧ (x2v).toInt ≤ 16 ∧ 1 ≤ (x3v).toInt ∧ (x3v).toInt ≤ 5 by first | assumption | omega) (show (xs0).toInt = 0 ∨ (xs0).toInt = 1 by first | assumption | omega) (show 501 - (q_I r242 12 4 a0).toInt < K49 by first | assumption | omega) i244) (fun r262 hr263 => ?_)
      obtain ⟨i264, ⟨u267, u268, u269⟩, p265, p266⟩ := hr263
      have u270 := kp_t u251 u267
      have v271 : q_V r262.2 = q_V δ := (u268).trans v252
      have v272 := kr_t v253 u269
      have f273 := cb_12_2 i264 k_a0
      have f274 := cb_12_2 i244 k_a0
      have f275 : (q_I r242 12 2 a0).toInt = (q_I δ 12 2 a0).toInt := congrArg Int32.toInt (u247 12 2 a0 (by decide))
      have f276 := cb_12_2 I k_a0
      have f277 := ti_b r262.1
      have sh278 : NH ad a0 δ r242 := NH.t NH.r nh259
      have sh279 : SHP ad a0 δ r262.2 := SHP.pre sh278 p266
      exact ⟨by assumption, ⟨kp_w (by decide) u270, v271, kr_w (by decide) v272⟩, by first | assumption | omega, sh279⟩
set_option maxHeartbeats 4000000 in
theorem kj_X12_shape_148 {ad : List Nat} {h : hp} (L : Lay TLx ad h) {δ0 : dp} {N : Nat} (hN : 10000000 ≤ N) {a0 : Nat} {x1 : Int32} {kt49 : Int32 → Int32 → Int32 → Int32 → dp → Option (Int32 × dp)} {K49 : Int} (h_kt49 : ∀ (x2v : Int32) (x3v : Int32) (x4v : Int32) (x5v : Int32) (δ : dp), RI ad h.1 δ0 δ → ((q_I δ 12 5 a0).toInt < 0 → 2 ≤ (x2v).toInt ∧ (x2v).toInt ≤ 16 ∧ 1 ≤ (x3v).toInt ∧ (x3v).toInt ≤ 5) → ((x4v).toInt = 0 ∨ (x4v).toInt = 1) → 501 - (q_I δ 12 4 a0).toInt < K49 → ok (kt49 x2v x3v x4v x5v δ) (fun r => RI ad h.1 δ0 r.2 ∧ (kp [(12, 0), (12, 2), (12, 3), (12, 4), (12, 5), (12, 6), (12, 7), (12, 8), (12, 10), (12, 11), (12, 12), (12, 18)] δ r.2 ∧ q_V r.2 = q_V δ ∧ kr ad [100, 103, 106] δ r.2) ∧ (q_I r.2 12 2 a0).toInt = (q_I δ 12 2 a0).toInt ∧ SHP ad a0 δ r.2)) {x2v : Int32} {x3v : Int32} {x4v : Int32} {x5v : Int32} {x6v : Int32} (k_a0 : q_K h.1 a0 = 12) {δ : dp} (z0 : (q_I δ 12 5 a0).toInt < 0 → 2 ≤ (x2v).toInt ∧ (x2v).toInt ≤ 16 ∧ 1 ≤ (x3v).toInt ∧ (x3v).toInt ≤ 5) (z1 : (x4v).toInt = 0 ∨ (x4v).toInt = 1) (z2 : (q_I δ 12 5 a0).toInt < 0 → (q_I δ 12 4 a0).toInt < (q_I δ 12 3 a0).toInt ∧ 97 ≤ hc ad δ a0 ∧ hc ad δ a0 ≤ 122) (z3 : 501 - (q_I δ 12 4 a0).toInt ≤ K49) (I : RI ad h.1 δ0 δ) : ok (J_X12_shape_148 N h.1 a0 x1 kt49 x2v x3v x4v x5v x6v δ) (fun r => RI ad h.1 δ0 r.2 ∧ (kp [(12, 0), (12, 2), (12, 3), (12, 4), (12, 5), (12, 6), (12, 7), (12, 8), (12, 10), (12, 11), (12, 12), (12, 18)] δ r.2 ∧ q_V r.2 = q_V δ ∧ kr ad [100, 103, 106] δ r.2) ∧ (q_I r.2 12 2 a0).toInt = (q_I δ 12 2 a0).toInt ∧ SHP ad a0 δ r.2) := by
  unfold J_X12_shape_148
  have f1 : hc ad δ a0 = (q_R δ (Ad ad 101) (q_I δ 12 4 a0).toNatClampNeg).toInt := rfl
  have f2 := cb_12_4 I k_a0
  have t3 := ti_tn (q_I δ 12 4 a0)
  have f4 := ti_b (q_R δ (Ad ad 101) (q_I δ 12 4 a0).toNatClampNeg)
  have f5 := cb_12_5 I k_a0
  have f6 := ti_b x2v
  have f7 := ti_b x3v
  have f8 := ti_b x4v
  have f9 := cb_12_3 I k_a0
  refine ok_bind (k_X12_fine L hN (a0 := a0) k_a0 I) (fun r10 hr11 => ?_)
  obtain ⟨i12, p13, p14, p15⟩ := hr11
  try rw [i12]
  have f16 := bo_l p13
  have f17 := ti_b r10.1
  have f18 := ti_b r10.1
  refine ok_ite (fun h19 => ?_) (fun h19 => ?_)
  · have c20 : r10.1.toInt = (0 : Int) := o_eq h19
    unfold J_X12_shape_267
    refine ok_bind (k_X12_fine L hN (a0 := a0) k_a0 I) (fun r21 hr22 => ?_)
    obtain ⟨i23, p24, p25, p26⟩ := hr22
    try rw [i23]
    have f27 := bo_l p24
    have f28 := ti_b r21.1
    have f29 := ti_b r21.1
    refine ok_ite (fun h30 => ?_) (fun h30 => ?_)
    · have c31 : r21.1.toInt = (0 : Int) := o_eq h30
      refine ok_bind (k_X12_result L hN (a0 := a0) (x1 := (0 : Int32)) k_a0 I) (fun r32 hr33 => ?_)
      obtain ⟨i34, ⟨u36, u37, u38, u39⟩, p35⟩ := hr33
      have u40 := kp_t kp_r u36
      have v41 : q_V r32.2 = q_V δ := (u37).trans rfl
      have v42 := kr_t (kr_r (ad := ad)) u39
      have f43 := ti_b r32.1
      have f44 := ti_b r32.1
      have nh45 : NH ad a0 δ r32.2 := ⟨u39 103 (by decide) (by decide) (by decide), u36 12 10 _ (by decide), u36 12 18 _ (by decide)⟩
      have f46 := cb_12_2 i34 k_a0
      have f47 : (q_I r32.2 12 2 a0).toInt = (q_I δ 12 2 a0).toInt := congrArg Int32.toInt (u36 12 2 a0 (by decide))
      have f48 := cb_12_2 I k_a0
      have sh49 : NH ad a0 δ r32.2 := NH.t NH.r nh45
      exact ok_some (show RI ad h.1 δ0 r32.2 ∧ (kp [(12, 0), (12, 2), (12, 3), (12, 4), (12, 5), (12, 6), (12, 7), (12, 8), (12, 10), (12, 11), (12, 12), (12, 18)] δ r32.2 ∧ q_V r32.2 = q_V δ ∧ kr ad [100, 103, 106] δ r32.2) ∧ (q_I r32.2 12 2 a0).toInt = (q_I δ 12 2 a0).toInt ∧ SHP ad a0 δ r32.2 from ⟨i34, ⟨kp_w (by decide) u40, v41, kr_w (by decide) v42⟩, by first | assumption | omega, SHP.n sh49⟩)
    · have c50 : r21.1.toInt ≠ (0 : Int) := o_ne h30
      refine ok_bdv (fun d51 e52 => ?_)
      have i53 : RI ad h.1 δ0 d51 := by rw [e52]; exact cs_12_10 L I k_a0 (show 2 ≤ x2v.toInt by omega) (show x2v.toInt ≤ 16 by omega)
      have u54 := kp_I kp_r e52
      have v55 : q_V d51 = q_V δ := ((show q_V d51 = q_V δ by rw [e52]; rfl)).trans rfl
      have v56 := kr_N (kr_r (ad := ad)) (show q_R d51 = q_R δ by rw [e52]; rfl)
      refine ok_bdv (fun d57 e58 => ?_)
      have i59 : RI ad h.1 δ0 d57 := by rw [e58]; exact cs_12_11 L i53 k_a0 (show 1 ≤ x3v.toInt by omega) (show x3v.toInt ≤ 5 by omega)
      have u60 := kp_I u54 e58
      have v61 : q_V d57 = q_V δ := ((show q_V d57 = q_V d51 by rw [e58]; rfl)).trans v55
      have v62 := kr_N v56 (show q_R d57 = q_R d51 by rw [e58]; rfl)
      refine ok_gp (show bo x4v by first | assumption | exact bo_0 | exact bo_1 | exact bo_i (by omega) (by omega)) ?_
      refine ok_bdv (fun d63 e64 => ?_)
      have i65 : RI ad h.1 δ0 d63 := by rw [e64]; exact cs_12_12 L i59 k_a0 (show 0 ≤ x4v.toInt by omega) (show x4v.toInt ≤ 1 by omega)
      have u66 := kp_I u60 e64
      have v67 : q_V d63 = q_V δ := ((show q_V d63 = q_V d57 by rw [e64]; rfl)).trans v61
      have v68 := kr_N v62 (show q_R d63 = q_R d57 by rw [e64]; rfl)
      refine ok_mono (kl_X12_shape_299 L hN   k_a0 _ (0 : Int32) d63 i65 (show 0 ≤ (0 : Int) by first | assumption | omega) (show (0 : Int) ≤ 4 by first | assumption | omega) (show 4 - (0 : Int) < _ by omega)) (fun r69 hr70 => ?_)
      obtain ⟨i71, ⟨u74, u75, u76⟩, p72, p73⟩ := hr70
      have u77 := kp_t u66 u74
      have v78 : q_V r69.2 = q_V δ := (u75).trans v67
      have v79 := kr_t v68 u76
      have f80 := cb_12_2 i71 k_a0
      have f81 := cb_12_2 i65 k_a0
      have f82 : (q_I d63 12 2 a0).toInt = (q_I d57 12 2 a0).toInt := congrArg Int32.toInt (by rw [e64]; exact rI_o (by decide))
      have f83 := cb_12_2 i59 k_a0
      have f84 : (q_I d57 12 2 a0).toInt = (q_I d51 12 2 a0).toInt := congrArg Int32.toInt (by rw [e58]; exact rI_o (by decide))
      have f85 := cb_12_2 i53 k_a0
      have f86 : (q_I d51 12 2 a0).toInt = (q_I δ 12 2 a0).toInt := congrArg Int32.toInt (by rw [e52]; exact rI_o (by decide))
      have f87 := cb_12_2 I k_a0
      have f88 := ti_b r69.1
      exact ⟨by assumption, ⟨kp_w (by decide) u77, v78, kr_w (by decide) v79⟩, by first | assumption | omega, SHP.z (p73 rfl)⟩
  · have c89 : r10.1.toInt ≠ (0 : Int) := o_ne h19
    have f92 := ti_b (x5v ||| x6v)
    refine ok_biv (fun vx90 e91 => ?_)
    have f93 : vx90.toInt = (x5v ||| x6v).toInt := congrArg Int32.toInt e91
    refine ok_bind (k_X12_pass L hN (a0 := a0) k_a0 I) (fun r94 hr95 => ?_)
    obtain ⟨i96, ⟨u99, u100, u101, u102⟩, p97, p98⟩ := hr95
    have u103 := kp_t kp_r u99
    have v104 : q_V r94 = q_V δ := (u100).trans rfl
    have v105 := kr_t (kr_r (ad := ad)) u102
    have f106 := cb_12_4 i96 k_a0
    have nh107 : NH ad a0 δ r94 := ⟨u102 103 (by decide) (by decide) (by decide), u99 12 10 _ (by decide), u99 12 18 _ (by decide)⟩
    have f108 := ti_b x6v
    refine ok_ite (fun h109 => ?_) (fun h109 => ?_)
    · have c110 : x6v.toInt = (1 : Int) := o_eq h109
      refine ok_bind (k_X12_readNumber L hN (a0 := a0) (x1 := (2 : Int32)) (x2 := (16 : Int32)) k_a0 i96) (fun r111 hr112 => ?_)
      obtain ⟨i113, ⟨u120, u121, u122, u123⟩, p114, p115, p116, p117, p118, p119⟩ := hr112
      have u124 := kp_t u103 u120
      have v125 : q_V r111.2 = q_V δ := (u121).trans v104
      have v126 := kr_t v105 u123
      have f127 := cb_12_4 i113 k_a0
      have f128 := cb_12_5 i96 k_a0
      have f129 : (q_I r94 12 5 a0).toInt = (q_I δ 12 5 a0).toInt := congrArg Int32.toInt (u99 12 5 a0 (by decide))
      have f130 := cb_12_5 i113 k_a0
      have f131 := ti_b r111.1
      replace p119 : ((q_I r111.2 12 5 a0).toInt < 0 → (2 : Int) ≤ (r111.1).toInt ∧ (r111.1).toInt ≤ (16 : Int)) := p119
      have f132 := ti_b r111.1
      have nh133 : NH ad a0 r94 r111.2 := ⟨u123 103 (by decide) (by decide) (by decide), u120 12 10 _ (by decide), u120 12 18 _ (by decide)⟩
      refine ok_mono (kj_X12_shape_258 L hN (K49 := K49) (a0 := a0) (x1 := x1) (x2v := r111.1) (x3v := x3v) (x4v := x4v) (x5v := vx90) h_kt49 k_a0 (show (q_I r111.2 12 5 a0).toInt < 0 → 2 ≤ (r111.1).toInt ∧ (r111.1).toInt ≤ 16 ∧ 1 ≤ (x3v).toInt ∧ (x3v).toInt ≤ 5 by first | assumption | omega) (show (x4v).toInt = 0 ∨ (x4v).toInt = 1 by first | assumption | omega) (show 501 - (q_I r111.2 12 4 a0).toInt < K49 by first | assumption | omega) i113) (fun r134 hr135 => ?_)
      obtain ⟨i136, ⟨u139, u140, u141⟩, p137, p138⟩ := hr135
      have u142 := kp_t u124 u139
      have v143 : q_V r134.2 = q_V δ := (u140).trans v125
      have v144 := kr_t v126 u141
      have f145 := cb_12_2 i136 k_a0
      have f146 := cb_12_2 i113 k_a0
      have f147 : (q_I r111.2 12 2 a0).toInt = (q_I r94 12 2 a0).toInt := congrArg Int32.toInt (u120 12 2 a0 (by decide))
      have f148 := cb_12_2 i96 k_a0
      have f149 : (q_I r94 12 2 a0).toInt = (q_I δ 12 2 a0).toInt := congrArg Int32.toInt (u99 12 2 a0 (by decide))
      have f150 := cb_12_2 I k_a0
      have f151 := ti_b r134.1
      have sh152 : NH ad a0 δ r94 := NH.t NH.r nh107
      have sh153 : NH ad a0 δ r111.2 := NH.t sh152 nh133
      have sh154 : SHP ad a0 δ r134.2 := SHP.pre sh153 p138
      exact ⟨by assumption, ⟨kp_w (by decide) u142, v143, kr_w (by decide) v144⟩, by first | assumption | omega, sh154⟩
    · have c155 : x6v.toInt ≠ (1 : Int) := o_ne h109
      refine ok_ite (fun h156 => ?_) (fun h156 => ?_)
      · have c157 : x6v.toInt = (4 : Int) := o_eq h156
        refine ok_bind (k_X12_readNumber L hN (a0 := a0) (x1 := (1 : Int32)) (x2 := (5 : Int32)) k_a0 i96) (fun r158 hr159 => ?_)
        obtain ⟨i160, ⟨u167, u168, u169, u170⟩, p161, p162, p163, p164, p165, p166⟩ := hr159
        have u171 := kp_t u103 u167
        have v172 : q_V r158.2 = q_V δ := (u168).trans v104
        have v173 := kr_t v105 u170
        have f174 := cb_12_4 i160 k_a0
        have f175 := cb_12_5 i96 k_a0
        have f176 : (q_I r94 12 5 a0).toInt = (q_I δ 12 5 a0).toInt := congrArg Int32.toInt (u99 12 5 a0 (by decide))
        have f177 := cb_12_5 i160 k_a0
        have f178 := ti_b r158.1
        replace p166 : ((q_I r158.2 12 5 a0).toInt < 0 → (1 : Int) ≤ (r158.1).toInt ∧ (r158.1).toInt ≤ (5 : Int)) := p166
        have f179 := ti_b r158.1
        have nh180 : NH ad a0 r94 r158.2 := ⟨u170 103 (by decide) (by decide) (by decide), u167 12 10 _ (by decide), u167 12 18 _ (by decide)⟩
        refine ok_mono (kj_X12_shape_258 L hN (K49 := K49) (a0 := a0) (x1 := x1) (x2v := x2v) (x3v := r158.1) (x4v := x4v) (x5v := vx90) h_kt49 k_a0 (show (q_I r158.2 12 5 a0).toInt < 0 → 2 ≤ (x2v).toInt ∧ (x2v).toInt ≤ 16 ∧ 1 ≤ (r158.1).toInt ∧ (r158.1).toInt ≤ 5 by first | assumption | omega) (show (x4v).toInt = 0 ∨ (x4v).toInt = 1 by first | assumption | omega) (show 501 - (q_I r158.2 12 4 a0).toInt < K49 by first | assumption | omega) i160) (fun r181 hr182 => ?_)
        obtain ⟨i183, ⟨u186, u187, u188⟩, p184, p185⟩ := hr182
        have u189 := kp_t u171 u186
        have v190 : q_V r181.2 = q_V δ := (u187).trans v172
        have v191 := kr_t v173 u188
        have f192 := cb_12_2 i183 k_a0
        have f193 := cb_12_2 i160 k_a0
        have f194 : (q_I r158.2 12 2 a0).toInt = (q_I r94 12 2 a0).toInt := congrArg Int32.toInt (u167 12 2 a0 (by decide))
        have f195 := cb_12_2 i96 k_a0
        have f196 : (q_I r94 12 2 a0).toInt = (q_I δ 12 2 a0).toInt := congrArg Int32.toInt (u99 12 2 a0 (by decide))
        have f197 := cb_12_2 I k_a0
        have f198 := ti_b r181.1
        have sh199 : NH ad a0 δ r94 := NH.t NH.r nh107
        have sh200 : NH ad a0 δ r158.2 := NH.t sh199 nh180
        have sh201 : SHP ad a0 δ r181.2 := SHP.pre sh200 p185
        exact ⟨by assumption, ⟨kp_w (by decide) u189, v190, kr_w (by decide) v191⟩, by first | assumption | omega, sh201⟩
      · have c202 : x6v.toInt ≠ (4 : Int) := o_ne h156
        refine ok_bind (k_X12_word L hN (a0 := a0) k_a0 i96) (fun r203 hr204 => ?_)
        obtain ⟨i205, ⟨u208, u209, u210, u211⟩, p206, p207⟩ := hr204
        have u212 := kp_t u103 u208
        have v213 : q_V r203.2 = q_V δ := (u209).trans v104
        have v214 := kr_t v105 u211
        have f215 := cb_12_4 i205 k_a0
        have f216 : hc ad r203.2 a0 = (q_R r203.2 (Ad ad 101) (q_I r203.2 12 4 a0).toNatClampNeg).toInt := rfl
        have t217 := ti_tn (q_I r203.2 12 4 a0)
        have f218 : (q_R r203.2 (Ad ad 101) (q_I r203.2 12 4 a0).toNatClampNeg).toInt = (q_R r94 (Ad ad 101) (q_I r203.2 12 4 a0).toNatClampNeg).toInt := congrArg Int32.toInt (congrFun (u211 101 (by decide) (by decide) (by decide)) _)
        have f219 : (q_R r94 (Ad ad 101) (q_I r203.2 12 4 a0).toNatClampNeg).toInt = (q_R δ (Ad ad 101) (q_I r203.2 12 4 a0).toNatClampNeg).toInt := congrArg Int32.toInt (congrFun (u102 101 (by decide) (by decide) (by decide)) _)
        have f220 := ti_b (q_R δ (Ad ad 101) (q_I r203.2 12 4 a0).toNatClampNeg)
        have f221 := ti_b (q_R r94 (Ad ad 101) (q_I r203.2 12 4 a0).toNatClampNeg)
        have f222 := ti_b (q_R r203.2 (Ad ad 101) (q_I r203.2 12 4 a0).toNatClampNeg)
        have f223 := ti_b r203.1
        have f224 := cb_12_3 i96 k_a0
        have f225 : (q_I r94 12 3 a0).toInt = (q_I δ 12 3 a0).toInt := congrArg Int32.toInt (u99 12 3 a0 (by decide))
        have f226 := ti_b r203.1
        have nh227 : NH ad a0 r94 r203.2 := ⟨u211 103 (by decide) (by decide) (by decide), u208 12 10 _ (by decide), u208 12 18 _ (by decide)⟩
        refine ok_bind (k_X12_of L hN (a0 := 3) (show 3 < 16 by first | assumption | omega) i205) (fun r228 hr229 => ?_)
        obtain ⟨i230, p231⟩ := hr229
        try rw [i230]
        have f232 := ti_b r228.1
        have f233 := ti_b r228.1
        refine ok_ite (fun h234 => ?_) (fun h234 => ?_)
        · have c235 : r203.1.toInt = r228.1.toInt := o_eq h234
          have f236 := cb_12_5 i205 k_a0
          have f237 : (q_I r203.2 12 5 a0).toInt = (q_I r94 12 5 a0).toInt := congrArg Int32.toInt (u208 12 5 a0 (by decide))
          have f238 := cb_12_5 i96 k_a0
          have f239 : (q_I r94 12 5 a0).toInt = (q_I δ 12 5 a0).toInt := congrArg Int32.toInt (u99 12 5 a0 (by decide))
          refine ok_mono (kj_X12_shape_219 L hN (K49 := K49) (a0 := a0) (x1 := x1) (xs0 := (1 : Int32)) (x2v := x2v) (x3v := x3v) (x5v := vx90) h_kt49 k_a0 (show (q_I r203.2 12 5 a0).toInt < 0 → 2 ≤ (x2v).toInt ∧ (x2v).toInt ≤ 16 ∧ 1 ≤ (x3v).toInt ∧ (x3v).toInt ≤ 5 by first | assumption | omega) (show (1 : Int) = 0 ∨ (1 : Int) = 1 by first | assumption | omega) (show 501 - (q_I r203.2 12 4 a0).toInt < K49 by first | assumption | omega) i205) (fun r240 hr241 => ?_)
          obtain ⟨i242, ⟨u245, u246, u247⟩, p243, p244⟩ := hr241
          have u248 := kp_t u212 u245
          have v249 : q_V r240.2 = q_V δ := (u246).trans v213
          have v250 := kr_t v214 u247
          have f251 := cb_12_2 i242 k_a0
          have f252 := cb_12_2 i205 k_a0
          have f253 : (q_I r203.2 12 2 a0).toInt = (q_I r94 12 2 a0).toInt := congrArg Int32.toInt (u208 12 2 a0 (by decide))
          have f254 := cb_12_2 i96 k_a0
          have f255 : (q_I r94 12 2 a0).toInt = (q_I δ 12 2 a0).toInt := congrArg Int32.toInt (u99 12 2 a0 (by decide))
          have f256 := cb_12_2 I k_a0
          have f257 := ti_b r240.1
          have sh258 : NH ad a0 δ r94 := NH.t NH.r nh107
          have sh259 : NH ad a0 δ r203.2 := NH.t sh258 nh227
          have sh260 : SHP ad a0 δ r240.2 := SHP.pre sh259 p244
          exact ⟨by assumption, ⟨kp_w (by decide) u248, v249, kr_w (by decide) v250⟩, by first | assumption | omega, sh260⟩
        · have c261 : r203.1.toInt ≠ r228.1.toInt := o_ne h234
          have f262 := cb_12_5 i205 k_a0
          have f263 : (q_I r203.2 12 5 a0).toInt = (q_I r94 12 5 a0).toInt := congrArg Int32.toInt (u208 12 5 a0 (by decide))
          have f264 := cb_12_5 i96 k_a0
          have f265 : (q_I r94 12 5 a0).toInt = (q_I δ 12 5 a0).toInt := congrArg Int32.toInt (u99 12 5 a0 (by decide))
          refine ok_mono (kj_X12_shape_219 L hN (K49 := K49) (a0 := a0) (x1 := x1) (xs0 := (0 : Int32)) (x2v := x2v) (x3v := x3v) (x5v := vx90) h_kt49 k_a0 (show (q_I r203.2 12 5 a0).toInt < 0 → 2 ≤ (x2v).toInt ∧ (x2v).toInt ≤ 16 ∧ 1 ≤ (x3v).toInt ∧ (x3v).toInt ≤ 5 by first | assumption | omega) (show (0 : Int) = 0 ∨ (0 : Int) = 1 by first | assumption | omega) (show 501 - (q_I r203.2 12 4 a0).toInt < K49 by first | assumption | omega) i205) (fun r266 hr267 => ?_)
          obtain ⟨i268, ⟨u271, u272, u273⟩, p269, p270⟩ := hr267
          have u274 := kp_t u212 u271
          have v275 : q_V r266.2 = q_V δ := (u272).trans v213
          have v276 := kr_t v214 u273
          have f277 := cb_12_2 i268 k_a0
          have f278 := cb_12_2 i205 k_a0
          have f279 : (q_I r203.2 12 2 a0).toInt = (q_I r94 12 2 a0).toInt := congrArg Int32.toInt (u208 12 2 a0 (by decide))
          have f280 := cb_12_2 i96 k_a0
          have f281 : (q_I r94 12 2 a0).toInt = (q_I δ 12 2 a0).toInt := congrArg Int32.toInt (u99 12 2 a0 (by decide))
          have f282 := cb_12_2 I k_a0
          have f283 := ti_b r266.1
          have sh284 : NH ad a0 δ r94 := NH.t NH.r nh107
          have sh285 : NH ad a0 δ r203.2 := NH.t sh284 nh227
          have sh286 : SHP ad a0 δ r266.2 := SHP.pre sh285 p270
          exact ⟨by assumption, ⟨kp_w (by decide) u274, v275, kr_w (by decide) v276⟩, by first | assumption | omega, sh286⟩
set_option maxHeartbeats 4000000 in
theorem kj_X12_shape_112 {ad : List Nat} {h : hp} (L : Lay TLx ad h) {δ0 : dp} {N : Nat} (hN : 10000000 ≤ N) {a0 : Nat} {x1 : Int32} {kt49 : Int32 → Int32 → Int32 → Int32 → dp → Option (Int32 × dp)} {K49 : Int} (h_kt49 : ∀ (x2v : Int32) (x3v : Int32) (x4v : Int32) (x5v : Int32) (δ : dp), RI ad h.1 δ0 δ → ((q_I δ 12 5 a0).toInt < 0 → 2 ≤ (x2v).toInt ∧ (x2v).toInt ≤ 16 ∧ 1 ≤ (x3v).toInt ∧ (x3v).toInt ≤ 5) → ((x4v).toInt = 0 ∨ (x4v).toInt = 1) → 501 - (q_I δ 12 4 a0).toInt < K49 → ok (kt49 x2v x3v x4v x5v δ) (fun r => RI ad h.1 δ0 r.2 ∧ (kp [(12, 0), (12, 2), (12, 3), (12, 4), (12, 5), (12, 6), (12, 7), (12, 8), (12, 10), (12, 11), (12, 12), (12, 18)] δ r.2 ∧ q_V r.2 = q_V δ ∧ kr ad [100, 103, 106] δ r.2) ∧ (q_I r.2 12 2 a0).toInt = (q_I δ 12 2 a0).toInt ∧ SHP ad a0 δ r.2)) {xs0 : Int32} {x2v : Int32} {x3v : Int32} {x4v : Int32} {x5v : Int32} (k_a0 : q_K h.1 a0 = 12) {δ : dp} (z0 : (q_I δ 12 5 a0).toInt < 0 → 2 ≤ (x2v).toInt ∧ (x2v).toInt ≤ 16 ∧ 1 ≤ (x3v).toInt ∧ (x3v).toInt ≤ 5) (z1 : (x4v).toInt = 0 ∨ (x4v).toInt = 1) (z2 : (xs0).toInt = 0 ∨ (q_I δ 12 4 a0).toInt < (q_I δ 12 3 a0).toInt ∧ 97 ≤ hc ad δ a0 ∧ hc ad δ a0 ≤ 122) (z3 : 501 - (q_I δ 12 4 a0).toInt ≤ K49) (I : RI ad h.1 δ0 δ) : ok (J_X12_shape_112 N h.1 a0 x1 kt49 xs0 x2v x3v x4v x5v δ) (fun r => RI ad h.1 δ0 r.2 ∧ (kp [(12, 0), (12, 2), (12, 3), (12, 4), (12, 5), (12, 6), (12, 7), (12, 8), (12, 10), (12, 11), (12, 12), (12, 18)] δ r.2 ∧ q_V r.2 = q_V δ ∧ kr ad [100, 103, 106] δ r.2) ∧ (q_I r.2 12 2 a0).toInt = (q_I δ 12 2 a0).toInt ∧ SHP ad a0 δ r.2) := by
  unfold J_X12_shape_112
  have f1 : hc ad δ a0 = (q_R δ (Ad ad 101) (q_I δ 12 4 a0).toNatClampNeg).toInt := rfl
  have f2 := cb_12_4 I k_a0
  have t3 := ti_tn (q_I δ 12 4 a0)
  have f4 := ti_b (q_R δ (Ad ad 101) (q_I δ 12 4 a0).toNatClampNeg)
  have f5 := cb_12_5 I k_a0
  have f6 := ti_b x2v
  have f7 := ti_b x3v
  have f8 := ti_b x4v
  have f9 := ti_b xs0
  have f10 := cb_12_3 I k_a0
  refine ok_ite (fun h11 => ?_) (fun h11 => ?_)
  · have c12 : xs0.toInt = (0 : Int) := o_eq h11
    refine ok_bind (k_X12_wrong L hN (a0 := a0) (x1 := (1 : Int32)) (x2 := (q_I δ 12 4 a0)) k_a0 (show 0 ≤ ((q_I δ 12 4 a0)).toInt by first | assumption | omega) (show ((q_I δ 12 4 a0)).toInt ≤ 500 by first | assumption | omega) (show 0 ≤ (1 : Int) by first | assumption | omega) (show (1 : Int) ≤ 4 by first | assumption | omega) I) (fun r13 hr14 => ?_)
    obtain ⟨i15, ⟨u18, u19, u20, u21⟩, p16, p17⟩ := hr14
    have u22 := kp_t kp_r u18
    have v23 : q_V r13 = q_V δ := (u19).trans rfl
    have v24 := kr_t (kr_r (ad := ad)) u21
    have f25 := cb_12_5 i15 k_a0
    have nh26 : NH ad a0 δ r13 := ⟨u21 103 (by decide) (by decide) (by decide), u18 12 10 _ (by decide), u18 12 18 _ (by decide)⟩
    have f27 : hc ad r13 a0 = (q_R r13 (Ad ad 101) (q_I r13 12 4 a0).toNatClampNeg).toInt := rfl
    have f28 := cb_12_4 i15 k_a0
    have f29 : (q_I r13 12 4 a0).toInt = (q_I δ 12 4 a0).toInt := congrArg Int32.toInt (u18 12 4 a0 (by decide))
    have t30 := ti_tn (q_I r13 12 4 a0)
    have f31 : (q_R r13 (Ad ad 101) (q_I r13 12 4 a0).toNatClampNeg).toInt = (q_R δ (Ad ad 101) (q_I r13 12 4 a0).toNatClampNeg).toInt := congrArg Int32.toInt (congrFun (u21 101 (by decide) (by decide) (by decide)) _)
    have f32 := ti_b (q_R δ (Ad ad 101) (q_I r13 12 4 a0).toNatClampNeg)
    have f33 := ti_b (q_R r13 (Ad ad 101) (q_I r13 12 4 a0).toNatClampNeg)
    have f34 := cb_12_3 i15 k_a0
    have f35 : (q_I r13 12 3 a0).toInt = (q_I δ 12 3 a0).toInt := congrArg Int32.toInt (u18 12 3 a0 (by decide))
    refine ok_mono (kj_X12_shape_148 L hN (K49 := K49) (a0 := a0) (x1 := x1) (x2v := x2v) (x3v := x3v) (x4v := x4v) (x5v := x5v) (x6v := xs0) h_kt49 k_a0 (show (q_I r13 12 5 a0).toInt < 0 → 2 ≤ (x2v).toInt ∧ (x2v).toInt ≤ 16 ∧ 1 ≤ (x3v).toInt ∧ (x3v).toInt ≤ 5 by first | assumption | omega) (show (x4v).toInt = 0 ∨ (x4v).toInt = 1 by first | assumption | omega) (show (q_I r13 12 5 a0).toInt < 0 → (q_I r13 12 4 a0).toInt < (q_I r13 12 3 a0).toInt ∧ 97 ≤ hc ad r13 a0 ∧ hc ad r13 a0 ≤ 122 by first | assumption | omega) (show 501 - (q_I r13 12 4 a0).toInt ≤ K49 by first | assumption | omega) i15) (fun r36 hr37 => ?_)
    obtain ⟨i38, ⟨u41, u42, u43⟩, p39, p40⟩ := hr37
    have u44 := kp_t u22 u41
    have v45 : q_V r36.2 = q_V δ := (u42).trans v23
    have v46 := kr_t v24 u43
    have f47 := cb_12_2 i38 k_a0
    have f48 := cb_12_2 i15 k_a0
    have f49 : (q_I r13 12 2 a0).toInt = (q_I δ 12 2 a0).toInt := congrArg Int32.toInt (u18 12 2 a0 (by decide))
    have f50 := cb_12_2 I k_a0
    have f51 := ti_b r36.1
    have sh52 : NH ad a0 δ r13 := NH.t NH.r nh26
    have sh53 : SHP ad a0 δ r36.2 := SHP.pre sh52 p40
    exact ⟨by assumption, ⟨kp_w (by decide) u44, v45, kr_w (by decide) v46⟩, by first | assumption | omega, sh53⟩
  · have c54 : xs0.toInt ≠ (0 : Int) := o_ne h11
    have f55 := ti_b (x5v &&& xs0)
    refine ok_ite (fun h56 => ?_) (fun h56 => ?_)
    · have c57 : (x5v &&& xs0).toInt = (0 : Int) := o_eq h56
      refine ok_mono (kj_X12_shape_148 L hN (K49 := K49) (a0 := a0) (x1 := x1) (x2v := x2v) (x3v := x3v) (x4v := x4v) (x5v := x5v) (x6v := xs0) h_kt49 k_a0 (show (q_I δ 12 5 a0).toInt < 0 → 2 ≤ (x2v).toInt ∧ (x2v).toInt ≤ 16 ∧ 1 ≤ (x3v).toInt ∧ (x3v).toInt ≤ 5 by first | assumption | omega) (show (x4v).toInt = 0 ∨ (x4v).toInt = 1 by first | assumption | omega) (show (q_I δ 12 5 a0).toInt < 0 → (q_I δ 12 4 a0).toInt < (q_I δ 12 3 a0).toInt ∧ 97 ≤ hc ad δ a0 ∧ hc ad δ a0 ≤ 122 by first | assumption | omega) (show 501 - (q_I δ 12 4 a0).toInt ≤ K49 by first | assumption | omega) I) (fun r58 hr59 => ?_)
      obtain ⟨i60, ⟨u63, u64, u65⟩, p61, p62⟩ := hr59
      have u66 := kp_t kp_r u63
      have v67 : q_V r58.2 = q_V δ := (u64).trans rfl
      have v68 := kr_t (kr_r (ad := ad)) u65
      have f69 := cb_12_2 i60 k_a0
      have f70 := cb_12_2 I k_a0
      have f71 := ti_b r58.1
      have sh72 : SHP ad a0 δ r58.2 := SHP.pre NH.r p62
      exact ⟨by assumption, ⟨kp_w (by decide) u66, v67, kr_w (by decide) v68⟩, by first | assumption | omega, sh72⟩
    · have c73 : (x5v &&& xs0).toInt ≠ (0 : Int) := o_ne h56
      refine ok_bind (k_X12_wrong L hN (a0 := a0) (x1 := (4 : Int32)) (x2 := (q_I δ 12 4 a0)) k_a0 (show 0 ≤ ((q_I δ 12 4 a0)).toInt by first | assumption | omega) (show ((q_I δ 12 4 a0)).toInt ≤ 500 by first | assumption | omega) (show 0 ≤ (4 : Int) by first | assumption | omega) (show (4 : Int) ≤ 4 by first | assumption | omega) I) (fun r74 hr75 => ?_)
      obtain ⟨i76, ⟨u79, u80, u81, u82⟩, p77, p78⟩ := hr75
      have u83 := kp_t kp_r u79
      have v84 : q_V r74 = q_V δ := (u80).trans rfl
      have v85 := kr_t (kr_r (ad := ad)) u82
      have f86 := cb_12_5 i76 k_a0
      have nh87 : NH ad a0 δ r74 := ⟨u82 103 (by decide) (by decide) (by decide), u79 12 10 _ (by decide), u79 12 18 _ (by decide)⟩
      have f88 : hc ad r74 a0 = (q_R r74 (Ad ad 101) (q_I r74 12 4 a0).toNatClampNeg).toInt := rfl
      have f89 := cb_12_4 i76 k_a0
      have f90 : (q_I r74 12 4 a0).toInt = (q_I δ 12 4 a0).toInt := congrArg Int32.toInt (u79 12 4 a0 (by decide))
      have t91 := ti_tn (q_I r74 12 4 a0)
      have f92 : (q_R r74 (Ad ad 101) (q_I r74 12 4 a0).toNatClampNeg).toInt = (q_R δ (Ad ad 101) (q_I r74 12 4 a0).toNatClampNeg).toInt := congrArg Int32.toInt (congrFun (u82 101 (by decide) (by decide) (by decide)) _)
      have f93 := ti_b (q_R δ (Ad ad 101) (q_I r74 12 4 a0).toNatClampNeg)
      have f94 := ti_b (q_R r74 (Ad ad 101) (q_I r74 12 4 a0).toNatClampNeg)
      have f95 := cb_12_3 i76 k_a0
      have f96 : (q_I r74 12 3 a0).toInt = (q_I δ 12 3 a0).toInt := congrArg Int32.toInt (u79 12 3 a0 (by decide))
      refine ok_mono (kj_X12_shape_148 L hN (K49 := K49) (a0 := a0) (x1 := x1) (x2v := x2v) (x3v := x3v) (x4v := x4v) (x5v := x5v) (x6v := xs0) h_kt49 k_a0 (show (q_I r74 12 5 a0).toInt < 0 → 2 ≤ (x2v).toInt ∧ (x2v).toInt ≤ 16 ∧ 1 ≤ (x3v).toInt ∧ (x3v).toInt ≤ 5 by first | assumption | omega) (show (x4v).toInt = 0 ∨ (x4v).toInt = 1 by first | assumption | omega) (show (q_I r74 12 5 a0).toInt < 0 → (q_I r74 12 4 a0).toInt < (q_I r74 12 3 a0).toInt ∧ 97 ≤ hc ad r74 a0 ∧ hc ad r74 a0 ≤ 122 by first | assumption | omega) (show 501 - (q_I r74 12 4 a0).toInt ≤ K49 by first | assumption | omega) i76) (fun r97 hr98 => ?_)
      obtain ⟨i99, ⟨u102, u103, u104⟩, p100, p101⟩ := hr98
      have u105 := kp_t u83 u102
      have v106 : q_V r97.2 = q_V δ := (u103).trans v84
      have v107 := kr_t v85 u104
      have f108 := cb_12_2 i99 k_a0
      have f109 := cb_12_2 i76 k_a0
      have f110 : (q_I r74 12 2 a0).toInt = (q_I δ 12 2 a0).toInt := congrArg Int32.toInt (u79 12 2 a0 (by decide))
      have f111 := cb_12_2 I k_a0
      have f112 := ti_b r97.1
      have sh113 : NH ad a0 δ r74 := NH.t NH.r nh87
      have sh114 : SHP ad a0 δ r97.2 := SHP.pre sh113 p101
      exact ⟨by assumption, ⟨kp_w (by decide) u105, v106, kr_w (by decide) v107⟩, by first | assumption | omega, sh114⟩
set_option maxHeartbeats 4000000 in
theorem kl_X12_shape_49 {ad : List Nat} {h : hp} (L : Lay TLx ad h) {δ0 : dp} {N : Nat} (hN : 10000000 ≤ N) {a0 : Nat} {x1 : Int32} (k_a0 : q_K h.1 a0 = 12) : ∀ (n : Nat) (x2v : Int32) (x3v : Int32) (x4v : Int32) (x5v : Int32) (δ : dp), RI ad h.1 δ0 δ → ((q_I δ 12 5 a0).toInt < 0 → 2 ≤ (x2v).toInt ∧ (x2v).toInt ≤ 16 ∧ 1 ≤ (x3v).toInt ∧ (x3v).toInt ≤ 5) → ((x4v).toInt = 0 ∨ (x4v).toInt = 1) → 501 - (q_I δ 12 4 a0).toInt < (n : Int) → ok (L_X12_shape_49 N h.1 a0 x1 n x2v x3v x4v x5v δ) (fun r => RI ad h.1 δ0 r.2 ∧ (kp [(12, 0), (12, 2), (12, 3), (12, 4), (12, 5), (12, 6), (12, 7), (12, 8), (12, 10), (12, 11), (12, 12), (12, 18)] δ r.2 ∧ q_V r.2 = q_V δ ∧ kr ad [100, 103, 106] δ r.2) ∧ (q_I r.2 12 2 a0).toInt = (q_I δ 12 2 a0).toInt ∧ SHP ad a0 δ r.2) := by
  intro n
  induction n with
  | zero =>
    intro x2v x3v x4v x5v δ I j0 j1 hm
    have f1 := cb_12_5 I k_a0
    have f2 := ti_b x2v
    have f3 := ti_b x3v
    have f4 := ti_b x4v
    have f5 := cb_12_4 I k_a0
    exfalso; omega
  | succ n ih =>
    intro x2v x3v x4v x5v δ I j0 j1 hm
    have J0 : WEp (q_I δ 12 5 a0).toInt x2v.toInt x3v.toInt := j0
    have J1 : 0 ≤ x4v.toInt ∧ x4v.toInt ≤ 1 := by omega
    clear j0 j1
    unfold L_X12_shape_49
    have f1 := cb_12_5 I k_a0
    have f2 := ti_b x2v
    have f3 := ti_b x3v
    have f4 := ti_b x4v
    have f5 := cb_12_4 I k_a0
    refine ok_bind (k_X12_fine L hN (a0 := a0) k_a0 I) (fun r6 hr7 => ?_)
    obtain ⟨i8, p9, p10, p11⟩ := hr7
    try rw [i8]
    have f12 := bo_l p9
    have f13 := ti_b r6.1
    have f14 := ti_b r6.1
    refine ok_ite (fun h15 => ?_) (fun h15 => ?_)
    · have c16 : r6.1.toInt = (0 : Int) := o_eq h15
      unfold J_X12_shape_267
      refine ok_bind (k_X12_fine L hN (a0 := a0) k_a0 I) (fun r17 hr18 => ?_)
      obtain ⟨i19, p20, p21, p22⟩ := hr18
      try rw [i19]
      have f23 := bo_l p20
      have f24 := ti_b r17.1
      have f25 := ti_b r17.1
      refine ok_ite (fun h26 => ?_) (fun h26 => ?_)
      · have c27 : r17.1.toInt = (0 : Int) := o_eq h26
        refine ok_bind (k_X12_result L hN (a0 := a0) (x1 := (0 : Int32)) k_a0 I) (fun r28 hr29 => ?_)
        obtain ⟨i30, ⟨u32, u33, u34, u35⟩, p31⟩ := hr29
        have u36 := kp_t kp_r u32
        have v37 : q_V r28.2 = q_V δ := (u33).trans rfl
        have v38 := kr_t (kr_r (ad := ad)) u35
        have f39 := ti_b r28.1
        have f40 := ti_b r28.1
        have nh41 : NH ad a0 δ r28.2 := ⟨u35 103 (by decide) (by decide) (by decide), u32 12 10 _ (by decide), u32 12 18 _ (by decide)⟩
        have f42 := cb_12_2 i30 k_a0
        have f43 : (q_I r28.2 12 2 a0).toInt = (q_I δ 12 2 a0).toInt := congrArg Int32.toInt (u32 12 2 a0 (by decide))
        have f44 := cb_12_2 I k_a0
        have sh45 : NH ad a0 δ r28.2 := NH.t NH.r nh41
        exact ok_some (show RI ad h.1 δ0 r28.2 ∧ (kp [(12, 0), (12, 2), (12, 3), (12, 4), (12, 5), (12, 6), (12, 7), (12, 8), (12, 10), (12, 11), (12, 12), (12, 18)] δ r28.2 ∧ q_V r28.2 = q_V δ ∧ kr ad [100, 103, 106] δ r28.2) ∧ (q_I r28.2 12 2 a0).toInt = (q_I δ 12 2 a0).toInt ∧ SHP ad a0 δ r28.2 from ⟨i30, ⟨kp_w (by decide) u36, v37, kr_w (by decide) v38⟩, by first | assumption | omega, SHP.n sh45⟩)
      · have c46 : r17.1.toInt ≠ (0 : Int) := o_ne h26
        refine ok_bdv (fun d47 e48 => ?_)
        have i49 : RI ad h.1 δ0 d47 := by rw [e48]; exact cs_12_10 L I k_a0 (show 2 ≤ x2v.toInt from (J0 (by omega)).1) (show x2v.toInt ≤ 16 from (J0 (by omega)).2.1)
        have u50 := kp_I kp_r e48
        have v51 : q_V d47 = q_V δ := ((show q_V d47 = q_V δ by rw [e48]; rfl)).trans rfl
        have v52 := kr_N (kr_r (ad := ad)) (show q_R d47 = q_R δ by rw [e48]; rfl)
        refine ok_bdv (fun d53 e54 => ?_)
        have i55 : RI ad h.1 δ0 d53 := by rw [e54]; exact cs_12_11 L i49 k_a0 (show 1 ≤ x3v.toInt from (J0 (by omega)).2.2.1) (show x3v.toInt ≤ 5 from (J0 (by omega)).2.2.2)
        have u56 := kp_I u50 e54
        have v57 : q_V d53 = q_V δ := ((show q_V d53 = q_V d47 by rw [e54]; rfl)).trans v51
        have v58 := kr_N v52 (show q_R d53 = q_R d47 by rw [e54]; rfl)
        refine ok_gp (show bo x4v by first | assumption | exact bo_0 | exact bo_1 | exact bo_i (by omega) (by omega)) ?_
        refine ok_bdv (fun d59 e60 => ?_)
        have i61 : RI ad h.1 δ0 d59 := by rw [e60]; exact cs_12_12 L i55 k_a0 (show 0 ≤ x4v.toInt by omega) (show x4v.toInt ≤ 1 by omega)
        have u62 := kp_I u56 e60
        have v63 : q_V d59 = q_V δ := ((show q_V d59 = q_V d53 by rw [e60]; rfl)).trans v57
        have v64 := kr_N v58 (show q_R d59 = q_R d53 by rw [e60]; rfl)
        refine ok_mono (kl_X12_shape_299 L hN   k_a0 _ (0 : Int32) d59 i61 (show 0 ≤ (0 : Int) by first | assumption | omega) (show (0 : Int) ≤ 4 by first | assumption | omega) (show 4 - (0 : Int) < _ by omega)) (fun r65 hr66 => ?_)
        obtain ⟨i67, ⟨u70, u71, u72⟩, p68, p69⟩ := hr66
        have u73 := kp_t u62 u70
        have v74 : q_V r65.2 = q_V δ := (u71).trans v63
        have v75 := kr_t v64 u72
        have f76 := cb_12_2 i67 k_a0
        have f77 := cb_12_2 i61 k_a0
        have f78 : (q_I d59 12 2 a0).toInt = (q_I d53 12 2 a0).toInt := congrArg Int32.toInt (by rw [e60]; exact rI_o (by decide))
        have f79 := cb_12_2 i55 k_a0
        have f80 : (q_I d53 12 2 a0).toInt = (q_I d47 12 2 a0).toInt := congrArg Int32.toInt (by rw [e54]; exact rI_o (by decide))
        have f81 := cb_12_2 i49 k_a0
        have f82 : (q_I d47 12 2 a0).toInt = (q_I δ 12 2 a0).toInt := congrArg Int32.toInt (by rw [e48]; exact rI_o (by decide))
        have f83 := cb_12_2 I k_a0
        have f84 := ti_b r65.1
        exact ⟨by assumption, ⟨kp_w (by decide) u73, v74, kr_w (by decide) v75⟩, by first | assumption | omega, SHP.z (p69 rfl)⟩
    · have c85 : r6.1.toInt ≠ (0 : Int) := o_ne h15
      refine ok_bind (k_X12_isMore L hN (a0 := a0) k_a0 I) (fun r86 hr87 => ?_)
      obtain ⟨i88, ⟨u92, u93, u94, u95⟩, p89, p90, p91⟩ := hr87
      have u96 := kp_t kp_r u92
      have v97 : q_V r86.2 = q_V δ := (u93).trans rfl
      have v98 := kr_t (kr_r (ad := ad)) u95
      have f99 := bo_l p89
      have f100 := cb_12_4 i88 k_a0
      have f101 := ti_b r86.1
      have f102 := cb_12_3 I k_a0
      have f103 := ti_b r86.1
      have nh104 : NH ad a0 δ r86.2 := ⟨u95 103 (by decide) (by decide) (by decide), u92 12 10 _ (by decide), u92 12 18 _ (by decide)⟩
      refine ok_ite (fun h105 => ?_) (fun h105 => ?_)
      · have c106 : r86.1.toInt = (0 : Int) := o_eq h105
        unfold J_X12_shape_267
        refine ok_bind (k_X12_fine L hN (a0 := a0) k_a0 i88) (fun r107 hr108 => ?_)
        obtain ⟨i109, p110, p111, p112⟩ := hr108
        try rw [i109]
        have f113 := bo_l p110
        have f114 := cb_12_5 i88 k_a0
        have f115 : (q_I r86.2 12 5 a0).toInt = (q_I δ 12 5 a0).toInt := congrArg Int32.toInt (u92 12 5 a0 (by decide))
        have f116 := ti_b r107.1
        have f117 := ti_b r107.1
        refine ok_ite (fun h118 => ?_) (fun h118 => ?_)
        · have c119 : r107.1.toInt = (0 : Int) := o_eq h118
          refine ok_bind (k_X12_result L hN (a0 := a0) (x1 := (0 : Int32)) k_a0 i88) (fun r120 hr121 => ?_)
          obtain ⟨i122, ⟨u124, u125, u126, u127⟩, p123⟩ := hr121
          have u128 := kp_t u96 u124
          have v129 : q_V r120.2 = q_V δ := (u125).trans v97
          have v130 := kr_t v98 u127
          have f131 := ti_b r120.1
          have f132 := ti_b r120.1
          have nh133 : NH ad a0 r86.2 r120.2 := ⟨u127 103 (by decide) (by decide) (by decide), u124 12 10 _ (by decide), u124 12 18 _ (by decide)⟩
          have f134 := cb_12_2 i122 k_a0
          have f135 : (q_I r120.2 12 2 a0).toInt = (q_I r86.2 12 2 a0).toInt := congrArg Int32.toInt (u124 12 2 a0 (by decide))
          have f136 := cb_12_2 i88 k_a0
          have f137 : (q_I r86.2 12 2 a0).toInt = (q_I δ 12 2 a0).toInt := congrArg Int32.toInt (u92 12 2 a0 (by decide))
          have f138 := cb_12_2 I k_a0
          have sh139 : NH ad a0 δ r86.2 := NH.t NH.r nh104
          have sh140 : NH ad a0 δ r120.2 := NH.t sh139 nh133
          exact ok_some (show RI ad h.1 δ0 r120.2 ∧ (kp [(12, 0), (12, 2), (12, 3), (12, 4), (12, 5), (12, 6), (12, 7), (12, 8), (12, 10), (12, 11), (12, 12), (12, 18)] δ r120.2 ∧ q_V r120.2 = q_V δ ∧ kr ad [100, 103, 106] δ r120.2) ∧ (q_I r120.2 12 2 a0).toInt = (q_I δ 12 2 a0).toInt ∧ SHP ad a0 δ r120.2 from ⟨i122, ⟨kp_w (by decide) u128, v129, kr_w (by decide) v130⟩, by first | assumption | omega, SHP.n sh140⟩)
        · have c141 : r107.1.toInt ≠ (0 : Int) := o_ne h118
          refine ok_bdv (fun d142 e143 => ?_)
          have i144 : RI ad h.1 δ0 d142 := by rw [e143]; exact cs_12_10 L i88 k_a0 (show 2 ≤ x2v.toInt from (J0 (by omega)).1) (show x2v.toInt ≤ 16 from (J0 (by omega)).2.1)
          have u145 := kp_I u96 e143
          have v146 : q_V d142 = q_V δ := ((show q_V d142 = q_V r86.2 by rw [e143]; rfl)).trans v97
          have v147 := kr_N v98 (show q_R d142 = q_R r86.2 by rw [e143]; rfl)
          refine ok_bdv (fun d148 e149 => ?_)
          have i150 : RI ad h.1 δ0 d148 := by rw [e149]; exact cs_12_11 L i144 k_a0 (show 1 ≤ x3v.toInt from (J0 (by omega)).2.2.1) (show x3v.toInt ≤ 5 from (J0 (by omega)).2.2.2)
          have u151 := kp_I u145 e149
          have v152 : q_V d148 = q_V δ := ((show q_V d148 = q_V d142 by rw [e149]; rfl)).trans v146
          have v153 := kr_N v147 (show q_R d148 = q_R d142 by rw [e149]; rfl)
          refine ok_gp (show bo x4v by first | assumption | exact bo_0 | exact bo_1 | exact bo_i (by omega) (by omega)) ?_
          refine ok_bdv (fun d154 e155 => ?_)
          have i156 : RI ad h.1 δ0 d154 := by rw [e155]; exact cs_12_12 L i150 k_a0 (show 0 ≤ x4v.toInt by omega) (show x4v.toInt ≤ 1 by omega)
          have u157 := kp_I u151 e155
          have v158 : q_V d154 = q_V δ := ((show q_V d154 = q_V d148 by rw [e155]; rfl)).trans v152
          have v159 := kr_N v153 (show q_R d154 = q_R d148 by rw [e155]; rfl)
          refine ok_mono (kl_X12_shape_299 L hN   k_a0 _ (0 : Int32) d154 i156 (show 0 ≤ (0 : Int) by first | assumption | omega) (show (0 : Int) ≤ 4 by first | assumption | omega) (show 4 - (0 : Int) < _ by omega)) (fun r160 hr161 => ?_)
          obtain ⟨i162, ⟨u165, u166, u167⟩, p163, p164⟩ := hr161
          have u168 := kp_t u157 u165
          have v169 : q_V r160.2 = q_V δ := (u166).trans v158
          have v170 := kr_t v159 u167
          have f171 := cb_12_2 i162 k_a0
          have f172 := cb_12_2 i156 k_a0
          have f173 : (q_I d154 12 2 a0).toInt = (q_I d148 12 2 a0).toInt := congrArg Int32.toInt (by rw [e155]; exact rI_o (by decide))
          have f174 := cb_12_2 i150 k_a0
          have f175 : (q_I d148 12 2 a0).toInt = (q_I d142 12 2 a0).toInt := congrArg Int32.toInt (by rw [e149]; exact rI_o (by decide))
          have f176 := cb_12_2 i144 k_a0
          have f177 : (q_I d142 12 2 a0).toInt = (q_I r86.2 12 2 a0).toInt := congrArg Int32.toInt (by rw [e143]; exact rI_o (by decide))
          have f178 := cb_12_2 i88 k_a0
          have f179 : (q_I r86.2 12 2 a0).toInt = (q_I δ 12 2 a0).toInt := congrArg Int32.toInt (u92 12 2 a0 (by decide))
          have f180 := cb_12_2 I k_a0
          have f181 := ti_b r160.1
          exact ⟨by assumption, ⟨kp_w (by decide) u168, v169, kr_w (by decide) v170⟩, by first | assumption | omega, SHP.z (p164 rfl)⟩
      · have c182 : r86.1.toInt ≠ (0 : Int) := o_ne h105
        refine ok_bind (k_X12_word L hN (a0 := a0) k_a0 i88) (fun r183 hr184 => ?_)
        obtain ⟨i185, ⟨u188, u189, u190, u191⟩, p186, p187⟩ := hr184
        have u192 := kp_t u96 u188
        have v193 : q_V r183.2 = q_V δ := (u189).trans v97
        have v194 := kr_t v98 u191
        have f195 := cb_12_4 i185 k_a0
        have f196 : hc ad r183.2 a0 = (q_R r183.2 (Ad ad 101) (q_I r183.2 12 4 a0).toNatClampNeg).toInt := rfl
        have t197 := ti_tn (q_I r183.2 12 4 a0)
        have f198 : (q_R r183.2 (Ad ad 101) (q_I r183.2 12 4 a0).toNatClampNeg).toInt = (q_R r86.2 (Ad ad 101) (q_I r183.2 12 4 a0).toNatClampNeg).toInt := congrArg Int32.toInt (congrFun (u191 101 (by decide) (by decide) (by decide)) _)
        have f199 : (q_R r86.2 (Ad ad 101) (q_I r183.2 12 4 a0).toNatClampNeg).toInt = (q_R δ (Ad ad 101) (q_I r183.2 12 4 a0).toNatClampNeg).toInt := congrArg Int32.toInt (congrFun (u95 101 (by decide) (by decide) (by decide)) _)
        have f200 := ti_b (q_R δ (Ad ad 101) (q_I r183.2 12 4 a0).toNatClampNeg)
        have f201 := ti_b (q_R r86.2 (Ad ad 101) (q_I r183.2 12 4 a0).toNatClampNeg)
        have f202 := ti_b (q_R r183.2 (Ad ad 101) (q_I r183.2 12 4 a0).toNatClampNeg)
        have f203 := ti_b r183.1
        have f204 := cb_12_3 i88 k_a0
        have f205 : (q_I r86.2 12 3 a0).toInt = (q_I δ 12 3 a0).toInt := congrArg Int32.toInt (u92 12 3 a0 (by decide))
        have f206 := ti_b r183.1
        have nh207 : NH ad a0 r86.2 r183.2 := ⟨u191 103 (by decide) (by decide) (by decide), u188 12 10 _ (by decide), u188 12 18 _ (by decide)⟩
        refine ok_bind (k_X12_of L hN (a0 := 0) (show 0 < 16 by first | assumption | omega) i185) (fun r208 hr209 => ?_)
        obtain ⟨i210, p211⟩ := hr209
        try rw [i210]
        have f212 := ti_b r208.1
        have f213 := ti_b r208.1
        refine ok_ite (fun h214 => ?_) (fun h214 => ?_)
        · have c215 : r183.1.toInt = r208.1.toInt := o_eq h214
          unfold J_X12_shape_112
          refine ok_ite (fun h216 => ?_) (fun h216 => ?_)
          · have c217 : (1 : Int) = (0 : Int) := o_eq h216
            refine ok_bind (k_X12_wrong L hN (a0 := a0) (x1 := (1 : Int32)) (x2 := (q_I r183.2 12 4 a0)) k_a0 (show 0 ≤ ((q_I r183.2 12 4 a0)).toInt by first | assumption | omega) (show ((q_I r183.2 12 4 a0)).toInt ≤ 500 by first | assumption | omega) (show 0 ≤ (1 : Int) by first | assumption | omega) (show (1 : Int) ≤ 4 by first | assumption | omega) i185) (fun r218 hr219 => ?_)
            obtain ⟨i220, ⟨u223, u224, u225, u226⟩, p221, p222⟩ := hr219
            have u227 := kp_t u192 u223
            have v228 : q_V r218 = q_V δ := (u224).trans v193
            have v229 := kr_t v194 u226
            have f230 := cb_12_5 i220 k_a0
            have f231 := cb_12_5 i185 k_a0
            have f232 : (q_I r183.2 12 5 a0).toInt = (q_I r86.2 12 5 a0).toInt := congrArg Int32.toInt (u188 12 5 a0 (by decide))
            have f233 := cb_12_5 i88 k_a0
            have f234 : (q_I r86.2 12 5 a0).toInt = (q_I δ 12 5 a0).toInt := congrArg Int32.toInt (u92 12 5 a0 (by decide))
            have nh235 : NH ad a0 r183.2 r218 := ⟨u226 103 (by decide) (by decide) (by decide), u223 12 10 _ (by decide), u223 12 18 _ (by decide)⟩
            have f236 : hc ad r218 a0 = (q_R r218 (Ad ad 101) (q_I r218 12 4 a0).toNatClampNeg).toInt := rfl
            have f237 := cb_12_4 i220 k_a0
            have f238 : (q_I r218 12 4 a0).toInt = (q_I r183.2 12 4 a0).toInt := congrArg Int32.toInt (u223 12 4 a0 (by decide))
            have t239 := ti_tn (q_I r218 12 4 a0)
            have f240 : (q_R r218 (Ad ad 101) (q_I r218 12 4 a0).toNatClampNeg).toInt = (q_R r183.2 (Ad ad 101) (q_I r218 12 4 a0).toNatClampNeg).toInt := congrArg Int32.toInt (congrFun (u226 101 (by decide) (by decide) (by decide)) _)
            have f241 : (q_R r183.2 (Ad ad 101) (q_I r218 12 4 a0).toNatClampNeg).toInt = (q_R r86.2 (Ad ad 101) (q_I r218 12 4 a0).toNatClampNeg).toInt := congrArg Int32.toInt (congrFun (u191 101 (by decide) (by decide) (by decide)) _)
            have f242 : (q_R r86.2 (Ad ad 101) (q_I r218 12 4 a0).toNatClampNeg).toInt = (q_R δ (Ad ad 101) (q_I r218 12 4 a0).toNatClampNeg).toInt := congrArg Int32.toInt (congrFun (u95 101 (by decide) (by decide) (by decide)) _)
            have f243 := ti_b (q_R δ (Ad ad 101) (q_I r218 12 4 a0).toNatClampNeg)
            have f244 := ti_b (q_R r86.2 (Ad ad 101) (q_I r218 12 4 a0).toNatClampNeg)
            have f245 := ti_b (q_R r183.2 (Ad ad 101) (q_I r218 12 4 a0).toNatClampNeg)
            have f246 := ti_b (q_R r218 (Ad ad 101) (q_I r218 12 4 a0).toNatClampNeg)
            have f247 := cb_12_3 i220 k_a0
            have f248 : (q_I r218 12 3 a0).toInt = (q_I r183.2 12 3 a0).toInt := congrArg Int32.toInt (u223 12 3 a0 (by decide))
            have f249 := cb_12_3 i185 k_a0
            have f250 : (q_I r183.2 12 3 a0).toInt = (q_I r86.2 12 3 a0).toInt := congrArg Int32.toInt (u188 12 3 a0 (by decide))
            refine ok_mono (kj_X12_shape_148 L hN (K49 := (n : Int)) (a0 := a0) (x1 := x1) (x2v := x2v) (x3v := x3v) (x4v := x4v) (x5v := x5v) (x6v := (1 : Int32)) ih k_a0 (show (q_I r218 12 5 a0).toInt < 0 → 2 ≤ (x2v).toInt ∧ (x2v).toInt ≤ 16 ∧ 1 ≤ (x3v).toInt ∧ (x3v).toInt ≤ 5 from fun hb => J0 (by omega)) (show (x4v).toInt = 0 ∨ (x4v).toInt = 1 by first | assumption | omega) (show (q_I r218 12 5 a0).toInt < 0 → (q_I r218 12 4 a0).toInt < (q_I r218 12 3 a0).toInt ∧ 97 ≤ hc ad r218 a0 ∧ hc ad r218 a0 ≤ 122 by first | assumption | omega) (show 501 - (q_I r218 12 4 a0).toInt ≤ (n : Int) by first | assumption | omega) i220) (fun r251 hr252 => ?_)
            obtain ⟨i253, ⟨u256, u257, u258⟩, p254, p255⟩ := hr252
            have u259 := kp_t u227 u256
            have v260 : q_V r251.2 = q_V δ := (u257).trans v228
            have v261 := kr_t v229 u258
            have f262 := cb_12_2 i253 k_a0
            have f263 := cb_12_2 i220 k_a0
            have f264 : (q_I r218 12 2 a0).toInt = (q_I r183.2 12 2 a0).toInt := congrArg Int32.toInt (u223 12 2 a0 (by decide))
            have f265 := cb_12_2 i185 k_a0
            have f266 : (q_I r183.2 12 2 a0).toInt = (q_I r86.2 12 2 a0).toInt := congrArg Int32.toInt (u188 12 2 a0 (by decide))
            have f267 := cb_12_2 i88 k_a0
            have f268 : (q_I r86.2 12 2 a0).toInt = (q_I δ 12 2 a0).toInt := congrArg Int32.toInt (u92 12 2 a0 (by decide))
            have f269 := cb_12_2 I k_a0
            have f270 := ti_b r251.1
            have sh271 : NH ad a0 δ r86.2 := NH.t NH.r nh104
            have sh272 : NH ad a0 δ r183.2 := NH.t sh271 nh207
            have sh273 : NH ad a0 δ r218 := NH.t sh272 nh235
            have sh274 : SHP ad a0 δ r251.2 := SHP.pre sh273 p255
            exact ⟨by assumption, ⟨kp_w (by decide) u259, v260, kr_w (by decide) v261⟩, by first | assumption | omega, sh274⟩
          · have c275 : (1 : Int) ≠ (0 : Int) := o_ne h216
            have f276 := ti_b (x5v &&& (1 : Int32))
            refine ok_ite (fun h277 => ?_) (fun h277 => ?_)
            · have c278 : (x5v &&& (1 : Int32)).toInt = (0 : Int) := o_eq h277
              have f279 := cb_12_5 i185 k_a0
              have f280 : (q_I r183.2 12 5 a0).toInt = (q_I r86.2 12 5 a0).toInt := congrArg Int32.toInt (u188 12 5 a0 (by decide))
              have f281 := cb_12_5 i88 k_a0
              have f282 : (q_I r86.2 12 5 a0).toInt = (q_I δ 12 5 a0).toInt := congrArg Int32.toInt (u92 12 5 a0 (by decide))
              have f283 := cb_12_3 i185 k_a0
              have f284 : (q_I r183.2 12 3 a0).toInt = (q_I r86.2 12 3 a0).toInt := congrArg Int32.toInt (u188 12 3 a0 (by decide))
              refine ok_mono (kj_X12_shape_148 L hN (K49 := (n : Int)) (a0 := a0) (x1 := x1) (x2v := x2v) (x3v := x3v) (x4v := x4v) (x5v := x5v) (x6v := (1 : Int32)) ih k_a0 (show (q_I r183.2 12 5 a0).toInt < 0 → 2 ≤ (x2v).toInt ∧ (x2v).toInt ≤ 16 ∧ 1 ≤ (x3v).toInt ∧ (x3v).toInt ≤ 5 from fun hb => J0 (by omega)) (show (x4v).toInt = 0 ∨ (x4v).toInt = 1 by first | assumption | omega) (show (q_I r183.2 12 5 a0).toInt < 0 → (q_I r183.2 12 4 a0).toInt < (q_I r183.2 12 3 a0).toInt ∧ 97 ≤ hc ad r183.2 a0 ∧ hc ad r183.2 a0 ≤ 122 by first | assumption | omega) (show 501 - (q_I r183.2 12 4 a0).toInt ≤ (n : Int) by first | assumption | omega) i185) (fun r285 hr286 => ?_)
              obtain ⟨i287, ⟨u290, u291, u292⟩, p288, p289⟩ := hr286
              have u293 := kp_t u192 u290
              have v294 : q_V r285.2 = q_V δ := (u291).trans v193
              have v295 := kr_t v194 u292
              have f296 := cb_12_2 i287 k_a0
              have f297 := cb_12_2 i185 k_a0
              have f298 : (q_I r183.2 12 2 a0).toInt = (q_I r86.2 12 2 a0).toInt := congrArg Int32.toInt (u188 12 2 a0 (by decide))
              have f299 := cb_12_2 i88 k_a0
              have f300 : (q_I r86.2 12 2 a0).toInt = (q_I δ 12 2 a0).toInt := congrArg Int32.toInt (u92 12 2 a0 (by decide))
              have f301 := cb_12_2 I k_a0
              have f302 := ti_b r285.1
              have sh303 : NH ad a0 δ r86.2 := NH.t NH.r nh104
              have sh304 : NH ad a0 δ r183.2 := NH.t sh303 nh207
              have sh305 : SHP ad a0 δ r285.2 := SHP.pre sh304 p289
              exact ⟨by assumption, ⟨kp_w (by decide) u293, v294, kr_w (by decide) v295⟩, by first | assumption | omega, sh305⟩
            · have c306 : (x5v &&& (1 : Int32)).toInt ≠ (0 : Int) := o_ne h277
              refine ok_bind (k_X12_wrong L hN (a0 := a0) (x1 := (4 : Int32)) (x2 := (q_I r183.2 12 4 a0)) k_a0 (show 0 ≤ ((q_I r183.2 12 4 a0)).toInt by first | assumption | omega) (show ((q_I r183.2 12 4 a0)).toInt ≤ 500 by first | assumption | omega) (show 0 ≤ (4 : Int) by first | assumption | omega) (show (4 : Int) ≤ 4 by first | assumption | omega) i185) (fun r307 hr308 => ?_)
              obtain ⟨i309, ⟨u312, u313, u314, u315⟩, p310, p311⟩ := hr308
              have u316 := kp_t u192 u312
              have v317 : q_V r307 = q_V δ := (u313).trans v193
              have v318 := kr_t v194 u315
              have f319 := cb_12_5 i309 k_a0
              have f320 := cb_12_5 i185 k_a0
              have f321 : (q_I r183.2 12 5 a0).toInt = (q_I r86.2 12 5 a0).toInt := congrArg Int32.toInt (u188 12 5 a0 (by decide))
              have f322 := cb_12_5 i88 k_a0
              have f323 : (q_I r86.2 12 5 a0).toInt = (q_I δ 12 5 a0).toInt := congrArg Int32.toInt (u92 12 5 a0 (by decide))
              have nh324 : NH ad a0 r183.2 r307 := ⟨u315 103 (by decide) (by decide) (by decide), u312 12 10 _ (by decide), u312 12 18 _ (by decide)⟩
              have f325 : hc ad r307 a0 = (q_R r307 (Ad ad 101) (q_I r307 12 4 a0).toNatClampNeg).toInt := rfl
              have f326 := cb_12_4 i309 k_a0
              have f327 : (q_I r307 12 4 a0).toInt = (q_I r183.2 12 4 a0).toInt := congrArg Int32.toInt (u312 12 4 a0 (by decide))
              have t328 := ti_tn (q_I r307 12 4 a0)
              have f329 : (q_R r307 (Ad ad 101) (q_I r307 12 4 a0).toNatClampNeg).toInt = (q_R r183.2 (Ad ad 101) (q_I r307 12 4 a0).toNatClampNeg).toInt := congrArg Int32.toInt (congrFun (u315 101 (by decide) (by decide) (by decide)) _)
              have f330 : (q_R r183.2 (Ad ad 101) (q_I r307 12 4 a0).toNatClampNeg).toInt = (q_R r86.2 (Ad ad 101) (q_I r307 12 4 a0).toNatClampNeg).toInt := congrArg Int32.toInt (congrFun (u191 101 (by decide) (by decide) (by decide)) _)
              have f331 : (q_R r86.2 (Ad ad 101) (q_I r307 12 4 a0).toNatClampNeg).toInt = (q_R δ (Ad ad 101) (q_I r307 12 4 a0).toNatClampNeg).toInt := congrArg Int32.toInt (congrFun (u95 101 (by decide) (by decide) (by decide)) _)
              have f332 := ti_b (q_R δ (Ad ad 101) (q_I r307 12 4 a0).toNatClampNeg)
              have f333 := ti_b (q_R r86.2 (Ad ad 101) (q_I r307 12 4 a0).toNatClampNeg)
              have f334 := ti_b (q_R r183.2 (Ad ad 101) (q_I r307 12 4 a0).toNatClampNeg)
              have f335 := ti_b (q_R r307 (Ad ad 101) (q_I r307 12 4 a0).toNatClampNeg)
              have f336 := cb_12_3 i309 k_a0
              have f337 : (q_I r307 12 3 a0).toInt = (q_I r183.2 12 3 a0).toInt := congrArg Int32.toInt (u312 12 3 a0 (by decide))
              have f338 := cb_12_3 i185 k_a0
              have f339 : (q_I r183.2 12 3 a0).toInt = (q_I r86.2 12 3 a0).toInt := congrArg Int32.toInt (u188 12 3 a0 (by decide))
              refine ok_mono (kj_X12_shape_148 L hN (K49 := (n : Int)) (a0 := a0) (x1 := x1) (x2v := x2v) (x3v := x3v) (x4v := x4v) (x5v := x5v) (x6v := (1 : Int32)) ih k_a0 (show (q_I r307 12 5 a0).toInt < 0 → 2 ≤ (x2v).toInt ∧ (x2v).toInt ≤ 16 ∧ 1 ≤ (x3v).toInt ∧ (x3v).toInt ≤ 5 from fun hb => J0 (by omega)) (show (x4v).toInt = 0 ∨ (x4v).toInt = 1 by first | assumption | omega) (show (q_I r307 12 5 a0).toInt < 0 → (q_I r307 12 4 a0).toInt < (q_I r307 12 3 a0).toInt ∧ 97 ≤ hc ad r307 a0 ∧ hc ad r307 a0 ≤ 122 by first | assumption | omega) (show 501 - (q_I r307 12 4 a0).toInt ≤ (n : Int) by first | assumption | omega) i309) (fun r340 hr341 => ?_)
              obtain ⟨i342, ⟨u345, u346, u347⟩, p343, p344⟩ := hr341
              have u348 := kp_t u316 u345
              have v349 : q_V r340.2 = q_V δ := (u346).trans v317
              have v350 := kr_t v318 u347
              have f351 := cb_12_2 i342 k_a0
              have f352 := cb_12_2 i309 k_a0
              have f353 : (q_I r307 12 2 a0).toInt = (q_I r183.2 12 2 a0).toInt := congrArg Int32.toInt (u312 12 2 a0 (by decide))
              have f354 := cb_12_2 i185 k_a0
              have f355 : (q_I r183.2 12 2 a0).toInt = (q_I r86.2 12 2 a0).toInt := congrArg Int32.toInt (u188 12 2 a0 (by decide))
              have f356 := cb_12_2 i88 k_a0
              have f357 : (q_I r86.2 12 2 a0).toInt = (q_I δ 12 2 a0).toInt := congrArg Int32.toInt (u92 12 2 a0 (by decide))
              have f358 := cb_12_2 I k_a0
              have f359 := ti_b r340.1
              have sh360 : NH ad a0 δ r86.2 := NH.t NH.r nh104
              have sh361 : NH ad a0 δ r183.2 := NH.t sh360 nh207
              have sh362 : NH ad a0 δ r307 := NH.t sh361 nh324
              have sh363 : SHP ad a0 δ r340.2 := SHP.pre sh362 p344
              exact ⟨by assumption, ⟨kp_w (by decide) u348, v349, kr_w (by decide) v350⟩, by first | assumption | omega, sh363⟩
        · have c364 : r183.1.toInt ≠ r208.1.toInt := o_ne h214
          refine ok_bind (k_X12_word L hN (a0 := a0) k_a0 i185) (fun r365 hr366 => ?_)
          obtain ⟨i367, ⟨u370, u371, u372, u373⟩, p368, p369⟩ := hr366
          have u374 := kp_t u192 u370
          have v375 : q_V r365.2 = q_V δ := (u371).trans v193
          have v376 := kr_t v194 u373
          have f377 := cb_12_4 i367 k_a0
          have f378 : hc ad r365.2 a0 = (q_R r365.2 (Ad ad 101) (q_I r365.2 12 4 a0).toNatClampNeg).toInt := rfl
          have t379 := ti_tn (q_I r365.2 12 4 a0)
          have f380 : (q_R r365.2 (Ad ad 101) (q_I r365.2 12 4 a0).toNatClampNeg).toInt = (q_R r183.2 (Ad ad 101) (q_I r365.2 12 4 a0).toNatClampNeg).toInt := congrArg Int32.toInt (congrFun (u373 101 (by decide) (by decide) (by decide)) _)
          have f381 : (q_R r183.2 (Ad ad 101) (q_I r365.2 12 4 a0).toNatClampNeg).toInt = (q_R r86.2 (Ad ad 101) (q_I r365.2 12 4 a0).toNatClampNeg).toInt := congrArg Int32.toInt (congrFun (u191 101 (by decide) (by decide) (by decide)) _)
          have f382 : (q_R r86.2 (Ad ad 101) (q_I r365.2 12 4 a0).toNatClampNeg).toInt = (q_R δ (Ad ad 101) (q_I r365.2 12 4 a0).toNatClampNeg).toInt := congrArg Int32.toInt (congrFun (u95 101 (by decide) (by decide) (by decide)) _)
          have f383 := ti_b (q_R δ (Ad ad 101) (q_I r365.2 12 4 a0).toNatClampNeg)
          have f384 := ti_b (q_R r86.2 (Ad ad 101) (q_I r365.2 12 4 a0).toNatClampNeg)
          have f385 := ti_b (q_R r183.2 (Ad ad 101) (q_I r365.2 12 4 a0).toNatClampNeg)
          have f386 := ti_b (q_R r365.2 (Ad ad 101) (q_I r365.2 12 4 a0).toNatClampNeg)
          have f387 := ti_b r365.1
          have f388 := cb_12_3 i185 k_a0
          have f389 : (q_I r183.2 12 3 a0).toInt = (q_I r86.2 12 3 a0).toInt := congrArg Int32.toInt (u188 12 3 a0 (by decide))
          have f390 := ti_b r365.1
          have nh391 : NH ad a0 r183.2 r365.2 := ⟨u373 103 (by decide) (by decide) (by decide), u370 12 10 _ (by decide), u370 12 18 _ (by decide)⟩
          refine ok_bind (k_X12_of L hN (a0 := 1) (show 1 < 16 by first | assumption | omega) i367) (fun r392 hr393 => ?_)
          obtain ⟨i394, p395⟩ := hr393
          try rw [i394]
          have f396 := ti_b r392.1
          have f397 := ti_b r392.1
          refine ok_ite (fun h398 => ?_) (fun h398 => ?_)
          · have c399 : r365.1.toInt = r392.1.toInt := o_eq h398
            unfold J_X12_shape_112
            refine ok_ite (fun h400 => ?_) (fun h400 => ?_)
            · have c401 : (2 : Int) = (0 : Int) := o_eq h400
              refine ok_bind (k_X12_wrong L hN (a0 := a0) (x1 := (1 : Int32)) (x2 := (q_I r365.2 12 4 a0)) k_a0 (show 0 ≤ ((q_I r365.2 12 4 a0)).toInt by first | assumption | omega) (show ((q_I r365.2 12 4 a0)).toInt ≤ 500 by first | assumption | omega) (show 0 ≤ (1 : Int) by first | assumption | omega) (show (1 : Int) ≤ 4 by first | assumption | omega) i367) (fun r402 hr403 => ?_)
              obtain ⟨i404, ⟨u407, u408, u409, u410⟩, p405, p406⟩ := hr403
              have u411 := kp_t u374 u407
              have v412 : q_V r402 = q_V δ := (u408).trans v375
              have v413 := kr_t v376 u410
              have f414 := cb_12_5 i404 k_a0
              have f415 := cb_12_5 i367 k_a0
              have f416 : (q_I r365.2 12 5 a0).toInt = (q_I r183.2 12 5 a0).toInt := congrArg Int32.toInt (u370 12 5 a0 (by decide))
              have f417 := cb_12_5 i185 k_a0
              have f418 : (q_I r183.2 12 5 a0).toInt = (q_I r86.2 12 5 a0).toInt := congrArg Int32.toInt (u188 12 5 a0 (by decide))
              have f419 := cb_12_5 i88 k_a0
              have f420 : (q_I r86.2 12 5 a0).toInt = (q_I δ 12 5 a0).toInt := congrArg Int32.toInt (u92 12 5 a0 (by decide))
              have nh421 : NH ad a0 r365.2 r402 := ⟨u410 103 (by decide) (by decide) (by decide), u407 12 10 _ (by decide), u407 12 18 _ (by decide)⟩
              have f422 : hc ad r402 a0 = (q_R r402 (Ad ad 101) (q_I r402 12 4 a0).toNatClampNeg).toInt := rfl
              have f423 := cb_12_4 i404 k_a0
              have f424 : (q_I r402 12 4 a0).toInt = (q_I r365.2 12 4 a0).toInt := congrArg Int32.toInt (u407 12 4 a0 (by decide))
              have t425 := ti_tn (q_I r402 12 4 a0)
              have f426 : (q_R r402 (Ad ad 101) (q_I r402 12 4 a0).toNatClampNeg).toInt = (q_R r365.2 (Ad ad 101) (q_I r402 12 4 a0).toNatClampNeg).toInt := congrArg Int32.toInt (congrFun (u410 101 (by decide) (by decide) (by decide)) _)
              have f427 : (q_R r365.2 (Ad ad 101) (q_I r402 12 4 a0).toNatClampNeg).toInt = (q_R r183.2 (Ad ad 101) (q_I r402 12 4 a0).toNatClampNeg).toInt := congrArg Int32.toInt (congrFun (u373 101 (by decide) (by decide) (by decide)) _)
              have f428 : (q_R r183.2 (Ad ad 101) (q_I r402 12 4 a0).toNatClampNeg).toInt = (q_R r86.2 (Ad ad 101) (q_I r402 12 4 a0).toNatClampNeg).toInt := congrArg Int32.toInt (congrFun (u191 101 (by decide) (by decide) (by decide)) _)
              have f429 : (q_R r86.2 (Ad ad 101) (q_I r402 12 4 a0).toNatClampNeg).toInt = (q_R δ (Ad ad 101) (q_I r402 12 4 a0).toNatClampNeg).toInt := congrArg Int32.toInt (congrFun (u95 101 (by decide) (by decide) (by decide)) _)
              have f430 := ti_b (q_R δ (Ad ad 101) (q_I r402 12 4 a0).toNatClampNeg)
              have f431 := ti_b (q_R r86.2 (Ad ad 101) (q_I r402 12 4 a0).toNatClampNeg)
              have f432 := ti_b (q_R r183.2 (Ad ad 101) (q_I r402 12 4 a0).toNatClampNeg)
              have f433 := ti_b (q_R r365.2 (Ad ad 101) (q_I r402 12 4 a0).toNatClampNeg)
              have f434 := ti_b (q_R r402 (Ad ad 101) (q_I r402 12 4 a0).toNatClampNeg)
              have f435 := cb_12_3 i404 k_a0
              have f436 : (q_I r402 12 3 a0).toInt = (q_I r365.2 12 3 a0).toInt := congrArg Int32.toInt (u407 12 3 a0 (by decide))
              have f437 := cb_12_3 i367 k_a0
              have f438 : (q_I r365.2 12 3 a0).toInt = (q_I r183.2 12 3 a0).toInt := congrArg Int32.toInt (u370 12 3 a0 (by decide))
              refine ok_mono (kj_X12_shape_148 L hN (K49 := (n : Int)) (a0 := a0) (x1 := x1) (x2v := x2v) (x3v := x3v) (x4v := x4v) (x5v := x5v) (x6v := (2 : Int32)) ih k_a0 (show (q_I r402 12 5 a0).toInt < 0 → 2 ≤ (x2v).toInt ∧ (x2v).toInt ≤ 16 ∧ 1 ≤ (x3v).toInt ∧ (x3v).toInt ≤ 5 from fun hb => J0 (by omega)) (show (x4v).toInt = 0 ∨ (x4v).toInt = 1 by first | assumption | omega) (show (q_I r402 12 5 a0).toInt < 0 → (q_I r402 12 4 a0).toInt < (q_I r402 12 3 a0).toInt ∧ 97 ≤ hc ad r402 a0 ∧ hc ad r402 a0 ≤ 122 by first | assumption | omega) (show 501 - (q_I r402 12 4 a0).toInt ≤ (n : Int) by first | assumption | omega) i404) (fun r439 hr440 => ?_)
              obtain ⟨i441, ⟨u444, u445, u446⟩, p442, p443⟩ := hr440
              have u447 := kp_t u411 u444
              have v448 : q_V r439.2 = q_V δ := (u445).trans v412
              have v449 := kr_t v413 u446
              have f450 := cb_12_2 i441 k_a0
              have f451 := cb_12_2 i404 k_a0
              have f452 : (q_I r402 12 2 a0).toInt = (q_I r365.2 12 2 a0).toInt := congrArg Int32.toInt (u407 12 2 a0 (by decide))
              have f453 := cb_12_2 i367 k_a0
              have f454 : (q_I r365.2 12 2 a0).toInt = (q_I r183.2 12 2 a0).toInt := congrArg Int32.toInt (u370 12 2 a0 (by decide))
              have f455 := cb_12_2 i185 k_a0
              have f456 : (q_I r183.2 12 2 a0).toInt = (q_I r86.2 12 2 a0).toInt := congrArg Int32.toInt (u188 12 2 a0 (by decide))
              have f457 := cb_12_2 i88 k_a0
              have f458 : (q_I r86.2 12 2 a0).toInt = (q_I δ 12 2 a0).toInt := congrArg Int32.toInt (u92 12 2 a0 (by decide))
              have f459 := cb_12_2 I k_a0
              have f460 := ti_b r439.1
              have sh461 : NH ad a0 δ r86.2 := NH.t NH.r nh104
              have sh462 : NH ad a0 δ r183.2 := NH.t sh461 nh207
              have sh463 : NH ad a0 δ r365.2 := NH.t sh462 nh391
              have sh464 : NH ad a0 δ r402 := NH.t sh463 nh421
              have sh465 : SHP ad a0 δ r439.2 := SHP.pre sh464 p443
              exact ⟨by assumption, ⟨kp_w (by decide) u447, v448, kr_w (by decide) v449⟩, by first | assumption | omega, sh465⟩
            · have c466 : (2 : Int) ≠ (0 : Int) := o_ne h400
              have f467 := ti_b (x5v &&& (2 : Int32))
              refine ok_ite (fun h468 => ?_) (fun h468 => ?_)
              · have c469 : (x5v &&& (2 : Int32)).toInt = (0 : Int) := o_eq h468
                have f470 := cb_12_5 i367 k_a0
                have f471 : (q_I r365.2 12 5 a0).toInt = (q_I r183.2 12 5 a0).toInt := congrArg Int32.toInt (u370 12 5 a0 (by decide))
                have f472 := cb_12_5 i185 k_a0
                have f473 : (q_I r183.2 12 5 a0).toInt = (q_I r86.2 12 5 a0).toInt := congrArg Int32.toInt (u188 12 5 a0 (by decide))
                have f474 := cb_12_5 i88 k_a0
                have f475 : (q_I r86.2 12 5 a0).toInt = (q_I δ 12 5 a0).toInt := congrArg Int32.toInt (u92 12 5 a0 (by decide))
                have f476 := cb_12_3 i367 k_a0
                have f477 : (q_I r365.2 12 3 a0).toInt = (q_I r183.2 12 3 a0).toInt := congrArg Int32.toInt (u370 12 3 a0 (by decide))
                refine ok_mono (kj_X12_shape_148 L hN (K49 := (n : Int)) (a0 := a0) (x1 := x1) (x2v := x2v) (x3v := x3v) (x4v := x4v) (x5v := x5v) (x6v := (2 : Int32)) ih k_a0 (show (q_I r365.2 12 5 a0).toInt < 0 → 2 ≤ (x2v).toInt ∧ (x2v).toInt ≤ 16 ∧ 1 ≤ (x3v).toInt ∧ (x3v).toInt ≤ 5 from fun hb => J0 (by omega)) (show (x4v).toInt = 0 ∨ (x4v).toInt = 1 by first | assumption | omega) (show (q_I r365.2 12 5 a0).toInt < 0 → (q_I r365.2 12 4 a0).toInt < (q_I r365.2 12 3 a0).toInt ∧ 97 ≤ hc ad r365.2 a0 ∧ hc ad r365.2 a0 ≤ 122 by first | assumption | omega) (show 501 - (q_I r365.2 12 4 a0).toInt ≤ (n : Int) by first | assumption | omega) i367) (fun r478 hr479 => ?_)
                obtain ⟨i480, ⟨u483, u484, u485⟩, p481, p482⟩ := hr479
                have u486 := kp_t u374 u483
                have v487 : q_V r478.2 = q_V δ := (u484).trans v375
                have v488 := kr_t v376 u485
                have f489 := cb_12_2 i480 k_a0
                have f490 := cb_12_2 i367 k_a0
                have f491 : (q_I r365.2 12 2 a0).toInt = (q_I r183.2 12 2 a0).toInt := congrArg Int32.toInt (u370 12 2 a0 (by decide))
                have f492 := cb_12_2 i185 k_a0
                have f493 : (q_I r183.2 12 2 a0).toInt = (q_I r86.2 12 2 a0).toInt := congrArg Int32.toInt (u188 12 2 a0 (by decide))
                have f494 := cb_12_2 i88 k_a0
                have f495 : (q_I r86.2 12 2 a0).toInt = (q_I δ 12 2 a0).toInt := congrArg Int32.toInt (u92 12 2 a0 (by decide))
                have f496 := cb_12_2 I k_a0
                have f497 := ti_b r478.1
                have sh498 : NH ad a0 δ r86.2 := NH.t NH.r nh104
                have sh499 : NH ad a0 δ r183.2 := NH.t sh498 nh207
                have sh500 : NH ad a0 δ r365.2 := NH.t sh499 nh391
                have sh501 : SHP ad a0 δ r478.2 := SHP.pre sh500 p482
                exact ⟨by assumption, ⟨kp_w (by decide) u486, v487, kr_w (by decide) v488⟩, by first | assumption | omega, sh501⟩
              · have c502 : (x5v &&& (2 : Int32)).toInt ≠ (0 : Int) := o_ne h468
                refine ok_bind (k_X12_wrong L hN (a0 := a0) (x1 := (4 : Int32)) (x2 := (q_I r365.2 12 4 a0)) k_a0 (show 0 ≤ ((q_I r365.2 12 4 a0)).toInt by first | assumption | omega) (show ((q_I r365.2 12 4 a0)).toInt ≤ 500 by first | assumption | omega) (show 0 ≤ (4 : Int) by first | assumption | omega) (show (4 : Int) ≤ 4 by first | assumption | omega) i367) (fun r503 hr504 => ?_)
                obtain ⟨i505, ⟨u508, u509, u510, u511⟩, p506, p507⟩ := hr504
                have u512 := kp_t u374 u508
                have v513 : q_V r503 = q_V δ := (u509).trans v375
                have v514 := kr_t v376 u511
                have f515 := cb_12_5 i505 k_a0
                have f516 := cb_12_5 i367 k_a0
                have f517 : (q_I r365.2 12 5 a0).toInt = (q_I r183.2 12 5 a0).toInt := congrArg Int32.toInt (u370 12 5 a0 (by decide))
                have f518 := cb_12_5 i185 k_a0
                have f519 : (q_I r183.2 12 5 a0).toInt = (q_I r86.2 12 5 a0).toInt := congrArg Int32.toInt (u188 12 5 a0 (by decide))
                have f520 := cb_12_5 i88 k_a0
                have f521 : (q_I r86.2 12 5 a0).toInt = (q_I δ 12 5 a0).toInt := congrArg Int32.toInt (u92 12 5 a0 (by decide))
                have nh522 : NH ad a0 r365.2 r503 := ⟨u511 103 (by decide) (by decide) (by decide), u508 12 10 _ (by decide), u508 12 18 _ (by decide)⟩
                have f523 : hc ad r503 a0 = (q_R r503 (Ad ad 101) (q_I r503 12 4 a0).toNatClampNeg).toInt := rfl
                have f524 := cb_12_4 i505 k_a0
                have f525 : (q_I r503 12 4 a0).toInt = (q_I r365.2 12 4 a0).toInt := congrArg Int32.toInt (u508 12 4 a0 (by decide))
                have t526 := ti_tn (q_I r503 12 4 a0)
                have f527 : (q_R r503 (Ad ad 101) (q_I r503 12 4 a0).toNatClampNeg).toInt = (q_R r365.2 (Ad ad 101) (q_I r503 12 4 a0).toNatClampNeg).toInt := congrArg Int32.toInt (congrFun (u511 101 (by decide) (by decide) (by decide)) _)
                have f528 : (q_R r365.2 (Ad ad 101) (q_I r503 12 4 a0).toNatClampNeg).toInt = (q_R r183.2 (Ad ad 101) (q_I r503 12 4 a0).toNatClampNeg).toInt := congrArg Int32.toInt (congrFun (u373 101 (by decide) (by decide) (by decide)) _)
                have f529 : (q_R r183.2 (Ad ad 101) (q_I r503 12 4 a0).toNatClampNeg).toInt = (q_R r86.2 (Ad ad 101) (q_I r503 12 4 a0).toNatClampNeg).toInt := congrArg Int32.toInt (congrFun (u191 101 (by decide) (by decide) (by decide)) _)
                have f530 : (q_R r86.2 (Ad ad 101) (q_I r503 12 4 a0).toNatClampNeg).toInt = (q_R δ (Ad ad 101) (q_I r503 12 4 a0).toNatClampNeg).toInt := congrArg Int32.toInt (congrFun (u95 101 (by decide) (by decide) (by decide)) _)
                have f531 := ti_b (q_R δ (Ad ad 101) (q_I r503 12 4 a0).toNatClampNeg)
                have f532 := ti_b (q_R r86.2 (Ad ad 101) (q_I r503 12 4 a0).toNatClampNeg)
                have f533 := ti_b (q_R r183.2 (Ad ad 101) (q_I r503 12 4 a0).toNatClampNeg)
                have f534 := ti_b (q_R r365.2 (Ad ad 101) (q_I r503 12 4 a0).toNatClampNeg)
                have f535 := ti_b (q_R r503 (Ad ad 101) (q_I r503 12 4 a0).toNatClampNeg)
                have f536 := cb_12_3 i505 k_a0
                have f537 : (q_I r503 12 3 a0).toInt = (q_I r365.2 12 3 a0).toInt := congrArg Int32.toInt (u508 12 3 a0 (by decide))
                have f538 := cb_12_3 i367 k_a0
                have f539 : (q_I r365.2 12 3 a0).toInt = (q_I r183.2 12 3 a0).toInt := congrArg Int32.toInt (u370 12 3 a0 (by decide))
                refine ok_mono (kj_X12_shape_148 L hN (K49 := (n : Int)) (a0 := a0) (x1 := x1) (x2v := x2v) (x3v := x3v) (x4v := x4v) (x5v := x5v) (x6v := (2 : Int32)) ih k_a0 (show (q_I r503 12 5 a0).toInt < 0 → 2 ≤ (x2v).toInt ∧ (x2v).toInt ≤ 16 ∧ 1 ≤ (x3v).toInt ∧ (x3v).toInt ≤ 5 from fun hb => J0 (by omega)) (show (x4v).toInt = 0 ∨ (x4v).toInt = 1 by first | assumption | omega) (show (q_I r503 12 5 a0).toInt < 0 → (q_I r503 12 4 a0).toInt < (q_I r503 12 3 a0).toInt ∧ 97 ≤ hc ad r503 a0 ∧ hc ad r503 a0 ≤ 122 by first | assumption | omega) (show 501 - (q_I r503 12 4 a0).toInt ≤ (n : Int) by first | assumption | omega) i505) (fun r540 hr541 => ?_)
                obtain ⟨i542, ⟨u545, u546, u547⟩, p543, p544⟩ := hr541
                have u548 := kp_t u512 u545
                have v549 : q_V r540.2 = q_V δ := (u546).trans v513
                have v550 := kr_t v514 u547
                have f551 := cb_12_2 i542 k_a0
                have f552 := cb_12_2 i505 k_a0
                have f553 : (q_I r503 12 2 a0).toInt = (q_I r365.2 12 2 a0).toInt := congrArg Int32.toInt (u508 12 2 a0 (by decide))
                have f554 := cb_12_2 i367 k_a0
                have f555 : (q_I r365.2 12 2 a0).toInt = (q_I r183.2 12 2 a0).toInt := congrArg Int32.toInt (u370 12 2 a0 (by decide))
                have f556 := cb_12_2 i185 k_a0
                have f557 : (q_I r183.2 12 2 a0).toInt = (q_I r86.2 12 2 a0).toInt := congrArg Int32.toInt (u188 12 2 a0 (by decide))
                have f558 := cb_12_2 i88 k_a0
                have f559 : (q_I r86.2 12 2 a0).toInt = (q_I δ 12 2 a0).toInt := congrArg Int32.toInt (u92 12 2 a0 (by decide))
                have f560 := cb_12_2 I k_a0
                have f561 := ti_b r540.1
                have sh562 : NH ad a0 δ r86.2 := NH.t NH.r nh104
                have sh563 : NH ad a0 δ r183.2 := NH.t sh562 nh207
                have sh564 : NH ad a0 δ r365.2 := NH.t sh563 nh391
                have sh565 : NH ad a0 δ r503 := NH.t sh564 nh522
                have sh566 : SHP ad a0 δ r540.2 := SHP.pre sh565 p544
                exact ⟨by assumption, ⟨kp_w (by decide) u548, v549, kr_w (by decide) v550⟩, by first | assumption | omega, sh566⟩
          · have c567 : r365.1.toInt ≠ r392.1.toInt := o_ne h398
            refine ok_bind (k_X12_word L hN (a0 := a0) k_a0 i367) (fun r568 hr569 => ?_)
            obtain ⟨i570, ⟨u573, u574, u575, u576⟩, p571, p572⟩ := hr569
            have u577 := kp_t u374 u573
            have v578 : q_V r568.2 = q_V δ := (u574).trans v375
            have v579 := kr_t v376 u576
            have f580 := cb_12_4 i570 k_a0
            have f581 : hc ad r568.2 a0 = (q_R r568.2 (Ad ad 101) (q_I r568.2 12 4 a0).toNatClampNeg).toInt := rfl
            have t582 := ti_tn (q_I r568.2 12 4 a0)
            have f583 : (q_R r568.2 (Ad ad 101) (q_I r568.2 12 4 a0).toNatClampNeg).toInt = (q_R r365.2 (Ad ad 101) (q_I r568.2 12 4 a0).toNatClampNeg).toInt := congrArg Int32.toInt (congrFun (u576 101 (by decide) (by decide) (by decide)) _)
            have f584 : (q_R r365.2 (Ad ad 101) (q_I r568.2 12 4 a0).toNatClampNeg).toInt = (q_R r183.2 (Ad ad 101) (q_I r568.2 12 4 a0).toNatClampNeg).toInt := congrArg Int32.toInt (congrFun (u373 101 (by decide) (by decide) (by decide)) _)
            have f585 : (q_R r183.2 (Ad ad 101) (q_I r568.2 12 4 a0).toNatClampNeg).toInt = (q_R r86.2 (Ad ad 101) (q_I r568.2 12 4 a0).toNatClampNeg).toInt := congrArg Int32.toInt (congrFun (u191 101 (by decide) (by decide) (by decide)) _)
            have f586 : (q_R r86.2 (Ad ad 101) (q_I r568.2 12 4 a0).toNatClampNeg).toInt = (q_R δ (Ad ad 101) (q_I r568.2 12 4 a0).toNatClampNeg).toInt := congrArg Int32.toInt (congrFun (u95 101 (by decide) (by decide) (by decide)) _)
            have f587 := ti_b (q_R δ (Ad ad 101) (q_I r568.2 12 4 a0).toNatClampNeg)
            have f588 := ti_b (q_R r86.2 (Ad ad 101) (q_I r568.2 12 4 a0).toNatClampNeg)
            have f589 := ti_b (q_R r183.2 (Ad ad 101) (q_I r568.2 12 4 a0).toNatClampNeg)
            have f590 := ti_b (q_R r365.2 (Ad ad 101) (q_I r568.2 12 4 a0).toNatClampNeg)
            have f591 := ti_b (q_R r568.2 (Ad ad 101) (q_I r568.2 12 4 a0).toNatClampNeg)
            have f592 := ti_b r568.1
            have f593 := cb_12_3 i367 k_a0
            have f594 : (q_I r365.2 12 3 a0).toInt = (q_I r183.2 12 3 a0).toInt := congrArg Int32.toInt (u370 12 3 a0 (by decide))
            have f595 := ti_b r568.1
            have nh596 : NH ad a0 r365.2 r568.2 := ⟨u576 103 (by decide) (by decide) (by decide), u573 12 10 _ (by decide), u573 12 18 _ (by decide)⟩
            refine ok_bind (k_X12_of L hN (a0 := 2) (show 2 < 16 by first | assumption | omega) i570) (fun r597 hr598 => ?_)
            obtain ⟨i599, p600⟩ := hr598
            try rw [i599]
            have f601 := ti_b r597.1
            have f602 := ti_b r597.1
            refine ok_ite (fun h603 => ?_) (fun h603 => ?_)
            · have c604 : r568.1.toInt = r597.1.toInt := o_eq h603
              unfold J_X12_shape_112
              refine ok_ite (fun h605 => ?_) (fun h605 => ?_)
              · have c606 : (4 : Int) = (0 : Int) := o_eq h605
                refine ok_bind (k_X12_wrong L hN (a0 := a0) (x1 := (1 : Int32)) (x2 := (q_I r568.2 12 4 a0)) k_a0 (show 0 ≤ ((q_I r568.2 12 4 a0)).toInt by first | assumption | omega) (show ((q_I r568.2 12 4 a0)).toInt ≤ 500 by first | assumption | omega) (show 0 ≤ (1 : Int) by first | assumption | omega) (show (1 : Int) ≤ 4 by first | assumption | omega) i570) (fun r607 hr608 => ?_)
                obtain ⟨i609, ⟨u612, u613, u614, u615⟩, p610, p611⟩ := hr608
                have u616 := kp_t u577 u612
                have v617 : q_V r607 = q_V δ := (u613).trans v578
                have v618 := kr_t v579 u615
                have f619 := cb_12_5 i609 k_a0
                have f620 := cb_12_5 i570 k_a0
                have f621 : (q_I r568.2 12 5 a0).toInt = (q_I r365.2 12 5 a0).toInt := congrArg Int32.toInt (u573 12 5 a0 (by decide))
                have f622 := cb_12_5 i367 k_a0
                have f623 : (q_I r365.2 12 5 a0).toInt = (q_I r183.2 12 5 a0).toInt := congrArg Int32.toInt (u370 12 5 a0 (by decide))
                have f624 := cb_12_5 i185 k_a0
                have f625 : (q_I r183.2 12 5 a0).toInt = (q_I r86.2 12 5 a0).toInt := congrArg Int32.toInt (u188 12 5 a0 (by decide))
                have f626 := cb_12_5 i88 k_a0
                have f627 : (q_I r86.2 12 5 a0).toInt = (q_I δ 12 5 a0).toInt := congrArg Int32.toInt (u92 12 5 a0 (by decide))
                have nh628 : NH ad a0 r568.2 r607 := ⟨u615 103 (by decide) (by decide) (by decide), u612 12 10 _ (by decide), u612 12 18 _ (by decide)⟩
                have f629 : hc ad r607 a0 = (q_R r607 (Ad ad 101) (q_I r607 12 4 a0).toNatClampNeg).toInt := rfl
                have f630 := cb_12_4 i609 k_a0
                have f631 : (q_I r607 12 4 a0).toInt = (q_I r568.2 12 4 a0).toInt := congrArg Int32.toInt (u612 12 4 a0 (by decide))
                have t632 := ti_tn (q_I r607 12 4 a0)
                have f633 : (q_R r607 (Ad ad 101) (q_I r607 12 4 a0).toNatClampNeg).toInt = (q_R r568.2 (Ad ad 101) (q_I r607 12 4 a0).toNatClampNeg).toInt := congrArg Int32.toInt (congrFun (u615 101 (by decide) (by decide) (by decide)) _)
                have f634 : (q_R r568.2 (Ad ad 101) (q_I r607 12 4 a0).toNatClampNeg).toInt = (q_R r365.2 (Ad ad 101) (q_I r607 12 4 a0).toNatClampNeg).toInt := congrArg Int32.toInt (congrFun (u576 101 (by decide) (by decide) (by decide)) _)
                have f635 : (q_R r365.2 (Ad ad 101) (q_I r607 12 4 a0).toNatClampNeg).toInt = (q_R r183.2 (Ad ad 101) (q_I r607 12 4 a0).toNatClampNeg).toInt := congrArg Int32.toInt (congrFun (u373 101 (by decide) (by decide) (by decide)) _)
                have f636 : (q_R r183.2 (Ad ad 101) (q_I r607 12 4 a0).toNatClampNeg).toInt = (q_R r86.2 (Ad ad 101) (q_I r607 12 4 a0).toNatClampNeg).toInt := congrArg Int32.toInt (congrFun (u191 101 (by decide) (by decide) (by decide)) _)
                have f637 : (q_R r86.2 (Ad ad 101) (q_I r607 12 4 a0).toNatClampNeg).toInt = (q_R δ (Ad ad 101) (q_I r607 12 4 a0).toNatClampNeg).toInt := congrArg Int32.toInt (congrFun (u95 101 (by decide) (by decide) (by decide)) _)
                have f638 := ti_b (q_R δ (Ad ad 101) (q_I r607 12 4 a0).toNatClampNeg)
                have f639 := ti_b (q_R r86.2 (Ad ad 101) (q_I r607 12 4 a0).toNatClampNeg)
                have f640 := ti_b (q_R r183.2 (Ad ad 101) (q_I r607 12 4 a0).toNatClampNeg)
                have f641 := ti_b (q_R r365.2 (Ad ad 101) (q_I r607 12 4 a0).toNatClampNeg)
                have f642 := ti_b (q_R r568.2 (Ad ad 101) (q_I r607 12 4 a0).toNatClampNeg)
                have f643 := ti_b (q_R r607 (Ad ad 101) (q_I r607 12 4 a0).toNatClampNeg)
                have f644 := cb_12_3 i609 k_a0
                have f645 : (q_I r607 12 3 a0).toInt = (q_I r568.2 12 3 a0).toInt := congrArg Int32.toInt (u612 12 3 a0 (by decide))
                have f646 := cb_12_3 i570 k_a0
                have f647 : (q_I r568.2 12 3 a0).toInt = (q_I r365.2 12 3 a0).toInt := congrArg Int32.toInt (u573 12 3 a0 (by decide))
                refine ok_mono (kj_X12_shape_148 L hN (K49 := (n : Int)) (a0 := a0) (x1 := x1) (x2v := x2v) (x3v := x3v) (x4v := x4v) (x5v := x5v) (x6v := (4 : Int32)) ih k_a0 (show (q_I r607 12 5 a0).toInt < 0 → 2 ≤ (x2v).toInt ∧ (x2v).toInt ≤ 16 ∧ 1 ≤ (x3v).toInt ∧ (x3v).toInt ≤ 5 from fun hb => J0 (by omega)) (show (x4v).toInt = 0 ∨ (x4v).toInt = 1 by first | assumption | omega) (show (q_I r607 12 5 a0).toInt < 0 → (q_I r607 12 4 a0).toInt < (q_I r607 12 3 a0).toInt ∧ 97 ≤ hc ad r607 a0 ∧ hc ad r607 a0 ≤ 122 by first | assumption | omega) (show 501 - (q_I r607 12 4 a0).toInt ≤ (n : Int) by first | assumption | omega) i609) (fun r648 hr649 => ?_)
                obtain ⟨i650, ⟨u653, u654, u655⟩, p651, p652⟩ := hr649
                have u656 := kp_t u616 u653
                have v657 : q_V r648.2 = q_V δ := (u654).trans v617
                have v658 := kr_t v618 u655
                have f659 := cb_12_2 i650 k_a0
                have f660 := cb_12_2 i609 k_a0
                have f661 : (q_I r607 12 2 a0).toInt = (q_I r568.2 12 2 a0).toInt := congrArg Int32.toInt (u612 12 2 a0 (by decide))
                have f662 := cb_12_2 i570 k_a0
                have f663 : (q_I r568.2 12 2 a0).toInt = (q_I r365.2 12 2 a0).toInt := congrArg Int32.toInt (u573 12 2 a0 (by decide))
                have f664 := cb_12_2 i367 k_a0
                have f665 : (q_I r365.2 12 2 a0).toInt = (q_I r183.2 12 2 a0).toInt := congrArg Int32.toInt (u370 12 2 a0 (by decide))
                have f666 := cb_12_2 i185 k_a0
                have f667 : (q_I r183.2 12 2 a0).toInt = (q_I r86.2 12 2 a0).toInt := congrArg Int32.toInt (u188 12 2 a0 (by decide))
                have f668 := cb_12_2 i88 k_a0
                have f669 : (q_I r86.2 12 2 a0).toInt = (q_I δ 12 2 a0).toInt := congrArg Int32.toInt (u92 12 2 a0 (by decide))
                have f670 := cb_12_2 I k_a0
                have f671 := ti_b r648.1
                have sh672 : NH ad a0 δ r86.2 := NH.t NH.r nh104
                have sh673 : NH ad a0 δ r183.2 := NH.t sh672 nh207
                have sh674 : NH ad a0 δ r365.2 := NH.t sh673 nh391
                have sh675 : NH ad a0 δ r568.2 := NH.t sh674 nh596
                have sh676 : NH ad a0 δ r607 := NH.t sh675 nh628
                have sh677 : SHP ad a0 δ r648.2 := SHP.pre sh676 p652
                exact ⟨by assumption, ⟨kp_w (by decide) u656, v657, kr_w (by decide) v658⟩, by first | assumption | omega, sh677⟩
              · have c678 : (4 : Int) ≠ (0 : Int) := o_ne h605
                have f679 := ti_b (x5v &&& (4 : Int32))
                refine ok_ite (fun h680 => ?_) (fun h680 => ?_)
                · have c681 : (x5v &&& (4 : Int32)).toInt = (0 : Int) := o_eq h680
                  have f682 := cb_12_5 i570 k_a0
                  have f683 : (q_I r568.2 12 5 a0).toInt = (q_I r365.2 12 5 a0).toInt := congrArg Int32.toInt (u573 12 5 a0 (by decide))
                  have f684 := cb_12_5 i367 k_a0
                  have f685 : (q_I r365.2 12 5 a0).toInt = (q_I r183.2 12 5 a0).toInt := congrArg Int32.toInt (u370 12 5 a0 (by decide))
                  have f686 := cb_12_5 i185 k_a0
                  have f687 : (q_I r183.2 12 5 a0).toInt = (q_I r86.2 12 5 a0).toInt := congrArg Int32.toInt (u188 12 5 a0 (by decide))
                  have f688 := cb_12_5 i88 k_a0
                  have f689 : (q_I r86.2 12 5 a0).toInt = (q_I δ 12 5 a0).toInt := congrArg Int32.toInt (u92 12 5 a0 (by decide))
                  have f690 := cb_12_3 i570 k_a0
                  have f691 : (q_I r568.2 12 3 a0).toInt = (q_I r365.2 12 3 a0).toInt := congrArg Int32.toInt (u573 12 3 a0 (by decide))
                  refine ok_mono (kj_X12_shape_148 L hN (K49 := (n : Int)) (a0 := a0) (x1 := x1) (x2v := x2v) (x3v := x3v) (x4v := x4v) (x5v := x5v) (x6v := (4 : Int32)) ih k_a0 (show (q_I r568.2 12 5 a0).toInt < 0 → 2 ≤ (x2v).toInt ∧ (x2v).toInt ≤ 16 ∧ 1 ≤ (x3v).toInt ∧ (x3v).toInt ≤ 5 from fun hb => J0 (by omega)) (show (x4v).toInt = 0 ∨ (x4v).toInt = 1 by first | assumption | omega) (show (q_I r568.2 12 5 a0).toInt < 0 → (q_I r568.2 12 4 a0).toInt < (q_I r568.2 12 3 a0).toInt ∧ 97 ≤ hc ad r568.2 a0 ∧ hc ad r568.2 a0 ≤ 122 by first | assumption | omega) (show 501 - (q_I r568.2 12 4 a0).toInt ≤ (n : Int) by first | assumption | omega) i570) (fun r692 hr693 => ?_)
                  obtain ⟨i694, ⟨u697, u698, u699⟩, p695, p696⟩ := hr693
                  have u700 := kp_t u577 u697
                  have v701 : q_V r692.2 = q_V δ := (u698).trans v578
                  have v702 := kr_t v579 u699
                  have f703 := cb_12_2 i694 k_a0
                  have f704 := cb_12_2 i570 k_a0
                  have f705 : (q_I r568.2 12 2 a0).toInt = (q_I r365.2 12 2 a0).toInt := congrArg Int32.toInt (u573 12 2 a0 (by decide))
                  have f706 := cb_12_2 i367 k_a0
                  have f707 : (q_I r365.2 12 2 a0).toInt = (q_I r183.2 12 2 a0).toInt := congrArg Int32.toInt (u370 12 2 a0 (by decide))
                  have f708 := cb_12_2 i185 k_a0
                  have f709 : (q_I r183.2 12 2 a0).toInt = (q_I r86.2 12 2 a0).toInt := congrArg Int32.toInt (u188 12 2 a0 (by decide))
                  have f710 := cb_12_2 i88 k_a0
                  have f711 : (q_I r86.2 12 2 a0).toInt = (q_I δ 12 2 a0).toInt := congrArg Int32.toInt (u92 12 2 a0 (by decide))
                  have f712 := cb_12_2 I k_a0
                  have f713 := ti_b r692.1
                  have sh714 : NH ad a0 δ r86.2 := NH.t NH.r nh104
                  have sh715 : NH ad a0 δ r183.2 := NH.t sh714 nh207
                  have sh716 : NH ad a0 δ r365.2 := NH.t sh715 nh391
                  have sh717 : NH ad a0 δ r568.2 := NH.t sh716 nh596
                  have sh718 : SHP ad a0 δ r692.2 := SHP.pre sh717 p696
                  exact ⟨by assumption, ⟨kp_w (by decide) u700, v701, kr_w (by decide) v702⟩, by first | assumption | omega, sh718⟩
                · have c719 : (x5v &&& (4 : Int32)).toInt ≠ (0 : Int) := o_ne h680
                  refine ok_bind (k_X12_wrong L hN (a0 := a0) (x1 := (4 : Int32)) (x2 := (q_I r568.2 12 4 a0)) k_a0 (show 0 ≤ ((q_I r568.2 12 4 a0)).toInt by first | assumption | omega) (show ((q_I r568.2 12 4 a0)).toInt ≤ 500 by first | assumption | omega) (show 0 ≤ (4 : Int) by first | assumption | omega) (show (4 : Int) ≤ 4 by first | assumption | omega) i570) (fun r720 hr721 => ?_)
                  obtain ⟨i722, ⟨u725, u726, u727, u728⟩, p723, p724⟩ := hr721
                  have u729 := kp_t u577 u725
                  have v730 : q_V r720 = q_V δ := (u726).trans v578
                  have v731 := kr_t v579 u728
                  have f732 := cb_12_5 i722 k_a0
                  have f733 := cb_12_5 i570 k_a0
                  have f734 : (q_I r568.2 12 5 a0).toInt = (q_I r365.2 12 5 a0).toInt := congrArg Int32.toInt (u573 12 5 a0 (by decide))
                  have f735 := cb_12_5 i367 k_a0
                  have f736 : (q_I r365.2 12 5 a0).toInt = (q_I r183.2 12 5 a0).toInt := congrArg Int32.toInt (u370 12 5 a0 (by decide))
                  have f737 := cb_12_5 i185 k_a0
                  have f738 : (q_I r183.2 12 5 a0).toInt = (q_I r86.2 12 5 a0).toInt := congrArg Int32.toInt (u188 12 5 a0 (by decide))
                  have f739 := cb_12_5 i88 k_a0
                  have f740 : (q_I r86.2 12 5 a0).toInt = (q_I δ 12 5 a0).toInt := congrArg Int32.toInt (u92 12 5 a0 (by decide))
                  have nh741 : NH ad a0 r568.2 r720 := ⟨u728 103 (by decide) (by decide) (by decide), u725 12 10 _ (by decide), u725 12 18 _ (by decide)⟩
                  have f742 : hc ad r720 a0 = (q_R r720 (Ad ad 101) (q_I r720 12 4 a0).toNatClampNeg).toInt := rfl
                  have f743 := cb_12_4 i722 k_a0
                  have f744 : (q_I r720 12 4 a0).toInt = (q_I r568.2 12 4 a0).toInt := congrArg Int32.toInt (u725 12 4 a0 (by decide))
                  have t745 := ti_tn (q_I r720 12 4 a0)
                  have f746 : (q_R r720 (Ad ad 101) (q_I r720 12 4 a0).toNatClampNeg).toInt = (q_R r568.2 (Ad ad 101) (q_I r720 12 4 a0).toNatClampNeg).toInt := congrArg Int32.toInt (congrFun (u728 101 (by decide) (by decide) (by decide)) _)
                  have f747 : (q_R r568.2 (Ad ad 101) (q_I r720 12 4 a0).toNatClampNeg).toInt = (q_R r365.2 (Ad ad 101) (q_I r720 12 4 a0).toNatClampNeg).toInt := congrArg Int32.toInt (congrFun (u576 101 (by decide) (by decide) (by decide)) _)
                  have f748 : (q_R r365.2 (Ad ad 101) (q_I r720 12 4 a0).toNatClampNeg).toInt = (q_R r183.2 (Ad ad 101) (q_I r720 12 4 a0).toNatClampNeg).toInt := congrArg Int32.toInt (congrFun (u373 101 (by decide) (by decide) (by decide)) _)
                  have f749 : (q_R r183.2 (Ad ad 101) (q_I r720 12 4 a0).toNatClampNeg).toInt = (q_R r86.2 (Ad ad 101) (q_I r720 12 4 a0).toNatClampNeg).toInt := congrArg Int32.toInt (congrFun (u191 101 (by decide) (by decide) (by decide)) _)
                  have f750 : (q_R r86.2 (Ad ad 101) (q_I r720 12 4 a0).toNatClampNeg).toInt = (q_R δ (Ad ad 101) (q_I r720 12 4 a0).toNatClampNeg).toInt := congrArg Int32.toInt (congrFun (u95 101 (by decide) (by decide) (by decide)) _)
                  have f751 := ti_b (q_R δ (Ad ad 101) (q_I r720 12 4 a0).toNatClampNeg)
                  have f752 := ti_b (q_R r86.2 (Ad ad 101) (q_I r720 12 4 a0).toNatClampNeg)
                  have f753 := ti_b (q_R r183.2 (Ad ad 101) (q_I r720 12 4 a0).toNatClampNeg)
                  have f754 := ti_b (q_R r365.2 (Ad ad 101) (q_I r720 12 4 a0).toNatClampNeg)
                  have f755 := ti_b (q_R r568.2 (Ad ad 101) (q_I r720 12 4 a0).toNatClampNeg)
                  have f756 := ti_b (q_R r720 (Ad ad 101) (q_I r720 12 4 a0).toNatClampNeg)
                  have f757 := cb_12_3 i722 k_a0
                  have f758 : (q_I r720 12 3 a0).toInt = (q_I r568.2 12 3 a0).toInt := congrArg Int32.toInt (u725 12 3 a0 (by decide))
                  have f759 := cb_12_3 i570 k_a0
                  have f760 : (q_I r568.2 12 3 a0).toInt = (q_I r365.2 12 3 a0).toInt := congrArg Int32.toInt (u573 12 3 a0 (by decide))
                  refine ok_mono (kj_X12_shape_148 L hN (K49 := (n : Int)) (a0 := a0) (x1 := x1) (x2v := x2v) (x3v := x3v) (x4v := x4v) (x5v := x5v) (x6v := (4 : Int32)) ih k_a0 (show (q_I r720 12 5 a0).toInt < 0 → 2 ≤ (x2v).toInt ∧ (x2v).toInt ≤ 16 ∧ 1 ≤ (x3v).toInt ∧ (x3v).toInt ≤ 5 from fun hb => J0 (by omega)) (show (x4v).toInt = 0 ∨ (x4v).toInt = 1 by first | assumption | omega) (show (q_I r720 12 5 a0).toInt < 0 → (q_I r720 12 4 a0).toInt < (q_I r720 12 3 a0).toInt ∧ 97 ≤ hc ad r720 a0 ∧ hc ad r720 a0 ≤ 122 by first | assumption | omega) (show 501 - (q_I r720 12 4 a0).toInt ≤ (n : Int) by first | assumption | omega) i722) (fun r761 hr762 => ?_)
                  obtain ⟨i763, ⟨u766, u767, u768⟩, p764, p765⟩ := hr762
                  have u769 := kp_t u729 u766
                  have v770 : q_V r761.2 = q_V δ := (u767).trans v730
                  have v771 := kr_t v731 u768
                  have f772 := cb_12_2 i763 k_a0
                  have f773 := cb_12_2 i722 k_a0
                  have f774 : (q_I r720 12 2 a0).toInt = (q_I r568.2 12 2 a0).toInt := congrArg Int32.toInt (u725 12 2 a0 (by decide))
                  have f775 := cb_12_2 i570 k_a0
                  have f776 : (q_I r568.2 12 2 a0).toInt = (q_I r365.2 12 2 a0).toInt := congrArg Int32.toInt (u573 12 2 a0 (by decide))
                  have f777 := cb_12_2 i367 k_a0
                  have f778 : (q_I r365.2 12 2 a0).toInt = (q_I r183.2 12 2 a0).toInt := congrArg Int32.toInt (u370 12 2 a0 (by decide))
                  have f779 := cb_12_2 i185 k_a0
                  have f780 : (q_I r183.2 12 2 a0).toInt = (q_I r86.2 12 2 a0).toInt := congrArg Int32.toInt (u188 12 2 a0 (by decide))
                  have f781 := cb_12_2 i88 k_a0
                  have f782 : (q_I r86.2 12 2 a0).toInt = (q_I δ 12 2 a0).toInt := congrArg Int32.toInt (u92 12 2 a0 (by decide))
                  have f783 := cb_12_2 I k_a0
                  have f784 := ti_b r761.1
                  have sh785 : NH ad a0 δ r86.2 := NH.t NH.r nh104
                  have sh786 : NH ad a0 δ r183.2 := NH.t sh785 nh207
                  have sh787 : NH ad a0 δ r365.2 := NH.t sh786 nh391
                  have sh788 : NH ad a0 δ r568.2 := NH.t sh787 nh596
                  have sh789 : NH ad a0 δ r720 := NH.t sh788 nh741
                  have sh790 : SHP ad a0 δ r761.2 := SHP.pre sh789 p765
                  exact ⟨by assumption, ⟨kp_w (by decide) u769, v770, kr_w (by decide) v771⟩, by first | assumption | omega, sh790⟩
            · have c791 : r568.1.toInt ≠ r597.1.toInt := o_ne h603
              unfold J_X12_shape_112
              refine ok_ite (fun h792 => ?_) (fun h792 => ?_)
              · have c793 : (0 : Int) = (0 : Int) := o_eq h792
                refine ok_bind (k_X12_wrong L hN (a0 := a0) (x1 := (1 : Int32)) (x2 := (q_I r568.2 12 4 a0)) k_a0 (show 0 ≤ ((q_I r568.2 12 4 a0)).toInt by first | assumption | omega) (show ((q_I r568.2 12 4 a0)).toInt ≤ 500 by first | assumption | omega) (show 0 ≤ (1 : Int) by first | assumption | omega) (show (1 : Int) ≤ 4 by first | assumption | omega) i570) (fun r794 hr795 => ?_)
                obtain ⟨i796, ⟨u799, u800, u801, u802⟩, p797, p798⟩ := hr795
                have u803 := kp_t u577 u799
                have v804 : q_V r794 = q_V δ := (u800).trans v578
                have v805 := kr_t v579 u802
                have f806 := cb_12_5 i796 k_a0
                have f807 := cb_12_5 i570 k_a0
                have f808 : (q_I r568.2 12 5 a0).toInt = (q_I r365.2 12 5 a0).toInt := congrArg Int32.toInt (u573 12 5 a0 (by decide))
                have f809 := cb_12_5 i367 k_a0
                have f810 : (q_I r365.2 12 5 a0).toInt = (q_I r183.2 12 5 a0).toInt := congrArg Int32.toInt (u370 12 5 a0 (by decide))
                have f811 := cb_12_5 i185 k_a0
                have f812 : (q_I r183.2 12 5 a0).toInt = (q_I r86.2 12 5 a0).toInt := congrArg Int32.toInt (u188 12 5 a0 (by decide))
                have f813 := cb_12_5 i88 k_a0
                have f814 : (q_I r86.2 12 5 a0).toInt = (q_I δ 12 5 a0).toInt := congrArg Int32.toInt (u92 12 5 a0 (by decide))
                have nh815 : NH ad a0 r568.2 r794 := ⟨u802 103 (by decide) (by decide) (by decide), u799 12 10 _ (by decide), u799 12 18 _ (by decide)⟩
                have f816 : hc ad r794 a0 = (q_R r794 (Ad ad 101) (q_I r794 12 4 a0).toNatClampNeg).toInt := rfl
                have f817 := cb_12_4 i796 k_a0
                have f818 : (q_I r794 12 4 a0).toInt = (q_I r568.2 12 4 a0).toInt := congrArg Int32.toInt (u799 12 4 a0 (by decide))
                have t819 := ti_tn (q_I r794 12 4 a0)
                have f820 : (q_R r794 (Ad ad 101) (q_I r794 12 4 a0).toNatClampNeg).toInt = (q_R r568.2 (Ad ad 101) (q_I r794 12 4 a0).toNatClampNeg).toInt := congrArg Int32.toInt (congrFun (u802 101 (by decide) (by decide) (by decide)) _)
                have f821 : (q_R r568.2 (Ad ad 101) (q_I r794 12 4 a0).toNatClampNeg).toInt = (q_R r365.2 (Ad ad 101) (q_I r794 12 4 a0).toNatClampNeg).toInt := congrArg Int32.toInt (congrFun (u576 101 (by decide) (by decide) (by decide)) _)
                have f822 : (q_R r365.2 (Ad ad 101) (q_I r794 12 4 a0).toNatClampNeg).toInt = (q_R r183.2 (Ad ad 101) (q_I r794 12 4 a0).toNatClampNeg).toInt := congrArg Int32.toInt (congrFun (u373 101 (by decide) (by decide) (by decide)) _)
                have f823 : (q_R r183.2 (Ad ad 101) (q_I r794 12 4 a0).toNatClampNeg).toInt = (q_R r86.2 (Ad ad 101) (q_I r794 12 4 a0).toNatClampNeg).toInt := congrArg Int32.toInt (congrFun (u191 101 (by decide) (by decide) (by decide)) _)
                have f824 : (q_R r86.2 (Ad ad 101) (q_I r794 12 4 a0).toNatClampNeg).toInt = (q_R δ (Ad ad 101) (q_I r794 12 4 a0).toNatClampNeg).toInt := congrArg Int32.toInt (congrFun (u95 101 (by decide) (by decide) (by decide)) _)
                have f825 := ti_b (q_R δ (Ad ad 101) (q_I r794 12 4 a0).toNatClampNeg)
                have f826 := ti_b (q_R r86.2 (Ad ad 101) (q_I r794 12 4 a0).toNatClampNeg)
                have f827 := ti_b (q_R r183.2 (Ad ad 101) (q_I r794 12 4 a0).toNatClampNeg)
                have f828 := ti_b (q_R r365.2 (Ad ad 101) (q_I r794 12 4 a0).toNatClampNeg)
                have f829 := ti_b (q_R r568.2 (Ad ad 101) (q_I r794 12 4 a0).toNatClampNeg)
                have f830 := ti_b (q_R r794 (Ad ad 101) (q_I r794 12 4 a0).toNatClampNeg)
                have f831 := cb_12_3 i796 k_a0
                have f832 : (q_I r794 12 3 a0).toInt = (q_I r568.2 12 3 a0).toInt := congrArg Int32.toInt (u799 12 3 a0 (by decide))
                have f833 := cb_12_3 i570 k_a0
                have f834 : (q_I r568.2 12 3 a0).toInt = (q_I r365.2 12 3 a0).toInt := congrArg Int32.toInt (u573 12 3 a0 (by decide))
                refine ok_mono (kj_X12_shape_148 L hN (K49 := (n : Int)) (a0 := a0) (x1 := x1) (x2v := x2v) (x3v := x3v) (x4v := x4v) (x5v := x5v) (x6v := (0 : Int32)) ih k_a0 (show (q_I r794 12 5 a0).toInt < 0 → 2 ≤ (x2v).toInt ∧ (x2v).toInt ≤ 16 ∧ 1 ≤ (x3v).toInt ∧ (x3v).toInt ≤ 5 from fun hb => J0 (by omega)) (show (x4v).toInt = 0 ∨ (x4v).toInt = 1 by first | assumption | omega) (show (q_I r794 12 5 a0).toInt < 0 → (q_I r794 12 4 a0).toInt < (q_I r794 12 3 a0).toInt ∧ 97 ≤ hc ad r794 a0 ∧ hc ad r794 a0 ≤ 122 by first | assumption | omega) (show 501 - (q_I r794 12 4 a0).toInt ≤ (n : Int) by first | assumption | omega) i796) (fun r835 hr836 => ?_)
                obtain ⟨i837, ⟨u840, u841, u842⟩, p838, p839⟩ := hr836
                have u843 := kp_t u803 u840
                have v844 : q_V r835.2 = q_V δ := (u841).trans v804
                have v845 := kr_t v805 u842
                have f846 := cb_12_2 i837 k_a0
                have f847 := cb_12_2 i796 k_a0
                have f848 : (q_I r794 12 2 a0).toInt = (q_I r568.2 12 2 a0).toInt := congrArg Int32.toInt (u799 12 2 a0 (by decide))
                have f849 := cb_12_2 i570 k_a0
                have f850 : (q_I r568.2 12 2 a0).toInt = (q_I r365.2 12 2 a0).toInt := congrArg Int32.toInt (u573 12 2 a0 (by decide))
                have f851 := cb_12_2 i367 k_a0
                have f852 : (q_I r365.2 12 2 a0).toInt = (q_I r183.2 12 2 a0).toInt := congrArg Int32.toInt (u370 12 2 a0 (by decide))
                have f853 := cb_12_2 i185 k_a0
                have f854 : (q_I r183.2 12 2 a0).toInt = (q_I r86.2 12 2 a0).toInt := congrArg Int32.toInt (u188 12 2 a0 (by decide))
                have f855 := cb_12_2 i88 k_a0
                have f856 : (q_I r86.2 12 2 a0).toInt = (q_I δ 12 2 a0).toInt := congrArg Int32.toInt (u92 12 2 a0 (by decide))
                have f857 := cb_12_2 I k_a0
                have f858 := ti_b r835.1
                have sh859 : NH ad a0 δ r86.2 := NH.t NH.r nh104
                have sh860 : NH ad a0 δ r183.2 := NH.t sh859 nh207
                have sh861 : NH ad a0 δ r365.2 := NH.t sh860 nh391
                have sh862 : NH ad a0 δ r568.2 := NH.t sh861 nh596
                have sh863 : NH ad a0 δ r794 := NH.t sh862 nh815
                have sh864 : SHP ad a0 δ r835.2 := SHP.pre sh863 p839
                exact ⟨by assumption, ⟨kp_w (by decide) u843, v844, kr_w (by decide) v845⟩, by first | assumption | omega, sh864⟩
              · have c865 : (0 : Int) ≠ (0 : Int) := o_ne h792
                have f866 := ti_b (x5v &&& (0 : Int32))
                refine ok_ite (fun h867 => ?_) (fun h867 => ?_)
                · have c868 : (x5v &&& (0 : Int32)).toInt = (0 : Int) := o_eq h867
                  have f869 := cb_12_5 i570 k_a0
                  have f870 : (q_I r568.2 12 5 a0).toInt = (q_I r365.2 12 5 a0).toInt := congrArg Int32.toInt (u573 12 5 a0 (by decide))
                  have f871 := cb_12_5 i367 k_a0
                  have f872 : (q_I r365.2 12 5 a0).toInt = (q_I r183.2 12 5 a0).toInt := congrArg Int32.toInt (u370 12 5 a0 (by decide))
                  have f873 := cb_12_5 i185 k_a0
                  have f874 : (q_I r183.2 12 5 a0).toInt = (q_I r86.2 12 5 a0).toInt := congrArg Int32.toInt (u188 12 5 a0 (by decide))
                  have f875 := cb_12_5 i88 k_a0
                  have f876 : (q_I r86.2 12 5 a0).toInt = (q_I δ 12 5 a0).toInt := congrArg Int32.toInt (u92 12 5 a0 (by decide))
                  have f877 := cb_12_3 i570 k_a0
                  have f878 : (q_I r568.2 12 3 a0).toInt = (q_I r365.2 12 3 a0).toInt := congrArg Int32.toInt (u573 12 3 a0 (by decide))
                  refine ok_mono (kj_X12_shape_148 L hN (K49 := (n : Int)) (a0 := a0) (x1 := x1) (x2v := x2v) (x3v := x3v) (x4v := x4v) (x5v := x5v) (x6v := (0 : Int32)) ih k_a0 (show (q_I r568.2 12 5 a0).toInt < 0 → 2 ≤ (x2v).toInt ∧ (x2v).toInt ≤ 16 ∧ 1 ≤ (x3v).toInt ∧ (x3v).toInt ≤ 5 from fun hb => J0 (by omega)) (show (x4v).toInt = 0 ∨ (x4v).toInt = 1 by first | assumption | omega) (show (q_I r568.2 12 5 a0).toInt < 0 → (q_I r568.2 12 4 a0).toInt < (q_I r568.2 12 3 a0).toInt ∧ 97 ≤ hc ad r568.2 a0 ∧ hc ad r568.2 a0 ≤ 122 by first | assumption | omega) (show 501 - (q_I r568.2 12 4 a0).toInt ≤ (n : Int) by first | assumption | omega) i570) (fun r879 hr880 => ?_)
                  obtain ⟨i881, ⟨u884, u885, u886⟩, p882, p883⟩ := hr880
                  have u887 := kp_t u577 u884
                  have v888 : q_V r879.2 = q_V δ := (u885).trans v578
                  have v889 := kr_t v579 u886
                  have f890 := cb_12_2 i881 k_a0
                  have f891 := cb_12_2 i570 k_a0
                  have f892 : (q_I r568.2 12 2 a0).toInt = (q_I r365.2 12 2 a0).toInt := congrArg Int32.toInt (u573 12 2 a0 (by decide))
                  have f893 := cb_12_2 i367 k_a0
                  have f894 : (q_I r365.2 12 2 a0).toInt = (q_I r183.2 12 2 a0).toInt := congrArg Int32.toInt (u370 12 2 a0 (by decide))
                  have f895 := cb_12_2 i185 k_a0
                  have f896 : (q_I r183.2 12 2 a0).toInt = (q_I r86.2 12 2 a0).toInt := congrArg Int32.toInt (u188 12 2 a0 (by decide))
                  have f897 := cb_12_2 i88 k_a0
                  have f898 : (q_I r86.2 12 2 a0).toInt = (q_I δ 12 2 a0).toInt := congrArg Int32.toInt (u92 12 2 a0 (by decide))
                  have f899 := cb_12_2 I k_a0
                  have f900 := ti_b r879.1
                  have sh901 : NH ad a0 δ r86.2 := NH.t NH.r nh104
                  have sh902 : NH ad a0 δ r183.2 := NH.t sh901 nh207
                  have sh903 : NH ad a0 δ r365.2 := NH.t sh902 nh391
                  have sh904 : NH ad a0 δ r568.2 := NH.t sh903 nh596
                  have sh905 : SHP ad a0 δ r879.2 := SHP.pre sh904 p883
                  exact ⟨by assumption, ⟨kp_w (by decide) u887, v888, kr_w (by decide) v889⟩, by first | assumption | omega, sh905⟩
                · have c906 : (x5v &&& (0 : Int32)).toInt ≠ (0 : Int) := o_ne h867
                  refine ok_bind (k_X12_wrong L hN (a0 := a0) (x1 := (4 : Int32)) (x2 := (q_I r568.2 12 4 a0)) k_a0 (show 0 ≤ ((q_I r568.2 12 4 a0)).toInt by first | assumption | omega) (show ((q_I r568.2 12 4 a0)).toInt ≤ 500 by first | assumption | omega) (show 0 ≤ (4 : Int) by first | assumption | omega) (show (4 : Int) ≤ 4 by first | assumption | omega) i570) (fun r907 hr908 => ?_)
                  obtain ⟨i909, ⟨u912, u913, u914, u915⟩, p910, p911⟩ := hr908
                  have u916 := kp_t u577 u912
                  have v917 : q_V r907 = q_V δ := (u913).trans v578
                  have v918 := kr_t v579 u915
                  have f919 := cb_12_5 i909 k_a0
                  have f920 := cb_12_5 i570 k_a0
                  have f921 : (q_I r568.2 12 5 a0).toInt = (q_I r365.2 12 5 a0).toInt := congrArg Int32.toInt (u573 12 5 a0 (by decide))
                  have f922 := cb_12_5 i367 k_a0
                  have f923 : (q_I r365.2 12 5 a0).toInt = (q_I r183.2 12 5 a0).toInt := congrArg Int32.toInt (u370 12 5 a0 (by decide))
                  have f924 := cb_12_5 i185 k_a0
                  have f925 : (q_I r183.2 12 5 a0).toInt = (q_I r86.2 12 5 a0).toInt := congrArg Int32.toInt (u188 12 5 a0 (by decide))
                  have f926 := cb_12_5 i88 k_a0
                  have f927 : (q_I r86.2 12 5 a0).toInt = (q_I δ 12 5 a0).toInt := congrArg Int32.toInt (u92 12 5 a0 (by decide))
                  have nh928 : NH ad a0 r568.2 r907 := ⟨u915 103 (by decide) (by decide) (by decide), u912 12 10 _ (by decide), u912 12 18 _ (by decide)⟩
                  have f929 : hc ad r907 a0 = (q_R r907 (Ad ad 101) (q_I r907 12 4 a0).toNatClampNeg).toInt := rfl
                  have f930 := cb_12_4 i909 k_a0
                  have f931 : (q_I r907 12 4 a0).toInt = (q_I r568.2 12 4 a0).toInt := congrArg Int32.toInt (u912 12 4 a0 (by decide))
                  have t932 := ti_tn (q_I r907 12 4 a0)
                  have f933 : (q_R r907 (Ad ad 101) (q_I r907 12 4 a0).toNatClampNeg).toInt = (q_R r568.2 (Ad ad 101) (q_I r907 12 4 a0).toNatClampNeg).toInt := congrArg Int32.toInt (congrFun (u915 101 (by decide) (by decide) (by decide)) _)
                  have f934 : (q_R r568.2 (Ad ad 101) (q_I r907 12 4 a0).toNatClampNeg).toInt = (q_R r365.2 (Ad ad 101) (q_I r907 12 4 a0).toNatClampNeg).toInt := congrArg Int32.toInt (congrFun (u576 101 (by decide) (by decide) (by decide)) _)
                  have f935 : (q_R r365.2 (Ad ad 101) (q_I r907 12 4 a0).toNatClampNeg).toInt = (q_R r183.2 (Ad ad 101) (q_I r907 12 4 a0).toNatClampNeg).toInt := congrArg Int32.toInt (congrFun (u373 101 (by decide) (by decide) (by decide)) _)
                  have f936 : (q_R r183.2 (Ad ad 101) (q_I r907 12 4 a0).toNatClampNeg).toInt = (q_R r86.2 (Ad ad 101) (q_I r907 12 4 a0).toNatClampNeg).toInt := congrArg Int32.toInt (congrFun (u191 101 (by decide) (by decide) (by decide)) _)
                  have f937 : (q_R r86.2 (Ad ad 101) (q_I r907 12 4 a0).toNatClampNeg).toInt = (q_R δ (Ad ad 101) (q_I r907 12 4 a0).toNatClampNeg).toInt := congrArg Int32.toInt (congrFun (u95 101 (by decide) (by decide) (by decide)) _)
                  have f938 := ti_b (q_R δ (Ad ad 101) (q_I r907 12 4 a0).toNatClampNeg)
                  have f939 := ti_b (q_R r86.2 (Ad ad 101) (q_I r907 12 4 a0).toNatClampNeg)
                  have f940 := ti_b (q_R r183.2 (Ad ad 101) (q_I r907 12 4 a0).toNatClampNeg)
                  have f941 := ti_b (q_R r365.2 (Ad ad 101) (q_I r907 12 4 a0).toNatClampNeg)
                  have f942 := ti_b (q_R r568.2 (Ad ad 101) (q_I r907 12 4 a0).toNatClampNeg)
                  have f943 := ti_b (q_R r907 (Ad ad 101) (q_I r907 12 4 a0).toNatClampNeg)
                  have f944 := cb_12_3 i909 k_a0
                  have f945 : (q_I r907 12 3 a0).toInt = (q_I r568.2 12 3 a0).toInt := congrArg Int32.toInt (u912 12 3 a0 (by decide))
                  have f946 := cb_12_3 i570 k_a0
                  have f947 : (q_I r568.2 12 3 a0).toInt = (q_I r365.2 12 3 a0).toInt := congrArg Int32.toInt (u573 12 3 a0 (by decide))
                  refine ok_mono (kj_X12_shape_148 L hN (K49 := (n : Int)) (a0 := a0) (x1 := x1) (x2v := x2v) (x3v := x3v) (x4v := x4v) (x5v := x5v) (x6v := (0 : Int32)) ih k_a0 (show (q_I r907 12 5 a0).toInt < 0 → 2 ≤ (x2v).toInt ∧ (x2v).toInt ≤ 16 ∧ 1 ≤ (x3v).toInt ∧ (x3v).toInt ≤ 5 from fun hb => J0 (by omega)) (show (x4v).toInt = 0 ∨ (x4v).toInt = 1 by first | assumption | omega) (show (q_I r907 12 5 a0).toInt < 0 → (q_I r907 12 4 a0).toInt < (q_I r907 12 3 a0).toInt ∧ 97 ≤ hc ad r907 a0 ∧ hc ad r907 a0 ≤ 122 by first | assumption | omega) (show 501 - (q_I r907 12 4 a0).toInt ≤ (n : Int) by first | assumption | omega) i909) (fun r948 hr949 => ?_)
                  obtain ⟨i950, ⟨u953, u954, u955⟩, p951, p952⟩ := hr949
                  have u956 := kp_t u916 u953
                  have v957 : q_V r948.2 = q_V δ := (u954).trans v917
                  have v958 := kr_t v918 u955
                  have f959 := cb_12_2 i950 k_a0
                  have f960 := cb_12_2 i909 k_a0
                  have f961 : (q_I r907 12 2 a0).toInt = (q_I r568.2 12 2 a0).toInt := congrArg Int32.toInt (u912 12 2 a0 (by decide))
                  have f962 := cb_12_2 i570 k_a0
                  have f963 : (q_I r568.2 12 2 a0).toInt = (q_I r365.2 12 2 a0).toInt := congrArg Int32.toInt (u573 12 2 a0 (by decide))
                  have f964 := cb_12_2 i367 k_a0
                  have f965 : (q_I r365.2 12 2 a0).toInt = (q_I r183.2 12 2 a0).toInt := congrArg Int32.toInt (u370 12 2 a0 (by decide))
                  have f966 := cb_12_2 i185 k_a0
                  have f967 : (q_I r183.2 12 2 a0).toInt = (q_I r86.2 12 2 a0).toInt := congrArg Int32.toInt (u188 12 2 a0 (by decide))
                  have f968 := cb_12_2 i88 k_a0
                  have f969 : (q_I r86.2 12 2 a0).toInt = (q_I δ 12 2 a0).toInt := congrArg Int32.toInt (u92 12 2 a0 (by decide))
                  have f970 := cb_12_2 I k_a0
                  have f971 := ti_b r948.1
                  have sh972 : NH ad a0 δ r86.2 := NH.t NH.r nh104
                  have sh973 : NH ad a0 δ r183.2 := NH.t sh972 nh207
                  have sh974 : NH ad a0 δ r365.2 := NH.t sh973 nh391
                  have sh975 : NH ad a0 δ r568.2 := NH.t sh974 nh596
                  have sh976 : NH ad a0 δ r907 := NH.t sh975 nh928
                  have sh977 : SHP ad a0 δ r948.2 := SHP.pre sh976 p952
                  exact ⟨by assumption, ⟨kp_w (by decide) u956, v957, kr_w (by decide) v958⟩, by first | assumption | omega, sh977⟩
set_option maxHeartbeats 4000000 in
theorem k_X12_shape {ad : List Nat} {h : hp} (L : Lay TLx ad h) {δ0 : dp} {N : Nat} (hN : 10000000 ≤ N) {a0 : Nat} {x1 : Int32} (k_a0 : q_K h.1 a0 = 12) {δ : dp} (I : RI ad h.1 δ0 δ) : ok (D_X12_shape N h.1 a0 x1 δ) (fun r => RI ad h.1 δ0 r.2 ∧ (kp [(12, 0), (12, 2), (12, 3), (12, 4), (12, 5), (12, 6), (12, 7), (12, 8), (12, 10), (12, 11), (12, 12), (12, 18)] δ r.2 ∧ q_V r.2 = q_V δ ∧ kr ad [100, 103, 106] δ r.2) ∧ SHP ad a0 δ r.2 ∧ (0 ≤ (x1).toInt ∧ (x1).toInt ≤ (q_I δ 12 2 a0).toInt → (q_I r.2 12 2 a0).toInt = 0) ∧ ((x1).toInt < 0 ∨ (q_I δ 12 2 a0).toInt < (x1).toInt → (q_I r.2 12 2 a0).toInt = (q_I δ 12 2 a0).toInt)) := by
  unfold D_X12_shape
  refine ok_bdv (fun d1 e2 => ?_)
  have i3 : RI ad h.1 δ0 d1 := by rw [e2]; exact cs_12_0 L I
  have u4 := kp_I kp_r e2
  have v5 : q_V d1 = q_V δ := ((show q_V d1 = q_V δ by rw [e2]; rfl)).trans rfl
  have v6 := kr_N (kr_r (ad := ad)) (show q_R d1 = q_R δ by rw [e2]; rfl)
  have f7 := ti_b x1
  refine ok_ite (fun h8 => ?_) (fun h8 => ?_)
  · have c9 : x1.toInt < (0 : Int) := o_lt h8
    unfold J_X12_shape_22
    unfold J_X12_shape_23
    refine ok_bind (k_X12_may L hN (a0 := a0) (x1 := (0 : Int32)) (x2 := (1 : Int32)) (x3 := (2 : Int32)) k_a0 (show (1 : Int) ≠ 0 by first | assumption | omega) (show 0 ≤ (2 : Int) by first | assumption | omega) (show (2 : Int) ≤ 2 by first | assumption | omega) i3) (fun r10 hr11 => ?_)
    obtain ⟨i12, ⟨u16, u17, u18⟩, p13, p14, p15⟩ := hr11
    have u19 := kp_t u4 u16
    have v20 : q_V r10.2 = q_V δ := (u17).trans v5
    have v21 := kr_t v6 u18
    have f22 := bo_l p13
    have f23 := ti_b r10.1
    replace p14 : ((r10.1).toInt = 1 → (0 : Int) ≠ 0) := p14
    have f24 := ti_b (q_I d1 12 0 a0)
    have f25 : (q_I d1 12 0 a0).toInt = (0 : Int) := congrArg Int32.toInt (show q_I d1 12 0 a0 = (0 : Int32) by rw [e2]; exact rI_s)
    replace p15 : ((q_I d1 12 0 a0).toInt = 0 → (r10.1).toInt = 0 → (0 : Int) = 0) := p15
    have f26 := ti_b r10.1
    have nh27 : NH ad a0 d1 r10.2 := ⟨u18 103 (by decide) (by decide) (by decide), u16 12 10 _ (by decide), u16 12 18 _ (by decide)⟩
    refine ok_ite (fun h28 => ?_) (fun h28 => ?_)
    · have c29 : r10.1.toInt = (0 : Int) := o_eq h28
      have sh30 : NH ad a0 δ d1 := NH.t NH.r (NH.w e2 (by decide))
      have sh31 : NH ad a0 δ r10.2 := NH.t sh30 nh27
      have f32 := cb_12_2 I k_a0
      have f33 := cb_12_2 i12 k_a0
      have f34 : (q_I r10.2 12 2 a0).toInt = (q_I d1 12 2 a0).toInt := congrArg Int32.toInt (u16 12 2 a0 (by decide))
      have f35 := cb_12_2 i3 k_a0
      have f36 : (q_I d1 12 2 a0).toInt = (q_I δ 12 2 a0).toInt := congrArg Int32.toInt (by rw [e2]; exact rI_o (by decide))
      exact ok_some (show RI ad h.1 δ0 r10.2 ∧ (kp [(12, 0), (12, 2), (12, 3), (12, 4), (12, 5), (12, 6), (12, 7), (12, 8), (12, 10), (12, 11), (12, 12), (12, 18)] δ r10.2 ∧ q_V r10.2 = q_V δ ∧ kr ad [100, 103, 106] δ r10.2) ∧ SHP ad a0 δ r10.2 ∧ (0 ≤ (x1).toInt ∧ (x1).toInt ≤ (q_I δ 12 2 a0).toInt → (q_I r10.2 12 2 a0).toInt = 0) ∧ ((x1).toInt < 0 ∨ (q_I δ 12 2 a0).toInt < (x1).toInt → (q_I r10.2 12 2 a0).toInt = (q_I δ 12 2 a0).toInt) from ⟨i12, ⟨kp_w (by decide) u19, v20, kr_w (by decide) v21⟩, SHP.n sh31, by first | assumption | omega, by first | assumption | omega⟩)
    · have c37 : r10.1.toInt ≠ (0 : Int) := o_ne h28
      refine ok_bind (k_X12_begins L hN (a0 := a0) (x1 := x1) k_a0 (show 0 ≤ (x1).toInt by first | assumption | omega) (show (x1).toInt ≤ 500 by first | assumption | omega) i12) (fun r38 hr39 => ?_)
      obtain ⟨i40, ⟨u46, u47, u48, u49⟩, p41, p42, p43, p44, p45⟩ := hr39
      have u50 := kp_t u19 u46
      have v51 : q_V r38 = q_V δ := (u47).trans v20
      have v52 := kr_t v21 u49
      have f53 := cb_12_2 i40 k_a0
      have f54 := cb_12_4 i40 k_a0
      have f55 := cb_12_3 i40 k_a0
      have f56 := cb_12_5 i40 k_a0
      have f57 := ti_b (q_I r38 12 7 a0)
      have nh58 : NH ad a0 r10.2 r38 := ⟨u49 103 (by decide) (by decide) (by decide), u46 12 10 _ (by decide), u46 12 18 _ (by decide)⟩
      refine ok_mono (kl_X12_shape_49 L hN   k_a0 _ (8 : Int32) (1 : Int32) (1 : Int32) (0 : Int32) r38 i40 (show (q_I r38 12 5 a0).toInt < 0 → 2 ≤ (8 : Int) ∧ (8 : Int) ≤ 16 ∧ 1 ≤ (1 : Int) ∧ (1 : Int) ≤ 5 by first | assumption | omega) (show (1 : Int) = 0 ∨ (1 : Int) = 1 by first | assumption | omega) (show 501 - (q_I r38 12 4 a0).toInt < _ by omega)) (fun r59 hr60 => ?_)
      obtain ⟨i61, ⟨u64, u65, u66⟩, p62, p63⟩ := hr60
      have u67 := kp_t u50 u64
      have v68 : q_V r59.2 = q_V δ := (u65).trans v51
      have v69 := kr_t v52 u66
      have f70 := cb_12_2 i61 k_a0
      have f71 := ti_b r59.1
      have sh72 : NH ad a0 δ d1 := NH.t NH.r (NH.w e2 (by decide))
      have sh73 : NH ad a0 δ r10.2 := NH.t sh72 nh27
      have sh74 : NH ad a0 δ r38 := NH.t sh73 nh58
      have sh75 : SHP ad a0 δ r59.2 := SHP.pre sh74 p63
      have f76 := cb_12_2 I k_a0
      exact ⟨by assumption, ⟨kp_w (by decide) u67, v68, kr_w (by decide) v69⟩, sh75, by first | assumption | omega, by first | assumption | omega⟩
  · have c77 : (0 : Int) ≤ x1.toInt := o_nlt h8
    have f78 := cb_12_2 i3 k_a0
    have f79 : (q_I d1 12 2 a0).toInt = (q_I δ 12 2 a0).toInt := congrArg Int32.toInt (by rw [e2]; exact rI_o (by decide))
    have f80 := cb_12_2 I k_a0
    refine ok_ite (fun h81 => ?_) (fun h81 => ?_)
    · have c82 : (q_I d1 12 2 a0).toInt < x1.toInt := o_lt h81
      unfold J_X12_shape_22
      unfold J_X12_shape_23
      refine ok_bind (k_X12_may L hN (a0 := a0) (x1 := (0 : Int32)) (x2 := (1 : Int32)) (x3 := (2 : Int32)) k_a0 (show (1 : Int) ≠ 0 by first | assumption | omega) (show 0 ≤ (2 : Int) by first | assumption | omega) (show (2 : Int) ≤ 2 by first | assumption | omega) i3) (fun r83 hr84 => ?_)
      obtain ⟨i85, ⟨u89, u90, u91⟩, p86, p87, p88⟩ := hr84
      have u92 := kp_t u4 u89
      have v93 : q_V r83.2 = q_V δ := (u90).trans v5
      have v94 := kr_t v6 u91
      have f95 := bo_l p86
      have f96 := ti_b r83.1
      replace p87 : ((r83.1).toInt = 1 → (0 : Int) ≠ 0) := p87
      have f97 := ti_b (q_I d1 12 0 a0)
      have f98 : (q_I d1 12 0 a0).toInt = (0 : Int) := congrArg Int32.toInt (show q_I d1 12 0 a0 = (0 : Int32) by rw [e2]; exact rI_s)
      replace p88 : ((q_I d1 12 0 a0).toInt = 0 → (r83.1).toInt = 0 → (0 : Int) = 0) := p88
      have f99 := ti_b r83.1
      have nh100 : NH ad a0 d1 r83.2 := ⟨u91 103 (by decide) (by decide) (by decide), u89 12 10 _ (by decide), u89 12 18 _ (by decide)⟩
      refine ok_ite (fun h101 => ?_) (fun h101 => ?_)
      · have c102 : r83.1.toInt = (0 : Int) := o_eq h101
        have sh103 : NH ad a0 δ d1 := NH.t NH.r (NH.w e2 (by decide))
        have sh104 : NH ad a0 δ r83.2 := NH.t sh103 nh100
        have f105 := cb_12_2 i85 k_a0
        have f106 : (q_I r83.2 12 2 a0).toInt = (q_I d1 12 2 a0).toInt := congrArg Int32.toInt (u89 12 2 a0 (by decide))
        exact ok_some (show RI ad h.1 δ0 r83.2 ∧ (kp [(12, 0), (12, 2), (12, 3), (12, 4), (12, 5), (12, 6), (12, 7), (12, 8), (12, 10), (12, 11), (12, 12), (12, 18)] δ r83.2 ∧ q_V r83.2 = q_V δ ∧ kr ad [100, 103, 106] δ r83.2) ∧ SHP ad a0 δ r83.2 ∧ (0 ≤ (x1).toInt ∧ (x1).toInt ≤ (q_I δ 12 2 a0).toInt → (q_I r83.2 12 2 a0).toInt = 0) ∧ ((x1).toInt < 0 ∨ (q_I δ 12 2 a0).toInt < (x1).toInt → (q_I r83.2 12 2 a0).toInt = (q_I δ 12 2 a0).toInt) from ⟨i85, ⟨kp_w (by decide) u92, v93, kr_w (by decide) v94⟩, SHP.n sh104, by first | assumption | omega, by first | assumption | omega⟩)
      · have c107 : r83.1.toInt ≠ (0 : Int) := o_ne h101
        refine ok_bind (k_X12_begins L hN (a0 := a0) (x1 := x1) k_a0 (show 0 ≤ (x1).toInt by first | assumption | omega) (show (x1).toInt ≤ 500 by first | assumption | omega) i85) (fun r108 hr109 => ?_)
        obtain ⟨i110, ⟨u116, u117, u118, u119⟩, p111, p112, p113, p114, p115⟩ := hr109
        have u120 := kp_t u92 u116
        have v121 : q_V r108 = q_V δ := (u117).trans v93
        have v122 := kr_t v94 u119
        have f123 := cb_12_2 i110 k_a0
        have f124 := cb_12_4 i110 k_a0
        have f125 := cb_12_3 i110 k_a0
        have f126 := cb_12_5 i110 k_a0
        have f127 := ti_b (q_I r108 12 7 a0)
        have nh128 : NH ad a0 r83.2 r108 := ⟨u119 103 (by decide) (by decide) (by decide), u116 12 10 _ (by decide), u116 12 18 _ (by decide)⟩
        refine ok_mono (kl_X12_shape_49 L hN   k_a0 _ (8 : Int32) (1 : Int32) (1 : Int32) (0 : Int32) r108 i110 (show (q_I r108 12 5 a0).toInt < 0 → 2 ≤ (8 : Int) ∧ (8 : Int) ≤ 16 ∧ 1 ≤ (1 : Int) ∧ (1 : Int) ≤ 5 by first | assumption | omega) (show (1 : Int) = 0 ∨ (1 : Int) = 1 by first | assumption | omega) (show 501 - (q_I r108 12 4 a0).toInt < _ by omega)) (fun r129 hr130 => ?_)
        obtain ⟨i131, ⟨u134, u135, u136⟩, p132, p133⟩ := hr130
        have u137 := kp_t u120 u134
        have v138 : q_V r129.2 = q_V δ := (u135).trans v121
        have v139 := kr_t v122 u136
        have f140 := cb_12_2 i131 k_a0
        have f141 := ti_b r129.1
        have sh142 : NH ad a0 δ d1 := NH.t NH.r (NH.w e2 (by decide))
        have sh143 : NH ad a0 δ r83.2 := NH.t sh142 nh100
        have sh144 : NH ad a0 δ r108 := NH.t sh143 nh128
        have sh145 : SHP ad a0 δ r129.2 := SHP.pre sh144 p133
        exact ⟨by assumption, ⟨kp_w (by decide) u137, v138, kr_w (by decide) v139⟩, sh145, by first | assumption | omega, by first | assumption | omega⟩
    · have c146 : x1.toInt ≤ (q_I d1 12 2 a0).toInt := o_nlt h81
      unfold J_X12_shape_23
      refine ok_bind (k_X12_may L hN (a0 := a0) (x1 := (1 : Int32)) (x2 := (1 : Int32)) (x3 := (2 : Int32)) k_a0 (show (1 : Int) ≠ 0 by first | assumption | omega) (show 0 ≤ (2 : Int) by first | assumption | omega) (show (2 : Int) ≤ 2 by first | assumption | omega) i3) (fun r147 hr148 => ?_)
      obtain ⟨i149, ⟨u153, u154, u155⟩, p150, p151, p152⟩ := hr148
      have u156 := kp_t u4 u153
      have v157 : q_V r147.2 = q_V δ := (u154).trans v5
      have v158 := kr_t v6 u155
      have f159 := bo_l p150
      have f160 := ti_b r147.1
      replace p151 : ((r147.1).toInt = 1 → (1 : Int) ≠ 0) := p151
      have f161 := ti_b (q_I d1 12 0 a0)
      have f162 : (q_I d1 12 0 a0).toInt = (0 : Int) := congrArg Int32.toInt (show q_I d1 12 0 a0 = (0 : Int32) by rw [e2]; exact rI_s)
      replace p152 : ((q_I d1 12 0 a0).toInt = 0 → (r147.1).toInt = 0 → (1 : Int) = 0) := p152
      have f163 := ti_b r147.1
      have nh164 : NH ad a0 d1 r147.2 := ⟨u155 103 (by decide) (by decide) (by decide), u153 12 10 _ (by decide), u153 12 18 _ (by decide)⟩
      refine ok_ite (fun h165 => ?_) (fun h165 => ?_)
      · have c166 : r147.1.toInt = (0 : Int) := o_eq h165
        have sh167 : NH ad a0 δ d1 := NH.t NH.r (NH.w e2 (by decide))
        have sh168 : NH ad a0 δ r147.2 := NH.t sh167 nh164
        have f169 := cb_12_2 i149 k_a0
        have f170 : (q_I r147.2 12 2 a0).toInt = (q_I d1 12 2 a0).toInt := congrArg Int32.toInt (u153 12 2 a0 (by decide))
        exact ok_some (show RI ad h.1 δ0 r147.2 ∧ (kp [(12, 0), (12, 2), (12, 3), (12, 4), (12, 5), (12, 6), (12, 7), (12, 8), (12, 10), (12, 11), (12, 12), (12, 18)] δ r147.2 ∧ q_V r147.2 = q_V δ ∧ kr ad [100, 103, 106] δ r147.2) ∧ SHP ad a0 δ r147.2 ∧ (0 ≤ (x1).toInt ∧ (x1).toInt ≤ (q_I δ 12 2 a0).toInt → (q_I r147.2 12 2 a0).toInt = 0) ∧ ((x1).toInt < 0 ∨ (q_I δ 12 2 a0).toInt < (x1).toInt → (q_I r147.2 12 2 a0).toInt = (q_I δ 12 2 a0).toInt) from ⟨i149, ⟨kp_w (by decide) u156, v157, kr_w (by decide) v158⟩, SHP.n sh168, by first | assumption | omega, by first | assumption | omega⟩)
      · have c171 : r147.1.toInt ≠ (0 : Int) := o_ne h165
        refine ok_bind (k_X12_begins L hN (a0 := a0) (x1 := x1) k_a0 (show 0 ≤ (x1).toInt by first | assumption | omega) (show (x1).toInt ≤ 500 by first | assumption | omega) i149) (fun r172 hr173 => ?_)
        obtain ⟨i174, ⟨u180, u181, u182, u183⟩, p175, p176, p177, p178, p179⟩ := hr173
        have u184 := kp_t u156 u180
        have v185 : q_V r172 = q_V δ := (u181).trans v157
        have v186 := kr_t v158 u183
        have f187 := cb_12_2 i174 k_a0
        have f188 := cb_12_4 i174 k_a0
        have f189 := cb_12_3 i174 k_a0
        have f190 := cb_12_5 i174 k_a0
        have f191 := ti_b (q_I r172 12 7 a0)
        have nh192 : NH ad a0 r147.2 r172 := ⟨u183 103 (by decide) (by decide) (by decide), u180 12 10 _ (by decide), u180 12 18 _ (by decide)⟩
        refine ok_mono (kl_X12_shape_49 L hN   k_a0 _ (8 : Int32) (1 : Int32) (1 : Int32) (0 : Int32) r172 i174 (show (q_I r172 12 5 a0).toInt < 0 → 2 ≤ (8 : Int) ∧ (8 : Int) ≤ 16 ∧ 1 ≤ (1 : Int) ∧ (1 : Int) ≤ 5 by first | assumption | omega) (show (1 : Int) = 0 ∨ (1 : Int) = 1 by first | assumption | omega) (show 501 - (q_I r172 12 4 a0).toInt < _ by omega)) (fun r193 hr194 => ?_)
        obtain ⟨i195, ⟨u198, u199, u200⟩, p196, p197⟩ := hr194
        have u201 := kp_t u184 u198
        have v202 : q_V r193.2 = q_V δ := (u199).trans v185
        have v203 := kr_t v186 u200
        have f204 := cb_12_2 i195 k_a0
        have f205 := ti_b r193.1
        have sh206 : NH ad a0 δ d1 := NH.t NH.r (NH.w e2 (by decide))
        have sh207 : NH ad a0 δ r147.2 := NH.t sh206 nh164
        have sh208 : NH ad a0 δ r172 := NH.t sh207 nh192
        have sh209 : SHP ad a0 δ r193.2 := SHP.pre sh208 p197
        exact ⟨by assumption, ⟨kp_w (by decide) u201, v202, kr_w (by decide) v203⟩, sh209, by first | assumption | omega, by first | assumption | omega⟩
