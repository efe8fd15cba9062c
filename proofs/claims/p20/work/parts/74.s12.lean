/-! 74.s12 (by gen_safe.py) -/
def WEp (b x y : Int) : Prop := b < 0 → 2 ≤ x ∧ x ≤ 16 ∧ 1 ≤ y ∧ y ≤ 5
/-- the SHAPE and the houses stay -/
def NH (ad : List Nat) (a0 : Nat) (δ δ1 : dp) : Prop := q_R δ1 (Ad ad 103) = q_R δ (Ad ad 103) ∧ q_I δ1 12 10 a0 = q_I δ 12 10 a0 ∧ q_I δ1 12 18 a0 = q_I δ 12 18 a0
/-- all houses are empty, no image is kept -/
def Z0 (ad : List Nat) (a0 : Nat) (δ : dp) : Prop := (q_I δ 12 18 a0).toInt = 0 ∧ ∀ K, K < 4 → (q_R δ (Ad ad 103) K).toInt = 0
def SHP (ad : List Nat) (a0 : Nat) (δ δ1 : dp) : Prop := NH ad a0 δ δ1 ∨ Z0 ad a0 δ1
theorem NH.r {ad : List Nat} {a0 : Nat} {δ : dp} : NH ad a0 δ δ := ⟨rfl, rfl, rfl⟩
theorem NH.t {ad : List Nat} {a0 : Nat} {δ δ1 δ2 : dp} (h : NH ad a0 δ δ1) (k : NH ad a0 δ1 δ2) : NH ad a0 δ δ2 := ⟨k.1.trans h.1, k.2.1.trans h.2.1, k.2.2.trans h.2.2⟩
theorem NH.w {ad : List Nat} {a0 : Nat} {δ δ1 : dp} {k : Nat} {v : Int32} (e : δ1 = s_I δ 12 k a0 v) (hk : k ≠ 10 ∧ k ≠ 18) : NH ad a0 δ δ1 := by
  subst e
  exact ⟨rfl, rI_o (fun z => hk.1 z.2.symm), rI_o (fun z => hk.2 z.2.symm)⟩
theorem SHP.n {ad : List Nat} {a0 : Nat} {δ δ1 : dp} (h : NH ad a0 δ δ1) : SHP ad a0 δ δ1 := Or.inl h
theorem SHP.z {ad : List Nat} {a0 : Nat} {δ δ1 : dp} (h : Z0 ad a0 δ1) : SHP ad a0 δ δ1 := Or.inr h
theorem SHP.pre {ad : List Nat} {a0 : Nat} {δ δ1 δ2 : dp} (h : NH ad a0 δ δ1) (k : SHP ad a0 δ1 δ2) : SHP ad a0 δ δ2 := k.elim (fun z => Or.inl (h.t z)) Or.inr
theorem fz_shape_299' {ad : List Nat} {h : hp} (L : Lay TLx ad h) {δ0 : dp} {N : Nat} (hN : 10000000 ≤ N) {a0 : Nat} {x1 : Int32} (k_a0 : q_K h.1 a0 = 12) : ∀ (n : Nat) (x6v : Int32) (δ : dp), RI ad h.1 δ0 δ → 0 ≤ (x6v).toInt → (x6v).toInt ≤ 4 → (∀ K : Nat, (K : Int) < x6v.toInt → (q_R δ (Ad ad 103) K).toInt = 0) → 4 - (x6v).toInt < (n : Int) → ok (L_X12_shape_299 N h.1 a0 x1 n x6v δ) (fun r => Z0 ad a0 r.2) := by
  have e4 : (4 : Int32).toInt = 4 := rfl
  have e0 : (0 : Int32).toInt = 0 := rfl
  obtain ⟨b1, o1, _, n1⟩ := gO_12_14 L k_a0
  obtain rfl := gS_12_14 L k_a0 o1
  obtain ⟨b2, o2, _, n2⟩ := gO_12_17 L k_a0
  obtain rfl := gS_12_17 L k_a0 o2
  intro n
  induction n with
  | zero => intro x6v δ I j0 j1 jz hm; exfalso; omega
  | succ n ih =>
    intro x6v δ I j0 j1 jz hm
    have t6 := ti_tn x6v
    unfold L_X12_shape_299
    refine ok_ite (fun c => ?_) (fun c => ?_)
    · have c1 := o_le c
      refine ok_bdv (fun d e => ?_)
      have i1 : RI ad h.1 δ0 d := by rw [e]; exact RI.sI L I (by decide) (by decide)
      refine ok_bind (k_X12_result L hN (x1 := (q_I d 12 10 a0)) k_a0 i1) (fun r hr => ok_some ?_)
      obtain ⟨q1, ⟨q2, q3, q5, q4⟩, _⟩ := hr
      refine ⟨?_, fun K hK => ?_⟩
      · rw [q2 12 18 a0 (by decide), e, rI_s]; rfl
      · rw [q4 103 (by decide) (by decide) (by decide), e]
        exact jz K (by omega)
    · have c1 := o_nle c
      refine ok_at o1 ?_
      refine ok_gd (fun z => ?_) ?_
      · rcases z with z | z
        · have := o_lt z; omega
        · rw [n1] at z; omega
      refine ok_bdv (fun d e => ?_)
      have i1 : RI ad h.1 δ0 d := by rw [e]; exact cr_103 L I (by decide) (by decide)
      refine ok_at o2 ?_
      refine ok_gd (fun z => ?_) ?_
      · rcases z with z | z
        · have := o_lt z; omega
        · rw [n2] at z; omega
      refine ok_bdv (fun d2 e2 => ?_)
      have i2 : RI ad h.1 δ0 d2 := by rw [e2]; exact cr_106 L i1 (by decide) (by decide)
      refine ok_biv (fun x ex => ?_)
      have hx := te_addc (c := 1) (n := 1) rfl x6v (by omega) (by omega)
      rw [← ex] at hx
      refine ih x d2 i2 (by omega) (by omega) (fun K hK => ?_) (by omega)
      rw [e2, rR_o (ad_ne L (by decide) (by decide) (by decide)), e, qR_sR]
      by_cases c : K = x6v.toNatClampNeg
      · rw [if_pos ⟨rfl, c⟩]; rfl
      · rw [if_neg (fun z => c z.2)]
        exact jz K (by omega)
set_option maxHeartbeats 4000000 in
theorem kl0_X12_shape_299 {ad : List Nat} {h : hp} (L : Lay TLx ad h) {δ0 : dp} {N : Nat} (hN : 10000000 ≤ N) {a0 : Nat} {x1 : Int32} (k_a0 : q_K h.1 a0 = 12) : ∀ (n : Nat) (x6v : Int32) (δ : dp), RI ad h.1 δ0 δ → 0 ≤ (x6v).toInt → (x6v).toInt ≤ 4 → 4 - (x6v).toInt < (n : Int) → ok (L_X12_shape_299 N h.1 a0 x1 n x6v δ) (fun r => RI ad h.1 δ0 r.2 ∧ (kp [(12, 0), (12, 2), (12, 3), (12, 4), (12, 5), (12, 6), (12, 7), (12, 8), (12, 10), (12, 11), (12, 12), (12, 18)] δ r.2 ∧ q_V r.2 = q_V δ ∧ kr ad [100, 103, 106] δ r.2) ∧ (q_I r.2 12 2 a0).toInt = (q_I δ 12 2 a0).toInt) := by
  intro n
  induction n with
  | zero =>
    intro x6v δ I j0 j1 hm
    have f1 := ti_b x6v
    exfalso; omega
  | succ n ih =>
    intro x6v δ I j0 j1 hm
    unfold L_X12_shape_299
    have f1 := ti_b x6v
    refine ok_ite (fun h2 => ?_) (fun h2 => ?_)
    · have c3 : (4 : Int) ≤ x6v.toInt := o_le h2
      refine ok_bdv (fun d4 e5 => ?_)
      have i6 : RI ad h.1 δ0 d4 := by rw [e5]; exact cs_12_18 L I k_a0 (show 0 ≤ (0 : Int) by omega) (show (0 : Int) ≤ 3 by omega)
      have u7 := kp_I kp_r e5
      have v8 : q_V d4 = q_V δ := ((show q_V d4 = q_V δ by rw [e5]; rfl)).trans rfl
      have v9 := kr_N (kr_r (ad := ad)) (show q_R d4 = q_R δ by rw [e5]; rfl)
      refine ok_bind (k_X12_result L hN (a0 := a0) (x1 := (q_I d4 12 10 a0)) k_a0 i6) (fun r10 hr11 => ?_)
      obtain ⟨i12, ⟨u14, u15, u16, u17⟩, p13⟩ := hr11
      have u18 := kp_t u7 u14
      have v19 : q_V r10.2 = q_V δ := (u15).trans v8
      have v20 := kr_t v9 u17
      have f21 : (q_I d4 12 5 a0).toInt = (q_I δ 12 5 a0).toInt := congrArg Int32.toInt (by rw [e5]; exact rI_o (by decide))
      have f22 := cb_12_5 I k_a0
      have f23 := ti_b r10.1
      have f24 : (q_I r10.2 12 2 a0).toInt = (q_I δ 12 2 a0).toInt := ((show (q_I r10.2 12 2 a0).toInt = (q_I d4 12 2 a0).toInt from congrArg Int32.toInt (u14 12 2 a0 (by decide))).trans (show (q_I d4 12 2 a0).toInt = (q_I δ 12 2 a0).toInt from congrArg Int32.toInt (by rw [e5]; exact rI_o (by decide))))
      have f25 := cb_12_2 I k_a0
      exact ok_some (show RI ad h.1 δ0 r10.2 ∧ (kp [(12, 0), (12, 2), (12, 3), (12, 4), (12, 5), (12, 6), (12, 7), (12, 8), (12, 10), (12, 11), (12, 12), (12, 18)] δ r10.2 ∧ q_V r10.2 = q_V δ ∧ kr ad [100, 103, 106] δ r10.2) ∧ (q_I r10.2 12 2 a0).toInt = (q_I δ 12 2 a0).toInt from ⟨i12, ⟨kp_w (by decide) u18, v19, kr_w (by decide) v20⟩, by first | with_reducible assumption | omega⟩)
    · have c26 : x6v.toInt < (4 : Int) := o_nle h2
      obtain ⟨b27, o28, k29, n30⟩ := gO_12_14 L k_a0
      obtain rfl := gS_12_14 L k_a0 o28
      refine ok_at o28 ?_
      have t31 := ti_tn x6v
      refine ok_gd (fun hc32 => ?_) ?_
      · rcases hc32 with hc32 | hc32
        · have c33 : x6v.toInt < (0 : Int) := o_lt hc32
          omega
        · omega
      refine ok_bdv (fun d34 e35 => ?_)
      have i36 : RI ad h.1 δ0 d34 := by rw [e35]; exact cr_103 L I (show -1000 ≤ (0 : Int) by omega) (show (0 : Int) ≤ 2000 by omega)
      have u37 := kp_N kp_r (show q_I d34 = q_I δ by rw [e35]; rfl)
      have v38 : q_V d34 = q_V δ := ((show q_V d34 = q_V δ by rw [e35]; rfl)).trans rfl
      have v39 := kr_s L (by decide) (kr_r (ad := ad)) e35
      obtain ⟨b40, o41, k42, n43⟩ := gO_12_17 L k_a0
      obtain rfl := gS_12_17 L k_a0 o41
      refine ok_at o41 ?_
      refine ok_gd (fun hc44 => ?_) ?_
      · rcases hc44 with hc44 | hc44
        · have c45 : x6v.toInt < (0 : Int) := o_lt hc44
          omega
        · omega
      refine ok_bdv (fun d46 e47 => ?_)
      have i48 : RI ad h.1 δ0 d46 := by rw [e47]; exact cr_106 L i36 (show 0 ≤ (0 : Int) by omega) (show (0 : Int) ≤ 1000 by omega)
      have u49 := kp_N u37 (show q_I d46 = q_I d34 by rw [e47]; rfl)
      have v50 : q_V d46 = q_V δ := ((show q_V d46 = q_V d34 by rw [e47]; rfl)).trans v38
      have v51 := kr_s L (by decide) v39 e47
      refine ok_biv (fun vx52 e53 => ?_)
      first | (have q54 := te_addc (c := 1) (n := 1) rfl x6v (by omega) (by omega); rw [← e53] at q54; obtain ⟨f55, f56, f57⟩ := q54) | (obtain ⟨q54, f55, f56, f57⟩ : ∃ q : Int, vx52.toInt = x6v.toInt + (1 : Int) + 4294967296 * q ∧ -2147483648 ≤ vx52.toInt ∧ vx52.toInt ≤ 2147483647 := by rw [e53]; exact ti_addc (c := 1) (n := 1) rfl x6v)
      refine ok_mono (ih vx52 d46 i48 (show 0 ≤ (vx52).toInt by first | with_reducible assumption | omega) (show (vx52).toInt ≤ 4 by first | with_reducible assumption | omega) (show 4 - (vx52).toInt < _ by omega)) (fun r58 hr59 => ?_)
      obtain ⟨i60, ⟨u62, u63, u64⟩, p61⟩ := hr59
      have u65 := kp_t u49 u62
      have v66 : q_V r58.2 = q_V δ := (u63).trans v50
      have v67 := kr_t v51 u64
      have f68 := cb_12_2 i60 k_a0
      have f69 : (q_I d46 12 2 a0).toInt = (q_I δ 12 2 a0).toInt := ((show (q_I d46 12 2 a0).toInt = (q_I d34 12 2 a0).toInt from congrArg Int32.toInt (by rw [e47]; rfl)).trans (show (q_I d34 12 2 a0).toInt = (q_I δ 12 2 a0).toInt from congrArg Int32.toInt (by rw [e35]; rfl)))
      have f70 := cb_12_2 I k_a0
      have f71 := ti_b r58.1
      exact ⟨by first | with_reducible assumption | assumption, ⟨kp_w (by decide) u65, v66, kr_w (by decide) v67⟩, by first | with_reducible assumption | omega⟩
theorem fz_shape_299 {ad : List Nat} {h : hp} (L : Lay TLx ad h) {δ0 : dp} {N : Nat} (hN : 10000000 ≤ N) {a0 : Nat} {x1 : Int32} (k_a0 : q_K h.1 a0 = 12) (n : Nat) (x6v : Int32) (δ : dp) (I : RI ad h.1 δ0 δ) (j0 : 0 ≤ (x6v).toInt) (j1 : (x6v).toInt ≤ 4) (hm : 4 - (x6v).toInt < (n : Int)) : ok (L_X12_shape_299 N h.1 a0 x1 n x6v δ) (fun r => (x6v).toInt = 0 → Z0 ad a0 r.2) := by
  by_cases c : x6v.toInt = 0
  · exact ok_mono (fz_shape_299' L hN k_a0 n x6v δ I j0 j1 (fun K hK => by omega) hm) (fun r hr _ => hr)
  · refine ok_mono (kl0_X12_shape_299 L hN k_a0 n x6v δ I j0 j1 hm) (fun r hr z => absurd z c)
set_option maxHeartbeats 4000000 in
theorem kl_X12_shape_299 {ad : List Nat} {h : hp} (L : Lay TLx ad h) {δ0 : dp} {N : Nat} (hN : 10000000 ≤ N) {a0 : Nat} {x1 : Int32} (k_a0 : q_K h.1 a0 = 12) : ∀ (n : Nat) (x6v : Int32) (δ : dp), RI ad h.1 δ0 δ → 0 ≤ (x6v).toInt → (x6v).toInt ≤ 4 → 4 - (x6v).toInt < (n : Int) → ok (L_X12_shape_299 N h.1 a0 x1 n x6v δ) (fun r => RI ad h.1 δ0 r.2 ∧ (kp [(12, 0), (12, 2), (12, 3), (12, 4), (12, 5), (12, 6), (12, 7), (12, 8), (12, 10), (12, 11), (12, 12), (12, 18)] δ r.2 ∧ q_V r.2 = q_V δ ∧ kr ad [100, 103, 106] δ r.2) ∧ (q_I r.2 12 2 a0).toInt = (q_I δ 12 2 a0).toInt ∧ ((x6v).toInt = 0 → Z0 ad a0 r.2)) := by
  intro n x6v δ I j0 j1 hm
  exact ok_mono (ok_and (kl0_X12_shape_299 L hN k_a0 n x6v δ I j0 j1 hm) (fz_shape_299 L hN k_a0 n x6v δ I j0 j1 hm)) (fun r hr => ⟨hr.1.1, hr.1.2.1, hr.1.2.2, hr.2⟩)

set_option maxHeartbeats 4000000 in
theorem kj_X12_shape_258 {ad : List Nat} {h : hp} (L : Lay TLx ad h) {δ0 : dp} {N : Nat} (hN : 10000000 ≤ N) {a0 : Nat} {x1 : Int32} {kt49 : Int32 → Int32 → Int32 → Int32 → dp → Option (Int32 × dp)} {K49 : Int} (h_kt49 : ∀ (x2v : Int32) (x3v : Int32) (x4v : Int32) (x5v : Int32) (δ : dp), RI ad h.1 δ0 δ → ((q_I δ 12 5 a0).toInt < 0 → 2 ≤ (x2v).toInt ∧ (x2v).toInt ≤ 16 ∧ 1 ≤ (x3v).toInt ∧ (x3v).toInt ≤ 5) → ((x4v).toInt = 0 ∨ (x4v).toInt = 1) → 501 - (q_I δ 12 4 a0).toInt < K49 → ok (kt49 x2v x3v x4v x5v δ) (fun r => RI ad h.1 δ0 r.2 ∧ (kp [(12, 0), (12, 2), (12, 3), (12, 4), (12, 5), (12, 6), (12, 7), (12, 8), (12, 10), (12, 11), (12, 12), (12, 18)] δ r.2 ∧ q_V r.2 = q_V δ ∧ kr ad [100, 103, 106] δ r.2) ∧ (q_I r.2 12 2 a0).toInt = (q_I δ 12 2 a0).toInt ∧ SHP ad a0 δ r.2)) {x2v : Int32} {x3v : Int32} {x4v : Int32} {x5v : Int32} (k_a0 : q_K h.1 a0 = 12) {δ : dp} (z0 : (q_I δ 12 5 a0).toInt < 0 → 2 ≤ (x2v).toInt ∧ (x2v).toInt ≤ 16 ∧ 1 ≤ (x3v).toInt ∧ (x3v).toInt ≤ 5) (z1 : (x4v).toInt = 0 ∨ (x4v).toInt = 1) (z2 : 501 - (q_I δ 12 4 a0).toInt < K49) (I : RI ad h.1 δ0 δ) : ok (J_X12_shape_258 N h.1 a0 x1 kt49 x2v x3v x4v x5v δ) (fun r => RI ad h.1 δ0 r.2 ∧ (kp [(12, 0), (12, 2), (12, 3), (12, 4), (12, 5), (12, 6), (12, 7), (12, 8), (12, 10), (12, 11), (12, 12), (12, 18)] δ r.2 ∧ q_V r.2 = q_V δ ∧ kr ad [100, 103, 106] δ r.2) ∧ (q_I r.2 12 2 a0).toInt = (q_I δ 12 2 a0).toInt ∧ SHP ad a0 δ r.2) := by
  unfold J_X12_shape_258
  have f1 := cb_12_5 I k_a0
  have f2 := ti_b x2v
  have f3 := ti_b x3v
  have f4 := ti_b x4v
  have f5 := cb_12_4 I k_a0
  refine ok_bind (k_X12_sign L hN (a0 := a0) (x1 := (59 : Int32)) k_a0 (show (59 : Int) ≠ 0 by first | with_reducible assumption | omega) I) (fun r6 hr7 => ?_)
  obtain ⟨i8, ⟨u12, u13, u14, u15⟩, p9, p10, p11⟩ := hr7
  have u16 := kp_t kp_r u12
  have v17 : q_V r6 = q_V δ := (u13).trans rfl
  have v18 := kr_t (kr_r (ad := ad)) u15
  have f19 := cb_12_4 i8 k_a0
  have f20 := cb_12_5 i8 k_a0
  have nh21 : NH ad a0 δ r6 := ⟨u15 103 (by decide) (by decide) (by decide), u12 12 10 _ (by decide), u12 12 18 _ (by decide)⟩
  refine ok_mono (h_kt49 x2v x3v x4v x5v r6 i8 (show (q_I r6 12 5 a0).toInt < 0 → 2 ≤ (x2v).toInt ∧ (x2v).toInt ≤ 16 ∧ 1 ≤ (x3v).toInt ∧ (x3v).toInt ≤ 5 by first | with_reducible assumption | omega) (show (x4v).toInt = 0 ∨ (x4v).toInt = 1 by first | with_reducible assumption | omega) (show 501 - (q_I r6 12 4 a0).toInt < _ by omega)) (fun r22 hr23 => ?_)
  obtain ⟨i24, ⟨u27, u28, u29⟩, p25, p26⟩ := hr23
  have u30 := kp_t u16 u27
  have v31 : q_V r22.2 = q_V δ := (u28).trans v17
  have v32 := kr_t v18 u29
  have f33 := cb_12_2 i24 k_a0
  have f34 : (q_I r6 12 2 a0).toInt = (q_I δ 12 2 a0).toInt := congrArg Int32.toInt (u12 12 2 a0 (by decide))
  have f35 := cb_12_2 I k_a0
  have f36 := ti_b r22.1
  have sh37 : NH ad a0 δ r6 := NH.t NH.r nh21
  have sh38 : SHP ad a0 δ r22.2 := SHP.pre sh37 p26
  exact ⟨by first | with_reducible assumption | assumption, ⟨kp_w (by decide) u30, v31, kr_w (by decide) v32⟩, by first | with_reducible assumption | omega, sh38⟩
set_option maxHeartbeats 4000000 in
theorem kj_X12_shape_219 {ad : List Nat} {h : hp} (L : Lay TLx ad h) {δ0 : dp} {N : Nat} (hN : 10000000 ≤ N) {a0 : Nat} {x1 : Int32} {kt49 : Int32 → Int32 → Int32 → Int32 → dp → Option (Int32 × dp)} {K49 : Int} (h_kt49 : ∀ (x2v : Int32) (x3v : Int32) (x4v : Int32) (x5v : Int32) (δ : dp), RI ad h.1 δ0 δ → ((q_I δ 12 5 a0).toInt < 0 → 2 ≤ (x2v).toInt ∧ (x2v).toInt ≤ 16 ∧ 1 ≤ (x3v).toInt ∧ (x3v).toInt ≤ 5) → ((x4v).toInt = 0 ∨ (x4v).toInt = 1) → 501 - (q_I δ 12 4 a0).toInt < K49 → ok (kt49 x2v x3v x4v x5v δ) (fun r => RI ad h.1 δ0 r.2 ∧ (kp [(12, 0), (12, 2), (12, 3), (12, 4), (12, 5), (12, 6), (12, 7), (12, 8), (12, 10), (12, 11), (12, 12), (12, 18)] δ r.2 ∧ q_V r.2 = q_V δ ∧ kr ad [100, 103, 106] δ r.2) ∧ (q_I r.2 12 2 a0).toInt = (q_I δ 12 2 a0).toInt ∧ SHP ad a0 δ r.2)) {xs0 : Int32} {x2v : Int32} {x3v : Int32} {x5v : Int32} (k_a0 : q_K h.1 a0 = 12) {δ : dp} (z0 : (q_I δ 12 5 a0).toInt < 0 → 2 ≤ (x2v).toInt ∧ (x2v).toInt ≤ 16 ∧ 1 ≤ (x3v).toInt ∧ (x3v).toInt ≤ 5) (z1 : (xs0).toInt = 0 ∨ (xs0).toInt = 1) (z2 : 501 - (q_I δ 12 4 a0).toInt < K49) (I : RI ad h.1 δ0 δ) : ok (J_X12_shape_219 N h.1 a0 x1 kt49 xs0 x2v x3v x5v δ) (fun r => RI ad h.1 δ0 r.2 ∧ (kp [(12, 0), (12, 2), (12, 3), (12, 4), (12, 5), (12, 6), (12, 7), (12, 8), (12, 10), (12, 11), (12, 12), (12, 18)] δ r.2 ∧ q_V r.2 = q_V δ ∧ kr ad [100, 103, 106] δ r.2) ∧ (q_I r.2 12 2 a0).toInt = (q_I δ 12 2 a0).toInt ∧ SHP ad a0 δ r.2) := by
  unfold J_X12_shape_219
  have f1 := cb_12_5 I k_a0
  have f2 := ti_b x2v
  have f3 := ti_b x3v
  have f4 := ti_b xs0
  have f5 := cb_12_4 I k_a0
  refine ok_ite (fun h6 => ?_) (fun h6 => ?_)
  · have c7 : xs0.toInt = (0 : Int) := o_eq h6
    refine ok_bind (k_X12_word L hN (a0 := a0) k_a0 I) (fun r8 hr9 => ?_)
    obtain ⟨i10, ⟨u13, u14, u15, u16⟩, p11, p12⟩ := hr9
    have u17 := kp_t kp_r u13
    have v18 : q_V r8.2 = q_V δ := (u14).trans rfl
    have v19 := kr_t (kr_r (ad := ad)) u16
    have f20 := cb_12_4 i10 k_a0
    have f21 : hc ad r8.2 a0 = (q_R r8.2 (Ad ad 101) (q_I r8.2 12 4 a0).toNatClampNeg).toInt := rfl
    have t22 := ti_tn (q_I r8.2 12 4 a0)
    have f23 : (q_R r8.2 (Ad ad 101) (q_I r8.2 12 4 a0).toNatClampNeg).toInt = (q_R δ (Ad ad 101) (q_I r8.2 12 4 a0).toNatClampNeg).toInt := congrArg Int32.toInt (congrFun (u16 101 (by decide) (by decide) (by decide)) _)
    have f24 := ti_b (q_R δ (Ad ad 101) (q_I r8.2 12 4 a0).toNatClampNeg)
    have f25 := ti_b (q_R r8.2 (Ad ad 101) (q_I r8.2 12 4 a0).toNatClampNeg)
    have f26 := ti_b r8.1
    have f27 := cb_12_3 I k_a0
    have nh28 : NH ad a0 δ r8.2 := ⟨u16 103 (by decide) (by decide) (by decide), u13 12 10 _ (by decide), u13 12 18 _ (by decide)⟩
    refine ok_bind (k_X12_of L hN (a0 := 4) (show 4 < 16 by first | with_reducible assumption | omega) i10) (fun r29 hr30 => ?_)
    obtain ⟨i31, p32⟩ := hr30
    try rw [i31]
    have f33 := ti_b r29.1
    refine ok_ite (fun h34 => ?_) (fun h34 => ?_)
    · have c35 : r8.1.toInt = r29.1.toInt := o_eq h34
      unfold J_X12_shape_247
      refine ok_bind (k_X12_fine L hN (a0 := a0) k_a0 i10) (fun r36 hr37 => ?_)
      obtain ⟨i38, p39, p40, p41⟩ := hr37
      try rw [i38]
      have f42 := bo_l p39
      have f43 : (q_I r8.2 12 5 a0).toInt = (q_I δ 12 5 a0).toInt := congrArg Int32.toInt (u13 12 5 a0 (by decide))
      have f44 := ti_b r36.1
      refine ok_ite (fun h45 => ?_) (fun h45 => ?_)
      · have c46 : r36.1.toInt = (0 : Int) := o_eq h45
        refine ok_mono (kj_X12_shape_258 L hN (K49 := K49) (a0 := a0) (x1 := x1) (x2v := x2v) (x3v := x3v) (x4v := xs0) (x5v := x5v) h_kt49 k_a0 (show (q_I r8.2 12 5 a0).toInt < 0 → 2 ≤ (x2v).toInt ∧ (x2v).toInt ≤ 16 ∧ 1 ≤ (x3v).toInt ∧ (x3v).toInt ≤ 5 by first | with_reducible assumption | omega) (show (xs0).toInt = 0 ∨ (xs0).toInt = 1 by first | with_reducible assumption | omega) (show 501 - (q_I r8.2 12 4 a0).toInt < K49 by first | with_reducible assumption | omega) i10) (fun r47 hr48 => ?_)
        obtain ⟨i49, ⟨u52, u53, u54⟩, p50, p51⟩ := hr48
        have u55 := kp_t u17 u52
        have v56 : q_V r47.2 = q_V δ := (u53).trans v18
        have v57 := kr_t v19 u54
        have f58 := cb_12_2 i49 k_a0
        have f59 : (q_I r8.2 12 2 a0).toInt = (q_I δ 12 2 a0).toInt := congrArg Int32.toInt (u13 12 2 a0 (by decide))
        have f60 := cb_12_2 I k_a0
        have f61 := ti_b r47.1
        have sh62 : NH ad a0 δ r8.2 := NH.t NH.r nh28
        have sh63 : SHP ad a0 δ r47.2 := SHP.pre sh62 p51
        exact ⟨by first | with_reducible assumption | assumption, ⟨kp_w (by decide) u55, v56, kr_w (by decide) v57⟩, by first | with_reducible assumption | omega, sh63⟩
      · have c64 : r36.1.toInt ≠ (0 : Int) := o_ne h45
        refine ok_bind (k_X12_pass L hN (a0 := a0) k_a0 i10) (fun r65 hr66 => ?_)
        obtain ⟨i67, ⟨u70, u71, u72, u73⟩, p68, p69⟩ := hr66
        have u74 := kp_t u17 u70
        have v75 : q_V r65 = q_V δ := (u71).trans v18
        have v76 := kr_t v19 u73
        have f77 := cb_12_4 i67 k_a0
        have f78 : (q_I r8.2 12 3 a0).toInt = (q_I δ 12 3 a0).toInt := congrArg Int32.toInt (u13 12 3 a0 (by decide))
        have nh79 : NH ad a0 r8.2 r65 := ⟨u73 103 (by decide) (by decide) (by decide), u70 12 10 _ (by decide), u70 12 18 _ (by decide)⟩
        have f80 : (q_I r65 12 5 a0).toInt = (q_I r8.2 12 5 a0).toInt := congrArg Int32.toInt (u70 12 5 a0 (by decide))
        refine ok_mono (kj_X12_shape_258 L hN (K49 := K49) (a0 := a0) (x1 := x1) (x2v := x2v) (x3v := x3v) (x4v := xs0) (x5v := x5v) h_kt49 k_a0 (show (q_I r65 12 5 a0).toInt < 0 → 2 ≤ (x2v).toInt ∧ (x2v).toInt ≤ 16 ∧ 1 ≤ (x3v).toInt ∧ (x3v).toInt ≤ 5 by first | with_reducible assumption | omega) (show (xs0).toInt = 0 ∨ (xs0).toInt = 1 by first | with_reducible assumption | omega) (show 501 - (q_I r65 12 4 a0).toInt < K49 by first | with_reducible assumption | omega) i67) (fun r81 hr82 => ?_)
        obtain ⟨i83, ⟨u86, u87, u88⟩, p84, p85⟩ := hr82
        have u89 := kp_t u74 u86
        have v90 : q_V r81.2 = q_V δ := (u87).trans v75
        have v91 := kr_t v76 u88
        have f92 := cb_12_2 i83 k_a0
        have f93 : (q_I r65 12 2 a0).toInt = (q_I δ 12 2 a0).toInt := ((show (q_I r65 12 2 a0).toInt = (q_I r8.2 12 2 a0).toInt from congrArg Int32.toInt (u70 12 2 a0 (by decide))).trans (show (q_I r8.2 12 2 a0).toInt = (q_I δ 12 2 a0).toInt from congrArg Int32.toInt (u13 12 2 a0 (by decide))))
        have f94 := cb_12_2 I k_a0
        have f95 := ti_b r81.1
        have sh96 : NH ad a0 δ r8.2 := NH.t NH.r nh28
        have sh97 : NH ad a0 δ r65 := NH.t sh96 nh79
        have sh98 : SHP ad a0 δ r81.2 := SHP.pre sh97 p85
        exact ⟨by first | with_reducible assumption | assumption, ⟨kp_w (by decide) u89, v90, kr_w (by decide) v91⟩, by first | with_reducible assumption | omega, sh98⟩
    · have c99 : r8.1.toInt ≠ r29.1.toInt := o_ne h34
      refine ok_bind (k_X12_wrong L hN (a0 := a0) (x1 := (1 : Int32)) (x2 := (q_I r8.2 12 4 a0)) k_a0 (show 0 ≤ ((q_I r8.2 12 4 a0)).toInt by first | with_reducible assumption | omega) (show ((q_I r8.2 12 4 a0)).toInt ≤ 500 by first | with_reducible assumption | omega) (show 0 ≤ (1 : Int) by first | with_reducible assumption | omega) (show (1 : Int) ≤ 4 by first | with_reducible assumption | omega) i10) (fun r100 hr101 => ?_)
      obtain ⟨i102, ⟨u105, u106, u107, u108⟩, p103, p104⟩ := hr101
      have u109 := kp_t u17 u105
      have v110 : q_V r100 = q_V δ := (u106).trans v18
      have v111 := kr_t v19 u108
      have f112 := cb_12_5 i102 k_a0
      have f113 : (q_I r8.2 12 5 a0).toInt = (q_I δ 12 5 a0).toInt := congrArg Int32.toInt (u13 12 5 a0 (by decide))
      have nh114 : NH ad a0 r8.2 r100 := ⟨u108 103 (by decide) (by decide) (by decide), u105 12 10 _ (by decide), u105 12 18 _ (by decide)⟩
      unfold J_X12_shape_247
      refine ok_bind (k_X12_fine L hN (a0 := a0) k_a0 i102) (fun r115 hr116 => ?_)
      obtain ⟨i117, p118, p119, p120⟩ := hr116
      try rw [i117]
      have f121 := bo_l p118
      have f122 := ti_b r115.1
      refine ok_ite (fun h123 => ?_) (fun h123 => ?_)
      · have c124 : r115.1.toInt = (0 : Int) := o_eq h123
        have f125 : (q_I r100 12 4 a0).toInt = (q_I r8.2 12 4 a0).toInt := congrArg Int32.toInt (u105 12 4 a0 (by decide))
        refine ok_mono (kj_X12_shape_258 L hN (K49 := K49) (a0 := a0) (x1 := x1) (x2v := x2v) (x3v := x3v) (x4v := xs0) (x5v := x5v) h_kt49 k_a0 (show (q_I r100 12 5 a0).toInt < 0 → 2 ≤ (x2v).toInt ∧ (x2v).toInt ≤ 16 ∧ 1 ≤ (x3v).toInt ∧ (x3v).toInt ≤ 5 by first | with_reducible assumption | omega) (show (xs0).toInt = 0 ∨ (xs0).toInt = 1 by first | with_reducible assumption | omega) (show 501 - (q_I r100 12 4 a0).toInt < K49 by first | with_reducible assumption | omega) i102) (fun r126 hr127 => ?_)
        obtain ⟨i128, ⟨u131, u132, u133⟩, p129, p130⟩ := hr127
        have u134 := kp_t u109 u131
        have v135 : q_V r126.2 = q_V δ := (u132).trans v110
        have v136 := kr_t v111 u133
        have f137 := cb_12_2 i128 k_a0
        have f138 : (q_I r100 12 2 a0).toInt = (q_I δ 12 2 a0).toInt := ((show (q_I r100 12 2 a0).toInt = (q_I r8.2 12 2 a0).toInt from congrArg Int32.toInt (u105 12 2 a0 (by decide))).trans (show (q_I r8.2 12 2 a0).toInt = (q_I δ 12 2 a0).toInt from congrArg Int32.toInt (u13 12 2 a0 (by decide))))
        have f139 := cb_12_2 I k_a0
        have f140 := ti_b r126.1
        have sh141 : NH ad a0 δ r8.2 := NH.t NH.r nh28
        have sh142 : NH ad a0 δ r100 := NH.t sh141 nh114
        have sh143 : SHP ad a0 δ r126.2 := SHP.pre sh142 p130
        exact ⟨by first | with_reducible assumption | assumption, ⟨kp_w (by decide) u134, v135, kr_w (by decide) v136⟩, by first | with_reducible assumption | omega, sh143⟩
      · have c144 : r115.1.toInt ≠ (0 : Int) := o_ne h123
        refine ok_bind (k_X12_pass L hN (a0 := a0) k_a0 i102) (fun r145 hr146 => ?_)
        obtain ⟨i147, ⟨u150, u151, u152, u153⟩, p148, p149⟩ := hr146
        have u154 := kp_t u109 u150
        have v155 : q_V r145 = q_V δ := (u151).trans v110
        have v156 := kr_t v111 u153
        have f157 : (q_I r100 12 4 a0).toInt = (q_I r8.2 12 4 a0).toInt := congrArg Int32.toInt (u105 12 4 a0 (by decide))
        have f158 := cb_12_4 i147 k_a0
        have f159 : hc ad r100 a0 = (q_R r100 (Ad ad 101) (q_I r100 12 4 a0).toNatClampNeg).toInt := rfl
        have t160 := ti_tn (q_I r100 12 4 a0)
        have f161 : (q_R r100 (Ad ad 101) (q_I r100 12 4 a0).toNatClampNeg).toInt = (q_R r8.2 (Ad ad 101) (q_I r100 12 4 a0).toNatClampNeg).toInt := congrArg Int32.toInt (congrFun (u108 101 (by decide) (by decide) (by decide)) _)
        have f162 : (q_R r8.2 (Ad ad 101) (q_I r100 12 4 a0).toNatClampNeg).toInt = (q_R δ (Ad ad 101) (q_I r100 12 4 a0).toNatClampNeg).toInt := congrArg Int32.toInt (congrFun (u16 101 (by decide) (by decide) (by decide)) _)
        have f163 := ti_b (q_R δ (Ad ad 101) (q_I r100 12 4 a0).toNatClampNeg)
        have f164 := ti_b (q_R r8.2 (Ad ad 101) (q_I r100 12 4 a0).toNatClampNeg)
        have f165 := ti_b (q_R r100 (Ad ad 101) (q_I r100 12 4 a0).toNatClampNeg)
        have f166 : (q_I r100 12 3 a0).toInt = (q_I δ 12 3 a0).toInt := ((show (q_I r100 12 3 a0).toInt = (q_I r8.2 12 3 a0).toInt from congrArg Int32.toInt (u105 12 3 a0 (by decide))).trans (show (q_I r8.2 12 3 a0).toInt = (q_I δ 12 3 a0).toInt from congrArg Int32.toInt (u13 12 3 a0 (by decide))))
        have nh167 : NH ad a0 r100 r145 := ⟨u153 103 (by decide) (by decide) (by decide), u150 12 10 _ (by decide), u150 12 18 _ (by decide)⟩
        have f168 : (q_I r145 12 5 a0).toInt = (q_I r100 12 5 a0).toInt := congrArg Int32.toInt (u150 12 5 a0 (by decide))
        refine ok_mono (kj_X12_shape_258 L hN (K49 := K49) (a0 := a0) (x1 := x1) (x2v := x2v) (x3v := x3v) (x4v := xs0) (x5v := x5v) h_kt49 k_a0 (show (q_I r145 12 5 a0).toInt < 0 → 2 ≤ (x2v).toInt ∧ (x2v).toInt ≤ 16 ∧ 1 ≤ (x3v).toInt ∧ (x3v).toInt ≤ 5 by first | with_reducible assumption | omega) (show (xs0).toInt = 0 ∨ (xs0).toInt = 1 by first | with_reducible assumption | omega) (show 501 - (q_I r145 12 4 a0).toInt < K49 by first | with_reducible assumption | omega) i147) (fun r169 hr170 => ?_)
        obtain ⟨i171, ⟨u174, u175, u176⟩, p172, p173⟩ := hr170
        have u177 := kp_t u154 u174
        have v178 : q_V r169.2 = q_V δ := (u175).trans v155
        have v179 := kr_t v156 u176
        have f180 := cb_12_2 i171 k_a0
        have f181 : (q_I r145 12 2 a0).toInt = (q_I δ 12 2 a0).toInt := ((show (q_I r145 12 2 a0).toInt = (q_I r100 12 2 a0).toInt from congrArg Int32.toInt (u150 12 2 a0 (by decide))).trans ((show (q_I r100 12 2 a0).toInt = (q_I r8.2 12 2 a0).toInt from congrArg Int32.toInt (u105 12 2 a0 (by decide))).trans (show (q_I r8.2 12 2 a0).toInt = (q_I δ 12 2 a0).toInt from congrArg Int32.toInt (u13 12 2 a0 (by decide)))))
        have f182 := cb_12_2 I k_a0
        have f183 := ti_b r169.1
        have sh184 : NH ad a0 δ r8.2 := NH.t NH.r nh28
        have sh185 : NH ad a0 δ r100 := NH.t sh184 nh114
        have sh186 : NH ad a0 δ r145 := NH.t sh185 nh167
        have sh187 : SHP ad a0 δ r169.2 := SHP.pre sh186 p173
        exact ⟨by first | with_reducible assumption | assumption, ⟨kp_w (by decide) u177, v178, kr_w (by decide) v179⟩, by first | with_reducible assumption | omega, sh187⟩
  · have c188 : xs0.toInt ≠ (0 : Int) := o_ne h6
    unfold J_X12_shape_247
    refine ok_bind (k_X12_fine L hN (a0 := a0) k_a0 I) (fun r189 hr190 => ?_)
    obtain ⟨i191, p192, p193, p194⟩ := hr190
    try rw [i191]
    have f195 := bo_l p192
    have f196 := ti_b r189.1
    refine ok_ite (fun h197 => ?_) (fun h197 => ?_)
    · have c198 : r189.1.toInt = (0 : Int) := o_eq h197
      refine ok_mono (kj_X12_shape_258 L hN (K49 := K49) (a0 := a0) (x1 := x1) (x2v := x2v) (x3v := x3v) (x4v := xs0) (x5v := x5v) h_kt49 k_a0 (show (q_I δ 12 5 a0).toInt < 0 → 2 ≤ (x2v).toInt ∧ (x2v).toInt ≤ 16 ∧ 1 ≤ (x3v).toInt ∧ (x3v).toInt ≤ 5 by first | with_reducible assumption | omega) (show (xs0).toInt = 0 ∨ (xs0).toInt = 1 by first | with_reducible assumption | omega) (show 501 - (q_I δ 12 4 a0).toInt < K49 by first | with_reducible assumption | omega) I) (fun r199 hr200 => ?_)
      obtain ⟨i201, ⟨u204, u205, u206⟩, p202, p203⟩ := hr200
      have u207 := kp_t kp_r u204
      have v208 : q_V r199.2 = q_V δ := (u205).trans rfl
      have v209 := kr_t (kr_r (ad := ad)) u206
      have f210 := cb_12_2 i201 k_a0
      have f211 := cb_12_2 I k_a0
      have f212 := ti_b r199.1
      have sh213 : SHP ad a0 δ r199.2 := SHP.pre NH.r p203
      exact ⟨by first | with_reducible assumption | assumption, ⟨kp_w (by decide) u207, v208, kr_w (by decide) v209⟩, by first | with_reducible assumption | omega, sh213⟩
    · have c214 : r189.1.toInt ≠ (0 : Int) := o_ne h197
      refine ok_bind (k_X12_pass L hN (a0 := a0) k_a0 I) (fun r215 hr216 => ?_)
      obtain ⟨i217, ⟨u220, u221, u222, u223⟩, p218, p219⟩ := hr216
      have u224 := kp_t kp_r u220
      have v225 : q_V r215 = q_V δ := (u221).trans rfl
      have v226 := kr_t (kr_r (ad := ad)) u223
      have f227 := cb_12_4 i217 k_a0
      have f228 : hc ad δ a0 = (q_R δ (Ad ad 101) (q_I δ 12 4 a0).toNatClampNeg).toInt := rfl
      have t229 := ti_tn (q_I δ 12 4 a0)
      have f230 := ti_b (q_R δ (Ad ad 101) (q_I δ 12 4 a0).toNatClampNeg)
      have f231 := cb_12_3 I k_a0
      have nh232 : NH ad a0 δ r215 := ⟨u223 103 (by decide) (by decide) (by decide), u220 12 10 _ (by decide), u220 12 18 _ (by decide)⟩
      have f233 : (q_I r215 12 5 a0).toInt = (q_I δ 12 5 a0).toInt := congrArg Int32.toInt (u220 12 5 a0 (by decide))
      refine ok_mono (kj_X12_shape_258 L hN (K49 := K49) (a0 := a0) (x1 := x1) (x2v := x2v) (x3v := x3v) (x4v := xs0) (x5v := x5v) h_kt49 k_a0 (show (q_I r215 12 5 a0).toInt < 0 → 2 ≤ (x2v).toInt ∧ (x2v).toInt ≤ 16 ∧ 1 ≤ (x3v).toInt ∧ (x3v).toInt ≤ 5 by first | with_reducible assumption | omega) (show (xs0).toInt = 0 ∨ (xs0).toInt = 1 by first | with_reducible assumption | omega) (show 501 - (q_I r215 12 4 a0).toInt < K49 by first | with_reducible assumption | omega) i217) (fun r234 hr235 => ?_)
      obtain ⟨i236, ⟨u239, u240, u241⟩, p237, p238⟩ := hr235
      have u242 := kp_t u224 u239
      have v243 : q_V r234.2 = q_V δ := (u240).trans v225
      have v244 := kr_t v226 u241
      have f245 := cb_12_2 i236 k_a0
      have f246 : (q_I r215 12 2 a0).toInt = (q_I δ 12 2 a0).toInt := congrArg Int32.toInt (u220 12 2 a0 (by decide))
      have f247 := cb_12_2 I k_a0
      have f248 := ti_b r234.1
      have sh249 : NH ad a0 δ r215 := NH.t NH.r nh232
      have sh250 : SHP ad a0 δ r234.2 := SHP.pre sh249 p238
      exact ⟨by first | with_reducible assumption | assumption, ⟨kp_w (by decide) u242, v243, kr_w (by decide) v244⟩, by first | with_reducible assumption | omega, sh250⟩
set_option maxHeartbeats 4000000 in
theorem kj_X12_shape_148 {ad : List Nat} {h : hp} (L : Lay TLx ad h) {δ0 : dp} {N : Nat} (hN : 10000000 ≤ N) {a0 : Nat} {x1 : Int32} {kt49 : Int32 → Int32 → Int32 → Int32 → dp → Option (Int32 × dp)} {K49 : Int} (h_kt49 : ∀ (x2v : Int32) (x3v : Int32) (x4v : Int32) (x5v : Int32) (δ : dp), RI ad h.1 δ0 δ → ((q_I δ 12 5 a0).toInt < 0 → 2 ≤ (x2v).toInt ∧ (x2v).toInt ≤ 16 ∧ 1 ≤ (x3v).toInt ∧ (x3v).toInt ≤ 5) → ((x4v).toInt = 0 ∨ (x4v).toInt = 1) → 501 - (q_I δ 12 4 a0).toInt < K49 → ok (kt49 x2v x3v x4v x5v δ) (fun r => RI ad h.1 δ0 r.2 ∧ (kp [(12, 0), (12, 2), (12, 3), (12, 4), (12, 5), (12, 6), (12, 7), (12, 8), (12, 10), (12, 11), (12, 12), (12, 18)] δ r.2 ∧ q_V r.2 = q_V δ ∧ kr ad [100, 103, 106] δ r.2) ∧ (q_I r.2 12 2 a0).toInt = (q_I δ 12 2 a0).toInt ∧ SHP ad a0 δ r.2)) {x2v : Int32} {x3v : Int32} {x4v : Int32} {x5v : Int32} {x6v : Int32} (k_a0 : q_K h.1 a0 = 12) {δ : dp} (z0 : (q_I δ 12 5 a0).toInt < 0 → 2 ≤ (x2v).toInt ∧ (x2v).toInt ≤ 16 ∧ 1 ≤ (x3v).toInt ∧ (x3v).toInt ≤ 5) (z1 : (x4v).toInt = 0 ∨ (x4v).toInt = 1) (z2 : (q_I δ 12 5 a0).toInt < 0 → (q_I δ 12 4 a0).toInt < (q_I δ 12 3 a0).toInt ∧ 97 ≤ hc ad δ a0 ∧ hc ad δ a0 ≤ 122) (z3 : 501 - (q_I δ 12 4 a0).toInt ≤ K49) (I : RI ad h.1 δ0 δ) : ok (J_X12_shape_148 N h.1 a0 x1 kt49 x2v x3v x4v x5v x6v δ) (fun r => RI ad h.1 δ0 r.2 ∧ (kp [(12, 0), (12, 2), (12, 3), (12, 4), (12, 5), (12, 6), (12, 7), (12, 8), (12, 10), (12, 11), (12, 12), (12, 18)] δ r.2 ∧ q_V r.2 = q_V δ ∧ kr ad [100, 103, 106] δ r.2) ∧ (q_I r.2 12 2 a0).toInt = (q_I δ 12 2 a0).toInt ∧ SHP ad a0 δ r.2) := by
  unfold J_X12_shape_148
  have f1 : hc ad δ a0 = (q_R δ (Ad ad 101) (q_I δ 12 4 a0).toNatClampNeg).toInt := rfl
  have f2 := cb_12_4 I k_a0
  have t3 := ti_tn (q_I δ 12 4 a0)
  have f4 := ti_b (q_R δ (Ad ad 101) (q_I δ 12 4 a0).toNatClampNeg)
  have f5 := cb_12_5 I k_a0
  have f6 := ti_b x2v
  have f7 := ti_b x3v
  have f8 := ti_b x4v
  have f9 := cb_12_3 I k_a0
  refine ok_bind (k_X12_fine L hN (a0 := a0) k_a0 I) (fun r10 hr11 => ?_)
  obtain ⟨i12, p13, p14, p15⟩ := hr11
  try rw [i12]
  have f16 := bo_l p13
  have f17 := ti_b r10.1
  refine ok_ite (fun h18 => ?_) (fun h18 => ?_)
  · have c19 : r10.1.toInt = (0 : Int) := o_eq h18
    unfold J_X12_shape_267
    refine ok_bind (k_X12_fine L hN (a0 := a0) k_a0 I) (fun r20 hr21 => ?_)
    obtain ⟨i22, p23, p24, p25⟩ := hr21
    try rw [i22]
    have f26 := bo_l p23
    have f27 := ti_b r20.1
    refine ok_ite (fun h28 => ?_) (fun h28 => ?_)
    · have c29 : r20.1.toInt = (0 : Int) := o_eq h28
      refine ok_bind (k_X12_result L hN (a0 := a0) (x1 := (0 : Int32)) k_a0 I) (fun r30 hr31 => ?_)
      obtain ⟨i32, ⟨u34, u35, u36, u37⟩, p33⟩ := hr31
      have u38 := kp_t kp_r u34
      have v39 : q_V r30.2 = q_V δ := (u35).trans rfl
      have v40 := kr_t (kr_r (ad := ad)) u37
      have f41 := ti_b r30.1
      have nh42 : NH ad a0 δ r30.2 := ⟨u37 103 (by decide) (by decide) (by decide), u34 12 10 _ (by decide), u34 12 18 _ (by decide)⟩
      have f43 : (q_I r30.2 12 2 a0).toInt = (q_I δ 12 2 a0).toInt := congrArg Int32.toInt (u34 12 2 a0 (by decide))
      have f44 := cb_12_2 I k_a0
      have sh45 : NH ad a0 δ r30.2 := NH.t NH.r nh42
      exact ok_some (show RI ad h.1 δ0 r30.2 ∧ (kp [(12, 0), (12, 2), (12, 3), (12, 4), (12, 5), (12, 6), (12, 7), (12, 8), (12, 10), (12, 11), (12, 12), (12, 18)] δ r30.2 ∧ q_V r30.2 = q_V δ ∧ kr ad [100, 103, 106] δ r30.2) ∧ (q_I r30.2 12 2 a0).toInt = (q_I δ 12 2 a0).toInt ∧ SHP ad a0 δ r30.2 from ⟨i32, ⟨kp_w (by decide) u38, v39, kr_w (by decide) v40⟩, by first | with_reducible assumption | omega, SHP.n sh45⟩)
    · have c46 : r20.1.toInt ≠ (0 : Int) := o_ne h28
      refine ok_bdv (fun d47 e48 => ?_)
      have i49 : RI ad h.1 δ0 d47 := by rw [e48]; exact cs_12_10 L I k_a0 (show 2 ≤ x2v.toInt by omega) (show x2v.toInt ≤ 16 by omega)
      have u50 := kp_I kp_r e48
      have v51 : q_V d47 = q_V δ := ((show q_V d47 = q_V δ by rw [e48]; rfl)).trans rfl
      have v52 := kr_N (kr_r (ad := ad)) (show q_R d47 = q_R δ by rw [e48]; rfl)
      refine ok_bdv (fun d53 e54 => ?_)
      have i55 : RI ad h.1 δ0 d53 := by rw [e54]; exact cs_12_11 L i49 k_a0 (show 1 ≤ x3v.toInt by omega) (show x3v.toInt ≤ 5 by omega)
      have u56 := kp_I u50 e54
      have v57 : q_V d53 = q_V δ := ((show q_V d53 = q_V d47 by rw [e54]; rfl)).trans v51
      have v58 := kr_N v52 (show q_R d53 = q_R d47 by rw [e54]; rfl)
      refine ok_gp (show bo x4v by first | assumption | exact bo_0 | exact bo_1 | exact bo_i (by omega) (by omega)) ?_
      refine ok_bdv (fun d59 e60 => ?_)
      have i61 : RI ad h.1 δ0 d59 := by rw [e60]; exact cs_12_12 L i55 k_a0 (show 0 ≤ x4v.toInt by omega) (show x4v.toInt ≤ 1 by omega)
      have u62 := kp_I u56 e60
      have v63 : q_V d59 = q_V δ := ((show q_V d59 = q_V d53 by rw [e60]; rfl)).trans v57
      have v64 := kr_N v58 (show q_R d59 = q_R d53 by rw [e60]; rfl)
      refine ok_mono (kl_X12_shape_299 L hN   k_a0 _ (0 : Int32) d59 i61 (show 0 ≤ (0 : Int) by first | with_reducible assumption | omega) (show (0 : Int) ≤ 4 by first | with_reducible assumption | omega) (show 4 - (0 : Int) < _ by omega)) (fun r65 hr66 => ?_)
      obtain ⟨i67, ⟨u70, u71, u72⟩, p68, p69⟩ := hr66
      have u73 := kp_t u62 u70
      have v74 : q_V r65.2 = q_V δ := (u71).trans v63
      have v75 := kr_t v64 u72
      have f76 := cb_12_2 i67 k_a0
      have f77 : (q_I d59 12 2 a0).toInt = (q_I δ 12 2 a0).toInt := ((show (q_I d59 12 2 a0).toInt = (q_I d53 12 2 a0).toInt from congrArg Int32.toInt (by rw [e60]; exact rI_o (by decide))).trans ((show (q_I d53 12 2 a0).toInt = (q_I d47 12 2 a0).toInt from congrArg Int32.toInt (by rw [e54]; exact rI_o (by decide))).trans (show (q_I d47 12 2 a0).toInt = (q_I δ 12 2 a0).toInt from congrArg Int32.toInt (by rw [e48]; exact rI_o (by decide)))))
      have f78 := cb_12_2 I k_a0
      have f79 := ti_b r65.1
      exact ⟨by first | with_reducible assumption | assumption, ⟨kp_w (by decide) u73, v74, kr_w (by decide) v75⟩, by first | with_reducible assumption | omega, SHP.z (p69 rfl)⟩
  · have c80 : r10.1.toInt ≠ (0 : Int) := o_ne h18
    have f83 := ti_b (x5v ||| x6v)
    refine ok_biv (fun vx81 e82 => ?_)
    have f84 : vx81.toInt = (x5v ||| x6v).toInt := congrArg Int32.toInt e82
    refine ok_bind (k_X12_pass L hN (a0 := a0) k_a0 I) (fun r85 hr86 => ?_)
    obtain ⟨i87, ⟨u90, u91, u92, u93⟩, p88, p89⟩ := hr86
    have u94 := kp_t kp_r u90
    have v95 : q_V r85 = q_V δ := (u91).trans rfl
    have v96 := kr_t (kr_r (ad := ad)) u93
    have f97 := cb_12_4 i87 k_a0
    have nh98 : NH ad a0 δ r85 := ⟨u93 103 (by decide) (by decide) (by decide), u90 12 10 _ (by decide), u90 12 18 _ (by decide)⟩
    have f99 := ti_b x6v
    refine ok_ite (fun h100 => ?_) (fun h100 => ?_)
    · have c101 : x6v.toInt = (1 : Int) := o_eq h100
      refine ok_bind (k_X12_readNumber L hN (a0 := a0) (x1 := (2 : Int32)) (x2 := (16 : Int32)) k_a0 i87) (fun r102 hr103 => ?_)
      obtain ⟨i104, ⟨u111, u112, u113, u114⟩, p105, p106, p107, p108, p109, p110⟩ := hr103
      have u115 := kp_t u94 u111
      have v116 : q_V r102.2 = q_V δ := (u112).trans v95
      have v117 := kr_t v96 u114
      have f118 := cb_12_4 i104 k_a0
      have f119 : (q_I r85 12 5 a0).toInt = (q_I δ 12 5 a0).toInt := congrArg Int32.toInt (u90 12 5 a0 (by decide))
      have f120 := cb_12_5 i104 k_a0
      have f121 := ti_b r102.1
      replace p110 : ((q_I r102.2 12 5 a0).toInt < 0 → (2 : Int) ≤ (r102.1).toInt ∧ (r102.1).toInt ≤ (16 : Int)) := p110
      have nh122 : NH ad a0 r85 r102.2 := ⟨u114 103 (by decide) (by decide) (by decide), u111 12 10 _ (by decide), u111 12 18 _ (by decide)⟩
      refine ok_mono (kj_X12_shape_258 L hN (K49 := K49) (a0 := a0) (x1 := x1) (x2v := r102.1) (x3v := x3v) (x4v := x4v) (x5v := vx81) h_kt49 k_a0 (show (q_I r102.2 12 5 a0).toInt < 0 → 2 ≤ (r102.1).toInt ∧ (r102.1).toInt ≤ 16 ∧ 1 ≤ (x3v).toInt ∧ (x3v).toInt ≤ 5 by first | with_reducible assumption | omega) (show (x4v).toInt = 0 ∨ (x4v).toInt = 1 by first | with_reducible assumption | omega) (show 501 - (q_I r102.2 12 4 a0).toInt < K49 by first | with_reducible assumption | omega) i104) (fun r123 hr124 => ?_)
      obtain ⟨i125, ⟨u128, u129, u130⟩, p126, p127⟩ := hr124
      have u131 := kp_t u115 u128
      have v132 : q_V r123.2 = q_V δ := (u129).trans v116
      have v133 := kr_t v117 u130
      have f134 := cb_12_2 i125 k_a0
      have f135 : (q_I r102.2 12 2 a0).toInt = (q_I δ 12 2 a0).toInt := ((show (q_I r102.2 12 2 a0).toInt = (q_I r85 12 2 a0).toInt from congrArg Int32.toInt (u111 12 2 a0 (by decide))).trans (show (q_I r85 12 2 a0).toInt = (q_I δ 12 2 a0).toInt from congrArg Int32.toInt (u90 12 2 a0 (by decide))))
      have f136 := cb_12_2 I k_a0
      have f137 := ti_b r123.1
      have sh138 : NH ad a0 δ r85 := NH.t NH.r nh98
      have sh139 : NH ad a0 δ r102.2 := NH.t sh138 nh122
      have sh140 : SHP ad a0 δ r123.2 := SHP.pre sh139 p127
      exact ⟨by first | with_reducible assumption | assumption, ⟨kp_w (by decide) u131, v132, kr_w (by decide) v133⟩, by first | with_reducible assumption | omega, sh140⟩
    · have c141 : x6v.toInt ≠ (1 : Int) := o_ne h100
      refine ok_ite (fun h142 => ?_) (fun h142 => ?_)
      · have c143 : x6v.toInt = (4 : Int) := o_eq h142
        refine ok_bind (k_X12_readNumber L hN (a0 := a0) (x1 := (1 : Int32)) (x2 := (5 : Int32)) k_a0 i87) (fun r144 hr145 => ?_)
        obtain ⟨i146, ⟨u153, u154, u155, u156⟩, p147, p148, p149, p150, p151, p152⟩ := hr145
        have u157 := kp_t u94 u153
        have v158 : q_V r144.2 = q_V δ := (u154).trans v95
        have v159 := kr_t v96 u156
        have f160 := cb_12_4 i146 k_a0
        have f161 : (q_I r85 12 5 a0).toInt = (q_I δ 12 5 a0).toInt := congrArg Int32.toInt (u90 12 5 a0 (by decide))
        have f162 := cb_12_5 i146 k_a0
        have f163 := ti_b r144.1
        replace p152 : ((q_I r144.2 12 5 a0).toInt < 0 → (1 : Int) ≤ (r144.1).toInt ∧ (r144.1).toInt ≤ (5 : Int)) := p152
        have nh164 : NH ad a0 r85 r144.2 := ⟨u156 103 (by decide) (by decide) (by decide), u153 12 10 _ (by decide), u153 12 18 _ (by decide)⟩
        refine ok_mono (kj_X12_shape_258 L hN (K49 := K49) (a0 := a0) (x1 := x1) (x2v := x2v) (x3v := r144.1) (x4v := x4v) (x5v := vx81) h_kt49 k_a0 (show (q_I r144.2 12 5 a0).toInt < 0 → 2 ≤ (x2v).toInt ∧ (x2v).toInt ≤ 16 ∧ 1 ≤ (r144.1).toInt ∧ (r144.1).toInt ≤ 5 by first | with_reducible assumption | omega) (show (x4v).toInt = 0 ∨ (x4v).toInt = 1 by first | with_reducible assumption | omega) (show 501 - (q_I r144.2 12 4 a0).toInt < K49 by first | with_reducible assumption | omega) i146) (fun r165 hr166 => ?_)
        obtain ⟨i167, ⟨u170, u171, u172⟩, p168, p169⟩ := hr166
        have u173 := kp_t u157 u170
        have v174 : q_V r165.2 = q_V δ := (u171).trans v158
        have v175 := kr_t v159 u172
        have f176 := cb_12_2 i167 k_a0
        have f177 : (q_I r144.2 12 2 a0).toInt = (q_I δ 12 2 a0).toInt := ((show (q_I r144.2 12 2 a0).toInt = (q_I r85 12 2 a0).toInt from congrArg Int32.toInt (u153 12 2 a0 (by decide))).trans (show (q_I r85 12 2 a0).toInt = (q_I δ 12 2 a0).toInt from congrArg Int32.toInt (u90 12 2 a0 (by decide))))
        have f178 := cb_12_2 I k_a0
        have f179 := ti_b r165.1
        have sh180 : NH ad a0 δ r85 := NH.t NH.r nh98
        have sh181 : NH ad a0 δ r144.2 := NH.t sh180 nh164
        have sh182 : SHP ad a0 δ r165.2 := SHP.pre sh181 p169
        exact ⟨by first | with_reducible assumption | assumption, ⟨kp_w (by decide) u173, v174, kr_w (by decide) v175⟩, by first | with_reducible assumption | omega, sh182⟩
      · have c183 : x6v.toInt ≠ (4 : Int) := o_ne h142
        refine ok_bind (k_X12_word L hN (a0 := a0) k_a0 i87) (fun r184 hr185 => ?_)
        obtain ⟨i186, ⟨u189, u190, u191, u192⟩, p187, p188⟩ := hr185
        have u193 := kp_t u94 u189
        have v194 : q_V r184.2 = q_V δ := (u190).trans v95
        have v195 := kr_t v96 u192
        have f196 := cb_12_4 i186 k_a0
        have f197 : hc ad r184.2 a0 = (q_R r184.2 (Ad ad 101) (q_I r184.2 12 4 a0).toNatClampNeg).toInt := rfl
        have t198 := ti_tn (q_I r184.2 12 4 a0)
        have f199 : (q_R r184.2 (Ad ad 101) (q_I r184.2 12 4 a0).toNatClampNeg).toInt = (q_R r85 (Ad ad 101) (q_I r184.2 12 4 a0).toNatClampNeg).toInt := congrArg Int32.toInt (congrFun (u192 101 (by decide) (by decide) (by decide)) _)
        have f200 : (q_R r85 (Ad ad 101) (q_I r184.2 12 4 a0).toNatClampNeg).toInt = (q_R δ (Ad ad 101) (q_I r184.2 12 4 a0).toNatClampNeg).toInt := congrArg Int32.toInt (congrFun (u93 101 (by decide) (by decide) (by decide)) _)
        have f201 := ti_b (q_R δ (Ad ad 101) (q_I r184.2 12 4 a0).toNatClampNeg)
        have f202 := ti_b (q_R r85 (Ad ad 101) (q_I r184.2 12 4 a0).toNatClampNeg)
        have f203 := ti_b (q_R r184.2 (Ad ad 101) (q_I r184.2 12 4 a0).toNatClampNeg)
        have f204 := ti_b r184.1
        have f205 : (q_I r85 12 3 a0).toInt = (q_I δ 12 3 a0).toInt := congrArg Int32.toInt (u90 12 3 a0 (by decide))
        have nh206 : NH ad a0 r85 r184.2 := ⟨u192 103 (by decide) (by decide) (by decide), u189 12 10 _ (by decide), u189 12 18 _ (by decide)⟩
        refine ok_bind (k_X12_of L hN (a0 := 3) (show 3 < 16 by first | with_reducible assumption | omega) i186) (fun r207 hr208 => ?_)
        obtain ⟨i209, p210⟩ := hr208
        try rw [i209]
        have f211 := ti_b r207.1
        refine ok_ite (fun h212 => ?_) (fun h212 => ?_)
        · have c213 : r184.1.toInt = r207.1.toInt := o_eq h212
          have f214 : (q_I r184.2 12 5 a0).toInt = (q_I δ 12 5 a0).toInt := ((show (q_I r184.2 12 5 a0).toInt = (q_I r85 12 5 a0).toInt from congrArg Int32.toInt (u189 12 5 a0 (by decide))).trans (show (q_I r85 12 5 a0).toInt = (q_I δ 12 5 a0).toInt from congrArg Int32.toInt (u90 12 5 a0 (by decide))))
          refine ok_mono (kj_X12_shape_219 L hN (K49 := K49) (a0 := a0) (x1 := x1) (xs0 := (1 : Int32)) (x2v := x2v) (x3v := x3v) (x5v := vx81) h_kt49 k_a0 (show (q_I r184.2 12 5 a0).toInt < 0 → 2 ≤ (x2v).toInt ∧ (x2v).toInt ≤ 16 ∧ 1 ≤ (x3v).toInt ∧ (x3v).toInt ≤ 5 by first | with_reducible assumption | omega) (show (1 : Int) = 0 ∨ (1 : Int) = 1 by first | with_reducible assumption | omega) (show 501 - (q_I r184.2 12 4 a0).toInt < K49 by first | with_reducible assumption | omega) i186) (fun r215 hr216 => ?_)
          obtain ⟨i217, ⟨u220, u221, u222⟩, p218, p219⟩ := hr216
          have u223 := kp_t u193 u220
          have v224 : q_V r215.2 = q_V δ := (u221).trans v194
          have v225 := kr_t v195 u222
          have f226 := cb_12_2 i217 k_a0
          have f227 : (q_I r184.2 12 2 a0).toInt = (q_I δ 12 2 a0).toInt := ((show (q_I r184.2 12 2 a0).toInt = (q_I r85 12 2 a0).toInt from congrArg Int32.toInt (u189 12 2 a0 (by decide))).trans (show (q_I r85 12 2 a0).toInt = (q_I δ 12 2 a0).toInt from congrArg Int32.toInt (u90 12 2 a0 (by decide))))
          have f228 := cb_12_2 I k_a0
          have f229 := ti_b r215.1
          have sh230 : NH ad a0 δ r85 := NH.t NH.r nh98
          have sh231 : NH ad a0 δ r184.2 := NH.t sh230 nh206
          have sh232 : SHP ad a0 δ r215.2 := SHP.pre sh231 p219
          exact ⟨by first | with_reducible assumption | assumption, ⟨kp_w (by decide) u223, v224, kr_w (by decide) v225⟩, by first | with_reducible assumption | omega, sh232⟩
        · have c233 : r184.1.toInt ≠ r207.1.toInt := o_ne h212
          have f234 : (q_I r184.2 12 5 a0).toInt = (q_I δ 12 5 a0).toInt := ((show (q_I r184.2 12 5 a0).toInt = (q_I r85 12 5 a0).toInt from congrArg Int32.toInt (u189 12 5 a0 (by decide))).trans (show (q_I r85 12 5 a0).toInt = (q_I δ 12 5 a0).toInt from congrArg Int32.toInt (u90 12 5 a0 (by decide))))
          refine ok_mono (kj_X12_shape_219 L hN (K49 := K49) (a0 := a0) (x1 := x1) (xs0 := (0 : Int32)) (x2v := x2v) (x3v := x3v) (x5v := vx81) h_kt49 k_a0 (show (q_I r184.2 12 5 a0).toInt < 0 → 2 ≤ (x2v).toInt ∧ (x2v).toInt ≤ 16 ∧ 1 ≤ (x3v).toInt ∧ (x3v).toInt ≤ 5 by first | with_reducible assumption | omega) (show (0 : Int) = 0 ∨ (0 : Int) = 1 by first | with_reducible assumption | omega) (show 501 - (q_I r184.2 12 4 a0).toInt < K49 by first | with_reducible assumption | omega) i186) (fun r235 hr236 => ?_)
          obtain ⟨i237, ⟨u240, u241, u242⟩, p238, p239⟩ := hr236
          have u243 := kp_t u193 u240
          have v244 : q_V r235.2 = q_V δ := (u241).trans v194
          have v245 := kr_t v195 u242
          have f246 := cb_12_2 i237 k_a0
          have f247 : (q_I r184.2 12 2 a0).toInt = (q_I δ 12 2 a0).toInt := ((show (q_I r184.2 12 2 a0).toInt = (q_I r85 12 2 a0).toInt from congrArg Int32.toInt (u189 12 2 a0 (by decide))).trans (show (q_I r85 12 2 a0).toInt = (q_I δ 12 2 a0).toInt from congrArg Int32.toInt (u90 12 2 a0 (by decide))))
          have f248 := cb_12_2 I k_a0
          have f249 := ti_b r235.1
          have sh250 : NH ad a0 δ r85 := NH.t NH.r nh98
          have sh251 : NH ad a0 δ r184.2 := NH.t sh250 nh206
          have sh252 : SHP ad a0 δ r235.2 := SHP.pre sh251 p239
          exact ⟨by first | with_reducible assumption | assumption, ⟨kp_w (by decide) u243, v244, kr_w (by decide) v245⟩, by first | with_reducible assumption | omega, sh252⟩
set_option maxHeartbeats 4000000 in
theorem kj_X12_shape_112 {ad : List Nat} {h : hp} (L : Lay TLx ad h) {δ0 : dp} {N : Nat} (hN : 10000000 ≤ N) {a0 : Nat} {x1 : Int32} {kt49 : Int32 → Int32 → Int32 → Int32 → dp → Option (Int32 × dp)} {K49 : Int} (h_kt49 : ∀ (x2v : Int32) (x3v : Int32) (x4v : Int32) (x5v : Int32) (δ : dp), RI ad h.1 δ0 δ → ((q_I δ 12 5 a0).toInt < 0 → 2 ≤ (x2v).toInt ∧ (x2v).toInt ≤ 16 ∧ 1 ≤ (x3v).toInt ∧ (x3v).toInt ≤ 5) → ((x4v).toInt = 0 ∨ (x4v).toInt = 1) → 501 - (q_I δ 12 4 a0).toInt < K49 → ok (kt49 x2v x3v x4v x5v δ) (fun r => RI ad h.1 δ0 r.2 ∧ (kp [(12, 0), (12, 2), (12, 3), (12, 4), (12, 5), (12, 6), (12, 7), (12, 8), (12, 10), (12, 11), (12, 12), (12, 18)] δ r.2 ∧ q_V r.2 = q_V δ ∧ kr ad [100, 103, 106] δ r.2) ∧ (q_I r.2 12 2 a0).toInt = (q_I δ 12 2 a0).toInt ∧ SHP ad a0 δ r.2)) {xs0 : Int32} {x2v : Int32} {x3v : Int32} {x4v : Int32} {x5v : Int32} (k_a0 : q_K h.1 a0 = 12) {δ : dp} (z0 : (q_I δ 12 5 a0).toInt < 0 → 2 ≤ (x2v).toInt ∧ (x2v).toInt ≤ 16 ∧ 1 ≤ (x3v).toInt ∧ (x3v).toInt ≤ 5) (z1 : (x4v).toInt = 0 ∨ (x4v).toInt = 1) (z2 : (xs0).toInt = 0 ∨ (q_I δ 12 4 a0).toInt < (q_I δ 12 3 a0).toInt ∧ 97 ≤ hc ad δ a0 ∧ hc ad δ a0 ≤ 122) (z3 : 501 - (q_I δ 12 4 a0).toInt ≤ K49) (I : RI ad h.1 δ0 δ) : ok (J_X12_shape_112 N h.1 a0 x1 kt49 xs0 x2v x3v x4v x5v δ) (fun r => RI ad h.1 δ0 r.2 ∧ (kp [(12, 0), (12, 2), (12, 3), (12, 4), (12, 5), (12, 6), (12, 7), (12, 8), (12, 10), (12, 11), (12, 12), (12, 18)] δ r.2 ∧ q_V r.2 = q_V δ ∧ kr ad [100, 103, 106] δ r.2) ∧ (q_I r.2 12 2 a0).toInt = (q_I δ 12 2 a0).toInt ∧ SHP ad a0 δ r.2) := by
  unfold J_X12_shape_112
  have f1 : hc ad δ a0 = (q_R δ (Ad ad 101) (q_I δ 12 4 a0).toNatClampNeg).toInt := rfl
  have f2 := cb_12_4 I k_a0
  have t3 := ti_tn (q_I δ 12 4 a0)
  have f4 := ti_b (q_R δ (Ad ad 101) (q_I δ 12 4 a0).toNatClampNeg)
  have f5 := cb_12_5 I k_a0
  have f6 := ti_b x2v
  have f7 := ti_b x3v
  have f8 := ti_b x4v
  have f9 := ti_b xs0
  have f10 := cb_12_3 I k_a0
  refine ok_ite (fun h11 => ?_) (fun h11 => ?_)
  · have c12 : xs0.toInt = (0 : Int) := o_eq h11
    refine ok_bind (k_X12_wrong L hN (a0 := a0) (x1 := (1 : Int32)) (x2 := (q_I δ 12 4 a0)) k_a0 (show 0 ≤ ((q_I δ 12 4 a0)).toInt by first | with_reducible assumption | omega) (show ((q_I δ 12 4 a0)).toInt ≤ 500 by first | with_reducible assumption | omega) (show 0 ≤ (1 : Int) by first | with_reducible assumption | omega) (show (1 : Int) ≤ 4 by first | with_reducible assumption | omega) I) (fun r13 hr14 => ?_)
    obtain ⟨i15, ⟨u18, u19, u20, u21⟩, p16, p17⟩ := hr14
    have u22 := kp_t kp_r u18
    have v23 : q_V r13 = q_V δ := (u19).trans rfl
    have v24 := kr_t (kr_r (ad := ad)) u21
    have f25 := cb_12_5 i15 k_a0
    have nh26 : NH ad a0 δ r13 := ⟨u21 103 (by decide) (by decide) (by decide), u18 12 10 _ (by decide), u18 12 18 _ (by decide)⟩
    have f27 : hc ad r13 a0 = (q_R r13 (Ad ad 101) (q_I r13 12 4 a0).toNatClampNeg).toInt := rfl
    have f28 : (q_I r13 12 4 a0).toInt = (q_I δ 12 4 a0).toInt := congrArg Int32.toInt (u18 12 4 a0 (by decide))
    have t29 := ti_tn (q_I r13 12 4 a0)
    have f30 : (q_R r13 (Ad ad 101) (q_I r13 12 4 a0).toNatClampNeg).toInt = (q_R δ (Ad ad 101) (q_I r13 12 4 a0).toNatClampNeg).toInt := congrArg Int32.toInt (congrFun (u21 101 (by decide) (by decide) (by decide)) _)
    have f31 := ti_b (q_R δ (Ad ad 101) (q_I r13 12 4 a0).toNatClampNeg)
    have f32 := ti_b (q_R r13 (Ad ad 101) (q_I r13 12 4 a0).toNatClampNeg)
    have f33 : (q_I r13 12 3 a0).toInt = (q_I δ 12 3 a0).toInt := congrArg Int32.toInt (u18 12 3 a0 (by decide))
    refine ok_mono (kj_X12_shape_148 L hN (K49 := K49) (a0 := a0) (x1 := x1) (x2v := x2v) (x3v := x3v) (x4v := x4v) (x5v := x5v) (x6v := xs0) h_kt49 k_a0 (show (q_I r13 12 5 a0).toInt < 0 → 2 ≤ (x2v).toInt ∧ (x2v).toInt ≤ 16 ∧ 1 ≤ (x3v).toInt ∧ (x3v).toInt ≤ 5 by first | with_reducible assumption | omega) (show (x4v).toInt = 0 ∨ (x4v).toInt = 1 by first | with_reducible assumption | omega) (show (q_I r13 12 5 a0).toInt < 0 → (q_I r13 12 4 a0).toInt < (q_I r13 12 3 a0).toInt ∧ 97 ≤ hc ad r13 a0 ∧ hc ad r13 a0 ≤ 122 by first | with_reducible assumption | omega) (show 501 - (q_I r13 12 4 a0).toInt ≤ K49 by first | with_reducible assumption | omega) i15) (fun r34 hr35 => ?_)
    obtain ⟨i36, ⟨u39, u40, u41⟩, p37, p38⟩ := hr35
    have u42 := kp_t u22 u39
    have v43 : q_V r34.2 = q_V δ := (u40).trans v23
    have v44 := kr_t v24 u41
    have f45 := cb_12_2 i36 k_a0
    have f46 : (q_I r13 12 2 a0).toInt = (q_I δ 12 2 a0).toInt := congrArg Int32.toInt (u18 12 2 a0 (by decide))
    have f47 := cb_12_2 I k_a0
    have f48 := ti_b r34.1
    have sh49 : NH ad a0 δ r13 := NH.t NH.r nh26
    have sh50 : SHP ad a0 δ r34.2 := SHP.pre sh49 p38
    exact ⟨by first | with_reducible assumption | assumption, ⟨kp_w (by decide) u42, v43, kr_w (by decide) v44⟩, by first | with_reducible assumption | omega, sh50⟩
  · have c51 : xs0.toInt ≠ (0 : Int) := o_ne h11
    have f52 := ti_b (x5v &&& xs0)
    refine ok_ite (fun h53 => ?_) (fun h53 => ?_)
    · have c54 : (x5v &&& xs0).toInt = (0 : Int) := o_eq h53
      refine ok_mono (kj_X12_shape_148 L hN (K49 := K49) (a0 := a0) (x1 := x1) (x2v := x2v) (x3v := x3v) (x4v := x4v) (x5v := x5v) (x6v := xs0) h_kt49 k_a0 (show (q_I δ 12 5 a0).toInt < 0 → 2 ≤ (x2v).toInt ∧ (x2v).toInt ≤ 16 ∧ 1 ≤ (x3v).toInt ∧ (x3v).toInt ≤ 5 by first | with_reducible assumption | omega) (show (x4v).toInt = 0 ∨ (x4v).toInt = 1 by first | with_reducible assumption | omega) (show (q_I δ 12 5 a0).toInt < 0 → (q_I δ 12 4 a0).toInt < (q_I δ 12 3 a0).toInt ∧ 97 ≤ hc ad δ a0 ∧ hc ad δ a0 ≤ 122 by first | with_reducible assumption | omega) (show 501 - (q_I δ 12 4 a0).toInt ≤ K49 by first | with_reducible assumption | omega) I) (fun r55 hr56 => ?_)
      obtain ⟨i57, ⟨u60, u61, u62⟩, p58, p59⟩ := hr56
      have u63 := kp_t kp_r u60
      have v64 : q_V r55.2 = q_V δ := (u61).trans rfl
      have v65 := kr_t (kr_r (ad := ad)) u62
      have f66 := cb_12_2 i57 k_a0
      have f67 := cb_12_2 I k_a0
      have f68 := ti_b r55.1
      have sh69 : SHP ad a0 δ r55.2 := SHP.pre NH.r p59
      exact ⟨by first | with_reducible assumption | assumption, ⟨kp_w (by decide) u63, v64, kr_w (by decide) v65⟩, by first | with_reducible assumption | omega, sh69⟩
    · have c70 : (x5v &&& xs0).toInt ≠ (0 : Int) := o_ne h53
      refine ok_bind (k_X12_wrong L hN (a0 := a0) (x1 := (4 : Int32)) (x2 := (q_I δ 12 4 a0)) k_a0 (show 0 ≤ ((q_I δ 12 4 a0)).toInt by first | with_reducible assumption | omega) (show ((q_I δ 12 4 a0)).toInt ≤ 500 by first | with_reducible assumption | omega) (show 0 ≤ (4 : Int) by first | with_reducible assumption | omega) (show (4 : Int) ≤ 4 by first | with_reducible assumption | omega) I) (fun r71 hr72 => ?_)
      obtain ⟨i73, ⟨u76, u77, u78, u79⟩, p74, p75⟩ := hr72
      have u80 := kp_t kp_r u76
      have v81 : q_V r71 = q_V δ := (u77).trans rfl
      have v82 := kr_t (kr_r (ad := ad)) u79
      have f83 := cb_12_5 i73 k_a0
      have nh84 : NH ad a0 δ r71 := ⟨u79 103 (by decide) (by decide) (by decide), u76 12 10 _ (by decide), u76 12 18 _ (by decide)⟩
      have f85 : hc ad r71 a0 = (q_R r71 (Ad ad 101) (q_I r71 12 4 a0).toNatClampNeg).toInt := rfl
      have f86 : (q_I r71 12 4 a0).toInt = (q_I δ 12 4 a0).toInt := congrArg Int32.toInt (u76 12 4 a0 (by decide))
      have t87 := ti_tn (q_I r71 12 4 a0)
      have f88 : (q_R r71 (Ad ad 101) (q_I r71 12 4 a0).toNatClampNeg).toInt = (q_R δ (Ad ad 101) (q_I r71 12 4 a0).toNatClampNeg).toInt := congrArg Int32.toInt (congrFun (u79 101 (by decide) (by decide) (by decide)) _)
      have f89 := ti_b (q_R δ (Ad ad 101) (q_I r71 12 4 a0).toNatClampNeg)
      have f90 := ti_b (q_R r71 (Ad ad 101) (q_I r71 12 4 a0).toNatClampNeg)
      have f91 : (q_I r71 12 3 a0).toInt = (q_I δ 12 3 a0).toInt := congrArg Int32.toInt (u76 12 3 a0 (by decide))
      refine ok_mono (kj_X12_shape_148 L hN (K49 := K49) (a0 := a0) (x1 := x1) (x2v := x2v) (x3v := x3v) (x4v := x4v) (x5v := x5v) (x6v := xs0) h_kt49 k_a0 (show (q_I r71 12 5 a0).toInt < 0 → 2 ≤ (x2v).toInt ∧ (x2v).toInt ≤ 16 ∧ 1 ≤ (x3v).toInt ∧ (x3v).toInt ≤ 5 by first | with_reducible assumption | omega) (show (x4v).toInt = 0 ∨ (x4v).toInt = 1 by first | with_reducible assumption | omega) (show (q_I r71 12 5 a0).toInt < 0 → (q_I r71 12 4 a0).toInt < (q_I r71 12 3 a0).toInt ∧ 97 ≤ hc ad r71 a0 ∧ hc ad r71 a0 ≤ 122 by first | with_reducible assumption | omega) (show 501 - (q_I r71 12 4 a0).toInt ≤ K49 by first | with_reducible assumption | omega) i73) (fun r92 hr93 => ?_)
      obtain ⟨i94, ⟨u97, u98, u99⟩, p95, p96⟩ := hr93
      have u100 := kp_t u80 u97
      have v101 : q_V r92.2 = q_V δ := (u98).trans v81
      have v102 := kr_t v82 u99
      have f103 := cb_12_2 i94 k_a0
      have f104 : (q_I r71 12 2 a0).toInt = (q_I δ 12 2 a0).toInt := congrArg Int32.toInt (u76 12 2 a0 (by decide))
      have f105 := cb_12_2 I k_a0
      have f106 := ti_b r92.1
      have sh107 : NH ad a0 δ r71 := NH.t NH.r nh84
      have sh108 : SHP ad a0 δ r92.2 := SHP.pre sh107 p96
      exact ⟨by first | with_reducible assumption | assumption, ⟨kp_w (by decide) u100, v101, kr_w (by decide) v102⟩, by first | with_reducible assumption | omega, sh108⟩
set_option maxHeartbeats 4000000 in
theorem kl_X12_shape_49 {ad : List Nat} {h : hp} (L : Lay TLx ad h) {δ0 : dp} {N : Nat} (hN : 10000000 ≤ N) {a0 : Nat} {x1 : Int32} (k_a0 : q_K h.1 a0 = 12) : ∀ (n : Nat) (x2v : Int32) (x3v : Int32) (x4v : Int32) (x5v : Int32) (δ : dp), RI ad h.1 δ0 δ → ((q_I δ 12 5 a0).toInt < 0 → 2 ≤ (x2v).toInt ∧ (x2v).toInt ≤ 16 ∧ 1 ≤ (x3v).toInt ∧ (x3v).toInt ≤ 5) → ((x4v).toInt = 0 ∨ (x4v).toInt = 1) → 501 - (q_I δ 12 4 a0).toInt < (n : Int) → ok (L_X12_shape_49 N h.1 a0 x1 n x2v x3v x4v x5v δ) (fun r => RI ad h.1 δ0 r.2 ∧ (kp [(12, 0), (12, 2), (12, 3), (12, 4), (12, 5), (12, 6), (12, 7), (12, 8), (12, 10), (12, 11), (12, 12), (12, 18)] δ r.2 ∧ q_V r.2 = q_V δ ∧ kr ad [100, 103, 106] δ r.2) ∧ (q_I r.2 12 2 a0).toInt = (q_I δ 12 2 a0).toInt ∧ SHP ad a0 δ r.2) := by
  intro n
  induction n with
  | zero =>
    intro x2v x3v x4v x5v δ I j0 j1 hm
    have f1 := cb_12_5 I k_a0
    have f2 := ti_b x2v
    have f3 := ti_b x3v
    have f4 := ti_b x4v
    have f5 := cb_12_4 I k_a0
    exfalso; omega
  | succ n ih =>
    intro x2v x3v x4v x5v δ I j0 j1 hm
    have J0 : WEp (q_I δ 12 5 a0).toInt x2v.toInt x3v.toInt := j0
    have J1 : 0 ≤ x4v.toInt ∧ x4v.toInt ≤ 1 := by omega
    clear j0 j1
    unfold L_X12_shape_49
    have f1 := cb_12_5 I k_a0
    have f2 := ti_b x2v
    have f3 := ti_b x3v
    have f4 := ti_b x4v
    have f5 := cb_12_4 I k_a0
    refine ok_bind (k_X12_fine L hN (a0 := a0) k_a0 I) (fun r6 hr7 => ?_)
    obtain ⟨i8, p9, p10, p11⟩ := hr7
    try rw [i8]
    have f12 := bo_l p9
    have f13 := ti_b r6.1
    refine ok_ite (fun h14 => ?_) (fun h14 => ?_)
    · have c15 : r6.1.toInt = (0 : Int) := o_eq h14
      unfold J_X12_shape_267
      refine ok_bind (k_X12_fine L hN (a0 := a0) k_a0 I) (fun r16 hr17 => ?_)
      obtain ⟨i18, p19, p20, p21⟩ := hr17
      try rw [i18]
      have f22 := bo_l p19
      have f23 := ti_b r16.1
      refine ok_ite (fun h24 => ?_) (fun h24 => ?_)
      · have c25 : r16.1.toInt = (0 : Int) := o_eq h24
        refine ok_bind (k_X12_result L hN (a0 := a0) (x1 := (0 : Int32)) k_a0 I) (fun r26 hr27 => ?_)
        obtain ⟨i28, ⟨u30, u31, u32, u33⟩, p29⟩ := hr27
        have u34 := kp_t kp_r u30
        have v35 : q_V r26.2 = q_V δ := (u31).trans rfl
        have v36 := kr_t (kr_r (ad := ad)) u33
        have f37 := ti_b r26.1
        have nh38 : NH ad a0 δ r26.2 := ⟨u33 103 (by decide) (by decide) (by decide), u30 12 10 _ (by decide), u30 12 18 _ (by decide)⟩
        have f39 : (q_I r26.2 12 2 a0).toInt = (q_I δ 12 2 a0).toInt := congrArg Int32.toInt (u30 12 2 a0 (by decide))
        have f40 := cb_12_2 I k_a0
        have sh41 : NH ad a0 δ r26.2 := NH.t NH.r nh38
        exact ok_some (show RI ad h.1 δ0 r26.2 ∧ (kp [(12, 0), (12, 2), (12, 3), (12, 4), (12, 5), (12, 6), (12, 7), (12, 8), (12, 10), (12, 11), (12, 12), (12, 18)] δ r26.2 ∧ q_V r26.2 = q_V δ ∧ kr ad [100, 103, 106] δ r26.2) ∧ (q_I r26.2 12 2 a0).toInt = (q_I δ 12 2 a0).toInt ∧ SHP ad a0 δ r26.2 from ⟨i28, ⟨kp_w (by decide) u34, v35, kr_w (by decide) v36⟩, by first | with_reducible assumption | omega, SHP.n sh41⟩)
      · have c42 : r16.1.toInt ≠ (0 : Int) := o_ne h24
        refine ok_bdv (fun d43 e44 => ?_)
        have i45 : RI ad h.1 δ0 d43 := by rw [e44]; exact cs_12_10 L I k_a0 (show 2 ≤ x2v.toInt from (J0 (by omega)).1) (show x2v.toInt ≤ 16 from (J0 (by omega)).2.1)
        have u46 := kp_I kp_r e44
        have v47 : q_V d43 = q_V δ := ((show q_V d43 = q_V δ by rw [e44]; rfl)).trans rfl
        have v48 := kr_N (kr_r (ad := ad)) (show q_R d43 = q_R δ by rw [e44]; rfl)
        refine ok_bdv (fun d49 e50 => ?_)
        have i51 : RI ad h.1 δ0 d49 := by rw [e50]; exact cs_12_11 L i45 k_a0 (show 1 ≤ x3v.toInt from (J0 (by omega)).2.2.1) (show x3v.toInt ≤ 5 from (J0 (by omega)).2.2.2)
        have u52 := kp_I u46 e50
        have v53 : q_V d49 = q_V δ := ((show q_V d49 = q_V d43 by rw [e50]; rfl)).trans v47
        have v54 := kr_N v48 (show q_R d49 = q_R d43 by rw [e50]; rfl)
        refine ok_gp (show bo x4v by first | assumption | exact bo_0 | exact bo_1 | exact bo_i (by omega) (by omega)) ?_
        refine ok_bdv (fun d55 e56 => ?_)
        have i57 : RI ad h.1 δ0 d55 := by rw [e56]; exact cs_12_12 L i51 k_a0 (show 0 ≤ x4v.toInt by omega) (show x4v.toInt ≤ 1 by omega)
        have u58 := kp_I u52 e56
        have v59 : q_V d55 = q_V δ := ((show q_V d55 = q_V d49 by rw [e56]; rfl)).trans v53
        have v60 := kr_N v54 (show q_R d55 = q_R d49 by rw [e56]; rfl)
        refine ok_mono (kl_X12_shape_299 L hN   k_a0 _ (0 : Int32) d55 i57 (show 0 ≤ (0 : Int) by first | with_reducible assumption | omega) (show (0 : Int) ≤ 4 by first | with_reducible assumption | omega) (show 4 - (0 : Int) < _ by omega)) (fun r61 hr62 => ?_)
        obtain ⟨i63, ⟨u66, u67, u68⟩, p64, p65⟩ := hr62
        have u69 := kp_t u58 u66
        have v70 : q_V r61.2 = q_V δ := (u67).trans v59
        have v71 := kr_t v60 u68
        have f72 := cb_12_2 i63 k_a0
        have f73 : (q_I d55 12 2 a0).toInt = (q_I δ 12 2 a0).toInt := ((show (q_I d55 12 2 a0).toInt = (q_I d49 12 2 a0).toInt from congrArg Int32.toInt (by rw [e56]; exact rI_o (by decide))).trans ((show (q_I d49 12 2 a0).toInt = (q_I d43 12 2 a0).toInt from congrArg Int32.toInt (by rw [e50]; exact rI_o (by decide))).trans (show (q_I d43 12 2 a0).toInt = (q_I δ 12 2 a0).toInt from congrArg Int32.toInt (by rw [e44]; exact rI_o (by decide)))))
        have f74 := cb_12_2 I k_a0
        have f75 := ti_b r61.1
        exact ⟨by first | with_reducible assumption | assumption, ⟨kp_w (by decide) u69, v70, kr_w (by decide) v71⟩, by first | with_reducible assumption | omega, SHP.z (p65 rfl)⟩
    · have c76 : r6.1.toInt ≠ (0 : Int) := o_ne h14
      refine ok_bind (k_X12_isMore L hN (a0 := a0) k_a0 I) (fun r77 hr78 => ?_)
      obtain ⟨i79, ⟨u83, u84, u85, u86⟩, p80, p81, p82⟩ := hr78
      have u87 := kp_t kp_r u83
      have v88 : q_V r77.2 = q_V δ := (u84).trans rfl
      have v89 := kr_t (kr_r (ad := ad)) u86
      have f90 := bo_l p80
      have f91 := cb_12_4 i79 k_a0
      have f92 := ti_b r77.1
      have f93 := cb_12_3 I k_a0
      have nh94 : NH ad a0 δ r77.2 := ⟨u86 103 (by decide) (by decide) (by decide), u83 12 10 _ (by decide), u83 12 18 _ (by decide)⟩
      refine ok_ite (fun h95 => ?_) (fun h95 => ?_)
      · have c96 : r77.1.toInt = (0 : Int) := o_eq h95
        unfold J_X12_shape_267
        refine ok_bind (k_X12_fine L hN (a0 := a0) k_a0 i79) (fun r97 hr98 => ?_)
        obtain ⟨i99, p100, p101, p102⟩ := hr98
        try rw [i99]
        have f103 := bo_l p100
        have f104 : (q_I r77.2 12 5 a0).toInt = (q_I δ 12 5 a0).toInt := congrArg Int32.toInt (u83 12 5 a0 (by decide))
        have f105 := ti_b r97.1
        refine ok_ite (fun h106 => ?_) (fun h106 => ?_)
        · have c107 : r97.1.toInt = (0 : Int) := o_eq h106
          refine ok_bind (k_X12_result L hN (a0 := a0) (x1 := (0 : Int32)) k_a0 i79) (fun r108 hr109 => ?_)
          obtain ⟨i110, ⟨u112, u113, u114, u115⟩, p111⟩ := hr109
          have u116 := kp_t u87 u112
          have v117 : q_V r108.2 = q_V δ := (u113).trans v88
          have v118 := kr_t v89 u115
          have f119 := ti_b r108.1
          have nh120 : NH ad a0 r77.2 r108.2 := ⟨u115 103 (by decide) (by decide) (by decide), u112 12 10 _ (by decide), u112 12 18 _ (by decide)⟩
          have f121 : (q_I r108.2 12 2 a0).toInt = (q_I δ 12 2 a0).toInt := ((show (q_I r108.2 12 2 a0).toInt = (q_I r77.2 12 2 a0).toInt from congrArg Int32.toInt (u112 12 2 a0 (by decide))).trans (show (q_I r77.2 12 2 a0).toInt = (q_I δ 12 2 a0).toInt from congrArg Int32.toInt (u83 12 2 a0 (by decide))))
          have f122 := cb_12_2 I k_a0
          have sh123 : NH ad a0 δ r77.2 := NH.t NH.r nh94
          have sh124 : NH ad a0 δ r108.2 := NH.t sh123 nh120
          exact ok_some (show RI ad h.1 δ0 r108.2 ∧ (kp [(12, 0), (12, 2), (12, 3), (12, 4), (12, 5), (12, 6), (12, 7), (12, 8), (12, 10), (12, 11), (12, 12), (12, 18)] δ r108.2 ∧ q_V r108.2 = q_V δ ∧ kr ad [100, 103, 106] δ r108.2) ∧ (q_I r108.2 12 2 a0).toInt = (q_I δ 12 2 a0).toInt ∧ SHP ad a0 δ r108.2 from ⟨i110, ⟨kp_w (by decide) u116, v117, kr_w (by decide) v118⟩, by first | with_reducible assumption | omega, SHP.n sh124⟩)
        · have c125 : r97.1.toInt ≠ (0 : Int) := o_ne h106
          refine ok_bdv (fun d126 e127 => ?_)
          have i128 : RI ad h.1 δ0 d126 := by rw [e127]; exact cs_12_10 L i79 k_a0 (show 2 ≤ x2v.toInt from (J0 (by omega)).1) (show x2v.toInt ≤ 16 from (J0 (by omega)).2.1)
          have u129 := kp_I u87 e127
          have v130 : q_V d126 = q_V δ := ((show q_V d126 = q_V r77.2 by rw [e127]; rfl)).trans v88
          have v131 := kr_N v89 (show q_R d126 = q_R r77.2 by rw [e127]; rfl)
          refine ok_bdv (fun d132 e133 => ?_)
          have i134 : RI ad h.1 δ0 d132 := by rw [e133]; exact cs_12_11 L i128 k_a0 (show 1 ≤ x3v.toInt from (J0 (by omega)).2.2.1) (show x3v.toInt ≤ 5 from (J0 (by omega)).2.2.2)
          have u135 := kp_I u129 e133
          have v136 : q_V d132 = q_V δ := ((show q_V d132 = q_V d126 by rw [e133]; rfl)).trans v130
          have v137 := kr_N v131 (show q_R d132 = q_R d126 by rw [e133]; rfl)
          refine ok_gp (show bo x4v by first | assumption | exact bo_0 | exact bo_1 | exact bo_i (by omega) (by omega)) ?_
          refine ok_bdv (fun d138 e139 => ?_)
          have i140 : RI ad h.1 δ0 d138 := by rw [e139]; exact cs_12_12 L i134 k_a0 (show 0 ≤ x4v.toInt by omega) (show x4v.toInt ≤ 1 by omega)
          have u141 := kp_I u135 e139
          have v142 : q_V d138 = q_V δ := ((show q_V d138 = q_V d132 by rw [e139]; rfl)).trans v136
          have v143 := kr_N v137 (show q_R d138 = q_R d132 by rw [e139]; rfl)
          refine ok_mono (kl_X12_shape_299 L hN   k_a0 _ (0 : Int32) d138 i140 (show 0 ≤ (0 : Int) by first | with_reducible assumption | omega) (show (0 : Int) ≤ 4 by first | with_reducible assumption | omega) (show 4 - (0 : Int) < _ by omega)) (fun r144 hr145 => ?_)
          obtain ⟨i146, ⟨u149, u150, u151⟩, p147, p148⟩ := hr145
          have u152 := kp_t u141 u149
          have v153 : q_V r144.2 = q_V δ := (u150).trans v142
          have v154 := kr_t v143 u151
          have f155 := cb_12_2 i146 k_a0
          have f156 : (q_I d138 12 2 a0).toInt = (q_I δ 12 2 a0).toInt := ((show (q_I d138 12 2 a0).toInt = (q_I d132 12 2 a0).toInt from congrArg Int32.toInt (by rw [e139]; exact rI_o (by decide))).trans ((show (q_I d132 12 2 a0).toInt = (q_I d126 12 2 a0).toInt from congrArg Int32.toInt (by rw [e133]; exact rI_o (by decide))).trans ((show (q_I d126 12 2 a0).toInt = (q_I r77.2 12 2 a0).toInt from congrArg Int32.toInt (by rw [e127]; exact rI_o (by decide))).trans (show (q_I r77.2 12 2 a0).toInt = (q_I δ 12 2 a0).toInt from congrArg Int32.toInt (u83 12 2 a0 (by decide))))))
          have f157 := cb_12_2 I k_a0
          have f158 := ti_b r144.1
          exact ⟨by first | with_reducible assumption | assumption, ⟨kp_w (by decide) u152, v153, kr_w (by decide) v154⟩, by first | with_reducible assumption | omega, SHP.z (p148 rfl)⟩
      · have c159 : r77.1.toInt ≠ (0 : Int) := o_ne h95
        refine ok_bind (k_X12_word L hN (a0 := a0) k_a0 i79) (fun r160 hr161 => ?_)
        obtain ⟨i162, ⟨u165, u166, u167, u168⟩, p163, p164⟩ := hr161
        have u169 := kp_t u87 u165
        have v170 : q_V r160.2 = q_V δ := (u166).trans v88
        have v171 := kr_t v89 u168
        have f172 := cb_12_4 i162 k_a0
        have f173 : hc ad r160.2 a0 = (q_R r160.2 (Ad ad 101) (q_I r160.2 12 4 a0).toNatClampNeg).toInt := rfl
        have t174 := ti_tn (q_I r160.2 12 4 a0)
        have f175 : (q_R r160.2 (Ad ad 101) (q_I r160.2 12 4 a0).toNatClampNeg).toInt = (q_R r77.2 (Ad ad 101) (q_I r160.2 12 4 a0).toNatClampNeg).toInt := congrArg Int32.toInt (congrFun (u168 101 (by decide) (by decide) (by decide)) _)
        have f176 : (q_R r77.2 (Ad ad 101) (q_I r160.2 12 4 a0).toNatClampNeg).toInt = (q_R δ (Ad ad 101) (q_I r160.2 12 4 a0).toNatClampNeg).toInt := congrArg Int32.toInt (congrFun (u86 101 (by decide) (by decide) (by decide)) _)
        have f177 := ti_b (q_R δ (Ad ad 101) (q_I r160.2 12 4 a0).toNatClampNeg)
        have f178 := ti_b (q_R r77.2 (Ad ad 101) (q_I r160.2 12 4 a0).toNatClampNeg)
        have f179 := ti_b (q_R r160.2 (Ad ad 101) (q_I r160.2 12 4 a0).toNatClampNeg)
        have f180 := ti_b r160.1
        have f181 : (q_I r77.2 12 3 a0).toInt = (q_I δ 12 3 a0).toInt := congrArg Int32.toInt (u83 12 3 a0 (by decide))
        have nh182 : NH ad a0 r77.2 r160.2 := ⟨u168 103 (by decide) (by decide) (by decide), u165 12 10 _ (by decide), u165 12 18 _ (by decide)⟩
        refine ok_bind (k_X12_of L hN (a0 := 0) (show 0 < 16 by first | with_reducible assumption | omega) i162) (fun r183 hr184 => ?_)
        obtain ⟨i185, p186⟩ := hr184
        try rw [i185]
        have f187 := ti_b r183.1
        refine ok_ite (fun h188 => ?_) (fun h188 => ?_)
        · have c189 : r160.1.toInt = r183.1.toInt := o_eq h188
          unfold J_X12_shape_112
          refine ok_ite (fun h190 => ?_) (fun h190 => ?_)
          · have c191 : (1 : Int) = (0 : Int) := o_eq h190
            refine ok_bind (k_X12_wrong L hN (a0 := a0) (x1 := (1 : Int32)) (x2 := (q_I r160.2 12 4 a0)) k_a0 (show 0 ≤ ((q_I r160.2 12 4 a0)).toInt by first | with_reducible assumption | omega) (show ((q_I r160.2 12 4 a0)).toInt ≤ 500 by first | with_reducible assumption | omega) (show 0 ≤ (1 : Int) by first | with_reducible assumption | omega) (show (1 : Int) ≤ 4 by first | with_reducible assumption | omega) i162) (fun r192 hr193 => ?_)
            obtain ⟨i194, ⟨u197, u198, u199, u200⟩, p195, p196⟩ := hr193
            have u201 := kp_t u169 u197
            have v202 : q_V r192 = q_V δ := (u198).trans v170
            have v203 := kr_t v171 u200
            have f204 := cb_12_5 i194 k_a0
            have f205 : (q_I r160.2 12 5 a0).toInt = (q_I δ 12 5 a0).toInt := ((show (q_I r160.2 12 5 a0).toInt = (q_I r77.2 12 5 a0).toInt from congrArg Int32.toInt (u165 12 5 a0 (by decide))).trans (show (q_I r77.2 12 5 a0).toInt = (q_I δ 12 5 a0).toInt from congrArg Int32.toInt (u83 12 5 a0 (by decide))))
            have nh206 : NH ad a0 r160.2 r192 := ⟨u200 103 (by decide) (by decide) (by decide), u197 12 10 _ (by decide), u197 12 18 _ (by decide)⟩
            have f207 : hc ad r192 a0 = (q_R r192 (Ad ad 101) (q_I r192 12 4 a0).toNatClampNeg).toInt := rfl
            have f208 : (q_I r192 12 4 a0).toInt = (q_I r160.2 12 4 a0).toInt := congrArg Int32.toInt (u197 12 4 a0 (by decide))
            have t209 := ti_tn (q_I r192 12 4 a0)
            have f210 : (q_R r192 (Ad ad 101) (q_I r192 12 4 a0).toNatClampNeg).toInt = (q_R r160.2 (Ad ad 101) (q_I r192 12 4 a0).toNatClampNeg).toInt := congrArg Int32.toInt (congrFun (u200 101 (by decide) (by decide) (by decide)) _)
            have f211 : (q_R r160.2 (Ad ad 101) (q_I r192 12 4 a0).toNatClampNeg).toInt = (q_R r77.2 (Ad ad 101) (q_I r192 12 4 a0).toNatClampNeg).toInt := congrArg Int32.toInt (congrFun (u168 101 (by decide) (by decide) (by decide)) _)
            have f212 : (q_R r77.2 (Ad ad 101) (q_I r192 12 4 a0).toNatClampNeg).toInt = (q_R δ (Ad ad 101) (q_I r192 12 4 a0).toNatClampNeg).toInt := congrArg Int32.toInt (congrFun (u86 101 (by decide) (by decide) (by decide)) _)
            have f213 := ti_b (q_R δ (Ad ad 101) (q_I r192 12 4 a0).toNatClampNeg)
            have f214 := ti_b (q_R r77.2 (Ad ad 101) (q_I r192 12 4 a0).toNatClampNeg)
            have f215 := ti_b (q_R r160.2 (Ad ad 101) (q_I r192 12 4 a0).toNatClampNeg)
            have f216 := ti_b (q_R r192 (Ad ad 101) (q_I r192 12 4 a0).toNatClampNeg)
            have f217 : (q_I r192 12 3 a0).toInt = (q_I r77.2 12 3 a0).toInt := ((show (q_I r192 12 3 a0).toInt = (q_I r160.2 12 3 a0).toInt from congrArg Int32.toInt (u197 12 3 a0 (by decide))).trans (show (q_I r160.2 12 3 a0).toInt = (q_I r77.2 12 3 a0).toInt from congrArg Int32.toInt (u165 12 3 a0 (by decide))))
            refine ok_mono (kj_X12_shape_148 L hN (K49 := (n : Int)) (a0 := a0) (x1 := x1) (x2v := x2v) (x3v := x3v) (x4v := x4v) (x5v := x5v) (x6v := (1 : Int32)) ih k_a0 (show (q_I r192 12 5 a0).toInt < 0 → 2 ≤ (x2v).toInt ∧ (x2v).toInt ≤ 16 ∧ 1 ≤ (x3v).toInt ∧ (x3v).toInt ≤ 5 from fun hb => J0 (by omega)) (show (x4v).toInt = 0 ∨ (x4v).toInt = 1 by first | with_reducible assumption | omega) (show (q_I r192 12 5 a0).toInt < 0 → (q_I r192 12 4 a0).toInt < (q_I r192 12 3 a0).toInt ∧ 97 ≤ hc ad r192 a0 ∧ hc ad r192 a0 ≤ 122 by first | with_reducible assumption | omega) (show 501 - (q_I r192 12 4 a0).toInt ≤ (n : Int) by first | with_reducible assumption | omega) i194) (fun r218 hr219 => ?_)
            obtain ⟨i220, ⟨u223, u224, u225⟩, p221, p222⟩ := hr219
            have u226 := kp_t u201 u223
            have v227 : q_V r218.2 = q_V δ := (u224).trans v202
            have v228 := kr_t v203 u225
            have f229 := cb_12_2 i220 k_a0
            have f230 : (q_I r192 12 2 a0).toInt = (q_I δ 12 2 a0).toInt := ((show (q_I r192 12 2 a0).toInt = (q_I r160.2 12 2 a0).toInt from congrArg Int32.toInt (u197 12 2 a0 (by decide))).trans ((show (q_I r160.2 12 2 a0).toInt = (q_I r77.2 12 2 a0).toInt from congrArg Int32.toInt (u165 12 2 a0 (by decide))).trans (show (q_I r77.2 12 2 a0).toInt = (q_I δ 12 2 a0).toInt from congrArg Int32.toInt (u83 12 2 a0 (by decide)))))
            have f231 := cb_12_2 I k_a0
            have f232 := ti_b r218.1
            have sh233 : NH ad a0 δ r77.2 := NH.t NH.r nh94
            have sh234 : NH ad a0 δ r160.2 := NH.t sh233 nh182
            have sh235 : NH ad a0 δ r192 := NH.t sh234 nh206
            have sh236 : SHP ad a0 δ r218.2 := SHP.pre sh235 p222
            exact ⟨by first | with_reducible assumption | assumption, ⟨kp_w (by decide) u226, v227, kr_w (by decide) v228⟩, by first | with_reducible assumption | omega, sh236⟩
          · have c237 : (1 : Int) ≠ (0 : Int) := o_ne h190
            have f238 := ti_b (x5v &&& (1 : Int32))
            refine ok_ite (fun h239 => ?_) (fun h239 => ?_)
            · have c240 : (x5v &&& (1 : Int32)).toInt = (0 : Int) := o_eq h239
              have f241 : (q_I r160.2 12 5 a0).toInt = (q_I δ 12 5 a0).toInt := ((show (q_I r160.2 12 5 a0).toInt = (q_I r77.2 12 5 a0).toInt from congrArg Int32.toInt (u165 12 5 a0 (by decide))).trans (show (q_I r77.2 12 5 a0).toInt = (q_I δ 12 5 a0).toInt from congrArg Int32.toInt (u83 12 5 a0 (by decide))))
              have f242 : (q_I r160.2 12 3 a0).toInt = (q_I r77.2 12 3 a0).toInt := congrArg Int32.toInt (u165 12 3 a0 (by decide))
              refine ok_mono (kj_X12_shape_148 L hN (K49 := (n : Int)) (a0 := a0) (x1 := x1) (x2v := x2v) (x3v := x3v) (x4v := x4v) (x5v := x5v) (x6v := (1 : Int32)) ih k_a0 (show (q_I r160.2 12 5 a0).toInt < 0 → 2 ≤ (x2v).toInt ∧ (x2v).toInt ≤ 16 ∧ 1 ≤ (x3v).toInt ∧ (x3v).toInt ≤ 5 from fun hb => J0 (by omega)) (show (x4v).toInt = 0 ∨ (x4v).toInt = 1 by first | with_reducible assumption | omega) (show (q_I r160.2 12 5 a0).toInt < 0 → (q_I r160.2 12 4 a0).toInt < (q_I r160.2 12 3 a0).toInt ∧ 97 ≤ hc ad r160.2 a0 ∧ hc ad r160.2 a0 ≤ 122 by first | with_reducible assumption | omega) (show 501 - (q_I r160.2 12 4 a0).toInt ≤ (n : Int) by first | with_reducible assumption | omega) i162) (fun r243 hr244 => ?_)
              obtain ⟨i245, ⟨u248, u249, u250⟩, p246, p247⟩ := hr244
              have u251 := kp_t u169 u248
              have v252 : q_V r243.2 = q_V δ := (u249).trans v170
              have v253 := kr_t v171 u250
              have f254 := cb_12_2 i245 k_a0
              have f255 : (q_I r160.2 12 2 a0).toInt = (q_I δ 12 2 a0).toInt := ((show (q_I r160.2 12 2 a0).toInt = (q_I r77.2 12 2 a0).toInt from congrArg Int32.toInt (u165 12 2 a0 (by decide))).trans (show (q_I r77.2 12 2 a0).toInt = (q_I δ 12 2 a0).toInt from congrArg Int32.toInt (u83 12 2 a0 (by decide))))
              have f256 := cb_12_2 I k_a0
              have f257 := ti_b r243.1
              have sh258 : NH ad a0 δ r77.2 := NH.t NH.r nh94
              have sh259 : NH ad a0 δ r160.2 := NH.t sh258 nh182
              have sh260 : SHP ad a0 δ r243.2 := SHP.pre sh259 p247
              exact ⟨by first | with_reducible assumption | assumption, ⟨kp_w (by decide) u251, v252, kr_w (by decide) v253⟩, by first | with_reducible assumption | omega, sh260⟩
            · have c261 : (x5v &&& (1 : Int32)).toInt ≠ (0 : Int) := o_ne h239
              refine ok_bind (k_X12_wrong L hN (a0 := a0) (x1 := (4 : Int32)) (x2 := (q_I r160.2 12 4 a0)) k_a0 (show 0 ≤ ((q_I r160.2 12 4 a0)).toInt by first | with_reducible assumption | omega) (show ((q_I r160.2 12 4 a0)).toInt ≤ 500 by first | with_reducible assumption | omega) (show 0 ≤ (4 : Int) by first | with_reducible assumption | omega) (show (4 : Int) ≤ 4 by first | with_reducible assumption | omega) i162) (fun r262 hr263 => ?_)
              obtain ⟨i264, ⟨u267, u268, u269, u270⟩, p265, p266⟩ := hr263
              have u271 := kp_t u169 u267
              have v272 : q_V r262 = q_V δ := (u268).trans v170
              have v273 := kr_t v171 u270
              have f274 := cb_12_5 i264 k_a0
              have f275 : (q_I r160.2 12 5 a0).toInt = (q_I δ 12 5 a0).toInt := ((show (q_I r160.2 12 5 a0).toInt = (q_I r77.2 12 5 a0).toInt from congrArg Int32.toInt (u165 12 5 a0 (by decide))).trans (show (q_I r77.2 12 5 a0).toInt = (q_I δ 12 5 a0).toInt from congrArg Int32.toInt (u83 12 5 a0 (by decide))))
              have nh276 : NH ad a0 r160.2 r262 := ⟨u270 103 (by decide) (by decide) (by decide), u267 12 10 _ (by decide), u267 12 18 _ (by decide)⟩
              have f277 : hc ad r262 a0 = (q_R r262 (Ad ad 101) (q_I r262 12 4 a0).toNatClampNeg).toInt := rfl
              have f278 : (q_I r262 12 4 a0).toInt = (q_I r160.2 12 4 a0).toInt := congrArg Int32.toInt (u267 12 4 a0 (by decide))
              have t279 := ti_tn (q_I r262 12 4 a0)
              have f280 : (q_R r262 (Ad ad 101) (q_I r262 12 4 a0).toNatClampNeg).toInt = (q_R r160.2 (Ad ad 101) (q_I r262 12 4 a0).toNatClampNeg).toInt := congrArg Int32.toInt (congrFun (u270 101 (by decide) (by decide) (by decide)) _)
              have f281 : (q_R r160.2 (Ad ad 101) (q_I r262 12 4 a0).toNatClampNeg).toInt = (q_R r77.2 (Ad ad 101) (q_I r262 12 4 a0).toNatClampNeg).toInt := congrArg Int32.toInt (congrFun (u168 101 (by decide) (by decide) (by decide)) _)
              have f282 : (q_R r77.2 (Ad ad 101) (q_I r262 12 4 a0).toNatClampNeg).toInt = (q_R δ (Ad ad 101) (q_I r262 12 4 a0).toNatClampNeg).toInt := congrArg Int32.toInt (congrFun (u86 101 (by decide) (by decide) (by decide)) _)
              have f283 := ti_b (q_R δ (Ad ad 101) (q_I r262 12 4 a0).toNatClampNeg)
              have f284 := ti_b (q_R r77.2 (Ad ad 101) (q_I r262 12 4 a0).toNatClampNeg)
              have f285 := ti_b (q_R r160.2 (Ad ad 101) (q_I r262 12 4 a0).toNatClampNeg)
              have f286 := ti_b (q_R r262 (Ad ad 101) (q_I r262 12 4 a0).toNatClampNeg)
              have f287 : (q_I r262 12 3 a0).toInt = (q_I r77.2 12 3 a0).toInt := ((show (q_I r262 12 3 a0).toInt = (q_I r160.2 12 3 a0).toInt from congrArg Int32.toInt (u267 12 3 a0 (by decide))).trans (show (q_I r160.2 12 3 a0).toInt = (q_I r77.2 12 3 a0).toInt from congrArg Int32.toInt (u165 12 3 a0 (by decide))))
              refine ok_mono (kj_X12_shape_148 L hN (K49 := (n : Int)) (a0 := a0) (x1 := x1) (x2v := x2v) (x3v := x3v) (x4v := x4v) (x5v := x5v) (x6v := (1 : Int32)) ih k_a0 (show (q_I r262 12 5 a0).toInt < 0 → 2 ≤ (x2v).toInt ∧ (x2v).toInt ≤ 16 ∧ 1 ≤ (x3v).toInt ∧ (x3v).toInt ≤ 5 from fun hb => J0 (by omega)) (show (x4v).toInt = 0 ∨ (x4v).toInt = 1 by first | with_reducible assumption | omega) (show (q_I r262 12 5 a0).toInt < 0 → (q_I r262 12 4 a0).toInt < (q_I r262 12 3 a0).toInt ∧ 97 ≤ hc ad r262 a0 ∧ hc ad r262 a0 ≤ 122 by first | with_reducible assumption | omega) (show 501 - (q_I r262 12 4 a0).toInt ≤ (n : Int) by first | with_reducible assumption | omega) i264) (fun r288 hr289 => ?_)
              obtain ⟨i290, ⟨u293, u294, u295⟩, p291, p292⟩ := hr289
              have u296 := kp_t u271 u293
              have v297 : q_V r288.2 = q_V δ := (u294).trans v272
              have v298 := kr_t v273 u295
              have f299 := cb_12_2 i290 k_a0
              have f300 : (q_I r262 12 2 a0).toInt = (q_I δ 12 2 a0).toInt := ((show (q_I r262 12 2 a0).toInt = (q_I r160.2 12 2 a0).toInt from congrArg Int32.toInt (u267 12 2 a0 (by decide))).trans ((show (q_I r160.2 12 2 a0).toInt = (q_I r77.2 12 2 a0).toInt from congrArg Int32.toInt (u165 12 2 a0 (by decide))).trans (show (q_I r77.2 12 2 a0).toInt = (q_I δ 12 2 a0).toInt from congrArg Int32.toInt (u83 12 2 a0 (by decide)))))
              have f301 := cb_12_2 I k_a0
              have f302 := ti_b r288.1
              have sh303 : NH ad a0 δ r77.2 := NH.t NH.r nh94
              have sh304 : NH ad a0 δ r160.2 := NH.t sh303 nh182
              have sh305 : NH ad a0 δ r262 := NH.t sh304 nh276
              have sh306 : SHP ad a0 δ r288.2 := SHP.pre sh305 p292
              exact ⟨by first | with_reducible assumption | assumption, ⟨kp_w (by decide) u296, v297, kr_w (by decide) v298⟩, by first | with_reducible assumption | omega, sh306⟩
        · have c307 : r160.1.toInt ≠ r183.1.toInt := o_ne h188
          refine ok_bind (k_X12_word L hN (a0 := a0) k_a0 i162) (fun r308 hr309 => ?_)
          obtain ⟨i310, ⟨u313, u314, u315, u316⟩, p311, p312⟩ := hr309
          have u317 := kp_t u169 u313
          have v318 : q_V r308.2 = q_V δ := (u314).trans v170
          have v319 := kr_t v171 u316
          have f320 := cb_12_4 i310 k_a0
          have f321 : hc ad r308.2 a0 = (q_R r308.2 (Ad ad 101) (q_I r308.2 12 4 a0).toNatClampNeg).toInt := rfl
          have t322 := ti_tn (q_I r308.2 12 4 a0)
          have f323 : (q_R r308.2 (Ad ad 101) (q_I r308.2 12 4 a0).toNatClampNeg).toInt = (q_R r160.2 (Ad ad 101) (q_I r308.2 12 4 a0).toNatClampNeg).toInt := congrArg Int32.toInt (congrFun (u316 101 (by decide) (by decide) (by decide)) _)
          have f324 : (q_R r160.2 (Ad ad 101) (q_I r308.2 12 4 a0).toNatClampNeg).toInt = (q_R r77.2 (Ad ad 101) (q_I r308.2 12 4 a0).toNatClampNeg).toInt := congrArg Int32.toInt (congrFun (u168 101 (by decide) (by decide) (by decide)) _)
          have f325 : (q_R r77.2 (Ad ad 101) (q_I r308.2 12 4 a0).toNatClampNeg).toInt = (q_R δ (Ad ad 101) (q_I r308.2 12 4 a0).toNatClampNeg).toInt := congrArg Int32.toInt (congrFun (u86 101 (by decide) (by decide) (by decide)) _)
          have f326 := ti_b (q_R δ (Ad ad 101) (q_I r308.2 12 4 a0).toNatClampNeg)
          have f327 := ti_b (q_R r77.2 (Ad ad 101) (q_I r308.2 12 4 a0).toNatClampNeg)
          have f328 := ti_b (q_R r160.2 (Ad ad 101) (q_I r308.2 12 4 a0).toNatClampNeg)
          have f329 := ti_b (q_R r308.2 (Ad ad 101) (q_I r308.2 12 4 a0).toNatClampNeg)
          have f330 := ti_b r308.1
          have f331 : (q_I r160.2 12 3 a0).toInt = (q_I r77.2 12 3 a0).toInt := congrArg Int32.toInt (u165 12 3 a0 (by decide))
          have nh332 : NH ad a0 r160.2 r308.2 := ⟨u316 103 (by decide) (by decide) (by decide), u313 12 10 _ (by decide), u313 12 18 _ (by decide)⟩
          refine ok_bind (k_X12_of L hN (a0 := 1) (show 1 < 16 by first | with_reducible assumption | omega) i310) (fun r333 hr334 => ?_)
          obtain ⟨i335, p336⟩ := hr334
          try rw [i335]
          have f337 := ti_b r333.1
          refine ok_ite (fun h338 => ?_) (fun h338 => ?_)
          · have c339 : r308.1.toInt = r333.1.toInt := o_eq h338
            unfold J_X12_shape_112
            refine ok_ite (fun h340 => ?_) (fun h340 => ?_)
            · have c341 : (2 : Int) = (0 : Int) := o_eq h340
              refine ok_bind (k_X12_wrong L hN (a0 := a0) (x1 := (1 : Int32)) (x2 := (q_I r308.2 12 4 a0)) k_a0 (show 0 ≤ ((q_I r308.2 12 4 a0)).toInt by first | with_reducible assumption | omega) (show ((q_I r308.2 12 4 a0)).toInt ≤ 500 by first | with_reducible assumption | omega) (show 0 ≤ (1 : Int) by first | with_reducible assumption | omega) (show (1 : Int) ≤ 4 by first | with_reducible assumption | omega) i310) (fun r342 hr343 => ?_)
              obtain ⟨i344, ⟨u347, u348, u349, u350⟩, p345, p346⟩ := hr343
              have u351 := kp_t u317 u347
              have v352 : q_V r342 = q_V δ := (u348).trans v318
              have v353 := kr_t v319 u350
              have f354 := cb_12_5 i344 k_a0
              have f355 : (q_I r308.2 12 5 a0).toInt = (q_I δ 12 5 a0).toInt := ((show (q_I r308.2 12 5 a0).toInt = (q_I r160.2 12 5 a0).toInt from congrArg Int32.toInt (u313 12 5 a0 (by decide))).trans ((show (q_I r160.2 12 5 a0).toInt = (q_I r77.2 12 5 a0).toInt from congrArg Int32.toInt (u165 12 5 a0 (by decide))).trans (show (q_I r77.2 12 5 a0).toInt = (q_I δ 12 5 a0).toInt from congrArg Int32.toInt (u83 12 5 a0 (by decide)))))
              have nh356 : NH ad a0 r308.2 r342 := ⟨u350 103 (by decide) (by decide) (by decide), u347 12 10 _ (by decide), u347 12 18 _ (by decide)⟩
              have f357 : hc ad r342 a0 = (q_R r342 (Ad ad 101) (q_I r342 12 4 a0).toNatClampNeg).toInt := rfl
              have f358 : (q_I r342 12 4 a0).toInt = (q_I r308.2 12 4 a0).toInt := congrArg Int32.toInt (u347 12 4 a0 (by decide))
              have t359 := ti_tn (q_I r342 12 4 a0)
              have f360 : (q_R r342 (Ad ad 101) (q_I r342 12 4 a0).toNatClampNeg).toInt = (q_R r308.2 (Ad ad 101) (q_I r342 12 4 a0).toNatClampNeg).toInt := congrArg Int32.toInt (congrFun (u350 101 (by decide) (by decide) (by decide)) _)
              have f361 : (q_R r308.2 (Ad ad 101) (q_I r342 12 4 a0).toNatClampNeg).toInt = (q_R r160.2 (Ad ad 101) (q_I r342 12 4 a0).toNatClampNeg).toInt := congrArg Int32.toInt (congrFun (u316 101 (by decide) (by decide) (by decide)) _)
              have f362 : (q_R r160.2 (Ad ad 101) (q_I r342 12 4 a0).toNatClampNeg).toInt = (q_R r77.2 (Ad ad 101) (q_I r342 12 4 a0).toNatClampNeg).toInt := congrArg Int32.toInt (congrFun (u168 101 (by decide) (by decide) (by decide)) _)
              have f363 : (q_R r77.2 (Ad ad 101) (q_I r342 12 4 a0).toNatClampNeg).toInt = (q_R δ (Ad ad 101) (q_I r342 12 4 a0).toNatClampNeg).toInt := congrArg Int32.toInt (congrFun (u86 101 (by decide) (by decide) (by decide)) _)
              have f364 := ti_b (q_R δ (Ad ad 101) (q_I r342 12 4 a0).toNatClampNeg)
              have f365 := ti_b (q_R r77.2 (Ad ad 101) (q_I r342 12 4 a0).toNatClampNeg)
              have f366 := ti_b (q_R r160.2 (Ad ad 101) (q_I r342 12 4 a0).toNatClampNeg)
              have f367 := ti_b (q_R r308.2 (Ad ad 101) (q_I r342 12 4 a0).toNatClampNeg)
              have f368 := ti_b (q_R r342 (Ad ad 101) (q_I r342 12 4 a0).toNatClampNeg)
              have f369 : (q_I r342 12 3 a0).toInt = (q_I r160.2 12 3 a0).toInt := ((show (q_I r342 12 3 a0).toInt = (q_I r308.2 12 3 a0).toInt from congrArg Int32.toInt (u347 12 3 a0 (by decide))).trans (show (q_I r308.2 12 3 a0).toInt = (q_I r160.2 12 3 a0).toInt from congrArg Int32.toInt (u313 12 3 a0 (by decide))))
              refine ok_mono (kj_X12_shape_148 L hN (K49 := (n : Int)) (a0 := a0) (x1 := x1) (x2v := x2v) (x3v := x3v) (x4v := x4v) (x5v := x5v) (x6v := (2 : Int32)) ih k_a0 (show (q_I r342 12 5 a0).toInt < 0 → 2 ≤ (x2v).toInt ∧ (x2v).toInt ≤ 16 ∧ 1 ≤ (x3v).toInt ∧ (x3v).toInt ≤ 5 from fun hb => J0 (by omega)) (show (x4v).toInt = 0 ∨ (x4v).toInt = 1 by first | with_reducible assumption | omega) (show (q_I r342 12 5 a0).toInt < 0 → (q_I r342 12 4 a0).toInt < (q_I r342 12 3 a0).toInt ∧ 97 ≤ hc ad r342 a0 ∧ hc ad r342 a0 ≤ 122 by first | with_reducible assumption | omega) (show 501 - (q_I r342 12 4 a0).toInt ≤ (n : Int) by first | with_reducible assumption | omega) i344) (fun r370 hr371 => ?_)
              obtain ⟨i372, ⟨u375, u376, u377⟩, p373, p374⟩ := hr371
              have u378 := kp_t u351 u375
              have v379 : q_V r370.2 = q_V δ := (u376).trans v352
              have v380 := kr_t v353 u377
              have f381 := cb_12_2 i372 k_a0
              have f382 : (q_I r342 12 2 a0).toInt = (q_I δ 12 2 a0).toInt := ((show (q_I r342 12 2 a0).toInt = (q_I r308.2 12 2 a0).toInt from congrArg Int32.toInt (u347 12 2 a0 (by decide))).trans ((show (q_I r308.2 12 2 a0).toInt = (q_I r160.2 12 2 a0).toInt from congrArg Int32.toInt (u313 12 2 a0 (by decide))).trans ((show (q_I r160.2 12 2 a0).toInt = (q_I r77.2 12 2 a0).toInt from congrArg Int32.toInt (u165 12 2 a0 (by decide))).trans (show (q_I r77.2 12 2 a0).toInt = (q_I δ 12 2 a0).toInt from congrArg Int32.toInt (u83 12 2 a0 (by decide))))))
              have f383 := cb_12_2 I k_a0
              have f384 := ti_b r370.1
              have sh385 : NH ad a0 δ r77.2 := NH.t NH.r nh94
              have sh386 : NH ad a0 δ r160.2 := NH.t sh385 nh182
              have sh387 : NH ad a0 δ r308.2 := NH.t sh386 nh332
              have sh388 : NH ad a0 δ r342 := NH.t sh387 nh356
              have sh389 : SHP ad a0 δ r370.2 := SHP.pre sh388 p374
              exact ⟨by first | with_reducible assumption | assumption, ⟨kp_w (by decide) u378, v379, kr_w (by decide) v380⟩, by first | with_reducible assumption | omega, sh389⟩
            · have c390 : (2 : Int) ≠ (0 : Int) := o_ne h340
              have f391 := ti_b (x5v &&& (2 : Int32))
              refine ok_ite (fun h392 => ?_) (fun h392 => ?_)
              · have c393 : (x5v &&& (2 : Int32)).toInt = (0 : Int) := o_eq h392
                have f394 : (q_I r308.2 12 5 a0).toInt = (q_I δ 12 5 a0).toInt := ((show (q_I r308.2 12 5 a0).toInt = (q_I r160.2 12 5 a0).toInt from congrArg Int32.toInt (u313 12 5 a0 (by decide))).trans ((show (q_I r160.2 12 5 a0).toInt = (q_I r77.2 12 5 a0).toInt from congrArg Int32.toInt (u165 12 5 a0 (by decide))).trans (show (q_I r77.2 12 5 a0).toInt = (q_I δ 12 5 a0).toInt from congrArg Int32.toInt (u83 12 5 a0 (by decide)))))
                have f395 : (q_I r308.2 12 3 a0).toInt = (q_I r160.2 12 3 a0).toInt := congrArg Int32.toInt (u313 12 3 a0 (by decide))
                refine ok_mono (kj_X12_shape_148 L hN (K49 := (n : Int)) (a0 := a0) (x1 := x1) (x2v := x2v) (x3v := x3v) (x4v := x4v) (x5v := x5v) (x6v := (2 : Int32)) ih k_a0 (show (q_I r308.2 12 5 a0).toInt < 0 → 2 ≤ (x2v).toInt ∧ (x2v).toInt ≤ 16 ∧ 1 ≤ (x3v).toInt ∧ (x3v).toInt ≤ 5 from fun hb => J0 (by omega)) (show (x4v).toInt = 0 ∨ (x4v).toInt = 1 by first | with_reducible assumption | omega) (show (q_I r308.2 12 5 a0).toInt < 0 → (q_I r308.2 12 4 a0).toInt < (q_I r308.2 12 3 a0).toInt ∧ 97 ≤ hc ad r308.2 a0 ∧ hc ad r308.2 a0 ≤ 122 by first | with_reducible assumption | omega) (show 501 - (q_I r308.2 12 4 a0).toInt ≤ (n : Int) by first | with_reducible assumption | omega) i310) (fun r396 hr397 => ?_)
                obtain ⟨i398, ⟨u401, u402, u403⟩, p399, p400⟩ := hr397
                have u404 := kp_t u317 u401
                have v405 : q_V r396.2 = q_V δ := (u402).trans v318
                have v406 := kr_t v319 u403
                have f407 := cb_12_2 i398 k_a0
                have f408 : (q_I r308.2 12 2 a0).toInt = (q_I δ 12 2 a0).toInt := ((show (q_I r308.2 12 2 a0).toInt = (q_I r160.2 12 2 a0).toInt from congrArg Int32.toInt (u313 12 2 a0 (by decide))).trans ((show (q_I r160.2 12 2 a0).toInt = (q_I r77.2 12 2 a0).toInt from congrArg Int32.toInt (u165 12 2 a0 (by decide))).trans (show (q_I r77.2 12 2 a0).toInt = (q_I δ 12 2 a0).toInt from congrArg Int32.toInt (u83 12 2 a0 (by decide)))))
                have f409 := cb_12_2 I k_a0
                have f410 := ti_b r396.1
                have sh411 : NH ad a0 δ r77.2 := NH.t NH.r nh94
                have sh412 : NH ad a0 δ r160.2 := NH.t sh411 nh182
                have sh413 : NH ad a0 δ r308.2 := NH.t sh412 nh332
                have sh414 : SHP ad a0 δ r396.2 := SHP.pre sh413 p400
                exact ⟨by first | with_reducible assumption | assumption, ⟨kp_w (by decide) u404, v405, kr_w (by decide) v406⟩, by first | with_reducible assumption | omega, sh414⟩
              · have c415 : (x5v &&& (2 : Int32)).toInt ≠ (0 : Int) := o_ne h392
                refine ok_bind (k_X12_wrong L hN (a0 := a0) (x1 := (4 : Int32)) (x2 := (q_I r308.2 12 4 a0)) k_a0 (show 0 ≤ ((q_I r308.2 12 4 a0)).toInt by first | with_reducible assumption | omega) (show ((q_I r308.2 12 4 a0)).toInt ≤ 500 by first | with_reducible assumption | omega) (show 0 ≤ (4 : Int) by first | with_reducible assumption | omega) (show (4 : Int) ≤ 4 by first | with_reducible assumption | omega) i310) (fun r416 hr417 => ?_)
                obtain ⟨i418, ⟨u421, u422, u423, u424⟩, p419, p420⟩ := hr417
                have u425 := kp_t u317 u421
                have v426 : q_V r416 = q_V δ := (u422).trans v318
                have v427 := kr_t v319 u424
                have f428 := cb_12_5 i418 k_a0
                have f429 : (q_I r308.2 12 5 a0).toInt = (q_I δ 12 5 a0).toInt := ((show (q_I r308.2 12 5 a0).toInt = (q_I r160.2 12 5 a0).toInt from congrArg Int32.toInt (u313 12 5 a0 (by decide))).trans ((show (q_I r160.2 12 5 a0).toInt = (q_I r77.2 12 5 a0).toInt from congrArg Int32.toInt (u165 12 5 a0 (by decide))).trans (show (q_I r77.2 12 5 a0).toInt = (q_I δ 12 5 a0).toInt from congrArg Int32.toInt (u83 12 5 a0 (by decide)))))
                have nh430 : NH ad a0 r308.2 r416 := ⟨u424 103 (by decide) (by decide) (by decide), u421 12 10 _ (by decide), u421 12 18 _ (by decide)⟩
                have f431 : hc ad r416 a0 = (q_R r416 (Ad ad 101) (q_I r416 12 4 a0).toNatClampNeg).toInt := rfl
                have f432 : (q_I r416 12 4 a0).toInt = (q_I r308.2 12 4 a0).toInt := congrArg Int32.toInt (u421 12 4 a0 (by decide))
                have t433 := ti_tn (q_I r416 12 4 a0)
                have f434 : (q_R r416 (Ad ad 101) (q_I r416 12 4 a0).toNatClampNeg).toInt = (q_R r308.2 (Ad ad 101) (q_I r416 12 4 a0).toNatClampNeg).toInt := congrArg Int32.toInt (congrFun (u424 101 (by decide) (by decide) (by decide)) _)
                have f435 : (q_R r308.2 (Ad ad 101) (q_I r416 12 4 a0).toNatClampNeg).toInt = (q_R r160.2 (Ad ad 101) (q_I r416 12 4 a0).toNatClampNeg).toInt := congrArg Int32.toInt (congrFun (u316 101 (by decide) (by decide) (by decide)) _)
                have f436 : (q_R r160.2 (Ad ad 101) (q_I r416 12 4 a0).toNatClampNeg).toInt = (q_R r77.2 (Ad ad 101) (q_I r416 12 4 a0).toNatClampNeg).toInt := congrArg Int32.toInt (congrFun (u168 101 (by decide) (by decide) (by decide)) _)
                have f437 : (q_R r77.2 (Ad ad 101) (q_I r416 12 4 a0).toNatClampNeg).toInt = (q_R δ (Ad ad 101) (q_I r416 12 4 a0).toNatClampNeg).toInt := congrArg Int32.toInt (congrFun (u86 101 (by decide) (by decide) (by decide)) _)
                have f438 := ti_b (q_R δ (Ad ad 101) (q_I r416 12 4 a0).toNatClampNeg)
                have f439 := ti_b (q_R r77.2 (Ad ad 101) (q_I r416 12 4 a0).toNatClampNeg)
                have f440 := ti_b (q_R r160.2 (Ad ad 101) (q_I r416 12 4 a0).toNatClampNeg)
                have f441 := ti_b (q_R r308.2 (Ad ad 101) (q_I r416 12 4 a0).toNatClampNeg)
                have f442 := ti_b (q_R r416 (Ad ad 101) (q_I r416 12 4 a0).toNatClampNeg)
                have f443 : (q_I r416 12 3 a0).toInt = (q_I r160.2 12 3 a0).toInt := ((show (q_I r416 12 3 a0).toInt = (q_I r308.2 12 3 a0).toInt from congrArg Int32.toInt (u421 12 3 a0 (by decide))).trans (show (q_I r308.2 12 3 a0).toInt = (q_I r160.2 12 3 a0).toInt from congrArg Int32.toInt (u313 12 3 a0 (by decide))))
                refine ok_mono (kj_X12_shape_148 L hN (K49 := (n : Int)) (a0 := a0) (x1 := x1) (x2v := x2v) (x3v := x3v) (x4v := x4v) (x5v := x5v) (x6v := (2 : Int32)) ih k_a0 (show (q_I r416 12 5 a0).toInt < 0 → 2 ≤ (x2v).toInt ∧ (x2v).toInt ≤ 16 ∧ 1 ≤ (x3v).toInt ∧ (x3v).toInt ≤ 5 from fun hb => J0 (by omega)) (show (x4v).toInt = 0 ∨ (x4v).toInt = 1 by first | with_reducible assumption | omega) (show (q_I r416 12 5 a0).toInt < 0 → (q_I r416 12 4 a0).toInt < (q_I r416 12 3 a0).toInt ∧ 97 ≤ hc ad r416 a0 ∧ hc ad r416 a0 ≤ 122 by first | with_reducible assumption | omega) (show 501 - (q_I r416 12 4 a0).toInt ≤ (n : Int) by first | with_reducible assumption | omega) i418) (fun r444 hr445 => ?_)
                obtain ⟨i446, ⟨u449, u450, u451⟩, p447, p448⟩ := hr445
                have u452 := kp_t u425 u449
                have v453 : q_V r444.2 = q_V δ := (u450).trans v426
                have v454 := kr_t v427 u451
                have f455 := cb_12_2 i446 k_a0
                have f456 : (q_I r416 12 2 a0).toInt = (q_I δ 12 2 a0).toInt := ((show (q_I r416 12 2 a0).toInt = (q_I r308.2 12 2 a0).toInt from congrArg Int32.toInt (u421 12 2 a0 (by decide))).trans ((show (q_I r308.2 12 2 a0).toInt = (q_I r160.2 12 2 a0).toInt from congrArg Int32.toInt (u313 12 2 a0 (by decide))).trans ((show (q_I r160.2 12 2 a0).toInt = (q_I r77.2 12 2 a0).toInt from congrArg Int32.toInt (u165 12 2 a0 (by decide))).trans (show (q_I r77.2 12 2 a0).toInt = (q_I δ 12 2 a0).toInt from congrArg Int32.toInt (u83 12 2 a0 (by decide))))))
                have f457 := cb_12_2 I k_a0
                have f458 := ti_b r444.1
                have sh459 : NH ad a0 δ r77.2 := NH.t NH.r nh94
                have sh460 : NH ad a0 δ r160.2 := NH.t sh459 nh182
                have sh461 : NH ad a0 δ r308.2 := NH.t sh460 nh332
                have sh462 : NH ad a0 δ r416 := NH.t sh461 nh430
                have sh463 : SHP ad a0 δ r444.2 := SHP.pre sh462 p448
                exact ⟨by first | with_reducible assumption | assumption, ⟨kp_w (by decide) u452, v453, kr_w (by decide) v454⟩, by first | with_reducible assumption | omega, sh463⟩
          · have c464 : r308.1.toInt ≠ r333.1.toInt := o_ne h338
            refine ok_bind (k_X12_word L hN (a0 := a0) k_a0 i310) (fun r465 hr466 => ?_)
            obtain ⟨i467, ⟨u470, u471, u472, u473⟩, p468, p469⟩ := hr466
            have u474 := kp_t u317 u470
            have v475 : q_V r465.2 = q_V δ := (u471).trans v318
            have v476 := kr_t v319 u473
            have f477 := cb_12_4 i467 k_a0
            have f478 : hc ad r465.2 a0 = (q_R r465.2 (Ad ad 101) (q_I r465.2 12 4 a0).toNatClampNeg).toInt := rfl
            have t479 := ti_tn (q_I r465.2 12 4 a0)
            have f480 : (q_R r465.2 (Ad ad 101) (q_I r465.2 12 4 a0).toNatClampNeg).toInt = (q_R r308.2 (Ad ad 101) (q_I r465.2 12 4 a0).toNatClampNeg).toInt := congrArg Int32.toInt (congrFun (u473 101 (by decide) (by decide) (by decide)) _)
            have f481 : (q_R r308.2 (Ad ad 101) (q_I r465.2 12 4 a0).toNatClampNeg).toInt = (q_R r160.2 (Ad ad 101) (q_I r465.2 12 4 a0).toNatClampNeg).toInt := congrArg Int32.toInt (congrFun (u316 101 (by decide) (by decide) (by decide)) _)
            have f482 : (q_R r160.2 (Ad ad 101) (q_I r465.2 12 4 a0).toNatClampNeg).toInt = (q_R r77.2 (Ad ad 101) (q_I r465.2 12 4 a0).toNatClampNeg).toInt := congrArg Int32.toInt (congrFun (u168 101 (by decide) (by decide) (by decide)) _)
            have f483 : (q_R r77.2 (Ad ad 101) (q_I r465.2 12 4 a0).toNatClampNeg).toInt = (q_R δ (Ad ad 101) (q_I r465.2 12 4 a0).toNatClampNeg).toInt := congrArg Int32.toInt (congrFun (u86 101 (by decide) (by decide) (by decide)) _)
            have f484 := ti_b (q_R δ (Ad ad 101) (q_I r465.2 12 4 a0).toNatClampNeg)
            have f485 := ti_b (q_R r77.2 (Ad ad 101) (q_I r465.2 12 4 a0).toNatClampNeg)
            have f486 := ti_b (q_R r160.2 (Ad ad 101) (q_I r465.2 12 4 a0).toNatClampNeg)
            have f487 := ti_b (q_R r308.2 (Ad ad 101) (q_I r465.2 12 4 a0).toNatClampNeg)
            have f488 := ti_b (q_R r465.2 (Ad ad 101) (q_I r465.2 12 4 a0).toNatClampNeg)
            have f489 := ti_b r465.1
            have f490 : (q_I r308.2 12 3 a0).toInt = (q_I r160.2 12 3 a0).toInt := congrArg Int32.toInt (u313 12 3 a0 (by decide))
            have nh491 : NH ad a0 r308.2 r465.2 := ⟨u473 103 (by decide) (by decide) (by decide), u470 12 10 _ (by decide), u470 12 18 _ (by decide)⟩
            refine ok_bind (k_X12_of L hN (a0 := 2) (show 2 < 16 by first | with_reducible assumption | omega) i467) (fun r492 hr493 => ?_)
            obtain ⟨i494, p495⟩ := hr493
            try rw [i494]
            have f496 := ti_b r492.1
            refine ok_ite (fun h497 => ?_) (fun h497 => ?_)
            · have c498 : r465.1.toInt = r492.1.toInt := o_eq h497
              unfold J_X12_shape_112
              refine ok_ite (fun h499 => ?_) (fun h499 => ?_)
              · have c500 : (4 : Int) = (0 : Int) := o_eq h499
                refine ok_bind (k_X12_wrong L hN (a0 := a0) (x1 := (1 : Int32)) (x2 := (q_I r465.2 12 4 a0)) k_a0 (show 0 ≤ ((q_I r465.2 12 4 a0)).toInt by first | with_reducible assumption | omega) (show ((q_I r465.2 12 4 a0)).toInt ≤ 500 by first | with_reducible assumption | omega) (show 0 ≤ (1 : Int) by first | with_reducible assumption | omega) (show (1 : Int) ≤ 4 by first | with_reducible assumption | omega) i467) (fun r501 hr502 => ?_)
                obtain ⟨i503, ⟨u506, u507, u508, u509⟩, p504, p505⟩ := hr502
                have u510 := kp_t u474 u506
                have v511 : q_V r501 = q_V δ := (u507).trans v475
                have v512 := kr_t v476 u509
                have f513 := cb_12_5 i503 k_a0
                have f514 : (q_I r465.2 12 5 a0).toInt = (q_I δ 12 5 a0).toInt := ((show (q_I r465.2 12 5 a0).toInt = (q_I r308.2 12 5 a0).toInt from congrArg Int32.toInt (u470 12 5 a0 (by decide))).trans ((show (q_I r308.2 12 5 a0).toInt = (q_I r160.2 12 5 a0).toInt from congrArg Int32.toInt (u313 12 5 a0 (by decide))).trans ((show (q_I r160.2 12 5 a0).toInt = (q_I r77.2 12 5 a0).toInt from congrArg Int32.toInt (u165 12 5 a0 (by decide))).trans (show (q_I r77.2 12 5 a0).toInt = (q_I δ 12 5 a0).toInt from congrArg Int32.toInt (u83 12 5 a0 (by decide))))))
                have nh515 : NH ad a0 r465.2 r501 := ⟨u509 103 (by decide) (by decide) (by decide), u506 12 10 _ (by decide), u506 12 18 _ (by decide)⟩
                have f516 : hc ad r501 a0 = (q_R r501 (Ad ad 101) (q_I r501 12 4 a0).toNatClampNeg).toInt := rfl
                have f517 : (q_I r501 12 4 a0).toInt = (q_I r465.2 12 4 a0).toInt := congrArg Int32.toInt (u506 12 4 a0 (by decide))
                have t518 := ti_tn (q_I r501 12 4 a0)
                have f519 : (q_R r501 (Ad ad 101) (q_I r501 12 4 a0).toNatClampNeg).toInt = (q_R r465.2 (Ad ad 101) (q_I r501 12 4 a0).toNatClampNeg).toInt := congrArg Int32.toInt (congrFun (u509 101 (by decide) (by decide) (by decide)) _)
                have f520 : (q_R r465.2 (Ad ad 101) (q_I r501 12 4 a0).toNatClampNeg).toInt = (q_R r308.2 (Ad ad 101) (q_I r501 12 4 a0).toNatClampNeg).toInt := congrArg Int32.toInt (congrFun (u473 101 (by decide) (by decide) (by decide)) _)
                have f521 : (q_R r308.2 (Ad ad 101) (q_I r501 12 4 a0).toNatClampNeg).toInt = (q_R r160.2 (Ad ad 101) (q_I r501 12 4 a0).toNatClampNeg).toInt := congrArg Int32.toInt (congrFun (u316 101 (by decide) (by decide) (by decide)) _)
                have f522 : (q_R r160.2 (Ad ad 101) (q_I r501 12 4 a0).toNatClampNeg).toInt = (q_R r77.2 (Ad ad 101) (q_I r501 12 4 a0).toNatClampNeg).toInt := congrArg Int32.toInt (congrFun (u168 101 (by decide) (by decide) (by decide)) _)
                have f523 : (q_R r77.2 (Ad ad 101) (q_I r501 12 4 a0).toNatClampNeg).toInt = (q_R δ (Ad ad 101) (q_I r501 12 4 a0).toNatClampNeg).toInt := congrArg Int32.toInt (congrFun (u86 101 (by decide) (by decide) (by decide)) _)
                have f524 := ti_b (q_R δ (Ad ad 101) (q_I r501 12 4 a0).toNatClampNeg)
                have f525 := ti_b (q_R r77.2 (Ad ad 101) (q_I r501 12 4 a0).toNatClampNeg)
                have f526 := ti_b (q_R r160.2 (Ad ad 101) (q_I r501 12 4 a0).toNatClampNeg)
                have f527 := ti_b (q_R r308.2 (Ad ad 101) (q_I r501 12 4 a0).toNatClampNeg)
                have f528 := ti_b (q_R r465.2 (Ad ad 101) (q_I r501 12 4 a0).toNatClampNeg)
                have f529 := ti_b (q_R r501 (Ad ad 101) (q_I r501 12 4 a0).toNatClampNeg)
                have f530 : (q_I r501 12 3 a0).toInt = (q_I r308.2 12 3 a0).toInt := ((show (q_I r501 12 3 a0).toInt = (q_I r465.2 12 3 a0).toInt from congrArg Int32.toInt (u506 12 3 a0 (by decide))).trans (show (q_I r465.2 12 3 a0).toInt = (q_I r308.2 12 3 a0).toInt from congrArg Int32.toInt (u470 12 3 a0 (by decide))))
                refine ok_mono (kj_X12_shape_148 L hN (K49 := (n : Int)) (a0 := a0) (x1 := x1) (x2v := x2v) (x3v := x3v) (x4v := x4v) (x5v := x5v) (x6v := (4 : Int32)) ih k_a0 (show (q_I r501 12 5 a0).toInt < 0 → 2 ≤ (x2v).toInt ∧ (x2v).toInt ≤ 16 ∧ 1 ≤ (x3v).toInt ∧ (x3v).toInt ≤ 5 from fun hb => J0 (by omega)) (show (x4v).toInt = 0 ∨ (x4v).toInt = 1 by first | with_reducible assumption | omega) (show (q_I r501 12 5 a0).toInt < 0 → (q_I r501 12 4 a0).toInt < (q_I r501 12 3 a0).toInt ∧ 97 ≤ hc ad r501 a0 ∧ hc ad r501 a0 ≤ 122 by first | with_reducible assumption | omega) (show 501 - (q_I r501 12 4 a0).toInt ≤ (n : Int) by first | with_reducible assumption | omega) i503) (fun r531 hr532 => ?_)
                obtain ⟨i533, ⟨u536, u537, u538⟩, p534, p535⟩ := hr532
                have u539 := kp_t u510 u536
                have v540 : q_V r531.2 = q_V δ := (u537).trans v511
                have v541 := kr_t v512 u538
                have f542 := cb_12_2 i533 k_a0
                have f543 : (q_I r501 12 2 a0).toInt = (q_I δ 12 2 a0).toInt := ((show (q_I r501 12 2 a0).toInt = (q_I r465.2 12 2 a0).toInt from congrArg Int32.toInt (u506 12 2 a0 (by decide))).trans ((show (q_I r465.2 12 2 a0).toInt = (q_I r308.2 12 2 a0).toInt from congrArg Int32.toInt (u470 12 2 a0 (by decide))).trans ((show (q_I r308.2 12 2 a0).toInt = (q_I r160.2 12 2 a0).toInt from congrArg Int32.toInt (u313 12 2 a0 (by decide))).trans ((show (q_I r160.2 12 2 a0).toInt = (q_I r77.2 12 2 a0).toInt from congrArg Int32.toInt (u165 12 2 a0 (by decide))).trans (show (q_I r77.2 12 2 a0).toInt = (q_I δ 12 2 a0).toInt from congrArg Int32.toInt (u83 12 2 a0 (by decide)))))))
                have f544 := cb_12_2 I k_a0
                have f545 := ti_b r531.1
                have sh546 : NH ad a0 δ r77.2 := NH.t NH.r nh94
                have sh547 : NH ad a0 δ r160.2 := NH.t sh546 nh182
                have sh548 : NH ad a0 δ r308.2 := NH.t sh547 nh332
                have sh549 : NH ad a0 δ r465.2 := NH.t sh548 nh491
                have sh550 : NH ad a0 δ r501 := NH.t sh549 nh515
                have sh551 : SHP ad a0 δ r531.2 := SHP.pre sh550 p535
                exact ⟨by first | with_reducible assumption | assumption, ⟨kp_w (by decide) u539, v540, kr_w (by decide) v541⟩, by first | with_reducible assumption | omega, sh551⟩
              · have c552 : (4 : Int) ≠ (0 : Int) := o_ne h499
                have f553 := ti_b (x5v &&& (4 : Int32))
                refine ok_ite (fun h554 => ?_) (fun h554 => ?_)
                · have c555 : (x5v &&& (4 : Int32)).toInt = (0 : Int) := o_eq h554
                  have f556 : (q_I r465.2 12 5 a0).toInt = (q_I δ 12 5 a0).toInt := ((show (q_I r465.2 12 5 a0).toInt = (q_I r308.2 12 5 a0).toInt from congrArg Int32.toInt (u470 12 5 a0 (by decide))).trans ((show (q_I r308.2 12 5 a0).toInt = (q_I r160.2 12 5 a0).toInt from congrArg Int32.toInt (u313 12 5 a0 (by decide))).trans ((show (q_I r160.2 12 5 a0).toInt = (q_I r77.2 12 5 a0).toInt from congrArg Int32.toInt (u165 12 5 a0 (by decide))).trans (show (q_I r77.2 12 5 a0).toInt = (q_I δ 12 5 a0).toInt from congrArg Int32.toInt (u83 12 5 a0 (by decide))))))
                  have f557 : (q_I r465.2 12 3 a0).toInt = (q_I r308.2 12 3 a0).toInt := congrArg Int32.toInt (u470 12 3 a0 (by decide))
                  refine ok_mono (kj_X12_shape_148 L hN (K49 := (n : Int)) (a0 := a0) (x1 := x1) (x2v := x2v) (x3v := x3v) (x4v := x4v) (x5v := x5v) (x6v := (4 : Int32)) ih k_a0 (show (q_I r465.2 12 5 a0).toInt < 0 → 2 ≤ (x2v).toInt ∧ (x2v).toInt ≤ 16 ∧ 1 ≤ (x3v).toInt ∧ (x3v).toInt ≤ 5 from fun hb => J0 (by omega)) (show (x4v).toInt = 0 ∨ (x4v).toInt = 1 by first | with_reducible assumption | omega) (show (q_I r465.2 12 5 a0).toInt < 0 → (q_I r465.2 12 4 a0).toInt < (q_I r465.2 12 3 a0).toInt ∧ 97 ≤ hc ad r465.2 a0 ∧ hc ad r465.2 a0 ≤ 122 by first | with_reducible assumption | omega) (show 501 - (q_I r465.2 12 4 a0).toInt ≤ (n : Int) by first | with_reducible assumption | omega) i467) (fun r558 hr559 => ?_)
                  obtain ⟨i560, ⟨u563, u564, u565⟩, p561, p562⟩ := hr559
                  have u566 := kp_t u474 u563
                  have v567 : q_V r558.2 = q_V δ := (u564).trans v475
                  have v568 := kr_t v476 u565
                  have f569 := cb_12_2 i560 k_a0
                  have f570 : (q_I r465.2 12 2 a0).toInt = (q_I δ 12 2 a0).toInt := ((show (q_I r465.2 12 2 a0).toInt = (q_I r308.2 12 2 a0).toInt from congrArg Int32.toInt (u470 12 2 a0 (by decide))).trans ((show (q_I r308.2 12 2 a0).toInt = (q_I r160.2 12 2 a0).toInt from congrArg Int32.toInt (u313 12 2 a0 (by decide))).trans ((show (q_I r160.2 12 2 a0).toInt = (q_I r77.2 12 2 a0).toInt from congrArg Int32.toInt (u165 12 2 a0 (by decide))).trans (show (q_I r77.2 12 2 a0).toInt = (q_I δ 12 2 a0).toInt from congrArg Int32.toInt (u83 12 2 a0 (by decide))))))
                  have f571 := cb_12_2 I k_a0
                  have f572 := ti_b r558.1
                  have sh573 : NH ad a0 δ r77.2 := NH.t NH.r nh94
                  have sh574 : NH ad a0 δ r160.2 := NH.t sh573 nh182
                  have sh575 : NH ad a0 δ r308.2 := NH.t sh574 nh332
                  have sh576 : NH ad a0 δ r465.2 := NH.t sh575 nh491
                  have sh577 : SHP ad a0 δ r558.2 := SHP.pre sh576 p562
                  exact ⟨by first | with_reducible assumption | assumption, ⟨kp_w (by decide) u566, v567, kr_w (by decide) v568⟩, by first | with_reducible assumption | omega, sh577⟩
                · have c578 : (x5v &&& (4 : Int32)).toInt ≠ (0 : Int) := o_ne h554
                  refine ok_bind (k_X12_wrong L hN (a0 := a0) (x1 := (4 : Int32)) (x2 := (q_I r465.2 12 4 a0)) k_a0 (show 0 ≤ ((q_I r465.2 12 4 a0)).toInt by first | with_reducible assumption | omega) (show ((q_I r465.2 12 4 a0)).toInt ≤ 500 by first | with_reducible assumption | omega) (show 0 ≤ (4 : Int) by first | with_reducible assumption | omega) (show (4 : Int) ≤ 4 by first | with_reducible assumption | omega) i467) (fun r579 hr580 => ?_)
                  obtain ⟨i581, ⟨u584, u585, u586, u587⟩, p582, p583⟩ := hr580
                  have u588 := kp_t u474 u584
                  have v589 : q_V r579 = q_V δ := (u585).trans v475
                  have v590 := kr_t v476 u587
                  have f591 := cb_12_5 i581 k_a0
                  have f592 : (q_I r465.2 12 5 a0).toInt = (q_I δ 12 5 a0).toInt := ((show (q_I r465.2 12 5 a0).toInt = (q_I r308.2 12 5 a0).toInt from congrArg Int32.toInt (u470 12 5 a0 (by decide))).trans ((show (q_I r308.2 12 5 a0).toInt = (q_I r160.2 12 5 a0).toInt from congrArg Int32.toInt (u313 12 5 a0 (by decide))).trans ((show (q_I r160.2 12 5 a0).toInt = (q_I r77.2 12 5 a0).toInt from congrArg Int32.toInt (u165 12 5 a0 (by decide))).trans (show (q_I r77.2 12 5 a0).toInt = (q_I δ 12 5 a0).toInt from congrArg Int32.toInt (u83 12 5 a0 (by decide))))))
                  have nh593 : NH ad a0 r465.2 r579 := ⟨u587 103 (by decide) (by decide) (by decide), u584 12 10 _ (by decide), u584 12 18 _ (by decide)⟩
                  have f594 : hc ad r579 a0 = (q_R r579 (Ad ad 101) (q_I r579 12 4 a0).toNatClampNeg).toInt := rfl
                  have f595 : (q_I r579 12 4 a0).toInt = (q_I r465.2 12 4 a0).toInt := congrArg Int32.toInt (u584 12 4 a0 (by decide))
                  have t596 := ti_tn (q_I r579 12 4 a0)
                  have f597 : (q_R r579 (Ad ad 101) (q_I r579 12 4 a0).toNatClampNeg).toInt = (q_R r465.2 (Ad ad 101) (q_I r579 12 4 a0).toNatClampNeg).toInt := congrArg Int32.toInt (congrFun (u587 101 (by decide) (by decide) (by decide)) _)
                  have f598 : (q_R r465.2 (Ad ad 101) (q_I r579 12 4 a0).toNatClampNeg).toInt = (q_R r308.2 (Ad ad 101) (q_I r579 12 4 a0).toNatClampNeg).toInt := congrArg Int32.toInt (congrFun (u473 101 (by decide) (by decide) (by decide)) _)
                  have f599 : (q_R r308.2 (Ad ad 101) (q_I r579 12 4 a0).toNatClampNeg).toInt = (q_R r160.2 (Ad ad 101) (q_I r579 12 4 a0).toNatClampNeg).toInt := congrArg Int32.toInt (congrFun (u316 101 (by decide) (by decide) (by decide)) _)
                  have f600 : (q_R r160.2 (Ad ad 101) (q_I r579 12 4 a0).toNatClampNeg).toInt = (q_R r77.2 (Ad ad 101) (q_I r579 12 4 a0).toNatClampNeg).toInt := congrArg Int32.toInt (congrFun (u168 101 (by decide) (by decide) (by decide)) _)
                  have f601 : (q_R r77.2 (Ad ad 101) (q_I r579 12 4 a0).toNatClampNeg).toInt = (q_R δ (Ad ad 101) (q_I r579 12 4 a0).toNatClampNeg).toInt := congrArg Int32.toInt (congrFun (u86 101 (by decide) (by decide) (by decide)) _)
                  have f602 := ti_b (q_R δ (Ad ad 101) (q_I r579 12 4 a0).toNatClampNeg)
                  have f603 := ti_b (q_R r77.2 (Ad ad 101) (q_I r579 12 4 a0).toNatClampNeg)
                  have f604 := ti_b (q_R r160.2 (Ad ad 101) (q_I r579 12 4 a0).toNatClampNeg)
                  have f605 := ti_b (q_R r308.2 (Ad ad 101) (q_I r579 12 4 a0).toNatClampNeg)
                  have f606 := ti_b (q_R r465.2 (Ad ad 101) (q_I r579 12 4 a0).toNatClampNeg)
                  have f607 := ti_b (q_R r579 (Ad ad 101) (q_I r579 12 4 a0).toNatClampNeg)
                  have f608 : (q_I r579 12 3 a0).toInt = (q_I r308.2 12 3 a0).toInt := ((show (q_I r579 12 3 a0).toInt = (q_I r465.2 12 3 a0).toInt from congrArg Int32.toInt (u584 12 3 a0 (by decide))).trans (show (q_I r465.2 12 3 a0).toInt = (q_I r308.2 12 3 a0).toInt from congrArg Int32.toInt (u470 12 3 a0 (by decide))))
                  refine ok_mono (kj_X12_shape_148 L hN (K49 := (n : Int)) (a0 := a0) (x1 := x1) (x2v := x2v) (x3v := x3v) (x4v := x4v) (x5v := x5v) (x6v := (4 : Int32)) ih k_a0 (show (q_I r579 12 5 a0).toInt < 0 → 2 ≤ (x2v).toInt ∧ (x2v).toInt ≤ 16 ∧ 1 ≤ (x3v).toInt ∧ (x3v).toInt ≤ 5 from fun hb => J0 (by omega)) (show (x4v).toInt = 0 ∨ (x4v).toInt = 1 by first | with_reducible assumption | omega) (show (q_I r579 12 5 a0).toInt < 0 → (q_I r579 12 4 a0).toInt < (q_I r579 12 3 a0).toInt ∧ 97 ≤ hc ad r579 a0 ∧ hc ad r579 a0 ≤ 122 by first | with_reducible assumption | omega) (show 501 - (q_I r579 12 4 a0).toInt ≤ (n : Int) by first | with_reducible assumption | omega) i581) (fun r609 hr610 => ?_)
                  obtain ⟨i611, ⟨u614, u615, u616⟩, p612, p613⟩ := hr610
                  have u617 := kp_t u588 u614
                  have v618 : q_V r609.2 = q_V δ := (u615).trans v589
                  have v619 := kr_t v590 u616
                  have f620 := cb_12_2 i611 k_a0
                  have f621 : (q_I r579 12 2 a0).toInt = (q_I δ 12 2 a0).toInt := ((show (q_I r579 12 2 a0).toInt = (q_I r465.2 12 2 a0).toInt from congrArg Int32.toInt (u584 12 2 a0 (by decide))).trans ((show (q_I r465.2 12 2 a0).toInt = (q_I r308.2 12 2 a0).toInt from congrArg Int32.toInt (u470 12 2 a0 (by decide))).trans ((show (q_I r308.2 12 2 a0).toInt = (q_I r160.2 12 2 a0).toInt from congrArg Int32.toInt (u313 12 2 a0 (by decide))).trans ((show (q_I r160.2 12 2 a0).toInt = (q_I r77.2 12 2 a0).toInt from congrArg Int32.toInt (u165 12 2 a0 (by decide))).trans (show (q_I r77.2 12 2 a0).toInt = (q_I δ 12 2 a0).toInt from congrArg Int32.toInt (u83 12 2 a0 (by decide)))))))
                  have f622 := cb_12_2 I k_a0
                  have f623 := ti_b r609.1
                  have sh624 : NH ad a0 δ r77.2 := NH.t NH.r nh94
                  have sh625 : NH ad a0 δ r160.2 := NH.t sh624 nh182
                  have sh626 : NH ad a0 δ r308.2 := NH.t sh625 nh332
                  have sh627 : NH ad a0 δ r465.2 := NH.t sh626 nh491
                  have sh628 : NH ad a0 δ r579 := NH.t sh627 nh593
                  have sh629 : SHP ad a0 δ r609.2 := SHP.pre sh628 p613
                  exact ⟨by first | with_reducible assumption | assumption, ⟨kp_w (by decide) u617, v618, kr_w (by decide) v619⟩, by first | with_reducible assumption | omega, sh629⟩
            · have c630 : r465.1.toInt ≠ r492.1.toInt := o_ne h497
              unfold J_X12_shape_112
              refine ok_ite (fun h631 => ?_) (fun h631 => ?_)
              · have c632 : (0 : Int) = (0 : Int) := o_eq h631
                refine ok_bind (k_X12_wrong L hN (a0 := a0) (x1 := (1 : Int32)) (x2 := (q_I r465.2 12 4 a0)) k_a0 (show 0 ≤ ((q_I r465.2 12 4 a0)).toInt by first | with_reducible assumption | omega) (show ((q_I r465.2 12 4 a0)).toInt ≤ 500 by first | with_reducible assumption | omega) (show 0 ≤ (1 : Int) by first | with_reducible assumption | omega) (show (1 : Int) ≤ 4 by first | with_reducible assumption | omega) i467) (fun r633 hr634 => ?_)
                obtain ⟨i635, ⟨u638, u639, u640, u641⟩, p636, p637⟩ := hr634
                have u642 := kp_t u474 u638
                have v643 : q_V r633 = q_V δ := (u639).trans v475
                have v644 := kr_t v476 u641
                have f645 := cb_12_5 i635 k_a0
                have f646 : (q_I r465.2 12 5 a0).toInt = (q_I δ 12 5 a0).toInt := ((show (q_I r465.2 12 5 a0).toInt = (q_I r308.2 12 5 a0).toInt from congrArg Int32.toInt (u470 12 5 a0 (by decide))).trans ((show (q_I r308.2 12 5 a0).toInt = (q_I r160.2 12 5 a0).toInt from congrArg Int32.toInt (u313 12 5 a0 (by decide))).trans ((show (q_I r160.2 12 5 a0).toInt = (q_I r77.2 12 5 a0).toInt from congrArg Int32.toInt (u165 12 5 a0 (by decide))).trans (show (q_I r77.2 12 5 a0).toInt = (q_I δ 12 5 a0).toInt from congrArg Int32.toInt (u83 12 5 a0 (by decide))))))
                have nh647 : NH ad a0 r465.2 r633 := ⟨u641 103 (by decide) (by decide) (by decide), u638 12 10 _ (by decide), u638 12 18 _ (by decide)⟩
                have f648 : hc ad r633 a0 = (q_R r633 (Ad ad 101) (q_I r633 12 4 a0).toNatClampNeg).toInt := rfl
                have f649 : (q_I r633 12 4 a0).toInt = (q_I r465.2 12 4 a0).toInt := congrArg Int32.toInt (u638 12 4 a0 (by decide))
                have t650 := ti_tn (q_I r633 12 4 a0)
                have f651 : (q_R r633 (Ad ad 101) (q_I r633 12 4 a0).toNatClampNeg).toInt = (q_R r465.2 (Ad ad 101) (q_I r633 12 4 a0).toNatClampNeg).toInt := congrArg Int32.toInt (congrFun (u641 101 (by decide) (by decide) (by decide)) _)
                have f652 : (q_R r465.2 (Ad ad 101) (q_I r633 12 4 a0).toNatClampNeg).toInt = (q_R r308.2 (Ad ad 101) (q_I r633 12 4 a0).toNatClampNeg).toInt := congrArg Int32.toInt (congrFun (u473 101 (by decide) (by decide) (by decide)) _)
                have f653 : (q_R r308.2 (Ad ad 101) (q_I r633 12 4 a0).toNatClampNeg).toInt = (q_R r160.2 (Ad ad 101) (q_I r633 12 4 a0).toNatClampNeg).toInt := congrArg Int32.toInt (congrFun (u316 101 (by decide) (by decide) (by decide)) _)
                have f654 : (q_R r160.2 (Ad ad 101) (q_I r633 12 4 a0).toNatClampNeg).toInt = (q_R r77.2 (Ad ad 101) (q_I r633 12 4 a0).toNatClampNeg).toInt := congrArg Int32.toInt (congrFun (u168 101 (by decide) (by decide) (by decide)) _)
                have f655 : (q_R r77.2 (Ad ad 101) (q_I r633 12 4 a0).toNatClampNeg).toInt = (q_R δ (Ad ad 101) (q_I r633 12 4 a0).toNatClampNeg).toInt := congrArg Int32.toInt (congrFun (u86 101 (by decide) (by decide) (by decide)) _)
                have f656 := ti_b (q_R δ (Ad ad 101) (q_I r633 12 4 a0).toNatClampNeg)
                have f657 := ti_b (q_R r77.2 (Ad ad 101) (q_I r633 12 4 a0).toNatClampNeg)
                have f658 := ti_b (q_R r160.2 (Ad ad 101) (q_I r633 12 4 a0).toNatClampNeg)
                have f659 := ti_b (q_R r308.2 (Ad ad 101) (q_I r633 12 4 a0).toNatClampNeg)
                have f660 := ti_b (q_R r465.2 (Ad ad 101) (q_I r633 12 4 a0).toNatClampNeg)
                have f661 := ti_b (q_R r633 (Ad ad 101) (q_I r633 12 4 a0).toNatClampNeg)
                have f662 : (q_I r633 12 3 a0).toInt = (q_I r308.2 12 3 a0).toInt := ((show (q_I r633 12 3 a0).toInt = (q_I r465.2 12 3 a0).toInt from congrArg Int32.toInt (u638 12 3 a0 (by decide))).trans (show (q_I r465.2 12 3 a0).toInt = (q_I r308.2 12 3 a0).toInt from congrArg Int32.toInt (u470 12 3 a0 (by decide))))
                refine ok_mono (kj_X12_shape_148 L hN (K49 := (n : Int)) (a0 := a0) (x1 := x1) (x2v := x2v) (x3v := x3v) (x4v := x4v) (x5v := x5v) (x6v := (0 : Int32)) ih k_a0 (show (q_I r633 12 5 a0).toInt < 0 → 2 ≤ (x2v).toInt ∧ (x2v).toInt ≤ 16 ∧ 1 ≤ (x3v).toInt ∧ (x3v).toInt ≤ 5 from fun hb => J0 (by omega)) (show (x4v).toInt = 0 ∨ (x4v).toInt = 1 by first | with_reducible assumption | omega) (show (q_I r633 12 5 a0).toInt < 0 → (q_I r633 12 4 a0).toInt < (q_I r633 12 3 a0).toInt ∧ 97 ≤ hc ad r633 a0 ∧ hc ad r633 a0 ≤ 122 by first | with_reducible assumption | omega) (show 501 - (q_I r633 12 4 a0).toInt ≤ (n : Int) by first | with_reducible assumption | omega) i635) (fun r663 hr664 => ?_)
                obtain ⟨i665, ⟨u668, u669, u670⟩, p666, p667⟩ := hr664
                have u671 := kp_t u642 u668
                have v672 : q_V r663.2 = q_V δ := (u669).trans v643
                have v673 := kr_t v644 u670
                have f674 := cb_12_2 i665 k_a0
                have f675 : (q_I r633 12 2 a0).toInt = (q_I δ 12 2 a0).toInt := ((show (q_I r633 12 2 a0).toInt = (q_I r465.2 12 2 a0).toInt from congrArg Int32.toInt (u638 12 2 a0 (by decide))).trans ((show (q_I r465.2 12 2 a0).toInt = (q_I r308.2 12 2 a0).toInt from congrArg Int32.toInt (u470 12 2 a0 (by decide))).trans ((show (q_I r308.2 12 2 a0).toInt = (q_I r160.2 12 2 a0).toInt from congrArg Int32.toInt (u313 12 2 a0 (by decide))).trans ((show (q_I r160.2 12 2 a0).toInt = (q_I r77.2 12 2 a0).toInt from congrArg Int32.toInt (u165 12 2 a0 (by decide))).trans (show (q_I r77.2 12 2 a0).toInt = (q_I δ 12 2 a0).toInt from congrArg Int32.toInt (u83 12 2 a0 (by decide)))))))
                have f676 := cb_12_2 I k_a0
                have f677 := ti_b r663.1
                have sh678 : NH ad a0 δ r77.2 := NH.t NH.r nh94
                have sh679 : NH ad a0 δ r160.2 := NH.t sh678 nh182
                have sh680 : NH ad a0 δ r308.2 := NH.t sh679 nh332
                have sh681 : NH ad a0 δ r465.2 := NH.t sh680 nh491
                have sh682 : NH ad a0 δ r633 := NH.t sh681 nh647
                have sh683 : SHP ad a0 δ r663.2 := SHP.pre sh682 p667
                exact ⟨by first | with_reducible assumption | assumption, ⟨kp_w (by decide) u671, v672, kr_w (by decide) v673⟩, by first | with_reducible assumption | omega, sh683⟩
              · have c684 : (0 : Int) ≠ (0 : Int) := o_ne h631
                have f685 := ti_b (x5v &&& (0 : Int32))
                refine ok_ite (fun h686 => ?_) (fun h686 => ?_)
                · have c687 : (x5v &&& (0 : Int32)).toInt = (0 : Int) := o_eq h686
                  have f688 : (q_I r465.2 12 5 a0).toInt = (q_I δ 12 5 a0).toInt := ((show (q_I r465.2 12 5 a0).toInt = (q_I r308.2 12 5 a0).toInt from congrArg Int32.toInt (u470 12 5 a0 (by decide))).trans ((show (q_I r308.2 12 5 a0).toInt = (q_I r160.2 12 5 a0).toInt from congrArg Int32.toInt (u313 12 5 a0 (by decide))).trans ((show (q_I r160.2 12 5 a0).toInt = (q_I r77.2 12 5 a0).toInt from congrArg Int32.toInt (u165 12 5 a0 (by decide))).trans (show (q_I r77.2 12 5 a0).toInt = (q_I δ 12 5 a0).toInt from congrArg Int32.toInt (u83 12 5 a0 (by decide))))))
                  have f689 : (q_I r465.2 12 3 a0).toInt = (q_I r308.2 12 3 a0).toInt := congrArg Int32.toInt (u470 12 3 a0 (by decide))
                  refine ok_mono (kj_X12_shape_148 L hN (K49 := (n : Int)) (a0 := a0) (x1 := x1) (x2v := x2v) (x3v := x3v) (x4v := x4v) (x5v := x5v) (x6v := (0 : Int32)) ih k_a0 (show (q_I r465.2 12 5 a0).toInt < 0 → 2 ≤ (x2v).toInt ∧ (x2v).toInt ≤ 16 ∧ 1 ≤ (x3v).toInt ∧ (x3v).toInt ≤ 5 from fun hb => J0 (by omega)) (show (x4v).toInt = 0 ∨ (x4v).toInt = 1 by first | with_reducible assumption | omega) (show (q_I r465.2 12 5 a0).toInt < 0 → (q_I r465.2 12 4 a0).toInt < (q_I r465.2 12 3 a0).toInt ∧ 97 ≤ hc ad r465.2 a0 ∧ hc ad r465.2 a0 ≤ 122 by first | with_reducible assumption | omega) (show 501 - (q_I r465.2 12 4 a0).toInt ≤ (n : Int) by first | with_reducible assumption | omega) i467) (fun r690 hr691 => ?_)
                  obtain ⟨i692, ⟨u695, u696, u697⟩, p693, p694⟩ := hr691
                  have u698 := kp_t u474 u695
                  have v699 : q_V r690.2 = q_V δ := (u696).trans v475
                  have v700 := kr_t v476 u697
                  have f701 := cb_12_2 i692 k_a0
                  have f702 : (q_I r465.2 12 2 a0).toInt = (q_I δ 12 2 a0).toInt := ((show (q_I r465.2 12 2 a0).toInt = (q_I r308.2 12 2 a0).toInt from congrArg Int32.toInt (u470 12 2 a0 (by decide))).trans ((show (q_I r308.2 12 2 a0).toInt = (q_I r160.2 12 2 a0).toInt from congrArg Int32.toInt (u313 12 2 a0 (by decide))).trans ((show (q_I r160.2 12 2 a0).toInt = (q_I r77.2 12 2 a0).toInt from congrArg Int32.toInt (u165 12 2 a0 (by decide))).trans (show (q_I r77.2 12 2 a0).toInt = (q_I δ 12 2 a0).toInt from congrArg Int32.toInt (u83 12 2 a0 (by decide))))))
                  have f703 := cb_12_2 I k_a0
                  have f704 := ti_b r690.1
                  have sh705 : NH ad a0 δ r77.2 := NH.t NH.r nh94
                  have sh706 : NH ad a0 δ r160.2 := NH.t sh705 nh182
                  have sh707 : NH ad a0 δ r308.2 := NH.t sh706 nh332
                  have sh708 : NH ad a0 δ r465.2 := NH.t sh707 nh491
                  have sh709 : SHP ad a0 δ r690.2 := SHP.pre sh708 p694
                  exact ⟨by first | with_reducible assumption | assumption, ⟨kp_w (by decide) u698, v699, kr_w (by decide) v700⟩, by first | with_reducible assumption | omega, sh709⟩
                · have c710 : (x5v &&& (0 : Int32)).toInt ≠ (0 : Int) := o_ne h686
                  refine ok_bind (k_X12_wrong L hN (a0 := a0) (x1 := (4 : Int32)) (x2 := (q_I r465.2 12 4 a0)) k_a0 (show 0 ≤ ((q_I r465.2 12 4 a0)).toInt by first | with_reducible assumption | omega) (show ((q_I r465.2 12 4 a0)).toInt ≤ 500 by first | with_reducible assumption | omega) (show 0 ≤ (4 : Int) by first | with_reducible assumption | omega) (show (4 : Int) ≤ 4 by first | with_reducible assumption | omega) i467) (fun r711 hr712 => ?_)
                  obtain ⟨i713, ⟨u716, u717, u718, u719⟩, p714, p715⟩ := hr712
                  have u720 := kp_t u474 u716
                  have v721 : q_V r711 = q_V δ := (u717).trans v475
                  have v722 := kr_t v476 u719
                  have f723 := cb_12_5 i713 k_a0
                  have f724 : (q_I r465.2 12 5 a0).toInt = (q_I δ 12 5 a0).toInt := ((show (q_I r465.2 12 5 a0).toInt = (q_I r308.2 12 5 a0).toInt from congrArg Int32.toInt (u470 12 5 a0 (by decide))).trans ((show (q_I r308.2 12 5 a0).toInt = (q_I r160.2 12 5 a0).toInt from congrArg Int32.toInt (u313 12 5 a0 (by decide))).trans ((show (q_I r160.2 12 5 a0).toInt = (q_I r77.2 12 5 a0).toInt from congrArg Int32.toInt (u165 12 5 a0 (by decide))).trans (show (q_I r77.2 12 5 a0).toInt = (q_I δ 12 5 a0).toInt from congrArg Int32.toInt (u83 12 5 a0 (by decide))))))
                  have nh725 : NH ad a0 r465.2 r711 := ⟨u719 103 (by decide) (by decide) (by decide), u716 12 10 _ (by decide), u716 12 18 _ (by decide)⟩
                  have f726 : hc ad r711 a0 = (q_R r711 (Ad ad 101) (q_I r711 12 4 a0).toNatClampNeg).toInt := rfl
                  have f727 : (q_I r711 12 4 a0).toInt = (q_I r465.2 12 4 a0).toInt := congrArg Int32.toInt (u716 12 4 a0 (by decide))
                  have t728 := ti_tn (q_I r711 12 4 a0)
                  have f729 : (q_R r711 (Ad ad 101) (q_I r711 12 4 a0).toNatClampNeg).toInt = (q_R r465.2 (Ad ad 101) (q_I r711 12 4 a0).toNatClampNeg).toInt := congrArg Int32.toInt (congrFun (u719 101 (by decide) (by decide) (by decide)) _)
                  have f730 : (q_R r465.2 (Ad ad 101) (q_I r711 12 4 a0).toNatClampNeg).toInt = (q_R r308.2 (Ad ad 101) (q_I r711 12 4 a0).toNatClampNeg).toInt := congrArg Int32.toInt (congrFun (u473 101 (by decide) (by decide) (by decide)) _)
                  have f731 : (q_R r308.2 (Ad ad 101) (q_I r711 12 4 a0).toNatClampNeg).toInt = (q_R r160.2 (Ad ad 101) (q_I r711 12 4 a0).toNatClampNeg).toInt := congrArg Int32.toInt (congrFun (u316 101 (by decide) (by decide) (by decide)) _)
                  have f732 : (q_R r160.2 (Ad ad 101) (q_I r711 12 4 a0).toNatClampNeg).toInt = (q_R r77.2 (Ad ad 101) (q_I r711 12 4 a0).toNatClampNeg).toInt := congrArg Int32.toInt (congrFun (u168 101 (by decide) (by decide) (by decide)) _)
                  have f733 : (q_R r77.2 (Ad ad 101) (q_I r711 12 4 a0).toNatClampNeg).toInt = (q_R δ (Ad ad 101) (q_I r711 12 4 a0).toNatClampNeg).toInt := congrArg Int32.toInt (congrFun (u86 101 (by decide) (by decide) (by decide)) _)
                  have f734 := ti_b (q_R δ (Ad ad 101) (q_I r711 12 4 a0).toNatClampNeg)
                  have f735 := ti_b (q_R r77.2 (Ad ad 101) (q_I r711 12 4 a0).toNatClampNeg)
                  have f736 := ti_b (q_R r160.2 (Ad ad 101) (q_I r711 12 4 a0).toNatClampNeg)
                  have f737 := ti_b (q_R r308.2 (Ad ad 101) (q_I r711 12 4 a0).toNatClampNeg)
                  have f738 := ti_b (q_R r465.2 (Ad ad 101) (q_I r711 12 4 a0).toNatClampNeg)
                  have f739 := ti_b (q_R r711 (Ad ad 101) (q_I r711 12 4 a0).toNatClampNeg)
                  have f740 : (q_I r711 12 3 a0).toInt = (q_I r308.2 12 3 a0).toInt := ((show (q_I r711 12 3 a0).toInt = (q_I r465.2 12 3 a0).toInt from congrArg Int32.toInt (u716 12 3 a0 (by decide))).trans (show (q_I r465.2 12 3 a0).toInt = (q_I r308.2 12 3 a0).toInt from congrArg Int32.toInt (u470 12 3 a0 (by decide))))
                  refine ok_mono (kj_X12_shape_148 L hN (K49 := (n : Int)) (a0 := a0) (x1 := x1) (x2v := x2v) (x3v := x3v) (x4v := x4v) (x5v := x5v) (x6v := (0 : Int32)) ih k_a0 (show (q_I r711 12 5 a0).toInt < 0 → 2 ≤ (x2v).toInt ∧ (x2v).toInt ≤ 16 ∧ 1 ≤ (x3v).toInt ∧ (x3v).toInt ≤ 5 from fun hb => J0 (by omega)) (show (x4v).toInt = 0 ∨ (x4v).toInt = 1 by first | with_reducible assumption | omega) (show (q_I r711 12 5 a0).toInt < 0 → (q_I r711 12 4 a0).toInt < (q_I r711 12 3 a0).toInt ∧ 97 ≤ hc ad r711 a0 ∧ hc ad r711 a0 ≤ 122 by first | with_reducible assumption | omega) (show 501 - (q_I r711 12 4 a0).toInt ≤ (n : Int) by first | with_reducible assumption | omega) i713) (fun r741 hr742 => ?_)
                  obtain ⟨i743, ⟨u746, u747, u748⟩, p744, p745⟩ := hr742
                  have u749 := kp_t u720 u746
                  have v750 : q_V r741.2 = q_V δ := (u747).trans v721
                  have v751 := kr_t v722 u748
                  have f752 := cb_12_2 i743 k_a0
                  have f753 : (q_I r711 12 2 a0).toInt = (q_I δ 12 2 a0).toInt := ((show (q_I r711 12 2 a0).toInt = (q_I r465.2 12 2 a0).toInt from congrArg Int32.toInt (u716 12 2 a0 (by decide))).trans ((show (q_I r465.2 12 2 a0).toInt = (q_I r308.2 12 2 a0).toInt from congrArg Int32.toInt (u470 12 2 a0 (by decide))).trans ((show (q_I r308.2 12 2 a0).toInt = (q_I r160.2 12 2 a0).toInt from congrArg Int32.toInt (u313 12 2 a0 (by decide))).trans ((show (q_I r160.2 12 2 a0).toInt = (q_I r77.2 12 2 a0).toInt from congrArg Int32.toInt (u165 12 2 a0 (by decide))).trans (show (q_I r77.2 12 2 a0).toInt = (q_I δ 12 2 a0).toInt from congrArg Int32.toInt (u83 12 2 a0 (by decide)))))))
                  have f754 := cb_12_2 I k_a0
                  have f755 := ti_b r741.1
                  have sh756 : NH ad a0 δ r77.2 := NH.t NH.r nh94
                  have sh757 : NH ad a0 δ r160.2 := NH.t sh756 nh182
                  have sh758 : NH ad a0 δ r308.2 := NH.t sh757 nh332
                  have sh759 : NH ad a0 δ r465.2 := NH.t sh758 nh491
                  have sh760 : NH ad a0 δ r711 := NH.t sh759 nh725
                  have sh761 : SHP ad a0 δ r741.2 := SHP.pre sh760 p745
                  exact ⟨by first | with_reducible assumption | assumption, ⟨kp_w (by decide) u749, v750, kr_w (by decide) v751⟩, by first | with_reducible assumption | omega, sh761⟩
set_option maxHeartbeats 4000000 in
theorem k_X12_shape {ad : List Nat} {h : hp} (L : Lay TLx ad h) {δ0 : dp} {N : Nat} (hN : 10000000 ≤ N) {a0 : Nat} {x1 : Int32} (k_a0 : q_K h.1 a0 = 12) {δ : dp} (I : RI ad h.1 δ0 δ) : ok (D_X12_shape N h.1 a0 x1 δ) (fun r => RI ad h.1 δ0 r.2 ∧ (kp [(12, 0), (12, 2), (12, 3), (12, 4), (12, 5), (12, 6), (12, 7), (12, 8), (12, 10), (12, 11), (12, 12), (12, 18)] δ r.2 ∧ q_V r.2 = q_V δ ∧ kr ad [100, 103, 106] δ r.2) ∧ SHP ad a0 δ r.2 ∧ (0 ≤ (x1).toInt ∧ (x1).toInt ≤ (q_I δ 12 2 a0).toInt → (q_I r.2 12 2 a0).toInt = 0) ∧ ((x1).toInt < 0 ∨ (q_I δ 12 2 a0).toInt < (x1).toInt → (q_I r.2 12 2 a0).toInt = (q_I δ 12 2 a0).toInt)) := by
  unfold D_X12_shape
  refine ok_bdv (fun d1 e2 => ?_)
  have i3 : RI ad h.1 δ0 d1 := by rw [e2]; exact cs_12_0 L I
  have u4 := kp_I kp_r e2
  have v5 : q_V d1 = q_V δ := ((show q_V d1 = q_V δ by rw [e2]; rfl)).trans rfl
  have v6 := kr_N (kr_r (ad := ad)) (show q_R d1 = q_R δ by rw [e2]; rfl)
  have f7 := ti_b x1
  refine ok_ite (fun h8 => ?_) (fun h8 => ?_)
  · have c9 : x1.toInt < (0 : Int) := o_lt h8
    unfold J_X12_shape_22
    unfold J_X12_shape_23
    refine ok_bind (k_X12_may L hN (a0 := a0) (x1 := (0 : Int32)) (x2 := (1 : Int32)) (x3 := (2 : Int32)) k_a0 (show (1 : Int) ≠ 0 by first | with_reducible assumption | omega) (show 0 ≤ (2 : Int) by first | with_reducible assumption | omega) (show (2 : Int) ≤ 2 by first | with_reducible assumption | omega) i3) (fun r10 hr11 => ?_)
    obtain ⟨i12, ⟨u16, u17, u18⟩, p13, p14, p15⟩ := hr11
    have u19 := kp_t u4 u16
    have v20 : q_V r10.2 = q_V δ := (u17).trans v5
    have v21 := kr_t v6 u18
    have f22 := bo_l p13
    have f23 := ti_b r10.1
    replace p14 : ((r10.1).toInt = 1 → (0 : Int) ≠ 0) := p14
    have f24 := ti_b (q_I d1 12 0 a0)
    have f25 : (q_I d1 12 0 a0).toInt = (0 : Int) := congrArg Int32.toInt (show q_I d1 12 0 a0 = (0 : Int32) by rw [e2]; exact rI_s)
    replace p15 : ((q_I d1 12 0 a0).toInt = 0 → (r10.1).toInt = 0 → (0 : Int) = 0) := p15
    have nh26 : NH ad a0 d1 r10.2 := ⟨u18 103 (by decide) (by decide) (by decide), u16 12 10 _ (by decide), u16 12 18 _ (by decide)⟩
    refine ok_ite (fun h27 => ?_) (fun h27 => ?_)
    · have c28 : r10.1.toInt = (0 : Int) := o_eq h27
      have sh29 : NH ad a0 δ d1 := NH.t NH.r (NH.w e2 (by decide))
      have sh30 : NH ad a0 δ r10.2 := NH.t sh29 nh26
      have f31 := cb_12_2 I k_a0
      have f32 : (q_I r10.2 12 2 a0).toInt = (q_I δ 12 2 a0).toInt := ((show (q_I r10.2 12 2 a0).toInt = (q_I d1 12 2 a0).toInt from congrArg Int32.toInt (u16 12 2 a0 (by decide))).trans (show (q_I d1 12 2 a0).toInt = (q_I δ 12 2 a0).toInt from congrArg Int32.toInt (by rw [e2]; exact rI_o (by decide))))
      exact ok_some (show RI ad h.1 δ0 r10.2 ∧ (kp [(12, 0), (12, 2), (12, 3), (12, 4), (12, 5), (12, 6), (12, 7), (12, 8), (12, 10), (12, 11), (12, 12), (12, 18)] δ r10.2 ∧ q_V r10.2 = q_V δ ∧ kr ad [100, 103, 106] δ r10.2) ∧ SHP ad a0 δ r10.2 ∧ (0 ≤ (x1).toInt ∧ (x1).toInt ≤ (q_I δ 12 2 a0).toInt → (q_I r10.2 12 2 a0).toInt = 0) ∧ ((x1).toInt < 0 ∨ (q_I δ 12 2 a0).toInt < (x1).toInt → (q_I r10.2 12 2 a0).toInt = (q_I δ 12 2 a0).toInt) from ⟨i12, ⟨kp_w (by decide) u19, v20, kr_w (by decide) v21⟩, SHP.n sh30, by first | with_reducible assumption | omega, by first | with_reducible assumption | omega⟩)
    · have c33 : r10.1.toInt ≠ (0 : Int) := o_ne h27
      refine ok_bind (k_X12_begins L hN (a0 := a0) (x1 := x1) k_a0 (show 0 ≤ (x1).toInt by first | with_reducible assumption | omega) (show (x1).toInt ≤ 500 by first | with_reducible assumption | omega) i12) (fun r34 hr35 => ?_)
      obtain ⟨i36, ⟨u42, u43, u44, u45⟩, p37, p38, p39, p40, p41⟩ := hr35
      have u46 := kp_t u19 u42
      have v47 : q_V r34 = q_V δ := (u43).trans v20
      have v48 := kr_t v21 u45
      have f49 := cb_12_2 i36 k_a0
      have f50 := cb_12_4 i36 k_a0
      have f51 := cb_12_3 i36 k_a0
      have f52 := cb_12_5 i36 k_a0
      have f53 := ti_b (q_I r34 12 7 a0)
      have nh54 : NH ad a0 r10.2 r34 := ⟨u45 103 (by decide) (by decide) (by decide), u42 12 10 _ (by decide), u42 12 18 _ (by decide)⟩
      refine ok_mono (kl_X12_shape_49 L hN   k_a0 _ (8 : Int32) (1 : Int32) (1 : Int32) (0 : Int32) r34 i36 (show (q_I r34 12 5 a0).toInt < 0 → 2 ≤ (8 : Int) ∧ (8 : Int) ≤ 16 ∧ 1 ≤ (1 : Int) ∧ (1 : Int) ≤ 5 by first | with_reducible assumption | omega) (show (1 : Int) = 0 ∨ (1 : Int) = 1 by first | with_reducible assumption | omega) (show 501 - (q_I r34 12 4 a0).toInt < _ by omega)) (fun r55 hr56 => ?_)
      obtain ⟨i57, ⟨u60, u61, u62⟩, p58, p59⟩ := hr56
      have u63 := kp_t u46 u60
      have v64 : q_V r55.2 = q_V δ := (u61).trans v47
      have v65 := kr_t v48 u62
      have f66 := cb_12_2 i57 k_a0
      have f67 := ti_b r55.1
      have sh68 : NH ad a0 δ d1 := NH.t NH.r (NH.w e2 (by decide))
      have sh69 : NH ad a0 δ r10.2 := NH.t sh68 nh26
      have sh70 : NH ad a0 δ r34 := NH.t sh69 nh54
      have sh71 : SHP ad a0 δ r55.2 := SHP.pre sh70 p59
      have f72 := cb_12_2 I k_a0
      exact ⟨by first | with_reducible assumption | assumption, ⟨kp_w (by decide) u63, v64, kr_w (by decide) v65⟩, sh71, by first | with_reducible assumption | omega, by first | with_reducible assumption | omega⟩
  · have c73 : (0 : Int) ≤ x1.toInt := o_nlt h8
    have f74 : (q_I d1 12 2 a0).toInt = (q_I δ 12 2 a0).toInt := congrArg Int32.toInt (by rw [e2]; exact rI_o (by decide))
    have f75 := cb_12_2 I k_a0
    refine ok_ite (fun h76 => ?_) (fun h76 => ?_)
    · have c77 : (q_I d1 12 2 a0).toInt < x1.toInt := o_lt h76
      unfold J_X12_shape_22
      unfold J_X12_shape_23
      refine ok_bind (k_X12_may L hN (a0 := a0) (x1 := (0 : Int32)) (x2 := (1 : Int32)) (x3 := (2 : Int32)) k_a0 (show (1 : Int) ≠ 0 by first | with_reducible assumption | omega) (show 0 ≤ (2 : Int) by first | with_reducible assumption | omega) (show (2 : Int) ≤ 2 by first | with_reducible assumption | omega) i3) (fun r78 hr79 => ?_)
      obtain ⟨i80, ⟨u84, u85, u86⟩, p81, p82, p83⟩ := hr79
      have u87 := kp_t u4 u84
      have v88 : q_V r78.2 = q_V δ := (u85).trans v5
      have v89 := kr_t v6 u86
      have f90 := bo_l p81
      have f91 := ti_b r78.1
      replace p82 : ((r78.1).toInt = 1 → (0 : Int) ≠ 0) := p82
      have f92 := ti_b (q_I d1 12 0 a0)
      have f93 : (q_I d1 12 0 a0).toInt = (0 : Int) := congrArg Int32.toInt (show q_I d1 12 0 a0 = (0 : Int32) by rw [e2]; exact rI_s)
      replace p83 : ((q_I d1 12 0 a0).toInt = 0 → (r78.1).toInt = 0 → (0 : Int) = 0) := p83
      have nh94 : NH ad a0 d1 r78.2 := ⟨u86 103 (by decide) (by decide) (by decide), u84 12 10 _ (by decide), u84 12 18 _ (by decide)⟩
      refine ok_ite (fun h95 => ?_) (fun h95 => ?_)
      · have c96 : r78.1.toInt = (0 : Int) := o_eq h95
        have sh97 : NH ad a0 δ d1 := NH.t NH.r (NH.w e2 (by decide))
        have sh98 : NH ad a0 δ r78.2 := NH.t sh97 nh94
        have f99 : (q_I r78.2 12 2 a0).toInt = (q_I d1 12 2 a0).toInt := congrArg Int32.toInt (u84 12 2 a0 (by decide))
        exact ok_some (show RI ad h.1 δ0 r78.2 ∧ (kp [(12, 0), (12, 2), (12, 3), (12, 4), (12, 5), (12, 6), (12, 7), (12, 8), (12, 10), (12, 11), (12, 12), (12, 18)] δ r78.2 ∧ q_V r78.2 = q_V δ ∧ kr ad [100, 103, 106] δ r78.2) ∧ SHP ad a0 δ r78.2 ∧ (0 ≤ (x1).toInt ∧ (x1).toInt ≤ (q_I δ 12 2 a0).toInt → (q_I r78.2 12 2 a0).toInt = 0) ∧ ((x1).toInt < 0 ∨ (q_I δ 12 2 a0).toInt < (x1).toInt → (q_I r78.2 12 2 a0).toInt = (q_I δ 12 2 a0).toInt) from ⟨i80, ⟨kp_w (by decide) u87, v88, kr_w (by decide) v89⟩, SHP.n sh98, by first | with_reducible assumption | omega, by first | with_reducible assumption | omega⟩)
      · have c100 : r78.1.toInt ≠ (0 : Int) := o_ne h95
        refine ok_bind (k_X12_begins L hN (a0 := a0) (x1 := x1) k_a0 (show 0 ≤ (x1).toInt by first | with_reducible assumption | omega) (show (x1).toInt ≤ 500 by first | with_reducible assumption | omega) i80) (fun r101 hr102 => ?_)
        obtain ⟨i103, ⟨u109, u110, u111, u112⟩, p104, p105, p106, p107, p108⟩ := hr102
        have u113 := kp_t u87 u109
        have v114 : q_V r101 = q_V δ := (u110).trans v88
        have v115 := kr_t v89 u112
        have f116 := cb_12_2 i103 k_a0
        have f117 := cb_12_4 i103 k_a0
        have f118 := cb_12_3 i103 k_a0
        have f119 := cb_12_5 i103 k_a0
        have f120 := ti_b (q_I r101 12 7 a0)
        have nh121 : NH ad a0 r78.2 r101 := ⟨u112 103 (by decide) (by decide) (by decide), u109 12 10 _ (by decide), u109 12 18 _ (by decide)⟩
        refine ok_mono (kl_X12_shape_49 L hN   k_a0 _ (8 : Int32) (1 : Int32) (1 : Int32) (0 : Int32) r101 i103 (show (q_I r101 12 5 a0).toInt < 0 → 2 ≤ (8 : Int) ∧ (8 : Int) ≤ 16 ∧ 1 ≤ (1 : Int) ∧ (1 : Int) ≤ 5 by first | with_reducible assumption | omega) (show (1 : Int) = 0 ∨ (1 : Int) = 1 by first | with_reducible assumption | omega) (show 501 - (q_I r101 12 4 a0).toInt < _ by omega)) (fun r122 hr123 => ?_)
        obtain ⟨i124, ⟨u127, u128, u129⟩, p125, p126⟩ := hr123
        have u130 := kp_t u113 u127
        have v131 : q_V r122.2 = q_V δ := (u128).trans v114
        have v132 := kr_t v115 u129
        have f133 := cb_12_2 i124 k_a0
        have f134 := ti_b r122.1
        have sh135 : NH ad a0 δ d1 := NH.t NH.r (NH.w e2 (by decide))
        have sh136 : NH ad a0 δ r78.2 := NH.t sh135 nh94
        have sh137 : NH ad a0 δ r101 := NH.t sh136 nh121
        have sh138 : SHP ad a0 δ r122.2 := SHP.pre sh137 p126
        exact ⟨by first | with_reducible assumption | assumption, ⟨kp_w (by decide) u130, v131, kr_w (by decide) v132⟩, sh138, by first | with_reducible assumption | omega, by first | with_reducible assumption | omega⟩
    · have c139 : x1.toInt ≤ (q_I d1 12 2 a0).toInt := o_nlt h76
      unfold J_X12_shape_23
      refine ok_bind (k_X12_may L hN (a0 := a0) (x1 := (1 : Int32)) (x2 := (1 : Int32)) (x3 := (2 : Int32)) k_a0 (show (1 : Int) ≠ 0 by first | with_reducible assumption | omega) (show 0 ≤ (2 : Int) by first | with_reducible assumption | omega) (show (2 : Int) ≤ 2 by first | with_reducible assumption | omega) i3) (fun r140 hr141 => ?_)
      obtain ⟨i142, ⟨u146, u147, u148⟩, p143, p144, p145⟩ := hr141
      have u149 := kp_t u4 u146
      have v150 : q_V r140.2 = q_V δ := (u147).trans v5
      have v151 := kr_t v6 u148
      have f152 := bo_l p143
      have f153 := ti_b r140.1
      replace p144 : ((r140.1).toInt = 1 → (1 : Int) ≠ 0) := p144
      have f154 := ti_b (q_I d1 12 0 a0)
      have f155 : (q_I d1 12 0 a0).toInt = (0 : Int) := congrArg Int32.toInt (show q_I d1 12 0 a0 = (0 : Int32) by rw [e2]; exact rI_s)
      replace p145 : ((q_I d1 12 0 a0).toInt = 0 → (r140.1).toInt = 0 → (1 : Int) = 0) := p145
      have nh156 : NH ad a0 d1 r140.2 := ⟨u148 103 (by decide) (by decide) (by decide), u146 12 10 _ (by decide), u146 12 18 _ (by decide)⟩
      refine ok_ite (fun h157 => ?_) (fun h157 => ?_)
      · have c158 : r140.1.toInt = (0 : Int) := o_eq h157
        have sh159 : NH ad a0 δ d1 := NH.t NH.r (NH.w e2 (by decide))
        have sh160 : NH ad a0 δ r140.2 := NH.t sh159 nh156
        have f161 : (q_I r140.2 12 2 a0).toInt = (q_I d1 12 2 a0).toInt := congrArg Int32.toInt (u146 12 2 a0 (by decide))
        exact ok_some (show RI ad h.1 δ0 r140.2 ∧ (kp [(12, 0), (12, 2), (12, 3), (12, 4), (12, 5), (12, 6), (12, 7), (12, 8), (12, 10), (12, 11), (12, 12), (12, 18)] δ r140.2 ∧ q_V r140.2 = q_V δ ∧ kr ad [100, 103, 106] δ r140.2) ∧ SHP ad a0 δ r140.2 ∧ (0 ≤ (x1).toInt ∧ (x1).toInt ≤ (q_I δ 12 2 a0).toInt → (q_I r140.2 12 2 a0).toInt = 0) ∧ ((x1).toInt < 0 ∨ (q_I δ 12 2 a0).toInt < (x1).toInt → (q_I r140.2 12 2 a0).toInt = (q_I δ 12 2 a0).toInt) from ⟨i142, ⟨kp_w (by decide) u149, v150, kr_w (by decide) v151⟩, SHP.n sh160, by first | with_reducible assumption | omega, by first | with_reducible assumption | omega⟩)
      · have c162 : r140.1.toInt ≠ (0 : Int) := o_ne h157
        refine ok_bind (k_X12_begins L hN (a0 := a0) (x1 := x1) k_a0 (show 0 ≤ (x1).toInt by first | with_reducible assumption | omega) (show (x1).toInt ≤ 500 by first | with_reducible assumption | omega) i142) (fun r163 hr164 => ?_)
        obtain ⟨i165, ⟨u171, u172, u173, u174⟩, p166, p167, p168, p169, p170⟩ := hr164
        have u175 := kp_t u149 u171
        have v176 : q_V r163 = q_V δ := (u172).trans v150
        have v177 := kr_t v151 u174
        have f178 := cb_12_2 i165 k_a0
        have f179 := cb_12_4 i165 k_a0
        have f180 := cb_12_3 i165 k_a0
        have f181 := cb_12_5 i165 k_a0
        have f182 := ti_b (q_I r163 12 7 a0)
        have nh183 : NH ad a0 r140.2 r163 := ⟨u174 103 (by decide) (by decide) (by decide), u171 12 10 _ (by decide), u171 12 18 _ (by decide)⟩
        refine ok_mono (kl_X12_shape_49 L hN   k_a0 _ (8 : Int32) (1 : Int32) (1 : Int32) (0 : Int32) r163 i165 (show (q_I r163 12 5 a0).toInt < 0 → 2 ≤ (8 : Int) ∧ (8 : Int) ≤ 16 ∧ 1 ≤ (1 : Int) ∧ (1 : Int) ≤ 5 by first | with_reducible assumption | omega) (show (1 : Int) = 0 ∨ (1 : Int) = 1 by first | with_reducible assumption | omega) (show 501 - (q_I r163 12 4 a0).toInt < _ by omega)) (fun r184 hr185 => ?_)
        obtain ⟨i186, ⟨u189, u190, u191⟩, p187, p188⟩ := hr185
        have u192 := kp_t u175 u189
        have v193 : q_V r184.2 = q_V δ := (u190).trans v176
        have v194 := kr_t v177 u191
        have f195 := cb_12_2 i186 k_a0
        have f196 := ti_b r184.1
        have sh197 : NH ad a0 δ d1 := NH.t NH.r (NH.w e2 (by decide))
        have sh198 : NH ad a0 δ r140.2 := NH.t sh197 nh156
        have sh199 : NH ad a0 δ r163 := NH.t sh198 nh183
        have sh200 : SHP ad a0 δ r184.2 := SHP.pre sh199 p188
        exact ⟨by first | with_reducible assumption | assumption, ⟨kp_w (by decide) u192, v193, kr_w (by decide) v194⟩, sh200, by first | with_reducible assumption | omega, by first | with_reducible assumption | omega⟩
