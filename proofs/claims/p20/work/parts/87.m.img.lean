section
/-! images: what is copied, whole -/
/-- row dst holds, from B*J+k on to B*J+n, what row src held from k on -/
def cpO (ad : List Nat) (B J n src dst k : Nat) (δ r : dp) : Prop := ∀ i, q_R r (Ad ad dst) i = if B * J + k ≤ i ∧ i < B * J + n then q_R δ (Ad ad src) (i - B * J) else q_R δ (Ad ad dst) i
/-- row dst holds, from k on to n, what row src held from B*J+k on -/
def cpI (ad : List Nat) (B J n src dst k : Nat) (δ r : dp) : Prop := ∀ i, q_R r (Ad ad dst) i = if k ≤ i ∧ i < n then q_R δ (Ad ad src) (B * J + i) else q_R δ (Ad ad dst) i
theorem cpO_e {ad : List Nat} {B J n src dst k : Nat} {δ : dp} (h : n ≤ k) : cpO ad B J n src dst k δ δ := fun i => by rw [if_neg (by omega)]
theorem cpI_e {ad : List Nat} {B J n src dst k : Nat} {δ : dp} (h : n ≤ k) : cpI ad B J n src dst k δ δ := fun i => by rw [if_neg (by omega)]
theorem cpO_s {ad : List Nat} {B J n src dst k : Nat} {δ d r : dp} (hk : k < n) (es : q_R d (Ad ad src) = q_R δ (Ad ad src)) (ed : ∀ i, q_R d (Ad ad dst) i = if i = B * J + k then q_R δ (Ad ad src) k else q_R δ (Ad ad dst) i) (h : cpO ad B J n src dst (k + 1) d r) : cpO ad B J n src dst k δ r := fun i => by
  rw [h i, es, ed]
  by_cases c : i = B * J + k
  · subst c
    rw [if_neg (by omega), if_pos rfl, if_pos (by omega), show B * J + k - B * J = k by omega]
  · by_cases c2 : B * J + (k + 1) ≤ i ∧ i < B * J + n
    · rw [if_pos c2, if_pos (by omega)]
    · rw [if_neg c2, if_neg c, if_neg (by omega)]
theorem cpI_s {ad : List Nat} {B J n src dst k : Nat} {δ d r : dp} (hk : k < n) (es : q_R d (Ad ad src) = q_R δ (Ad ad src)) (ed : ∀ i, q_R d (Ad ad dst) i = if i = k then q_R δ (Ad ad src) (B * J + k) else q_R δ (Ad ad dst) i) (h : cpI ad B J n src dst (k + 1) d r) : cpI ad B J n src dst k δ r := fun i => by
  rw [h i, es, ed]
  by_cases c : i = k
  · subst c
    rw [if_neg (by omega), if_pos rfl, if_pos (by omega)]
  · by_cases c2 : k + 1 ≤ i ∧ i < n
    · rw [if_pos c2, if_pos (by omega)]
    · rw [if_neg c2, if_neg c, if_neg (by omega)]
theorem sR_at {δ d : dp} {b j : Nat} {v : Int32} (e : d = s_R δ b j v) (i : Nat) : q_R d b i = if i = j then v else q_R δ b i := by
  rw [e, qR_sR]
  by_cases c : i = j
  · rw [if_pos ⟨rfl, c⟩, if_pos c]
  · rw [if_neg (fun z => c z.2), if_neg c]
theorem im_image_110 {ad : List Nat} {h : hp} (L : Lay TLx ad h) {N J : Nat} (hJ : J ≤ 2) {Q : Int32 × dp → Prop} : ∀ (m k : Nat) (x : Int32) (δ : dp), x.toInt = (k : Int) → k ≤ 4 → (q_I δ 12 18 (Ad ad 99)).toInt = (J : Int) → (∀ r : dp, cpO ad 4 J 4 103 108 k δ r → cpO ad 4 J 4 106 111 k δ r → (∀ b, b ≠ Ad ad 108 → b ≠ Ad ad 111 → q_R r b = q_R δ b) → q_I r = q_I δ → hs (bd (s_I r 12 18 (Ad ad 99) ((q_I r 12 18 (Ad ad 99)) + (1 : Int32))) fun δ_7 => some (q_I δ_7 12 18 (Ad ad 99), δ_7)) Q) → hs (L_X12_image_110 N h.1 (Ad ad 99) m x δ) Q := by
  have ka : q_K h.1 (Ad ad 99) = 12 := (lay_knd L (by decide)).trans (by decide)
  obtain ⟨b14, o14, _⟩ := gO_12_14 L ka
  obtain rfl := gS_12_14 L ka o14
  obtain ⟨b17, o17, _⟩ := gO_12_17 L ka
  obtain rfl := gS_12_17 L ka o17
  obtain ⟨b20, o20, _⟩ := gO_12_20 L ka
  obtain rfl := gS_12_20 L ka o20
  obtain ⟨b23, o23, _⟩ := gO_12_23 L ka
  obtain rfl := gS_12_23 L ka o23
  have zn : (4 : Int32).toInt = 4 := by decide
  intro m
  induction m with
  | zero => intro k x δ _ _ _ _; exact hs_none
  | succ m ih =>
    intro k x δ ex hk hI K
    unfold L_X12_image_110
    have tx := ti_tn x
    have m1 := te_mulc (c := 4) (n := 4) (by decide) (q_I δ 12 18 (Ad ad 99)) (by omega) (by omega)
    have m2 := te_add ((4 : Int32) * q_I δ 12 18 (Ad ad 99)) x (by omega) (by omega)
    have m3 := ti_tn (((4 : Int32) * q_I δ 12 18 (Ad ad 99)) + x)
    have ix : (((4 : Int32) * q_I δ 12 18 (Ad ad 99)) + x).toNatClampNeg = 4 * J + k := by omega
    have ik : x.toNatClampNeg = k := by omega
    refine hs_ite (fun c => ?_) (fun c => ?_)
    · have c1 := o_le c
      exact K δ (cpO_e (by omega)) (cpO_e (by omega)) (fun _ _ _ => rfl) rfl
    · have c1 := o_nle c
      refine hs_at o20 (hs_at o14 (hs_gd (fun _ => hs_gd (fun _ => ?_))))
      rw [ix, ik]
      refine hs_bdv (fun d1 e1 => ?_)
      refine hs_at o23 (hs_at o17 (hs_gd (fun _ => hs_gd (fun _ => ?_))))
      rw [show q_I d1 12 18 (Ad ad 99) = q_I δ 12 18 (Ad ad 99) by rw [e1]; rfl]
      rw [ix]
      refine hs_bdv (fun d2 e2 => ?_)
      refine hs_biv (fun y ey => ?_)
      have y1 := te_addc (c := 1) (n := 1) rfl x (by omega) (by omega)
      rw [← ey] at y1
      have s0 : q_R d2 (Ad ad 103) = q_R δ (Ad ad 103) := by rw [e2, rR_o (ad_ne L (i := 103) (j := 111) (by decide) (by decide) (by decide)), e1, rR_o (ad_ne L (i := 103) (j := 108) (by decide) (by decide) (by decide))]
      have t0 : ∀ i, q_R d2 (Ad ad 108) i = if i = 4 * J + k then q_R δ (Ad ad 103) k else q_R δ (Ad ad 108) i := fun i => by rw [e2, rR_o (ad_ne L (i := 108) (j := 111) (by decide) (by decide) (by decide))]; exact sR_at e1 i
      have s1 : q_R d2 (Ad ad 106) = q_R δ (Ad ad 106) := by rw [e2, rR_o (ad_ne L (i := 106) (j := 111) (by decide) (by decide) (by decide)), e1, rR_o (ad_ne L (i := 106) (j := 108) (by decide) (by decide) (by decide))]
      have t1 : ∀ i, q_R d2 (Ad ad 111) i = if i = 4 * J + k then q_R δ (Ad ad 106) k else q_R δ (Ad ad 111) i := fun i => by rw [sR_at e2 i, e1, rR_o (ad_ne L (i := 106) (j := 108) (by decide) (by decide) (by decide)), rR_o (ad_ne L (i := 111) (j := 108) (by decide) (by decide) (by decide))]
      have oo : ∀ b, b ≠ Ad ad 108 → b ≠ Ad ad 111 → q_R d2 b = q_R δ b := fun b n0 n1 => by rw [e2, rR_o n1, e1, rR_o n0]
      have eI : q_I d2 = q_I δ := by rw [e2, e1]; rfl
      refine ih (k + 1) y d2 (by omega) (by omega) (by rw [eI]; exact hI) (fun r p0 p1 po pI => ?_)
      exact K r (cpO_s (by omega) s0 t0 p0) (cpO_s (by omega) s1 t1 p1) (fun b n0 n1 => (po b n0 n1).trans (oo b n0 n1)) (pI.trans eI)
theorem im_image_53 {ad : List Nat} {h : hp} (L : Lay TLx ad h) {N J : Nat} (hJ : J ≤ 2) {Q : Int32 × dp → Prop} : ∀ (m k : Nat) (x : Int32) (δ : dp), x.toInt = (k : Int) → k ≤ 4000 → (q_I δ 12 18 (Ad ad 99)).toInt = (J : Int) → (∀ r : dp, cpO ad 4000 J 4000 104 109 k δ r → cpO ad 4000 J 4000 105 110 k δ r → (∀ b, b ≠ Ad ad 109 → b ≠ Ad ad 110 → q_R r b = q_R δ b) → q_I r = q_I δ → hs (L_X12_image_110 N h.1 (Ad ad 99) N 0 r) Q) → hs (L_X12_image_53 N h.1 (Ad ad 99) m x δ) Q := by
  have ka : q_K h.1 (Ad ad 99) = 12 := (lay_knd L (by decide)).trans (by decide)
  obtain ⟨b15, o15, _⟩ := gO_12_15 L ka
  obtain rfl := gS_12_15 L ka o15
  obtain ⟨b16, o16, _⟩ := gO_12_16 L ka
  obtain rfl := gS_12_16 L ka o16
  obtain ⟨b21, o21, _⟩ := gO_12_21 L ka
  obtain rfl := gS_12_21 L ka o21
  obtain ⟨b22, o22, _⟩ := gO_12_22 L ka
  obtain rfl := gS_12_22 L ka o22
  have zn : (4000 : Int32).toInt = 4000 := by decide
  intro m
  induction m with
  | zero => intro k x δ _ _ _ _; exact hs_none
  | succ m ih =>
    intro k x δ ex hk hI K
    unfold L_X12_image_53
    have tx := ti_tn x
    have m1 := te_mulc (c := 4000) (n := 4000) (by decide) (q_I δ 12 18 (Ad ad 99)) (by omega) (by omega)
    have m2 := te_add ((4000 : Int32) * q_I δ 12 18 (Ad ad 99)) x (by omega) (by omega)
    have m3 := ti_tn (((4000 : Int32) * q_I δ 12 18 (Ad ad 99)) + x)
    have ix : (((4000 : Int32) * q_I δ 12 18 (Ad ad 99)) + x).toNatClampNeg = 4000 * J + k := by omega
    have ik : x.toNatClampNeg = k := by omega
    refine hs_ite (fun c => ?_) (fun c => ?_)
    · have c1 := o_le c
      exact K δ (cpO_e (by omega)) (cpO_e (by omega)) (fun _ _ _ => rfl) rfl
    · have c1 := o_nle c
      refine hs_at o21 (hs_at o15 (hs_gd (fun _ => hs_gd (fun _ => ?_))))
      rw [ix, ik]
      refine hs_bdv (fun d1 e1 => ?_)
      refine hs_at o22 (hs_at o16 (hs_gd (fun _ => hs_gd (fun _ => ?_))))
      rw [show q_I d1 12 18 (Ad ad 99) = q_I δ 12 18 (Ad ad 99) by rw [e1]; rfl]
      rw [ix]
      refine hs_bdv (fun d2 e2 => ?_)
      refine hs_biv (fun y ey => ?_)
      have y1 := te_addc (c := 1) (n := 1) rfl x (by omega) (by omega)
      rw [← ey] at y1
      have s0 : q_R d2 (Ad ad 104) = q_R δ (Ad ad 104) := by rw [e2, rR_o (ad_ne L (i := 104) (j := 110) (by decide) (by decide) (by decide)), e1, rR_o (ad_ne L (i := 104) (j := 109) (by decide) (by decide) (by decide))]
      have t0 : ∀ i, q_R d2 (Ad ad 109) i = if i = 4000 * J + k then q_R δ (Ad ad 104) k else q_R δ (Ad ad 109) i := fun i => by rw [e2, rR_o (ad_ne L (i := 109) (j := 110) (by decide) (by decide) (by decide))]; exact sR_at e1 i
      have s1 : q_R d2 (Ad ad 105) = q_R δ (Ad ad 105) := by rw [e2, rR_o (ad_ne L (i := 105) (j := 110) (by decide) (by decide) (by decide)), e1, rR_o (ad_ne L (i := 105) (j := 109) (by decide) (by decide) (by decide))]
      have t1 : ∀ i, q_R d2 (Ad ad 110) i = if i = 4000 * J + k then q_R δ (Ad ad 105) k else q_R δ (Ad ad 110) i := fun i => by rw [sR_at e2 i, e1, rR_o (ad_ne L (i := 105) (j := 109) (by decide) (by decide) (by decide)), rR_o (ad_ne L (i := 110) (j := 109) (by decide) (by decide) (by decide))]
      have oo : ∀ b, b ≠ Ad ad 109 → b ≠ Ad ad 110 → q_R d2 b = q_R δ b := fun b n0 n1 => by rw [e2, rR_o n1, e1, rR_o n0]
      have eI : q_I d2 = q_I δ := by rw [e2, e1]; rfl
      refine ih (k + 1) y d2 (by omega) (by omega) (by rw [eI]; exact hI) (fun r p0 p1 po pI => ?_)
      exact K r (cpO_s (by omega) s0 t0 p0) (cpO_s (by omega) s1 t1 p1) (fun b n0 n1 => (po b n0 n1).trans (oo b n0 n1)) (pI.trans eI)
theorem im_image_17 {ad : List Nat} {h : hp} (L : Lay TLx ad h) {N J : Nat} (hJ : J ≤ 2) {Q : Int32 × dp → Prop} : ∀ (m k : Nat) (x : Int32) (δ : dp), x.toInt = (k : Int) → k ≤ 8000 → (q_I δ 12 18 (Ad ad 99)).toInt = (J : Int) → (∀ r : dp, cpO ad 8000 J 8000 102 107 k δ r → (∀ b, b ≠ Ad ad 107 → q_R r b = q_R δ b) → q_I r = q_I δ → hs (L_X12_image_53 N h.1 (Ad ad 99) N 0 r) Q) → hs (L_X12_image_17 N h.1 (Ad ad 99) m x δ) Q := by
  have ka : q_K h.1 (Ad ad 99) = 12 := (lay_knd L (by decide)).trans (by decide)
  obtain ⟨b13, o13, _⟩ := gO_12_13 L ka
  obtain rfl := gS_12_13 L ka o13
  obtain ⟨b19, o19, _⟩ := gO_12_19 L ka
  obtain rfl := gS_12_19 L ka o19
  have zn : (8000 : Int32).toInt = 8000 := by decide
  intro m
  induction m with
  | zero => intro k x δ _ _ _ _; exact hs_none
  | succ m ih =>
    intro k x δ ex hk hI K
    unfold L_X12_image_17
    have tx := ti_tn x
    have m1 := te_mulc (c := 8000) (n := 8000) (by decide) (q_I δ 12 18 (Ad ad 99)) (by omega) (by omega)
    have m2 := te_add ((8000 : Int32) * q_I δ 12 18 (Ad ad 99)) x (by omega) (by omega)
    have m3 := ti_tn (((8000 : Int32) * q_I δ 12 18 (Ad ad 99)) + x)
    have ix : (((8000 : Int32) * q_I δ 12 18 (Ad ad 99)) + x).toNatClampNeg = 8000 * J + k := by omega
    have ik : x.toNatClampNeg = k := by omega
    refine hs_ite (fun c => ?_) (fun c => ?_)
    · have c1 := o_le c
      exact K δ (cpO_e (by omega)) (fun _ _ => rfl) rfl
    · have c1 := o_nle c
      refine hs_at o19 (hs_at o13 (hs_gd (fun _ => hs_gd (fun _ => ?_))))
      rw [ix, ik]
      refine hs_bdv (fun d1 e1 => ?_)
      refine hs_biv (fun y ey => ?_)
      have y1 := te_addc (c := 1) (n := 1) rfl x (by omega) (by omega)
      rw [← ey] at y1
      have s0 : q_R d1 (Ad ad 102) = q_R δ (Ad ad 102) := by rw [e1, rR_o (ad_ne L (i := 102) (j := 107) (by decide) (by decide) (by decide))]
      have t0 : ∀ i, q_R d1 (Ad ad 107) i = if i = 8000 * J + k then q_R δ (Ad ad 102) k else q_R δ (Ad ad 107) i := fun i => sR_at e1 i
      have oo : ∀ b, b ≠ Ad ad 107 → q_R d1 b = q_R δ b := fun b n0 => by rw [e1, rR_o n0]
      have eI : q_I d1 = q_I δ := by rw [e1]; rfl
      refine ih (k + 1) y d1 (by omega) (by omega) (by rw [eI]; exact hI) (fun r p0 po pI => ?_)
      exact K r (cpO_s (by omega) s0 t0 p0) (fun b n0 => (po b n0).trans (oo b n0)) (pI.trans eI)
theorem im_restore_119 {ad : List Nat} {h : hp} (L : Lay TLx ad h) {N J : Nat} (hJ : J ≤ 2) {Q : Int32 × dp → Prop} : ∀ (m k : Nat) (x : Int32) (δ : dp), x.toInt = (k : Int) → k ≤ 4 → (q_I δ 12 18 (Ad ad 99)).toInt = (J : Int) → (∀ r : dp, cpI ad 4 J 4 108 103 k δ r → cpI ad 4 J 4 111 106 k δ r → (∀ b, b ≠ Ad ad 103 → b ≠ Ad ad 106 → q_R r b = q_R δ b) → q_I r = q_I δ → hs (some (q_I r 12 18 (Ad ad 99), r)) Q) → hs (L_X12_restore_119 N h.1 (Ad ad 99) m x δ) Q := by
  have ka : q_K h.1 (Ad ad 99) = 12 := (lay_knd L (by decide)).trans (by decide)
  obtain ⟨b14, o14, _⟩ := gO_12_14 L ka
  obtain rfl := gS_12_14 L ka o14
  obtain ⟨b17, o17, _⟩ := gO_12_17 L ka
  obtain rfl := gS_12_17 L ka o17
  obtain ⟨b20, o20, _⟩ := gO_12_20 L ka
  obtain rfl := gS_12_20 L ka o20
  obtain ⟨b23, o23, _⟩ := gO_12_23 L ka
  obtain rfl := gS_12_23 L ka o23
  have zn : (4 : Int32).toInt = 4 := by decide
  intro m
  induction m with
  | zero => intro k x δ _ _ _ _; exact hs_none
  | succ m ih =>
    intro k x δ ex hk hI K
    unfold L_X12_restore_119
    have tx := ti_tn x
    have m1 := te_mulc (c := 4) (n := 4) (by decide) (q_I δ 12 18 (Ad ad 99)) (by omega) (by omega)
    have m2 := te_add ((4 : Int32) * q_I δ 12 18 (Ad ad 99)) x (by omega) (by omega)
    have m3 := ti_tn (((4 : Int32) * q_I δ 12 18 (Ad ad 99)) + x)
    have ix : (((4 : Int32) * q_I δ 12 18 (Ad ad 99)) + x).toNatClampNeg = 4 * J + k := by omega
    have ik : x.toNatClampNeg = k := by omega
    refine hs_ite (fun c => ?_) (fun c => ?_)
    · have c1 := o_le c
      exact K δ (cpI_e (by omega)) (cpI_e (by omega)) (fun _ _ _ => rfl) rfl
    · have c1 := o_nle c
      refine hs_at o14 (hs_at o20 (hs_gd (fun _ => hs_gd (fun _ => ?_))))
      rw [ix, ik]
      refine hs_bdv (fun d1 e1 => ?_)
      refine hs_at o17 (hs_at o23 (hs_gd (fun _ => hs_gd (fun _ => ?_))))
      rw [show q_I d1 12 18 (Ad ad 99) = q_I δ 12 18 (Ad ad 99) by rw [e1]; rfl]
      rw [ix]
      refine hs_bdv (fun d2 e2 => ?_)
      refine hs_biv (fun y ey => ?_)
      have y1 := te_addc (c := 1) (n := 1) rfl x (by omega) (by omega)
      rw [← ey] at y1
      have s0 : q_R d2 (Ad ad 108) = q_R δ (Ad ad 108) := by rw [e2, rR_o (ad_ne L (i := 108) (j := 106) (by decide) (by decide) (by decide)), e1, rR_o (ad_ne L (i := 108) (j := 103) (by decide) (by decide) (by decide))]
      have t0 : ∀ i, q_R d2 (Ad ad 103) i = if i = k then q_R δ (Ad ad 108) (4 * J + k) else q_R δ (Ad ad 103) i := fun i => by rw [e2, rR_o (ad_ne L (i := 103) (j := 106) (by decide) (by decide) (by decide))]; exact sR_at e1 i
      have s1 : q_R d2 (Ad ad 111) = q_R δ (Ad ad 111) := by rw [e2, rR_o (ad_ne L (i := 111) (j := 106) (by decide) (by decide) (by decide)), e1, rR_o (ad_ne L (i := 111) (j := 103) (by decide) (by decide) (by decide))]
      have t1 : ∀ i, q_R d2 (Ad ad 106) i = if i = k then q_R δ (Ad ad 111) (4 * J + k) else q_R δ (Ad ad 106) i := fun i => by rw [sR_at e2 i, e1, rR_o (ad_ne L (i := 111) (j := 103) (by decide) (by decide) (by decide)), rR_o (ad_ne L (i := 106) (j := 103) (by decide) (by decide) (by decide))]
      have oo : ∀ b, b ≠ Ad ad 103 → b ≠ Ad ad 106 → q_R d2 b = q_R δ b := fun b n0 n1 => by rw [e2, rR_o n1, e1, rR_o n0]
      have eI : q_I d2 = q_I δ := by rw [e2, e1]; rfl
      refine ih (k + 1) y d2 (by omega) (by omega) (by rw [eI]; exact hI) (fun r p0 p1 po pI => ?_)
      exact K r (cpI_s (by omega) s0 t0 p0) (cpI_s (by omega) s1 t1 p1) (fun b n0 n1 => (po b n0 n1).trans (oo b n0 n1)) (pI.trans eI)
theorem im_restore_62 {ad : List Nat} {h : hp} (L : Lay TLx ad h) {N J : Nat} (hJ : J ≤ 2) {Q : Int32 × dp → Prop} : ∀ (m k : Nat) (x : Int32) (δ : dp), x.toInt = (k : Int) → k ≤ 4000 → (q_I δ 12 18 (Ad ad 99)).toInt = (J : Int) → (∀ r : dp, cpI ad 4000 J 4000 109 104 k δ r → cpI ad 4000 J 4000 110 105 k δ r → (∀ b, b ≠ Ad ad 104 → b ≠ Ad ad 105 → q_R r b = q_R δ b) → q_I r = q_I δ → hs (L_X12_restore_119 N h.1 (Ad ad 99) N 0 r) Q) → hs (L_X12_restore_62 N h.1 (Ad ad 99) m x δ) Q := by
  have ka : q_K h.1 (Ad ad 99) = 12 := (lay_knd L (by decide)).trans (by decide)
  obtain ⟨b15, o15, _⟩ := gO_12_15 L ka
  obtain rfl := gS_12_15 L ka o15
  obtain ⟨b16, o16, _⟩ := gO_12_16 L ka
  obtain rfl := gS_12_16 L ka o16
  obtain ⟨b21, o21, _⟩ := gO_12_21 L ka
  obtain rfl := gS_12_21 L ka o21
  obtain ⟨b22, o22, _⟩ := gO_12_22 L ka
  obtain rfl := gS_12_22 L ka o22
  have zn : (4000 : Int32).toInt = 4000 := by decide
  intro m
  induction m with
  | zero => intro k x δ _ _ _ _; exact hs_none
  | succ m ih =>
    intro k x δ ex hk hI K
    unfold L_X12_restore_62
    have tx := ti_tn x
    have m1 := te_mulc (c := 4000) (n := 4000) (by decide) (q_I δ 12 18 (Ad ad 99)) (by omega) (by omega)
    have m2 := te_add ((4000 : Int32) * q_I δ 12 18 (Ad ad 99)) x (by omega) (by omega)
    have m3 := ti_tn (((4000 : Int32) * q_I δ 12 18 (Ad ad 99)) + x)
    have ix : (((4000 : Int32) * q_I δ 12 18 (Ad ad 99)) + x).toNatClampNeg = 4000 * J + k := by omega
    have ik : x.toNatClampNeg = k := by omega
    refine hs_ite (fun c => ?_) (fun c => ?_)
    · have c1 := o_le c
      exact K δ (cpI_e (by omega)) (cpI_e (by omega)) (fun _ _ _ => rfl) rfl
    · have c1 := o_nle c
      refine hs_at o15 (hs_at o21 (hs_gd (fun _ => hs_gd (fun _ => ?_))))
      rw [ix, ik]
      refine hs_bdv (fun d1 e1 => ?_)
      refine hs_at o16 (hs_at o22 (hs_gd (fun _ => hs_gd (fun _ => ?_))))
      rw [show q_I d1 12 18 (Ad ad 99) = q_I δ 12 18 (Ad ad 99) by rw [e1]; rfl]
      rw [ix]
      refine hs_bdv (fun d2 e2 => ?_)
      refine hs_biv (fun y ey => ?_)
      have y1 := te_addc (c := 1) (n := 1) rfl x (by omega) (by omega)
      rw [← ey] at y1
      have s0 : q_R d2 (Ad ad 109) = q_R δ (Ad ad 109) := by rw [e2, rR_o (ad_ne L (i := 109) (j := 105) (by decide) (by decide) (by decide)), e1, rR_o (ad_ne L (i := 109) (j := 104) (by decide) (by decide) (by decide))]
      have t0 : ∀ i, q_R d2 (Ad ad 104) i = if i = k then q_R δ (Ad ad 109) (4000 * J + k) else q_R δ (Ad ad 104) i := fun i => by rw [e2, rR_o (ad_ne L (i := 104) (j := 105) (by decide) (by decide) (by decide))]; exact sR_at e1 i
      have s1 : q_R d2 (Ad ad 110) = q_R δ (Ad ad 110) := by rw [e2, rR_o (ad_ne L (i := 110) (j := 105) (by decide) (by decide) (by decide)), e1, rR_o (ad_ne L (i := 110) (j := 104) (by decide) (by decide) (by decide))]
      have t1 : ∀ i, q_R d2 (Ad ad 105) i = if i = k then q_R δ (Ad ad 110) (4000 * J + k) else q_R δ (Ad ad 105) i := fun i => by rw [sR_at e2 i, e1, rR_o (ad_ne L (i := 110) (j := 104) (by decide) (by decide) (by decide)), rR_o (ad_ne L (i := 105) (j := 104) (by decide) (by decide) (by decide))]
      have oo : ∀ b, b ≠ Ad ad 104 → b ≠ Ad ad 105 → q_R d2 b = q_R δ b := fun b n0 n1 => by rw [e2, rR_o n1, e1, rR_o n0]
      have eI : q_I d2 = q_I δ := by rw [e2, e1]; rfl
      refine ih (k + 1) y d2 (by omega) (by omega) (by rw [eI]; exact hI) (fun r p0 p1 po pI => ?_)
      exact K r (cpI_s (by omega) s0 t0 p0) (cpI_s (by omega) s1 t1 p1) (fun b n0 n1 => (po b n0 n1).trans (oo b n0 n1)) (pI.trans eI)
theorem im_restore_26 {ad : List Nat} {h : hp} (L : Lay TLx ad h) {N J : Nat} (hJ : J ≤ 2) {Q : Int32 × dp → Prop} : ∀ (m k : Nat) (x : Int32) (δ : dp), x.toInt = (k : Int) → k ≤ 8000 → (q_I δ 12 18 (Ad ad 99)).toInt = (J : Int) → (∀ r : dp, cpI ad 8000 J 8000 107 102 k δ r → (∀ b, b ≠ Ad ad 102 → q_R r b = q_R δ b) → q_I r = q_I δ → hs (L_X12_restore_62 N h.1 (Ad ad 99) N 0 r) Q) → hs (L_X12_restore_26 N h.1 (Ad ad 99) m x δ) Q := by
  have ka : q_K h.1 (Ad ad 99) = 12 := (lay_knd L (by decide)).trans (by decide)
  obtain ⟨b13, o13, _⟩ := gO_12_13 L ka
  obtain rfl := gS_12_13 L ka o13
  obtain ⟨b19, o19, _⟩ := gO_12_19 L ka
  obtain rfl := gS_12_19 L ka o19
  have zn : (8000 : Int32).toInt = 8000 := by decide
  intro m
  induction m with
  | zero => intro k x δ _ _ _ _; exact hs_none
  | succ m ih =>
    intro k x δ ex hk hI K
    unfold L_X12_restore_26
    have tx := ti_tn x
    have m1 := te_mulc (c := 8000) (n := 8000) (by decide) (q_I δ 12 18 (Ad ad 99)) (by omega) (by omega)
    have m2 := te_add ((8000 : Int32) * q_I δ 12 18 (Ad ad 99)) x (by omega) (by omega)
    have m3 := ti_tn (((8000 : Int32) * q_I δ 12 18 (Ad ad 99)) + x)
    have ix : (((8000 : Int32) * q_I δ 12 18 (Ad ad 99)) + x).toNatClampNeg = 8000 * J + k := by omega
    have ik : x.toNatClampNeg = k := by omega
    refine hs_ite (fun c => ?_) (fun c => ?_)
    · have c1 := o_le c
      exact K δ (cpI_e (by omega)) (fun _ _ => rfl) rfl
    · have c1 := o_nle c
      refine hs_at o13 (hs_at o19 (hs_gd (fun _ => hs_gd (fun _ => ?_))))
      rw [ix, ik]
      refine hs_bdv (fun d1 e1 => ?_)
      refine hs_biv (fun y ey => ?_)
      have y1 := te_addc (c := 1) (n := 1) rfl x (by omega) (by omega)
      rw [← ey] at y1
      have s0 : q_R d1 (Ad ad 107) = q_R δ (Ad ad 107) := by rw [e1, rR_o (ad_ne L (i := 107) (j := 102) (by decide) (by decide) (by decide))]
      have t0 : ∀ i, q_R d1 (Ad ad 102) i = if i = k then q_R δ (Ad ad 107) (8000 * J + k) else q_R δ (Ad ad 102) i := fun i => sR_at e1 i
      have oo : ∀ b, b ≠ Ad ad 102 → q_R d1 b = q_R δ b := fun b n0 => by rw [e1, rR_o n0]
      have eI : q_I d1 = q_I δ := by rw [e1]; rfl
      refine ih (k + 1) y d1 (by omega) (by omega) (by rw [eI]; exact hI) (fun r p0 po pI => ?_)
      exact K r (cpI_s (by omega) s0 t0 p0) (fun b n0 => (po b n0).trans (oo b n0)) (pI.trans eI)
end
section
/-! image and restore: houses and images alike behind them -/
theorem le_i {ad : List Nat} {h : hp} (L : Lay TLx ad h) {J : Nat} (hJ : J < 3) : q_E h.1 (Ad ad 55) J = some (Ad ad (56 + J)) := by
  rcases (show J = 0 ∨ J = 1 ∨ J = 2 by omega) with rfl | rfl | rfl
  · exact fE_55_0 L
  · exact fE_55_1 L
  · exact fE_55_2 L
theorem IEa.r {n m M M2 : Int} {T F T1 F1 R T2 F2 R2 : Nat → Int} (h : IEa n T F m T1 F1 M R) (eT : ∀ i : Nat, (i : Int) < m → T2 i = T1 i ∧ F2 i = F1 i) (eR : RE M R M2 R2) : IEa n T F m T2 F2 M2 R2 := by
  obtain ⟨h1, h2, h3, h4, h5, h6, h7⟩ := h
  exact ⟨h1, h2, fun i hi => ⟨(eT i hi).1.trans (h3 i hi).1, (eT i hi).2.trans (h3 i hi).2⟩, SR_c eR h4, by rw [eR.1]; exact h5, fun y => (ME_i eR).symm.trans (h6 y), by rw [eR.1]; exact h7⟩
theorem IEa.S {n m M : Int} {T F T1 F1 R : Nat → Int} (h : IEa n T F m T1 F1 M R) : SH T F m.toNat M R := ⟨h.2.2.2.1, h.2.2.2.2.1, h.2.2.2.2.2.1, h.2.2.2.2.2.2⟩
/-- the class's image -/
theorem ic_12 {ad : List Nat} {h : hp} (L : Lay TLx ad h) {N J : Nat} (hJ : J ≤ 2) : ∀ (m i : Nat) (x : Int32) (δ : dp), x.toInt = (i : Int) → i ≤ 4 → (q_I δ 11 12 (Ad ad 0)).toInt = (J : Int) → hs (L_X11_image_12 N h.1 (Ad ad 0) m x δ) (fun r => (∀ K, i ≤ K → K < 4 → q_R r.2 (Ad ad (56 + J)) K = q_I δ 2 4 (Ad ad (75 + 6 * K))) ∧ (∀ K, K < i → q_R r.2 (Ad ad (56 + J)) K = q_R δ (Ad ad (56 + J)) K) ∧ (∀ b, b ≠ Ad ad (56 + J) → q_R r.2 b = q_R δ b) ∧ ∀ c k a, ¬ (c = 11 ∧ k = 12) → q_I r.2 c k a = q_I δ c k a) := by
  intro m
  induction m with
  | zero => intro i x δ _ _ _; exact hs_none
  | succ m ih =>
    intro i x δ ex hi hq
    have e4 : (4 : Int32).toInt = 4 := rfl
    unfold L_X11_image_12
    refine hs_ite (fun c => ?_) (fun c => ?_)
    · have c1 := o_le c
      refine hs_bdv (fun d e => hs_some ⟨fun K h1 h2 => by omega, fun K _ => by show q_R d _ K = _; rw [e]; rfl, fun b _ => by show q_R d b = _; rw [e]; rfl, fun c k a n => by show q_I d c k a = _; rw [e]; exact rI_o (fun z => n ⟨z.1, z.2⟩)⟩)
    · have c1 := o_nle c
      have t1 := ti_tn (q_I δ 11 12 (Ad ad 0))
      have t2 := ti_tn x
      have i1 : (q_I δ 11 12 (Ad ad 0)).toNatClampNeg = J := by omega
      have i2 : x.toNatClampNeg = i := by omega
      refine hs_at (fO_0_11 L) (hs_gd (fun _ => ?_))
      rw [i1]
      refine hs_at (le_i L (by omega)) (hs_at (fO_0_6 L) (hs_gd (fun _ => ?_)))
      rw [i2]
      refine hs_at (lk_e L (by omega)) (hs_gd (fun _ => hs_bdv (fun d e => hs_biv (fun w ew => ?_))))
      have y1 := te_addc (c := 1) (n := 1) rfl x (by omega) (by omega)
      rw [← ew] at y1
      refine hs_mono (ih (i + 1) w d (by omega) (by omega) (by rw [e]; exact hq)) (fun r hr => ?_)
      obtain ⟨h1, h2, h3, h4⟩ := hr
      refine ⟨fun K a b => ?_, fun K a => ?_, fun b n => by rw [h3 b n, e]; exact rR_o n, fun c k a n => by rw [h4 c k a n, e]; rfl⟩
      · by_cases z : K = i
        · subst z
          rw [h2 K (by omega), sR_at e K, if_pos rfl]
        · rw [h1 K (by omega) b, e]; rfl
      · rw [h2 K (by omega), sR_at e K, if_neg (by omega)]
/-- the reference's image, whole -/
theorem ir_image {ad : List Nat} {h : hp} (L : Lay TLx ad h) {N : Nat} {δ : dp} (i0 : 0 ≤ (q_I δ 12 18 (Ad ad 99)).toInt) (i3 : (q_I δ 12 18 (Ad ad 99)).toInt ≤ 3) : hs (D_X12_image N h.1 (Ad ad 99) δ) (fun r => ((q_I δ 12 18 (Ad ad 99)).toInt = 3 ∧ q_R r.2 = q_R δ) ∨ ∃ J : Nat, J ≤ 2 ∧ (q_I δ 12 18 (Ad ad 99)).toInt = (J : Int) ∧ cpO ad 8000 J 8000 102 107 0 δ r.2 ∧ cpO ad 4000 J 4000 104 109 0 δ r.2 ∧ cpO ad 4000 J 4000 105 110 0 δ r.2 ∧ cpO ad 4 J 4 103 108 0 δ r.2 ∧ cpO ad 4 J 4 106 111 0 δ r.2 ∧ ∀ b, b ≠ Ad ad 107 → b ≠ Ad ad 108 → b ≠ Ad ad 109 → b ≠ Ad ad 110 → b ≠ Ad ad 111 → q_R r.2 b = q_R δ b) := by
  have z3 : (3 : Int32).toInt = 3 := rfl
  have ne : ∀ i j, i < 128 → j < 128 → i ≠ j → Ad ad i ≠ Ad ad j := fun i j a b c => ad_ne L a b c
  unfold D_X12_image
  refine hs_bdv (fun d e => ?_)
  have e18 : q_I d 12 18 (Ad ad 99) = q_I δ 12 18 (Ad ad 99) := by rw [e, rI_o (by decide)]
  have eR : q_R d = q_R δ := by rw [e]; rfl
  rw [e18]
  refine hs_ite (fun c => hs_some (Or.inl ⟨by rw [c]; rfl, eR⟩)) (fun c => ?_)
  have c1 := o_ne c
  have hJ : (q_I d 12 18 (Ad ad 99)).toInt = (((q_I δ 12 18 (Ad ad 99)).toInt.toNat : Nat) : Int) := by rw [e18]; omega
  refine im_image_17 L (J := (q_I δ 12 18 (Ad ad 99)).toInt.toNat) (by omega) N 0 0 d rfl (by omega) hJ (fun r1 p1 q1 I1 => ?_)
  refine im_image_53 L (J := (q_I δ 12 18 (Ad ad 99)).toInt.toNat) (by omega) N 0 0 r1 rfl (by omega) (by rw [I1]; exact hJ) (fun r2 p2 p2' q2 I2 => ?_)
  refine im_image_110 L (J := (q_I δ 12 18 (Ad ad 99)).toInt.toNat) (by omega) N 0 0 r2 rfl (by omega) (by rw [I2, I1]; exact hJ) (fun r3 p3 p3' q3 I3 => ?_)
  refine hs_bdv (fun r4 e4 => hs_some (Or.inr ⟨(q_I δ 12 18 (Ad ad 99)).toInt.toNat, by omega, by omega, fun i => ?_, fun i => ?_, fun i => ?_, fun i => ?_, fun i => ?_, fun b n7 n8 n9 n10 n11 => ?_⟩))
  · show q_R r4 _ i = _
    rw [show q_R r4 = q_R r3 by rw [e4]; rfl, q3 _ (ne _ _ (by decide) (by decide) (by decide)) (ne _ _ (by decide) (by decide) (by decide)), q2 _ (ne _ _ (by decide) (by decide) (by decide)) (ne _ _ (by decide) (by decide) (by decide)), p1 i, eR]
  · show q_R r4 _ i = _
    rw [show q_R r4 = q_R r3 by rw [e4]; rfl, q3 _ (ne _ _ (by decide) (by decide) (by decide)) (ne _ _ (by decide) (by decide) (by decide)), p2 i, q1 _ (ne _ _ (by decide) (by decide) (by decide)), q1 _ (ne _ _ (by decide) (by decide) (by decide)), eR]
  · show q_R r4 _ i = _
    rw [show q_R r4 = q_R r3 by rw [e4]; rfl, q3 _ (ne _ _ (by decide) (by decide) (by decide)) (ne _ _ (by decide) (by decide) (by decide)), p2' i, q1 _ (ne _ _ (by decide) (by decide) (by decide)), q1 _ (ne _ _ (by decide) (by decide) (by decide)), eR]
  · show q_R r4 _ i = _
    rw [show q_R r4 = q_R r3 by rw [e4]; rfl, p3 i, q2 _ (ne _ _ (by decide) (by decide) (by decide)) (ne _ _ (by decide) (by decide) (by decide)), q2 _ (ne _ _ (by decide) (by decide) (by decide)) (ne _ _ (by decide) (by decide) (by decide)), q1 _ (ne _ _ (by decide) (by decide) (by decide)), q1 _ (ne _ _ (by decide) (by decide) (by decide)), eR]
  · show q_R r4 _ i = _
    rw [show q_R r4 = q_R r3 by rw [e4]; rfl, p3' i, q2 _ (ne _ _ (by decide) (by decide) (by decide)) (ne _ _ (by decide) (by decide) (by decide)), q2 _ (ne _ _ (by decide) (by decide) (by decide)) (ne _ _ (by decide) (by decide) (by decide)), q1 _ (ne _ _ (by decide) (by decide) (by decide)), q1 _ (ne _ _ (by decide) (by decide) (by decide)), eR]
  · show q_R r4 b = _
    rw [show q_R r4 = q_R r3 by rw [e4]; rfl, q3 b n8 n11, q2 b n9 n10, q1 b n7, eR]
/-- image -/
theorem HX_img {ad : List Nat} {δ d : dp} {J : Nat} (X : HX ad δ) (hJ : J ≤ 2) (e18 : (q_I δ 12 18 (Ad ad 99)).toInt = (J : Int)) (f18 : (q_I d 12 18 (Ad ad 99)).toInt = (J : Int) + 1) (f10 : q_I d 12 10 (Ad ad 99) = q_I δ 12 10 (Ad ad 99)) (bN : ∀ K, K < 4 → hN ad δ K ≤ 1000) (bM : ∀ K, K < 4 → hM ad δ K ≤ 2000) (bI : ∀ j K, iN ad δ j K ≤ 1000 ∧ iM ad δ j K ≤ 2000)
    (cs : ∀ K, K < 4 → cM ad d K = cM ad δ K ∧ cR ad d K = cR ad δ K ∧ cN ad d K = cN ad δ K ∧ cC ad d K = cC ad δ K) (ci : ∀ K, K < 4 → (q_R d (Ad ad (56 + J)) K).toInt = cN ad δ K) (co : ∀ j, j < 3 → j ≠ J → q_R d (Ad ad (56 + j)) = q_R δ (Ad ad (56 + j)))
    (rs : ∀ i, 102 ≤ i → i < 107 → q_R d (Ad ad i) = q_R δ (Ad ad i)) (p1 : cpO ad 8000 J 8000 102 107 0 δ d) (p2 : cpO ad 4000 J 4000 104 109 0 δ d) (p3 : cpO ad 4000 J 4000 105 110 0 δ d) (p4 : cpO ad 4 J 4 103 108 0 δ d) (p5 : cpO ad 4 J 4 106 111 0 δ d) : HX ad d := by
  obtain ⟨X1, X2⟩ := X
  have eA : shA (Ad ad 99) d = shA (Ad ad 99) δ := by unfold shA; rw [f10]
  have r2 := rs 102 (by decide) (by decide)
  have r3 := rs 103 (by decide) (by decide)
  have r4 := rs 104 (by decide) (by decide)
  have r5 := rs 105 (by decide) (by decide)
  have r6 := rs 106 (by decide) (by decide)
  have eM : ∀ K, hM ad d K = hM ad δ K := fun K => by unfold hM; rw [r3]
  have eR : ∀ K, hR ad d K = hR ad δ K := fun K => by funext i; unfold hR; rw [r2]
  have eT : ∀ K, nT ad d K = nT ad δ K := fun K => by funext i; unfold nT; rw [r4]
  have eF : ∀ K, cF ad d K = cF ad δ K := fun K => by funext i; unfold cF; rw [r5]
  have eN : ∀ K, hN ad d K = hN ad δ K := fun K => by unfold hN; rw [r6]
  refine ⟨fun K hK => ?_, fun j hj K hK => ?_⟩
  · obtain ⟨c1, c2, c3, c4⟩ := cs K hK
    rw [eA]
    unfold HE
    rw [c1, c2, c3, c4, eM, eR, eT, eF, eN]
    exact X1 K hK
  · rw [f18] at hj ⊢
    have oN : ∀ j, j < J → iN ad d j K = iN ad δ j K := fun j hj => by unfold iN; rw [p5, if_neg (by omega)]
    have nN : iN ad d J K = hN ad δ K := by unfold iN; rw [p5, if_pos (by omega), show 4 * J + K - 4 * J = K by omega]; rfl
    by_cases z : j = J
    · subst z
      obtain ⟨h1, h2, h3, h4, h5, h6, h7, h8, h9⟩ := X1 K hK
      have b1 := bN K hK
      have b2 := bM K hK
      rw [nN]
      refine ⟨by rw [ci K hK]; exact h2, ?_, fun j' a b => by omega⟩
      rw [eN, eT, eF]
      refine ⟨h3, Int.le_refl _, fun i hi => ⟨?_, ?_⟩, ?_, ?_, ?_, ?_⟩
      · unfold iT; rw [p2, if_pos (by omega), show 4000 * j + (1000 * K + i) - 4000 * j = 1000 * K + i by omega]; rfl
      · unfold iF; rw [p3, if_pos (by omega), show 4000 * j + (1000 * K + i) - 4000 * j = 1000 * K + i by omega]; rfl
      all_goals
        have q : RE (hM ad δ K) (hR ad δ K) (iM ad d j K) (iR ad d j K) := ⟨by unfold iM; rw [p4, if_pos (by omega), show 4 * j + K - 4 * j = K by omega]; rfl, fun i hi => by unfold iR; rw [p1, if_pos (by omega), show 8000 * j + (2000 * K + i) - 8000 * j = 2000 * K + i by omega]; rfl⟩
      · exact SR_c q h4
      · rw [q.1]; exact h5
      · exact fun y => (ME_i q).symm.trans (h8 y)
      · rw [q.1]; exact h9
    · have jl : j < J := by omega
      obtain ⟨h1, h2, h3⟩ := X2 j (by omega) K hK
      have b1 := bI j K
      rw [oN j jl, co j (by omega) z, eN, eT, eF]
      refine ⟨h1, h2.r (fun i hi => ⟨?_, ?_⟩) ⟨?_, fun i hi => ?_⟩, fun j' a b => ?_⟩
      · unfold iT; rw [p2, if_neg (by omega)]
      · unfold iF; rw [p3, if_neg (by omega)]
      · unfold iM; rw [p4, if_neg (by omega)]
      · unfold iR; rw [p1, if_neg (by omega)]
      · by_cases y : j' = J
        · subst y
          rw [nN]; exact h2.2.1
        · rw [oN j' (by omega)]; exact h3 j' a (by omega)
theorem stepM {ad : List Nat} {h : hp} (L : Lay TLx ad h) {N : Nat} (hNN : 10000000 ≤ N) (kx : q_K h.1 (Ad ad 0) = 11) (km : q_K h.1 (Ad ad 99) = 12) {δ : dp} (V : IY ad h.1 δ) : ∃ d, (∃ (b : Int32) (δ1 : dp), D_X11_image N h.1 (Ad ad 0) δ = some (b, δ1) ∧ D_X12_image N h.1 (Ad ad 99) δ1 = some (b, d)) ∧ IY ad h.1 d := by
  obtain ⟨V, X⟩ := V
  obtain ⟨⟨V1, V2, V3, V4⟩, A⟩ := id V
  obtain ⟨d, ⟨b, δ1, e1, e2⟩, W⟩ := stepI V (P := pIm) (o1 := D_X11_image N h.1 (Ad ad 0) δ) (f := fun δ1 => D_X12_image N h.1 (Ad ad 99) δ1) pIm_u (ok_mono (k_X11_image L hNN kx V1) (fun r hr => ⟨hr.1, by rw [hr.2.1.1 7 1 (Ad ad 1) (by decide)], fun a => ⟨hr.2.1.1 5 0 a (by decide), hr.2.1.1 5 1 a (by decide), hr.2.1.1 5 2 a (by decide)⟩, by have p1 := hr.2.2.1; have p2 := hr.2.2.2; unfold pIm; omega⟩)) (fun δ1 I1 O1 => ok_mono (ok_and (o_image L hNN km I1 O1) (k_X12_image L hNN km I1)) (fun r hr => ⟨hr.1, by have p1 := hr.2.2.2.1; have p2 := hr.2.2.2.2; unfold pIm; omega⟩))
  refine ⟨d, ⟨b, δ1, e1, e2⟩, W, ?_⟩
  obtain ⟨c1, ⟨u1, _⟩, p1, p2⟩ := ok_h (k_X11_image L hNN kx V1) _ e1
  dsimp only at c1 u1 p1 p2
  have I1 := RI_re V2 c1
  have F := c1.2.2.2.1
  have FR := c1.2.2.2.2
  obtain ⟨r1, ⟨u2, _, w2⟩, s1, s2⟩ := ok_h (k_X12_image L hNN km I1) _ e2
  dsimp only at r1 u2 w2 s1 s2
  have b18 := cb_12_18 I1 km
  have ir := ir_image L (N := N) b18.1 b18.2 _ e2
  dsimp only at ir
  have K2 := csk_R r1
  have i3 := IY.i3 (ad := ad) km V2
  have a3 := A.2.2.1
  have z3 : (3 : Int32).toInt = 3 := rfl
  rcases ir with ⟨t3, eR⟩ | ⟨J, hJ, tJ, q1, q2, q3, q4, q5, q6⟩
  · rw [F 18] at t3
    have e11 : δ1 = δ := by
      have : hs (D_X11_image N h.1 (Ad ad 0) δ) (fun r => r.2 = δ) := by
        unfold D_X11_image
        refine hs_ite (fun c => by have := o_lt c; omega) (fun _ => hs_some rfl)
      exact this _ e1
    subst e11
    refine X.k i3 ⟨fun K hK => K2.1 K hK, K2.2⟩ ⟨fun k hk => ?_, bak_k (by rw [eR]) (by rw [eR]), fun i _ _ => by rw [eR]⟩
    rcases hk with rfl | rfl
    · exact u2 12 10 _ (by decide)
    · exact i_eq (s2 (by omega)).2
  · have tJ0 : (q_I δ 12 18 (Ad ad 99)).toInt = (J : Int) := by rw [← F 18]; exact tJ
    have cl : hs (D_X11_image N h.1 (Ad ad 0) δ) (fun r => (∀ K, K < 4 → q_R r.2 (Ad ad (56 + J)) K = q_I δ 2 4 (Ad ad (75 + 6 * K))) ∧ (∀ b, b ≠ Ad ad (56 + J) → q_R r.2 b = q_R δ b) ∧ ∀ c k a, ¬ (c = 11 ∧ k = 12) → q_I r.2 c k a = q_I δ c k a) := by
      unfold D_X11_image
      refine hs_ite (fun c => ?_) (fun c => by have := o_nlt c; omega)
      exact hs_mono (ic_12 L hJ N 0 0 δ rfl (by omega) (by omega)) (fun r hr => ⟨fun K hK => hr.1 K (Nat.zero_le _) hK, hr.2.2.1, hr.2.2.2⟩)
    obtain ⟨g1, g2, g3⟩ := cl _ e1
    dsimp only at g1 g2 g3
    have sm : ∀ K, K < 4 → cM ad δ1 K = cM ad δ K ∧ cR ad δ1 K = cR ad δ K ∧ cN ad δ1 K = cN ad δ K ∧ cC ad δ1 K = cC ad δ K := fun K hK => by
      refine ⟨?_, ?_, ?_, ?_⟩
      · unfold cM; rw [g3 3 1 _ (by decide)]
      · funext i; unfold cR; rw [g2 _ (ad_ne L (by omega) (by omega) (by omega))]
      · unfold cN; rw [g3 2 4 _ (by decide)]
      · funext i; unfold cC; rw [g2 _ (ad_ne L (by omega) (by omega) (by omega))]
    have ref : ∀ i, 100 ≤ i → i < 127 → q_R δ1 (Ad ad i) = q_R δ (Ad ad i) := fun i a b => FR i (Or.inl a) b
    have cp : ∀ {B n src dst : Nat}, 100 ≤ src → src < 127 → 100 ≤ dst → dst < 127 → cpO ad B J n src dst 0 δ1 d → cpO ad B J n src dst 0 δ d := fun a b c e q i => by rw [q i, ref _ a b, ref _ c e]
    refine HX_img X hJ tJ0 (by rw [(s1 (by omega)).2, tJ]) (by rw [u2 12 10 _ (by decide), F 10]) (fun K _ => (rb_106 L V2 K).2) (fun K _ => (rb_103 L V2 K).2) (fun j K => ⟨(rb_111 L V2 _).2, (rb_108 L V2 _).2⟩) (fun K hK => ?_) (fun K hK => ?_) (fun j hj n => ?_) (fun i a b => ?_) (cp (by decide) (by decide) (by decide) (by decide) q1) (cp (by decide) (by decide) (by decide) (by decide) q2) (cp (by decide) (by decide) (by decide) (by decide) q3) (cp (by decide) (by decide) (by decide) (by decide) q4) (cp (by decide) (by decide) (by decide) (by decide) q5)
    · obtain ⟨y1, y2, y3, y4, _⟩ := K2.1 K hK
      obtain ⟨x1, x2, x3, x4⟩ := sm K hK
      exact ⟨by rw [y1, x1], by rw [y2, x2], by rw [y3, x3], by rw [y4, x4]⟩
    · rw [K2.2 J (by omega), g1 K hK]; rfl
    · rw [K2.2 j hj, g2 _ (ad_ne L (by omega) (by omega) (by omega))]
    · rw [q6 _ (ad_ne L (by omega) (by decide) (by omega)) (ad_ne L (by omega) (by decide) (by omega)) (ad_ne L (by omega) (by decide) (by omega)) (ad_ne L (by omega) (by decide) (by omega)) (ad_ne L (by omega) (by decide) (by omega)), ref i (by omega) (by omega)]
/-- the class's restore -/
theorem rc_21 {ad : List Nat} {h : hp} (L : Lay TLx ad h) {δ0 : dp} {N : Nat} (hNN : 10000000 ≤ N) {J : Nat} (hJ : J ≤ 2) {A : Int} {T F C0 : Nat → Nat → Int} {n v : Nat → Nat} (hn : ∀ K, K < 4 → v K ≤ n K ∧ n K ≤ 1000) (hC : ∀ K, K < 4 → Vd A (T K) (F K) (n K) ∧ ∀ i : Nat, i < n K → C0 K i = 2 * T K i + (1 - F K i)) : ∀ (m i : Nat) (x : Int32) (δ : dp), x.toInt = (i : Int) → i ≤ 4 → CI ad h.1 δ0 δ → (q_I δ 11 12 (Ad ad 0)).toInt = (J : Int) → (∀ K, K < 4 → (q_R δ (Ad ad (56 + J)) K).toInt = (v K : Int)) → (∀ K, K < 4 → (∀ j, cC ad δ K j = C0 K j) ∧ (K < i → cN ad δ K = (v K : Int) ∧ SH (T K) (F K) (v K) (cM ad δ K) (cR ad δ K)) ∧ (i ≤ K → cN ad δ K = (n K : Int) ∧ SH (T K) (F K) (n K) (cM ad δ K) (cR ad δ K))) → hs (L_X11_restore_21 N h.1 (Ad ad 0) m x δ) (fun r => (∀ K, K < 4 → (∀ j, cC ad r.2 K j = C0 K j) ∧ cN ad r.2 K = (v K : Int) ∧ SH (T K) (F K) (v K) (cM ad r.2 K) (cR ad r.2 K)) ∧ ∀ j, j < 3 → q_R r.2 (Ad ad (56 + j)) = q_R δ (Ad ad (56 + j))) := by
  intro m
  induction m with
  | zero => intro i x δ _ _ _ _ _ _; exact hs_none
  | succ m ih =>
    intro i x δ ex hi I hq hv H
    have e4 : (4 : Int32).toInt = 4 := rfl
    unfold L_X11_restore_21
    refine hs_ite (fun c => ?_) (fun c => ?_)
    · have c1 := o_le c
      refine hs_at (fO_0_8 L) (hs_bind (csm_forget (ad := ad)) (fun d hd => hs_some ?_))
      have k := csk_m L hd
      refine ⟨fun K hK => ?_, fun j hj => k.2 j hj⟩
      obtain ⟨q1, q2, q3, q4, _⟩ := k.1 K hK
      obtain ⟨h1, h2, _⟩ := H K hK
      show (∀ j, cC ad d K j = _) ∧ cN ad d K = _ ∧ SH _ _ _ (cM ad d K) (cR ad d K)
      rw [q1, q2, q3, q4]
      exact ⟨h1, h2 (by omega)⟩
    · have c1 := o_nle c
      have t1 := ti_tn (q_I δ 11 12 (Ad ad 0))
      have t2 := ti_tn x
      have i1 : (q_I δ 11 12 (Ad ad 0)).toNatClampNeg = J := by omega
      have i2 : x.toNatClampNeg = i := by omega
      have hi4 : i < 4 := by omega
      refine hs_at (fO_0_6 L) (hs_gd (fun _ => ?_))
      rw [i2]
      refine hs_at (lk_e L hi4) (hs_at (fO_0_11 L) (hs_gd (fun _ => ?_)))
      rw [i1]
      refine hs_at (le_i L (by omega)) (hs_gd (fun _ => ?_))
      have vi := hv i hi4
      obtain ⟨H1, _, H3⟩ := H i hi4
      obtain ⟨H3, H4⟩ := H3 (Nat.le_refl _)
      have ni := hn i hi4
      refine hs_bind (P := fun r => mf ad i δ r ∧ CI ad h.1 δ0 r ∧ cN ad r i = (v i : Int) ∧ (∀ j, cC ad r i j = cC ad δ i j) ∧ SH (T i) (F i) (v i) (cM ad r i) (cR ad r i)) ?_ (fun r hr => ?_)
      · unfold D_X2_goBack
        have b := h2_back L hNN hi4 (x1 := q_R δ (Ad ad (56 + J)) i) (A := A) (T := T i) (F := F i) (n := n i) ni.2 (by omega) N (n i) δ (Nat.le_refl _) (by omega) H3 I ⟨(hC i hi4).1, fun j hj => by rw [H1]; exact (hC i hi4).2 j hj⟩ H4
        rw [vi] at b
        exact b
      · obtain ⟨g1, g2, g3, g4, g5⟩ := hr
        have o := mf_o L hi4 g1
        refine hs_biv (fun w ew => ?_)
        have y1 := te_addc (c := 1) (n := 1) rfl x (by omega) (by omega)
        rw [← ew] at y1
        refine hs_mono (ih (i + 1) w r (by omega) (by omega) g2 (by rw [g1.1 11 12 _ (by decide) (by decide) (fun z => by omega) (fun z => by omega)]; exact hq) (fun K hK => by rw [o.2 J (by omega)]; exact hv K hK) (fun K hK => ?_)) (fun q hq => ⟨hq.1, fun j hj => by rw [hq.2 j hj, o.2 j hj]⟩)
        obtain ⟨a1, a2, a3⟩ := H K hK
        by_cases z : K = i
        · subst z
          exact ⟨fun j => by rw [g4, a1], fun _ => ⟨g3, g5⟩, fun y => by omega⟩
        · obtain ⟨o1, o2, o3, o4, _⟩ := o.1 K hK z
          rw [o1, o2, o3, o4]
          exact ⟨a1, fun y => a2 (by omega), fun y => a3 (by omega)⟩
theorem ir_restore {ad : List Nat} {h : hp} (L : Lay TLx ad h) {N : Nat} {δ : dp} (i0 : 0 ≤ (q_I δ 12 18 (Ad ad 99)).toInt) (i3 : (q_I δ 12 18 (Ad ad 99)).toInt ≤ 3) : hs (D_X12_restore N h.1 (Ad ad 99) δ) (fun r => ((q_I δ 12 18 (Ad ad 99)).toInt = 0 ∧ q_R r.2 = q_R δ) ∨ ∃ J : Nat, J ≤ 2 ∧ (q_I δ 12 18 (Ad ad 99)).toInt = (J : Int) + 1 ∧ cpI ad 8000 J 8000 107 102 0 δ r.2 ∧ cpI ad 4000 J 4000 109 104 0 δ r.2 ∧ cpI ad 4000 J 4000 110 105 0 δ r.2 ∧ cpI ad 4 J 4 108 103 0 δ r.2 ∧ cpI ad 4 J 4 111 106 0 δ r.2 ∧ ∀ b, b ≠ Ad ad 102 → b ≠ Ad ad 103 → b ≠ Ad ad 104 → b ≠ Ad ad 105 → b ≠ Ad ad 106 → q_R r.2 b = q_R δ b) := by
  have z0 : (0 : Int32).toInt = 0 := rfl
  have ne : ∀ i j, i < 128 → j < 128 → i ≠ j → Ad ad i ≠ Ad ad j := fun i j a b c => ad_ne L a b c
  unfold D_X12_restore
  refine hs_bdv (fun d0 e0 => ?_)
  have e18 : q_I d0 12 18 (Ad ad 99) = q_I δ 12 18 (Ad ad 99) := by rw [e0, rI_o (by decide)]
  rw [e18]
  refine hs_ite (fun c => hs_some (Or.inl ⟨by rw [c]; rfl, by show q_R d0 = _; rw [e0]; rfl⟩)) (fun c => ?_)
  have c1 := o_ne c
  have t1 := te_subc (c := 1) (n := 1) rfl (q_I δ 12 18 (Ad ad 99)) (by omega) (by omega)
  refine hs_bdv (fun d e => ?_)
  have eR : q_R d = q_R δ := by rw [e, e0]; rfl
  have hJ : (q_I d 12 18 (Ad ad 99)).toInt = ((((q_I δ 12 18 (Ad ad 99)).toInt - 1).toNat : Nat) : Int) := by rw [e, rI_s]; omega
  refine im_restore_26 L (J := ((q_I δ 12 18 (Ad ad 99)).toInt - 1).toNat) (by omega) N 0 0 d rfl (by omega) hJ (fun r1 p1 q1 I1 => ?_)
  refine im_restore_62 L (J := ((q_I δ 12 18 (Ad ad 99)).toInt - 1).toNat) (by omega) N 0 0 r1 rfl (by omega) (by rw [I1]; exact hJ) (fun r2 p2 p2' q2 I2 => ?_)
  refine im_restore_119 L (J := ((q_I δ 12 18 (Ad ad 99)).toInt - 1).toNat) (by omega) N 0 0 r2 rfl (by omega) (by rw [I2, I1]; exact hJ) (fun r3 p3 p3' q3 I3 => ?_)
  refine hs_some (Or.inr ⟨((q_I δ 12 18 (Ad ad 99)).toInt - 1).toNat, by omega, by omega, fun i => ?_, fun i => ?_, fun i => ?_, fun i => ?_, fun i => ?_, fun b n7 n8 n9 n10 n11 => ?_⟩)
  · show q_R r3 _ i = _
    rw [q3 _ (ne _ _ (by decide) (by decide) (by decide)) (ne _ _ (by decide) (by decide) (by decide)), q2 _ (ne _ _ (by decide) (by decide) (by decide)) (ne _ _ (by decide) (by decide) (by decide)), p1 i, eR]
  · show q_R r3 _ i = _
    rw [q3 _ (ne _ _ (by decide) (by decide) (by decide)) (ne _ _ (by decide) (by decide) (by decide)), p2 i, q1 _ (ne _ _ (by decide) (by decide) (by decide)), q1 _ (ne _ _ (by decide) (by decide) (by decide)), eR]
  · show q_R r3 _ i = _
    rw [q3 _ (ne _ _ (by decide) (by decide) (by decide)) (ne _ _ (by decide) (by decide) (by decide)), p2' i, q1 _ (ne _ _ (by decide) (by decide) (by decide)), q1 _ (ne _ _ (by decide) (by decide) (by decide)), eR]
  · show q_R r3 _ i = _
    rw [p3 i, q2 _ (ne _ _ (by decide) (by decide) (by decide)) (ne _ _ (by decide) (by decide) (by decide)), q2 _ (ne _ _ (by decide) (by decide) (by decide)) (ne _ _ (by decide) (by decide) (by decide)), q1 _ (ne _ _ (by decide) (by decide) (by decide)), q1 _ (ne _ _ (by decide) (by decide) (by decide)), eR]
  · show q_R r3 _ i = _
    rw [p3' i, q2 _ (ne _ _ (by decide) (by decide) (by decide)) (ne _ _ (by decide) (by decide) (by decide)), q2 _ (ne _ _ (by decide) (by decide) (by decide)) (ne _ _ (by decide) (by decide) (by decide)), q1 _ (ne _ _ (by decide) (by decide) (by decide)), q1 _ (ne _ _ (by decide) (by decide) (by decide)), eR]
  · show q_R r3 b = _
    rw [q3 b n8 n11, q2 b n9 n10, q1 b n7, eR]
theorem HX_res {ad : List Nat} {δ d : dp} {J : Nat} (X : HX ad δ) (hJ : J ≤ 2) (e18 : (q_I δ 12 18 (Ad ad 99)).toInt = (J : Int) + 1) (f18 : (q_I d 12 18 (Ad ad 99)).toInt = (J : Int)) (f10 : q_I d 12 10 (Ad ad 99) = q_I δ 12 10 (Ad ad 99)) (bI : ∀ j K, iN ad δ j K ≤ 1000 ∧ iM ad δ j K ≤ 2000)
    (cs : ∀ K, K < 4 → (∀ j, cC ad d K j = cC ad δ K j) ∧ cN ad d K = iN ad δ J K ∧ SH (nT ad δ K) (cF ad δ K) (iN ad δ J K).toNat (cM ad d K) (cR ad d K)) (co : ∀ j, j < 3 → q_R d (Ad ad (56 + j)) = q_R δ (Ad ad (56 + j)))
    (rs : ∀ i, 107 ≤ i → i < 112 → q_R d (Ad ad i) = q_R δ (Ad ad i)) (p1 : cpI ad 8000 J 8000 107 102 0 δ d) (p2 : cpI ad 4000 J 4000 109 104 0 δ d) (p3 : cpI ad 4000 J 4000 110 105 0 δ d) (p4 : cpI ad 4 J 4 108 103 0 δ d) (p5 : cpI ad 4 J 4 111 106 0 δ d) : HX ad d := by
  obtain ⟨X1, X2⟩ := X
  have eA : shA (Ad ad 99) d = shA (Ad ad 99) δ := by unfold shA; rw [f10]
  have r7 := rs 107 (by decide) (by decide)
  have r8 := rs 108 (by decide) (by decide)
  have r9 := rs 109 (by decide) (by decide)
  have r10 := rs 110 (by decide) (by decide)
  have r11 := rs 111 (by decide) (by decide)
  have eN : ∀ j K, iN ad d j K = iN ad δ j K := fun j K => by unfold iN; rw [r11]
  have eT : ∀ j K, iT ad d j K = iT ad δ j K := fun j K => by funext i; unfold iT; rw [r9]
  have eF : ∀ j K, iF ad d j K = iF ad δ j K := fun j K => by funext i; unfold iF; rw [r10]
  have eM : ∀ j K, iM ad d j K = iM ad δ j K := fun j K => by unfold iM; rw [r8]
  have eR : ∀ j K, iR ad d j K = iR ad δ j K := fun j K => by funext i; unfold iR; rw [r7]
  have nN : ∀ K, K < 4 → hN ad d K = iN ad δ J K := fun K hK => by unfold hN iN; rw [p5, if_pos (by omega)]
  have nT' : ∀ K, K < 4 → ∀ i : Nat, (i : Int) < iN ad δ J K → nT ad d K i = nT ad δ K i ∧ cF ad d K i = cF ad δ K i := fun K hK i hi => by
    have b := (bI J K).1
    obtain ⟨_, h2, _⟩ := X2 J (by omega) K hK
    have h3 := h2.2.2.1 i hi
    refine ⟨?_, ?_⟩
    · rw [← h3.1]; unfold nT iT; rw [p2, if_pos (by omega)]
    · rw [← h3.2]; unfold cF iF; rw [p3, if_pos (by omega)]
  refine ⟨fun K hK => ?_, fun j hj K hK => ?_⟩
  · obtain ⟨c1, c2, c3⟩ := cs K hK
    obtain ⟨_, h2, _⟩ := X2 J (by omega) K hK
    obtain ⟨g1, g2, g3, g4, g5, g6, g7, g8, g9⟩ := X1 K hK
    have b := bI J K
    have q : RE (iM ad δ J K) (iR ad δ J K) (hM ad d K) (hR ad d K) := ⟨by unfold hM iM; rw [p4, if_pos (by omega)], fun i hi => by unfold hR iR; rw [p1, if_pos (by omega)]⟩
    have hn := nN K hK
    have S := h2.S.c q
    have T' := nT' K hK
    have T2 : ∀ t, t < (iN ad δ J K).toNat → nT ad d K t = nT ad δ K t ∧ cF ad d K t = cF ad δ K t := fun t ht => T' t (by omega)
    rw [eA]
    unfold HE
    refine ⟨S.u c3, by rw [hn]; exact c2, by rw [hn]; exact h2.1, S.1, S.2.1, fun i hi => ?_, ?_, fun y => ?_, ?_⟩
    · rw [hn] at hi
      rw [c1, (T' i hi).1, (T' i hi).2]
      exact g6 i (by have := h2.2.1; omega)
    · rw [hn]; exact Vd_c T2 (Vd_w (by have := h2.2.1; omega) g7)
    · rw [hn, St_c _ T2]; exact S.2.2.1 y
    · rw [hn, Ct_c _ (fun t ht => (T2 t ht).2)]; exact S.2.2.2
  · rw [f18] at hj ⊢
    obtain ⟨h1, h2, h3⟩ := X2 j (by omega) K hK
    have mj := h3 J (by omega) (by omega)
    rw [eN, eT, eF, eM, eR, co j (by omega), nN K hK]
    exact ⟨h1, h2.g mj (fun i hi => nT' K hK i (by omega)), fun j' a b => by rw [eN]; exact h3 j' a (by omega)⟩
theorem stepW {ad : List Nat} {h : hp} (L : Lay TLx ad h) {N : Nat} (hNN : 10000000 ≤ N) (kx : q_K h.1 (Ad ad 0) = 11) (km : q_K h.1 (Ad ad 99) = 12) {δ : dp} (V : IY ad h.1 δ) : ∃ d, (∃ (b : Int32) (δ1 : dp), D_X11_restore N h.1 (Ad ad 0) δ = some (b, δ1) ∧ D_X12_restore N h.1 (Ad ad 99) δ1 = some (b, d)) ∧ IY ad h.1 d := by
  obtain ⟨V, X⟩ := V
  obtain ⟨⟨V1, V2, V3, V4⟩, A⟩ := id V
  obtain ⟨d, ⟨b, δ1, e1, e2⟩, W⟩ := stepI V (P := pRs) (o1 := D_X11_restore N h.1 (Ad ad 0) δ) (f := fun δ1 => D_X12_restore N h.1 (Ad ad 99) δ1) pRs_u (ok_mono (k_X11_restore L hNN kx V1) (fun r hr => ⟨hr.1, by rw [hr.2.1.1 7 1 (Ad ad 1) (by decide)], fun a => ⟨hr.2.1.1 5 0 a (by decide), hr.2.1.1 5 1 a (by decide), hr.2.1.1 5 2 a (by decide)⟩, by have p1 := hr.2.2.1; have p2 := hr.2.2.2; unfold pRs; omega⟩)) (fun δ1 I1 O1 => ok_mono (ok_and (o_restore L hNN km I1 O1) (k_X12_restore L hNN km I1)) (fun r hr => ⟨hr.1, by have p1 := hr.2.2.2.1; have p2 := hr.2.2.2.2; unfold pRs; omega⟩))
  refine ⟨d, ⟨b, δ1, e1, e2⟩, W, ?_⟩
  obtain ⟨c1, ⟨u1, _⟩, p1, p2⟩ := ok_h (k_X11_restore L hNN kx V1) _ e1
  dsimp only at c1 u1 p1 p2
  have I1 := RI_re V2 c1
  have F := c1.2.2.2.1
  have FR := c1.2.2.2.2
  obtain ⟨r1, ⟨u2, _, w2⟩, s1, s2⟩ := ok_h (k_X12_restore L hNN km I1) _ e2
  dsimp only at r1 u2 w2 s1 s2
  have b18 := cb_12_18 I1 km
  have ir := ir_restore L (N := N) b18.1 b18.2 _ e2
  dsimp only at ir
  have K2 := csk_R r1
  have i3 := IY.i3 (ad := ad) km V2
  have a3 := A.2.2.1
  have z0 : (0 : Int32).toInt = 0 := rfl
  rcases ir with ⟨t3, eR⟩ | ⟨J, hJ, tJ, q1, q2, q3, q4, q5, q6⟩
  · rw [F 18] at t3
    have e11 : δ1 = δ := by
      have : hs (D_X11_restore N h.1 (Ad ad 0) δ) (fun r => r.2 = δ) := by
        unfold D_X11_restore
        refine hs_ite (fun c => by have := o_lt c; omega) (fun _ => hs_some rfl)
      exact this _ e1
    subst e11
    refine X.k i3 ⟨fun K hK => K2.1 K hK, K2.2⟩ ⟨fun k hk => ?_, bak_k (by rw [eR]) (by rw [eR]), fun i _ _ => by rw [eR]⟩
    rcases hk with rfl | rfl
    · exact u2 12 10 _ (by decide)
    · exact i_eq (s2 (by omega)).2
  · have tJ0 : (q_I δ 12 18 (Ad ad 99)).toInt = (J : Int) + 1 := by rw [← F 18]; exact tJ
    have HI : ∀ K, K < 4 → (q_R δ (Ad ad (56 + J)) K).toInt = iN ad δ J K ∧ 0 ≤ iN ad δ J K ∧ iN ad δ J K ≤ hN ad δ K := fun K hK => by
      obtain ⟨h1, h2, _⟩ := X.2 J (by omega) K hK
      exact ⟨h1, h2.1, h2.2.1⟩
    have cl : hs (D_X11_restore N h.1 (Ad ad 0) δ) (fun r => (∀ K, K < 4 → (∀ j, cC ad r.2 K j = cC ad δ K j) ∧ cN ad r.2 K = (((iN ad δ J K).toNat : Nat) : Int) ∧ SH (nT ad δ K) (cF ad δ K) (iN ad δ J K).toNat (cM ad r.2 K) (cR ad r.2 K)) ∧ ∀ j, j < 3 → q_R r.2 (Ad ad (56 + j)) = q_R δ (Ad ad (56 + j))) := by
      unfold D_X11_restore
      refine hs_ite (fun c => ?_) (fun c => by have := o_nlt c; omega)
      have t1 := te_subc (c := 1) (n := 1) rfl (q_I δ 11 12 (Ad ad 0)) (by omega) (by omega)
      refine hs_bdv (fun d e => ?_)
      have id : CI ad h.1 δ d := by rw [e]; exact cs_11_12 L V1 kx (by omega) (by omega)
      have eM : ∀ K, cM ad d K = cM ad δ K := fun K => by unfold cM; rw [e, rI_o (by decide)]
      have eR : ∀ K, cR ad d K = cR ad δ K := fun K => by funext i; unfold cR; rw [e]; rfl
      have eN : ∀ K, cN ad d K = cN ad δ K := fun K => by unfold cN; rw [e, rI_o (by decide)]
      have eC : ∀ K, cC ad d K = cC ad δ K := fun K => by funext i; unfold cC; rw [e]; rfl
      refine hs_mono (rc_21 L hNN hJ (A := shA (Ad ad 99) δ) (T := fun K => nT ad δ K) (F := fun K => cF ad δ K) (C0 := fun K => cC ad δ K) (n := fun K => (hN ad δ K).toNat) (v := fun K => (iN ad δ J K).toNat) (fun K hK => ?_) (fun K hK => ?_) N 0 0 d rfl (by omega) id (by rw [e, rI_s]; omega) (fun K hK => ?_) (fun K hK => ?_)) (fun r hr => ⟨hr.1, fun j hj => by rw [hr.2 j hj, e]; rfl⟩)
      · have := HI K hK
        have := (rb_106 L V2 K).2
        have hh : (q_R δ (Ad ad 106) K).toInt = hN ad δ K := rfl
        show (iN ad δ J K).toNat ≤ (hN ad δ K).toNat ∧ (hN ad δ K).toNat ≤ 1000
        omega
      · obtain ⟨g1, g2, g3, g4, g5, g6, g7, g8, g9⟩ := X.1 K hK
        exact ⟨g7, fun i hi => g6 i (by omega)⟩
      · rw [e]
        show (q_R δ (Ad ad (56 + J)) K).toInt = _
        have := HI K hK
        rw [this.1]; omega
      · obtain ⟨g1, g2, g3, g4, g5, g6, g7, g8, g9⟩ := X.1 K hK
        rw [eM, eR, eN, eC]
        refine ⟨fun _ => rfl, fun y => absurd y (Nat.not_lt_zero _), fun _ => ⟨by omega, ?_⟩⟩
        exact (SH.c (T := nT ad δ K) (F := cF ad δ K) (t := (hN ad δ K).toNat) ⟨g4, g5, g8, g9⟩ g1)
    obtain ⟨g1, g2⟩ := cl _ e1
    dsimp only at g1 g2
    have ref : ∀ i, 100 ≤ i → i < 127 → q_R δ1 (Ad ad i) = q_R δ (Ad ad i) := fun i a b => FR i (Or.inl a) b
    have cp : ∀ {B n src dst : Nat}, 100 ≤ src → src < 127 → 100 ≤ dst → dst < 127 → cpI ad B J n src dst 0 δ1 d → cpI ad B J n src dst 0 δ d := fun a b c e q i => by rw [q i, ref _ a b, ref _ c e]
    refine HX_res X hJ tJ0 (by rw [(s1 (by omega)).2, tJ]; omega) (by rw [u2 12 10 _ (by decide), F 10]) (fun j K => ⟨(rb_111 L V2 _).2, (rb_108 L V2 _).2⟩) (fun K hK => ?_) (fun j hj => ?_) (fun i a b => ?_) (cp (by decide) (by decide) (by decide) (by decide) q1) (cp (by decide) (by decide) (by decide) (by decide) q2) (cp (by decide) (by decide) (by decide) (by decide) q3) (cp (by decide) (by decide) (by decide) (by decide) q4) (cp (by decide) (by decide) (by decide) (by decide) q5)
    · obtain ⟨y1, y2, y3, y4, _⟩ := K2.1 K hK
      obtain ⟨x1, x2, x3⟩ := g1 K hK
      have := HI K hK
      rw [y1, y2, y3, y4]
      exact ⟨x1, by rw [x2]; omega, x3⟩
    · rw [K2.2 j hj, g2 j hj]
    · rw [q6 _ (ad_ne L (by omega) (by decide) (by omega)) (ad_ne L (by omega) (by decide) (by omega)) (ad_ne L (by omega) (by decide) (by omega)) (ad_ne L (by omega) (by decide) (by omega)) (ad_ne L (by omega) (by decide) (by omega)), ref i (by omega) (by omega)]
end
section
/-! rows of calls at a house, on both sides -/
abbrev CSt : Type := Int × (Nat → Int) × Int × (Nat → Int) × (Nat → Int)
abbrev RSt : Type := Int × (Nat → Int) × Int × (Nat → Int) × (Nat → Int)
abbrev TAU : Type := Int → Int → Int → (Nat → Int) → Int32 → Prop
def stC (τ : TAU) (c x : Int) (t : Int32) (s s1 : CSt) : Prop := mka c x s.1 s.2.1 s.2.2.1 s.2.2.2.1 s1.1 s1.2.1 s1.2.2.1 s1.2.2.2.1 ∧ ((∀ i : Nat, (i : Int) < s.2.2.1 → s1.2.2.2.2 i = s.2.2.2.2 i) ∧ (s1.2.2.1 = s.2.2.1 + 1 → ∀ i : Nat, (i : Int) = s.2.2.1 → s1.2.2.2.2 i = t.toInt)) ∧ τ c x s.1 s.2.1 t
def stR (τ : TAU) (c x : Int) (t : Int32) (s s1 : RSt) : Prop := mra c x s.1 s.2.1 s.2.2.1 s.2.2.2.1 s.2.2.2.2 s1.1 s1.2.1 s1.2.2.1 s1.2.2.2.1 s1.2.2.2.2 ∧ τ c x s.1 s.2.1 t
/-- a row of calls, with the TOUCHES of each -/
def chn {σ : Type} (st : Int → Int → Int32 → σ → σ → Prop) : List (Int × Int) → σ → σ → List Int32 → Prop
  | [], s, s', ts => s' = s ∧ ts = []
  | p :: l, s, s', ts => ∃ (s1 : σ) (t : Int32) (us : List Int32), st p.1 p.2 t s s1 ∧ chn st l s1 s' us ∧ ts = t :: us
def smt : Int32 → List Int32 → Int32
  | a, [] => a
  | a, t :: ts => smt (a + t) ts
def smt2 : Int32 → List Int32 → List Int32 → Int32
  | a, t :: ts, u :: us => smt2 (a + (t + u)) ts us
  | a, _, _ => a
/-- alike, whole -/
def HEs (A : Int) (s : CSt) (r : RSt) : Prop := HEa A s.1 s.2.1 s.2.2.1 s.2.2.2.1 r.1 r.2.1 r.2.2.1 r.2.2.2.1 r.2.2.2.2
theorem ch_HE {A : Int} {τ ρ : TAU} : ∀ (l : List (Int × Int)) (s s' : CSt) (r r' : RSt) (ts us : List Int32), (∀ p ∈ l, 0 ≤ p.2 ∧ p.2 < A) → chn (stC τ) l s s' ts → chn (stR ρ) l r r' us → HEs A s r → HEs A s' r' := by
  intro l
  induction l with
  | nil =>
    intro s s' r r' ts us _ h k H
    obtain ⟨rfl, _⟩ := h
    obtain ⟨rfl, _⟩ := k
    exact H
  | cons p l ih =>
    intro s s' r r' ts us hp h k H
    obtain ⟨s1, t, ts', h1, h2, _⟩ := h
    obtain ⟨r1, u, us', k1, k2, _⟩ := k
    have b := hp p List.mem_cons_self
    exact ih s1 s' r1 r' ts' us' (fun q hq => hp q (List.mem_cons_of_mem _ hq)) h2 k2 (HEa.m H b.1 b.2 h1.1 k1.1)
/-- the same TOUCHES -/
theorem St_b {A : Int} {nt cm : Nat → Int} : ∀ n, Vd A nt cm n → ∀ y, St nt cm n y → 0 ≤ y ∧ y < A := by
  intro n
  induction n with
  | zero => intro _ y h; exact h.elim
  | succ n ih =>
    intro V y h
    have v := V n (by omega)
    rcases h with ⟨_, h | h⟩ | ⟨_, _, h⟩
    · rw [h]; exact ⟨v.1, v.2.1⟩
    · exact ih (Vd_w (by omega) V) y h
    · exact ih (Vd_w (by omega) V) y h
theorem HEa.b {A M M' n n' : Int} {R R' C T F : Nat → Int} (H : HEa A M R n C M' R' n' T F) : ∀ i : Nat, (i : Int) < M → 0 ≤ R i ∧ R i < A := fun i hi => by
  obtain ⟨h1, _, _, _, _, _, h7, h8, _⟩ := H
  have e := h1.1
  rw [h1.2 i (by omega)]
  exact St_b _ h7 _ ((h8 _).mp ⟨i, by omega, rfl⟩)
theorem mka_01 {call x M n M1 n1 : Int} {R C R1 C1 : Nat → Int} (h : mka call x M R n C M1 R1 n1 C1) : call = 0 ∨ call = 1 := by
  rcases h with ⟨z, _⟩ | ⟨z, _⟩ | ⟨z, _⟩ | ⟨z, _⟩
  · exact Or.inl z
  · exact Or.inl z
  · exact Or.inr z
  · exact Or.inr z
theorem ch_ts {A : Int} {τ : TAU} (fn : ∀ (c x M N : Int) (R Q : Nat → Int) (t u : Int32), (c = 0 ∨ c = 1) → (∀ i : Nat, (i : Int) < M → 0 ≤ R i ∧ R i < A) → RE N Q M R → τ c x M R t → τ c x N Q u → t = u) : ∀ (l : List (Int × Int)) (s s' : CSt) (r r' : RSt) (ts us : List Int32), (∀ p ∈ l, 0 ≤ p.2 ∧ p.2 < A) → chn (stC τ) l s s' ts → chn (stR τ) l r r' us → HEs A s r → ts = us := by
  intro l
  induction l with
  | nil =>
    intro s s' r r' ts us _ h k H
    obtain ⟨_, rfl⟩ := h
    obtain ⟨_, rfl⟩ := k
    rfl
  | cons p l ih =>
    intro s s' r r' ts us hp h k H
    obtain ⟨s1, t, ts', h1, h2, e1⟩ := h
    obtain ⟨r1, u, us', k1, k2, e2⟩ := k
    have b := hp p List.mem_cons_self
    have H1 := HEa.m H b.1 b.2 h1.1 k1.1
    rw [e1, e2, fn _ _ _ _ _ _ _ _ (mka_01 h1.1) (HEa.b H) H.1 h1.2.2 k1.2, ih s1 s' r1 r' ts' us' (fun q hq => hp q (List.mem_cons_of_mem _ hq)) h2 k2 H1]
/-- CHANGES only come -/
theorem ch_g {ρ : TAU} : ∀ (l : List (Int × Int)) (r r' : RSt) (us : List Int32), chn (stR ρ) l r r' us → r.2.2.1 ≤ r'.2.2.1 ∧ ∀ i : Nat, (i : Int) < r.2.2.1 → r'.2.2.2.1 i = r.2.2.2.1 i ∧ r'.2.2.2.2 i = r.2.2.2.2 i := by
  intro l
  induction l with
  | nil =>
    intro r r' us k
    obtain ⟨rfl, _⟩ := k
    exact ⟨Int.le_refl _, fun _ _ => ⟨rfl, rfl⟩⟩
  | cons p l ih =>
    intro r r' us k
    obtain ⟨r1, u, us', k1, k2, _⟩ := k
    obtain ⟨g1, g2⟩ := mra_g k1.1
    obtain ⟨i1, i2⟩ := ih r1 r' us' k2
    refine ⟨Int.le_trans g1 i1, fun i hi => ?_⟩
    obtain ⟨a, b⟩ := g2 i hi
    obtain ⟨c, d⟩ := i2 i (by omega)
    exact ⟨c.trans a, d.trans b⟩
/-- a call for each of a row's numbers -/
def lst (call : Int) (Y : Nat → Int) : Nat → Nat → List (Int × Int)
  | 0, _ => []
  | n + 1, i => (call, Y i) :: lst call Y n (i + 1)
/-- drops of those that are not P -/
noncomputable def lsf (P : Nat → Prop) (Y : Nat → Int) : Nat → Nat → List (Int × Int)
  | 0, _ => []
  | n + 1, i => @ite _ (P i) (Classical.propDecidable _) (lsf P Y n (i + 1)) ((1, Y i) :: lsf P Y n (i + 1))
theorem lst_c {call : Int} {Y Z : Nat → Int} : ∀ n i, (∀ j, i ≤ j → j < i + n → Z j = Y j) → lst call Z n i = lst call Y n i := by
  intro n
  induction n with
  | zero => intro i _; rfl
  | succ n ih =>
    intro i h
    unfold lst
    rw [h i (Nat.le_refl _) (by omega), ih (i + 1) (fun j a b => h j (by omega) (by omega))]
theorem lsf_c {P Q : Nat → Prop} {Y Z : Nat → Int} : ∀ n i, (∀ j, i ≤ j → j < i + n → Z j = Y j ∧ (Q j ↔ P j)) → lsf Q Z n i = lsf P Y n i := by
  intro n
  induction n with
  | zero => intro i _; rfl
  | succ n ih =>
    intro i h
    obtain ⟨a, b⟩ := h i (Nat.le_refl _) (by omega)
    unfold lsf
    rw [ih (i + 1) (fun j a b => h j (by omega) (by omega)), a]
    by_cases c : P i
    · rw [if_pos c, if_pos (b.mpr c)]
    · rw [if_neg c, if_neg (fun z => c (b.mp z))]
theorem lst_s {call : Int} {Y : Nat → Int} : ∀ n i, lst call Y (n + 1) i = lst call Y n i ++ [(call, Y (i + n))] := by
  intro n
  induction n with
  | zero => intro i; rfl
  | succ n ih =>
    intro i
    rw [lst, ih (i + 1)]
    rw [lst, List.cons_append, show i + 1 + n = i + (n + 1) by omega]
theorem lst_m {call : Int} {Y : Nat → Int} {A : Int} : ∀ n i, (∀ j, i ≤ j → j < i + n → 0 ≤ Y j ∧ Y j < A) → ∀ p ∈ lst call Y n i, 0 ≤ p.2 ∧ p.2 < A := by
  intro n
  induction n with
  | zero => intro i _ p hp; cases hp
  | succ n ih =>
    intro i h p hp
    unfold lst at hp
    rcases List.mem_cons.mp hp with rfl | hp
    · exact h i (Nat.le_refl _) (by omega)
    · exact ih (i + 1) (fun j a b => h j (by omega) (by omega)) p hp
theorem lsf_m {P : Nat → Prop} {Y : Nat → Int} {A : Int} : ∀ n i, (∀ j, i ≤ j → j < i + n → 0 ≤ Y j ∧ Y j < A) → ∀ p ∈ lsf P Y n i, 0 ≤ p.2 ∧ p.2 < A := by
  intro n
  induction n with
  | zero => intro i _ p hp; cases hp
  | succ n ih =>
    intro i h p hp
    unfold lsf at hp
    have t := ih (i + 1) (fun j a b => h j (by omega) (by omega)) p
    by_cases c : P i
    · rw [if_pos c] at hp; exact t hp
    · rw [if_neg c] at hp
      rcases List.mem_cons.mp hp with rfl | hp
      · exact h i (Nat.le_refl _) (by omega)
      · exact t hp
/-! counting what two rows have in common -/
theorem cn_z {P : Nat → Prop} : ∀ m k, (∀ j, k ≤ j → j < k + m → ¬ P j) → cn P k m = 0 := by
  intro m
  induction m with
  | zero => intro k _; rfl
  | succ m ih =>
    intro k h
    rw [cn_last, ih k (fun j a b => h j a (by omega)), if_neg (h (k + m) (by omega) (by omega))]
theorem cn_not {P : Nat → Prop} : ∀ m k, cn P k m + cn (fun j => ¬ P j) k m = m := by
  intro m
  induction m with
  | zero => intro k; rfl
  | succ m ih =>
    intro k
    rw [cn_last, cn_last]
    have := ih k
    by_cases c : P (k + m)
    · rw [if_pos c, if_neg (fun z => z c)]; omega
    · rw [if_neg c, if_pos c]; omega
/-- one that is there is counted once -/
theorem cn_one {Q : Nat → Int} {v : Int} : ∀ n : Nat, (∀ i j : Nat, i < j → j < n → Q i < Q j) → cn (fun j => Q j = v) 0 n = @ite _ (∃ j, j < n ∧ Q j = v) (Classical.propDecidable _) 1 0 := by
  intro n
  induction n with
  | zero => intro _; rw [if_neg (fun ⟨j, h, _⟩ => absurd h (Nat.not_lt_zero _))]; rfl
  | succ n ih =>
    intro S
    rw [cn_last, ih (fun i j a b => S i j a (by omega))]
    show _ + (@ite _ (Q (0 + n) = v) (Classical.propDecidable _) 1 0) = _
    rw [Nat.zero_add]
    by_cases c : Q n = v
    · have no : ¬ ∃ j, j < n ∧ Q j = v := fun ⟨j, a, b⟩ => by have := S j n a (by omega); omega
      rw [if_pos c, if_neg no, if_pos ⟨n, by omega, c⟩]
    · rw [if_neg c]
      by_cases d : ∃ j, j < n ∧ Q j = v
      · obtain ⟨j, a, b⟩ := d
        rw [if_pos ⟨j, a, b⟩, if_pos ⟨j, by omega, b⟩]
      · rw [if_neg d, if_neg (fun ⟨j, a, b⟩ => by
          by_cases e : j = n
          · subst e; exact c b
          · exact d ⟨j, by omega, b⟩)]
theorem cn_or {P Q : Nat → Prop} : ∀ m k, (∀ j, k ≤ j → j < k + m → ¬ (P j ∧ Q j)) → cn (fun j => P j ∨ Q j) k m = cn P k m + cn Q k m := by
  intro m
  induction m with
  | zero => intro k _; rfl
  | succ m ih =>
    intro k h
    rw [cn_last, cn_last, cn_last, ih k (fun j a b => h j a (by omega))]
    have n := h (k + m) (by omega) (by omega)
    by_cases c : P (k + m)
    · rw [if_pos (Or.inl c), if_pos c, if_neg (fun z => n ⟨c, z⟩)]; omega
    · by_cases d : Q (k + m)
      · rw [if_pos (Or.inr d), if_neg c, if_pos d]; omega
      · rw [if_neg (fun z => z.elim c d), if_neg c, if_neg d]; omega
/-- as many of the one are in the other as of the other in the one -/
theorem cn_sym {R Q : Nat → Int} {n : Nat} (T : ∀ i j : Nat, i < j → j < n → Q i < Q j) : ∀ m : Nat, (∀ i j : Nat, i < j → j < m → R i < R j) → cn (fun i => ∃ j, j < n ∧ Q j = R i) 0 m = cn (fun j => ∃ i, i < m ∧ R i = Q j) 0 n := by
  intro m
  induction m with
  | zero =>
    intro _
    rw [cn_z n 0 (fun j _ _ ⟨i, h, _⟩ => absurd h (Nat.not_lt_zero _))]
    rfl
  | succ m ih =>
    intro S
    rw [cn_last, ih (fun i j a b => S i j a (by omega)), Nat.zero_add]
    have e : cn (fun j => ∃ i, i < m + 1 ∧ R i = Q j) 0 n = cn (fun j => (∃ i, i < m ∧ R i = Q j) ∨ Q j = R m) 0 n := cn_congr n 0 (fun j _ _ => by
      constructor
      · rintro ⟨i, a, b⟩
        by_cases z : i = m
        · subst z; exact Or.inr b.symm
        · exact Or.inl ⟨i, by omega, b⟩
      · rintro (⟨i, a, b⟩ | b)
        · exact ⟨i, by omega, b⟩
        · exact ⟨m, by omega, b.symm⟩)
    have no : ∀ j, 0 ≤ j → j < 0 + n → ¬ ((∃ i, i < m ∧ R i = Q j) ∧ Q j = R m) := by
      intro j _ _ z
      obtain ⟨⟨i, a, b⟩, c⟩ := z
      have := S i m a (by omega)
      omega
    rw [e, cn_or n 0 no, cn_one n T]
theorem cn_symM {M N : Int} {R Q : Nat → Int} (S : SR M R) (T : SR N Q) (hM : 0 ≤ M) (hN : 0 ≤ N) : cn (fun i => ME N Q (R i)) 0 M.toNat = cn (fun j => ME M R (Q j)) 0 N.toNat := by
  have h := cn_sym (R := R) (Q := Q) (n := N.toNat) (fun i j a b => T i j a (by omega)) M.toNat (fun i j a b => S i j a (by omega))
  have e1 : cn (fun i => ME N Q (R i)) 0 M.toNat = cn (fun i => ∃ j, j < N.toNat ∧ Q j = R i) 0 M.toNat := cn_congr _ 0 (fun i _ _ => ⟨fun ⟨j, a, b⟩ => ⟨j, by omega, b⟩, fun ⟨j, a, b⟩ => ⟨j, by omega, b⟩⟩)
  have e2 : cn (fun j => ME M R (Q j)) 0 N.toNat = cn (fun j => ∃ i, i < M.toNat ∧ R i = Q j) 0 N.toNat := cn_congr _ 0 (fun j _ _ => ⟨fun ⟨i, a, b⟩ => ⟨i, by omega, b⟩, fun ⟨i, a, b⟩ => ⟨i, by omega, b⟩⟩)
  rw [e1, e2]; exact h
end
section
/-! joins of the class: what is counted, made, dropped -/
def sCl (ad : List Nat) (δ : dp) (K : Nat) : CSt := (cM ad δ K, cR ad δ K, cN ad δ K, cC ad δ K, cT ad δ K)
def sRf (ad : List Nat) (δ : dp) (K : Nat) : RSt := (hM ad δ K, hR ad δ K, hN ad δ K, nT ad δ K, cF ad δ K)
/-- the class's SHAPE untouched -/
def f5 (ad : List Nat) (δ d : dp) : Prop := ∀ k, q_I d 5 k (Ad ad 3) = q_I δ 5 k (Ad ad 3)
theorem f5.t {ad : List Nat} {δ d e : dp} (h : f5 ad δ d) (k : f5 ad d e) : f5 ad δ e := fun q => (k q).trans (h q)
theorem f5_mf {ad : List Nat} {K : Nat} {δ d : dp} (m : mf ad K δ d) : f5 ad δ d := fun k => m.1 5 k _ (by decide) (by decide) (fun z => by omega) (fun z => by omega)
/-- the class's count of TOUCHES says τ -/
def HTc (ad : List Nat) (N : Nat) (h : hp) (δ0 δb : dp) (K : Nat) (τ : TAU) : Prop := ∀ (c x : Int32) (d d1 : dp) (t : Int32), CI ad h.1 δ0 d → SR (cM ad d K) (cR ad d K) → f5 ad δb d → D_X1_touchesOf N h.1 (Ad ad (80 + 6 * K)) c x d = some (t, d1) → τ c.toInt x.toInt (cM ad d K) (cR ad d K) t
theorem mk_st {ad : List Nat} {τ : TAU} {K : Nat} {call x : Int} {t : Int32} {δ δ1 : dp} (m : mk ad K call x t.toInt δ δ1) (ht : τ call x (cM ad δ K) (cR ad δ K) t) : stC τ call x t (sCl ad δ K) (sCl ad δ1 K) := by
  refine ⟨mk_a m, ?_, ht⟩
  rcases m with ⟨_, _, _, n1, _, n3⟩ | ⟨_, _, _, n1, _, n3⟩ | ⟨_, _, _, n1, _, n3⟩ | ⟨_, _, _, n1, _, n3⟩
  · exact ⟨fun i _ => n3 i, fun z => by have : cN ad δ1 K = cN ad δ K + 1 := z; omega⟩
  · exact ⟨fun i hi => by show cT ad δ1 K i = _; rw [n3 i, if_neg (by have : (i : Int) < cN ad δ K := hi; omega)]; rfl, fun _ i hi => by show cT ad δ1 K i = _; rw [n3 i, if_pos (show (i : Int) = cN ad δ K from hi)]⟩
  · exact ⟨fun i _ => n3 i, fun z => by have : cN ad δ1 K = cN ad δ K + 1 := z; omega⟩
  · exact ⟨fun i hi => by show cT ad δ1 K i = _; rw [n3 i, if_neg (by have : (i : Int) < cN ad δ K := hi; omega)]; rfl, fun _ i hi => by show cT ad δ1 K i = _; rw [n3 i, if_pos (show (i : Int) = cN ad δ K from hi)]⟩
theorem mk_S {ad : List Nat} {K : Nat} {call x t : Int} {δ δ1 : dp} (m : mk ad K call x t δ δ1) (S : SR (cM ad δ K) (cR ad δ K)) : SR (cM ad δ1 K) (cR ad δ1 K) := by
  rcases m with ⟨_, _, e, _⟩ | ⟨_, n, ⟨p, P, J⟩, _⟩ | ⟨_, _, e, _⟩ | ⟨_, _, ⟨p, P, P2, J⟩, _⟩
  · exact SR_c e S
  · exact IN_s S P n J
  · exact SR_c e S
  · exact DE_s S J
/-- whether a call would change -/
def chg (call M : Int) (R : Nat → Int) (x : Int) : Prop := call = 0 ↔ ¬ ME M R x
theorem mk_n {ad : List Nat} {K : Nat} {call x t : Int} {δ δ1 : dp} (m : mk ad K call x t δ δ1) (S : SR (cM ad δ K) (cR ad δ K)) : (chg call (cM ad δ K) (cR ad δ K) x ∧ cN ad δ1 K = cN ad δ K + 1 ∨ ¬ chg call (cM ad δ K) (cR ad δ K) x ∧ cN ad δ1 K = cN ad δ K) ∧ (call = 0 → chg call (cM ad δ K) (cR ad δ K) x ∧ cM ad δ1 K = cM ad δ K + 1 ∨ ¬ chg call (cM ad δ K) (cR ad δ K) x ∧ cM ad δ1 K = cM ad δ K) ∧ ∀ y, y ≠ x → (chg call (cM ad δ1 K) (cR ad δ1 K) y ↔ chg call (cM ad δ K) (cR ad δ K) y) := by
  unfold chg
  rcases m with ⟨k, q, e, n⟩ | ⟨k, q, ⟨p, P, J⟩, n⟩ | ⟨k, q, e, n⟩ | ⟨k, q, ⟨p, P, P2, J⟩, n⟩
  · exact ⟨Or.inr ⟨fun z => z.mp k q, n.1⟩, fun _ => Or.inr ⟨fun z => z.mp k q, e.1⟩, fun y _ => by rw [← ME_i (x := y) e]⟩
  · refine ⟨Or.inl ⟨⟨fun _ => q, fun _ => k⟩, n.1⟩, fun _ => Or.inl ⟨⟨fun _ => q, fun _ => k⟩, J.1⟩, fun y hy => ?_⟩
    rw [IN_m P.1 J y]
    have : (y = x ∨ ME (cM ad δ K) (cR ad δ K) y) ↔ ME (cM ad δ K) (cR ad δ K) y := ⟨fun z => z.resolve_left hy, Or.inr⟩
    rw [this]
  · exact ⟨Or.inr ⟨fun z => by have := z.mpr q; omega, n.1⟩, fun z => by omega, fun y _ => by rw [← ME_i (x := y) e]⟩
  · refine ⟨Or.inl ⟨⟨fun z => by omega, fun z => absurd q z⟩, n.1⟩, fun z => by omega, fun y hy => ?_⟩
    rw [DE_m S P P2 J y]
    have : (y ≠ x ∧ ME (cM ad δ K) (cR ad δ K) y) ↔ ME (cM ad δ K) (cR ad δ K) y := ⟨fun z => z.2, fun z => ⟨hy, z⟩⟩
    rw [this]
/-- one call and the row goes on: what there is room for -/
theorem room_s {ad : List Nat} {K : Nat} {call t : Int} {Y : Nat → Int} {i n : Nat} {δ δ1 : dp} (m : mk ad K call (Y i) t δ δ1) (S : SR (cM ad δ K) (cR ad δ K)) (inj : ∀ j, i < j → j < i + (n + 1) → Y j ≠ Y i) (B1 : call = 0 → cM ad δ K + (cn (fun j => chg call (cM ad δ K) (cR ad δ K) (Y j)) i (n + 1) : Nat) ≤ 2000) (B2 : cN ad δ K + (cn (fun j => chg call (cM ad δ K) (cR ad δ K) (Y j)) i (n + 1) : Nat) ≤ 1000) : (call = 0 → cM ad δ1 K + (cn (fun j => chg call (cM ad δ1 K) (cR ad δ1 K) (Y j)) (i + 1) n : Nat) ≤ 2000) ∧ cN ad δ1 K + (cn (fun j => chg call (cM ad δ1 K) (cR ad δ1 K) (Y j)) (i + 1) n : Nat) ≤ 1000 := by
  obtain ⟨a, b, c⟩ := mk_n m S
  have e : cn (fun j => chg call (cM ad δ1 K) (cR ad δ1 K) (Y j)) (i + 1) n = cn (fun j => chg call (cM ad δ K) (cR ad δ K) (Y j)) (i + 1) n := cn_congr n (i + 1) (fun j h1 h2 => c (Y j) (inj j (by omega) (by omega)))
  rw [e]
  have l := cn_0 (P := fun j => chg call (cM ad δ K) (cR ad δ K) (Y j)) i n
  refine ⟨fun z => ?_, ?_⟩
  · have B := B1 z
    rcases b z with ⟨h1, h2⟩ | ⟨_, h2⟩
    · rw [cn_1 i n h1] at B; omega
    · omega
  · rcases a with ⟨h1, h2⟩ | ⟨_, h2⟩
    · rw [cn_1 i n h1] at B2; omega
    · omega
theorem room_0 {ad : List Nat} {K : Nat} {call : Int} {Y : Nat → Int} {i n : Nat} {δ : dp} (B1 : call = 0 → cM ad δ K + (cn (fun j => chg call (cM ad δ K) (cR ad δ K) (Y j)) i (n + 1) : Nat) ≤ 2000) (B2 : cN ad δ K + (cn (fun j => chg call (cM ad δ K) (cR ad δ K) (Y j)) i (n + 1) : Nat) ≤ 1000) : (call = 0 → ¬ ME (cM ad δ K) (cR ad δ K) (Y i) → cM ad δ K < 2000) ∧ (chg call (cM ad δ K) (cR ad δ K) (Y i) → cN ad δ K < 1000) := by
  refine ⟨fun z y => ?_, fun y => ?_⟩
  · have B := B1 z
    rw [cn_1 i n (show chg call _ _ _ from ⟨fun _ => y, fun _ => z⟩)] at B; omega
  · rw [cn_1 i n y] at B2; omega
/-- all of a row's numbers are put, or dropped -/
theorem h2_makeAll {ad : List Nat} {h : hp} (L : Lay TLx ad h) {δ0 δb : dp} {N : Nat} (hN : 10000000 ≤ N) {K a2 b2 m : Nat} (hK : K < 4) {τ : TAU} (HT : HTc ad N h δ0 δb K τ) {x1 : Int32} (c0 : 0 ≤ x1.toInt) (c1 : x1.toInt ≤ 1) (o2 : q_O h.1 3 0 a2 = some b2) (na : a2 ≠ Ad ad (76 + 6 * K)) (nb : b2 ≠ Ad ad 59 ∧ b2 ≠ Ad ad (77 + 6 * K) ∧ b2 ≠ Ad ad (78 + 6 * K) ∧ b2 ≠ Ad ad (79 + 6 * K)) {Y : Nat → Int} (hY : ∀ j, j < m → 0 ≤ Y j ∧ Y j ≤ 65536) (sY : ∀ i j : Nat, i < j → j < m → Y i < Y j) (hm : m ≤ 2000) : ∀ (f i : Nat) (x3 x4 : Int32) (δ : dp), x4.toInt = (i : Int) → i ≤ m → CI ad h.1 δ0 δ → f5 ad δb δ → SR (cM ad δ K) (cR ad δ K) → mM δ a2 = (m : Int) → (∀ j, j < m → mR δ b2 j = Y j) → (x1.toInt = 0 → cM ad δ K + (cn (fun j => chg x1.toInt (cM ad δ K) (cR ad δ K) (Y j)) i (m - i) : Nat) ≤ 2000) → cN ad δ K + (cn (fun j => chg x1.toInt (cM ad δ K) (cR ad δ K) (Y j)) i (m - i) : Nat) ≤ 1000 → hs (L_X2_makeAll_5 N h.1 (Ad ad (75 + 6 * K)) x1 a2 f x3 x4 δ) (fun r => mf ad K δ r.2 ∧ ∃ ts, chn (stC τ) (lst x1.toInt Y (m - i) i) (sCl ad δ K) (sCl ad r.2 K) ts ∧ r.1 = smt x3 ts) := by
  intro f
  induction f with
  | zero => intro i x3 x4 δ _ _ _ _ _ _ _ _ _; exact hs_none
  | succ f ih =>
    intro i x3 x4 δ h4 hi I F5 S hM hR B1 B2
    have hM' : (q_I δ 3 1 a2).toInt = (m : Int) := hM
    unfold L_X2_makeAll_5
    refine hs_ite (fun c => ?_) (fun c => ?_)
    · have c1 := o_le c
      rw [show m - i = 0 by omega]
      exact hs_some ⟨mf.r, [], ⟨rfl, rfl⟩, rfl⟩
    · have c1' := o_nle c
      refine hs_bind (h3_at (x := x4) o2) (fun r2 hr2 => ?_)
      obtain ⟨e2, at2⟩ := hr2
      have y2 : r2.1.toInt = Y i := by
        rcases at2 with ⟨q, q1, q2, q3⟩ | ⟨q1, _⟩
        · obtain rfl : q = i := by omega
          rw [q3]; exact hR q (by omega)
        · exfalso; rw [hM] at q1; omega
      rw [e2]
      have hy := hY i (by omega)
      rw [show m - i = (m - (i + 1)) + 1 by omega] at B1 B2
      obtain ⟨R1, R2⟩ := room_0 B1 B2
      refine hs_bind (hs_and (h2_make L hN hK (x1 := x1) (x2 := r2.1) I S c0 c1 (by omega) (by omega) (fun z y => R1 z (by rw [← y2]; exact y)) (fun y => R2 (by rw [← y2]; exact y))) (ok_h (k_X2_make L hN (x1 := x1) (x2 := r2.1) (kk_2 L hK) I))) (fun r3 hr3 => ?_)
      obtain ⟨⟨g1, ⟨d, g2⟩, g3⟩, I3, _⟩ := hr3
      have st := mk_st (τ := τ) g3 (HT x1 r2.1 δ d r3.1 I S F5 g2)
      rw [y2] at g3 st
      refine hs_biv (fun x3' e3' => hs_biv (fun x4' e4' => ?_))
      have t4 := te_addc (c := 1) (n := 1) rfl x4 (by omega) (by omega)
      rw [← e4'] at t4
      obtain ⟨N1, N2⟩ := room_s g3 S (fun j a b => by have := sY i j a (by omega); omega) B1 B2
      rw [show m - i = (m - (i + 1)) + 1 by omega]
      refine hs_mono (ih (i + 1) x3' x4' r3.2 (by omega) (by omega) I3 (F5.t (f5_mf g1)) (mk_S g3 S) (by unfold mM; rw [g1.1 3 1 a2 (by decide) (by decide) (fun z => na z.2.2) (fun z => by omega)]; exact hM') (fun j hj => by unfold mR; rw [g1.2 b2 nb.1 nb.2.1 nb.2.2.1 nb.2.2.2]; exact hR j hj) N1 N2) (fun r hr => ?_)
      obtain ⟨k1, ts, k2, k3⟩ := hr
      exact ⟨g1.t k1, r3.1 :: ts, ⟨_, _, _, st, k2, rfl⟩, by rw [k3, e3']; rfl⟩
/-- a row's numbers that the other has not are dropped -/
theorem h2_dropBut {ad : List Nat} {h : hp} (L : Lay TLx ad h) {δ0 δb : dp} {N : Nat} (hN : 10000000 ≤ N) {K a2 b2 m : Nat} (hK : K < 4) {τ : TAU} (HT : HTc ad N h δ0 δb K τ) (k2 : q_K h.1 a2 = 3) (o2 : q_O h.1 3 0 a2 = some b2) (na : a2 ≠ Ad ad (76 + 6 * K)) (nb : b2 ≠ Ad ad 59 ∧ b2 ≠ Ad ad (77 + 6 * K) ∧ b2 ≠ Ad ad (78 + 6 * K) ∧ b2 ≠ Ad ad (79 + 6 * K)) {Y : Nat → Int} (hY : ∀ j, j < m → 0 ≤ Y j ∧ Y j ≤ 65536) (sY : ∀ i j : Nat, i < j → j < m → Y i < Y j) (hm : m ≤ 2000) {P : Int → Prop} {x4 : Int32} (h4 : x4.toInt = (m : Int)) : ∀ (f i p : Nat) (x2 x3 x5 : Int32) (δ : dp), x3.toInt = (p : Int) → x5.toInt = (i : Int) → i ≤ m → p ≤ i → CI ad h.1 δ0 δ → f5 ad δb δ → SR (cM ad δ K) (cR ad δ K) → SR (mM δ a2) (mR δ b2) → (∀ y, ME (mM δ a2) (mR δ b2) y ↔ P y) → cM ad δ K = (p : Int) + ((m - i : Nat) : Int) → (∀ j, i ≤ j → j < m → cR ad δ K (p + (j - i)) = Y j) → cN ad δ K + (cn (fun j => ¬ P (Y j)) i (m - i) : Nat) ≤ 1000 → hs (L_X2_dropAllBut_16 N h.1 (Ad ad (75 + 6 * K)) a2 f x2 x3 x4 x5 δ) (fun r => mf ad K δ r.2 ∧ ∃ ts, chn (stC τ) (lsf (fun j => P (Y j)) Y (m - i) i) (sCl ad δ K) (sCl ad r.2 K) ts ∧ r.1 = smt x2 ts) := by
  intro f
  induction f with
  | zero => intro i p x2 x3 x5 δ _ _ _ _ _ _ _ _ _ _ _ _; exact hs_none
  | succ f ih =>
    intro i p x2 x3 x5 δ h3 h5 hi hp I F5 S S2 HP hM hR B2
    unfold L_X2_dropAllBut_16 J_X2_dropAllBut_58
    refine hs_ite (fun c => ?_) (fun c => ?_)
    · have c1 := o_le c
      rw [show m - i = 0 by omega]
      exact hs_some ⟨mf.r, [], ⟨rfl, rfl⟩, rfl⟩
    · have c1 := o_nle c
      have hi' : i < m := by omega
      refine hs_at (lk_0 L hK) (hs_bind (h3_at (x := x3) (lk_r L hK)) (fun r2 hr2 => ?_))
      obtain ⟨e2, at2⟩ := hr2
      change AT (cM ad δ K) (cR ad δ K) _ _ at at2
      have cp : cR ad δ K p = Y i := by have := hR i (Nat.le_refl _) hi'; rw [show p + (i - i) = p by omega] at this; exact this
      have y2 : r2.1.toInt = Y i := by
        rcases at2 with ⟨q, q1, q2, q3⟩ | ⟨q1, _⟩
        · obtain rfl : q = p := by omega
          rw [q3, cp]
        · exfalso; rw [hM] at q1; omega
      rw [e2]
      have hy := hY i hi'
      have t5 := te_addc (c := 1) (n := 1) rfl x5 (by omega) (by omega)
      rw [show m - i = (m - (i + 1)) + 1 by omega] at B2
      refine hs_bind (h3_holds L hN (x := r2.1) k2 o2 I S2) (fun r3 hr3 => ?_)
      obtain ⟨e3, hm3⟩ := hr3
      rw [HP, y2] at hm3
      rw [e3, show m - i = (m - (i + 1)) + 1 by omega, lsf]
      rcases hm3 with ⟨w, pp⟩ | ⟨w, pp⟩
      · rw [w, if_pos pp]
        refine hs_ite (fun z => absurd z (by decide)) (fun _ => hs_biv (fun x3' e3' => hs_biv (fun x5' e5' => ?_)))
        have t3 := te_addc (c := 1) (n := 1) rfl x3 (by omega) (by omega)
        rw [← e3'] at t3
        rw [← e5'] at t5
        have l := cn_0 (P := fun j => ¬ P (Y j)) i (m - (i + 1))
        exact ih (i + 1) (p + 1) x2 x3' x5' δ (by omega) (by omega) (by omega) (by omega) I F5 S S2 HP (by omega) (fun j a b => by rw [show p + 1 + (j - (i + 1)) = p + (j - i) by omega]; exact hR j (by omega) b) (by omega)
      · rw [w, if_neg pp]
        refine hs_ite (fun _ => ?_) (fun z => absurd rfl z)
        rw [cn_1 i _ pp] at B2
        have me : ME (cM ad δ K) (cR ad δ K) r2.1.toInt := ⟨p, by omega, by rw [y2]; exact cp⟩
        refine hs_bind (hs_and (h2_make L hN hK (x1 := 1) (x2 := r2.1) I S (by decide) (by decide) (by omega) (by omega) (fun z => absurd z (by decide)) (fun _ => by omega)) (ok_h (k_X2_make L hN (x1 := 1) (x2 := r2.1) (kk_2 L hK) I))) (fun r4 hr4 => ?_)
        obtain ⟨⟨g1, ⟨d, g2⟩, g3⟩, I3, _⟩ := hr4
        have st := mk_st (τ := τ) g3 (HT 1 r2.1 δ d r4.1 I S F5 g2)
        have g3' := g3
        rw [show (1 : Int32).toInt = 1 from rfl, y2] at st
        rcases g3' with ⟨z, _⟩ | ⟨z, _⟩ | ⟨_, z, _⟩ | ⟨_, _, ⟨q, Q, Q2, D⟩, nn⟩
        · exact absurd z (by decide)
        · exact absurd z (by decide)
        · exact absurd me z
        · have qp : q = p := by
            rcases (show q < p ∨ q = p ∨ p < q by omega) with z | z | z
            · have := S q p z (by omega); omega
            · exact z
            · have := S p q z Q; omega
          subst qp
          refine hs_biv (fun x2' e2' => hs_biv (fun x5' e5' => ?_))
          rw [← e5'] at t5
          have eM : mM r4.2 a2 = mM δ a2 := by unfold mM; rw [g1.1 3 1 a2 (by decide) (by decide) (fun z => na z.2.2) (fun z => by omega)]
          have eR : mR r4.2 b2 = mR δ b2 := by funext j; unfold mR; rw [g1.2 b2 nb.1 nb.2.1 nb.2.2.1 nb.2.2.2]
          refine hs_mono (ih (i + 1) q x2' x3 x5' r4.2 h3 (by omega) (by omega) (by omega) I3 (F5.t (f5_mf g1)) (mk_S g3 S) (by rw [eM, eR]; exact S2) (by rw [eM, eR]; exact HP) (by rw [D.1]; omega) (fun j a b => ?_) (by rw [nn.1]; omega)) (fun r hr => ?_)
          · rw [D.2 _ (by omega), if_neg (by omega), show q + (j - (i + 1)) + 1 = q + (j - i) by omega]
            exact hR j (by omega) b
          · obtain ⟨k1, ts, k2', k3⟩ := hr
            exact ⟨g1.t k1, r4.1 :: ts, ⟨_, _, _, st, k2', rfl⟩, by rw [k3, e2']; rfl⟩
/-- how many are in the other row, too -/
theorem h3_common {ad : List Nat} {h : hp} (L : Lay TLx ad h) {δ0 : dp} {N : Nat} (hN : 10000000 ≤ N) {a b a2 b2 m : Nat} {x1 : Int32} (hb : q_O h.1 3 0 a = some b) (k2 : q_K h.1 a2 = 3) (o2 : q_O h.1 3 0 a2 = some b2) {δ : dp} (I : CI ad h.1 δ0 δ) (S2 : SR (mM δ a2) (mR δ b2)) (hM : mM δ a = (m : Int)) (hm : m ≤ 2000) : ∀ (f i z : Nat) (x3 x4 : Int32), x3.toInt = (z : Int) → z ≤ 2000 → x4.toInt = (i : Int) → i ≤ m → z ≤ i → hs (L_X3_commonFrom_5 N h.1 a x1 a2 f x3 x4 δ) (fun r => r.2 = δ ∧ r.1.toInt = (z : Int) + (cn (fun j => ME (mM δ a2) (mR δ b2) (mR δ b j)) i (m - i) : Nat)) := by
  intro f
  induction f with
  | zero => intro i z x3 x4 _ _ _ _ _; exact hs_none
  | succ f ih =>
    intro i z x3 x4 h3 hz h4 hi zi
    have hM' : (q_I δ 3 1 a).toInt = (m : Int) := hM
    unfold L_X3_commonFrom_5 J_X3_commonFrom_31
    refine hs_ite (fun c => ?_) (fun c => ?_)
    · have c1 := o_le c
      rw [show m - i = 0 by omega]
      exact hs_some ⟨rfl, by rw [h3]; rfl⟩
    · have c1 := o_nle c
      have tx := ti_tn x4
      refine hs_at hb (hs_gd (fun _ => ?_))
      rw [show x4.toNatClampNeg = i by omega]
      refine hs_bind (h3_holds L hN (x := q_R δ b i) k2 o2 I S2) (fun r hr => ?_)
      obtain ⟨e, hm3⟩ := hr
      rw [e, show m - i = (m - (i + 1)) + 1 by omega]
      have t4 := te_addc (c := 1) (n := 1) rfl x4 (by omega) (by omega)
      rcases hm3 with ⟨w, pp⟩ | ⟨w, pp⟩
      · rw [w, cn_1 i _ (show ME (mM δ a2) (mR δ b2) (mR δ b i) from pp)]
        refine hs_ite (fun z => absurd z (by decide)) (fun _ => hs_biv (fun x3' e3' => hs_biv (fun x4' e4' => ?_)))
        have t3 := te_addc (c := 1) (n := 1) rfl x3 (by omega) (by omega)
        rw [← e3'] at t3
        rw [← e4'] at t4
        refine hs_mono (ih (i + 1) (z + 1) x3' x4' (by omega) (by omega) (by omega) (by omega) (by omega)) (fun r hr => ⟨hr.1, by rw [hr.2]; omega⟩)
      · rw [w]
        refine hs_ite (fun _ => hs_biv (fun x4' e4' => ?_)) (fun z => absurd rfl z)
        rw [← e4'] at t4
        refine hs_mono (ih (i + 1) z x3 x4' h3 hz (by omega) (by omega) (by omega)) (fun r hr => ⟨hr.1, ?_⟩)
        rw [hr.2]
        show _ = _ + (((@ite Nat (ME (mM δ a2) (mR δ b2) (mR δ b i)) (Classical.propDecidable _) 1 0) + cn _ (i + 1) (m - (i + 1)) : Nat) : Int)
        rw [if_neg (show ¬ ME (mM δ a2) (mR δ b2) (mR δ b i) from pp)]
        omega
end
