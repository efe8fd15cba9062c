/-! images: what is copied, whole -/
/-- row dst holds, from B*J+k on to B*J+n, what row src held from k on -/
def cpO (ad : List Nat) (B J n src dst k : Nat) (δ r : dp) : Prop := ∀ i, q_R r (Ad ad dst) i = if B * J + k ≤ i ∧ i < B * J + n then q_R δ (Ad ad src) (i - B * J) else q_R δ (Ad ad dst) i
/-- row dst holds, from k on to n, what row src held from B*J+k on -/
def cpI (ad : List Nat) (B J n src dst k : Nat) (δ r : dp) : Prop := ∀ i, q_R r (Ad ad dst) i = if k ≤ i ∧ i < n then q_R δ (Ad ad src) (B * J + i) else q_R δ (Ad ad dst) i
theorem cpO_e {ad : List Nat} {B J n src dst k : Nat} {δ : dp} (h : n ≤ k) : cpO ad B J n src dst k δ δ := fun i => by rw [if_neg (by omega)]
theorem cpI_e {ad : List Nat} {B J n src dst k : Nat} {δ : dp} (h : n ≤ k) : cpI ad B J n src dst k δ δ := fun i => by rw [if_neg (by omega)]
theorem cpO_s {ad : List Nat} {B J n src dst k : Nat} {δ d r : dp} (hk : k < n) (es : q_R d (Ad ad src) = q_R δ (Ad ad src)) (ed : ∀ i, q_R d (Ad ad dst) i = if i = B * J + k then q_R δ (Ad ad src) k else q_R δ (Ad ad dst) i) (h : cpO ad B J n src dst (k + 1) d r) : cpO ad B J n src dst k δ r := fun i => by
  rw [h i, es, ed]
  by_cases c : i = B * J + k
  · subst c
    rw [if_neg (by omega), if_pos rfl, if_pos (by omega), show B * J + k - B * J = k by omega]
  · by_cases c2 : B * J + (k + 1) ≤ i ∧ i < B * J + n
    · rw [if_pos c2, if_pos (by omega)]
    · rw [if_neg c2, if_neg c, if_neg (by omega)]
theorem cpI_s {ad : List Nat} {B J n src dst k : Nat} {δ d r : dp} (hk : k < n) (es : q_R d (Ad ad src) = q_R δ (Ad ad src)) (ed : ∀ i, q_R d (Ad ad dst) i = if i = k then q_R δ (Ad ad src) (B * J + k) else q_R δ (Ad ad dst) i) (h : cpI ad B J n src dst (k + 1) d r) : cpI ad B J n src dst k δ r := fun i => by
  rw [h i, es, ed]
  by_cases c : i = k
  · subst c
    rw [if_neg (by omega), if_pos rfl, if_pos (by omega)]
  · by_cases c2 : k + 1 ≤ i ∧ i < n
    · rw [if_pos c2, if_pos (by omega)]
    · rw [if_neg c2, if_neg c, if_neg (by omega)]
theorem sR_at {δ d : dp} {b j : Nat} {v : Int32} (e : d = s_R δ b j v) (i : Nat) : q_R d b i = if i = j then v else q_R δ b i := by
  rw [e, qR_sR]
  by_cases c : i = j
  · rw [if_pos ⟨rfl, c⟩, if_pos c]
  · rw [if_neg (fun z => c z.2), if_neg c]
theorem im_image_110 {ad : List Nat} {h : hp} (L : Lay TLx ad h) {N J : Nat} (hJ : J ≤ 2) {Q : Int32 × dp → Prop} : ∀ (m k : Nat) (x : Int32) (δ : dp), x.toInt = (k : Int) → k ≤ 4 → (q_I δ 12 18 (Ad ad 99)).toInt = (J : Int) → (∀ r : dp, cpO ad 4 J 4 103 108 k δ r → cpO ad 4 J 4 106 111 k δ r → (∀ b, b ≠ Ad ad 108 → b ≠ Ad ad 111 → q_R r b = q_R δ b) → q_I r = q_I δ → hs (bd (s_I r 12 18 (Ad ad 99) ((q_I r 12 18 (Ad ad 99)) + (1 : Int32))) fun δ_7 => some (q_I δ_7 12 18 (Ad ad 99), δ_7)) Q) → hs (L_X12_image_110 N h.1 (Ad ad 99) m x δ) Q := by
  have ka : q_K h.1 (Ad ad 99) = 12 := (lay_knd L (by decide)).trans (by decide)
  obtain ⟨b14, o14, _⟩ := gO_12_14 L ka
  obtain rfl := gS_12_14 L ka o14
  obtain ⟨b17, o17, _⟩ := gO_12_17 L ka
  obtain rfl := gS_12_17 L ka o17
  obtain ⟨b20, o20, _⟩ := gO_12_20 L ka
  obtain rfl := gS_12_20 L ka o20
  obtain ⟨b23, o23, _⟩ := gO_12_23 L ka
  obtain rfl := gS_12_23 L ka o23
  have zn : (4 : Int32).toInt = 4 := by decide
  intro m
  induction m with
  | zero => intro k x δ _ _ _ _; exact hs_none
  | succ m ih =>
    intro k x δ ex hk hI K
    unfold L_X12_image_110
    have tx := ti_tn x
    have m1 := te_mulc (c := 4) (n := 4) (by decide) (q_I δ 12 18 (Ad ad 99)) (by omega) (by omega)
    have m2 := te_add ((4 : Int32) * q_I δ 12 18 (Ad ad 99)) x (by omega) (by omega)
    have m3 := ti_tn (((4 : Int32) * q_I δ 12 18 (Ad ad 99)) + x)
    have ix : (((4 : Int32) * q_I δ 12 18 (Ad ad 99)) + x).toNatClampNeg = 4 * J + k := by omega
    have ik : x.toNatClampNeg = k := by omega
    refine hs_ite (fun c => ?_) (fun c => ?_)
    · have c1 := o_le c
      exact K δ (cpO_e (by omega)) (cpO_e (by omega)) (fun _ _ _ => rfl) rfl
    · have c1 := o_nle c
      refine hs_at o20 (hs_at o14 (hs_gd (fun _ => hs_gd (fun _ => ?_))))
      rw [ix, ik]
      refine hs_bdv (fun d1 e1 => ?_)
      refine hs_at o23 (hs_at o17 (hs_gd (fun _ => hs_gd (fun _ => ?_))))
      rw [show q_I d1 12 18 (Ad ad 99) = q_I δ 12 18 (Ad ad 99) by rw [e1]; rfl]
      rw [ix]
      refine hs_bdv (fun d2 e2 => ?_)
      refine hs_biv (fun y ey => ?_)
      have y1 := te_addc (c := 1) (n := 1) rfl x (by omega) (by omega)
      rw [← ey] at y1
      have s0 : q_R d2 (Ad ad 103) = q_R δ (Ad ad 103) := by rw [e2, rR_o (ad_ne L (i := 103) (j := 111) (by decide) (by decide) (by decide)), e1, rR_o (ad_ne L (i := 103) (j := 108) (by decide) (by decide) (by decide))]
      have t0 : ∀ i, q_R d2 (Ad ad 108) i = if i = 4 * J + k then q_R δ (Ad ad 103) k else q_R δ (Ad ad 108) i := fun i => by rw [e2, rR_o (ad_ne L (i := 108) (j := 111) (by decide) (by decide) (by decide))]; exact sR_at e1 i
      have s1 : q_R d2 (Ad ad 106) = q_R δ (Ad ad 106) := by rw [e2, rR_o (ad_ne L (i := 106) (j := 111) (by decide) (by decide) (by decide)), e1, rR_o (ad_ne L (i := 106) (j := 108) (by decide) (by decide) (by decide))]
      have t1 : ∀ i, q_R d2 (Ad ad 111) i = if i = 4 * J + k then q_R δ (Ad ad 106) k else q_R δ (Ad ad 111) i := fun i => by rw [sR_at e2 i, e1, rR_o (ad_ne L (i := 106) (j := 108) (by decide) (by decide) (by decide)), rR_o (ad_ne L (i := 111) (j := 108) (by decide) (by decide) (by decide))]
      have oo : ∀ b, b ≠ Ad ad 108 → b ≠ Ad ad 111 → q_R d2 b = q_R δ b := fun b n0 n1 => by rw [e2, rR_o n1, e1, rR_o n0]
      have eI : q_I d2 = q_I δ := by rw [e2, e1]; rfl
      refine ih (k + 1) y d2 (by omega) (by omega) (by rw [eI]; exact hI) (fun r p0 p1 po pI => ?_)
      exact K r (cpO_s (by omega) s0 t0 p0) (cpO_s (by omega) s1 t1 p1) (fun b n0 n1 => (po b n0 n1).trans (oo b n0 n1)) (pI.trans eI)
theorem im_image_53 {ad : List Nat} {h : hp} (L : Lay TLx ad h) {N J : Nat} (hJ : J ≤ 2) {Q : Int32 × dp → Prop} : ∀ (m k : Nat) (x : Int32) (δ : dp), x.toInt = (k : Int) → k ≤ 4000 → (q_I δ 12 18 (Ad ad 99)).toInt = (J : Int) → (∀ r : dp, cpO ad 4000 J 4000 104 109 k δ r → cpO ad 4000 J 4000 105 110 k δ r → (∀ b, b ≠ Ad ad 109 → b ≠ Ad ad 110 → q_R r b = q_R δ b) → q_I r = q_I δ → hs (L_X12_image_110 N h.1 (Ad ad 99) N 0 r) Q) → hs (L_X12_image_53 N h.1 (Ad ad 99) m x δ) Q := by
  have ka : q_K h.1 (Ad ad 99) = 12 := (lay_knd L (by decide)).trans (by decide)
  obtain ⟨b15, o15, _⟩ := gO_12_15 L ka
  obtain rfl := gS_12_15 L ka o15
  obtain ⟨b16, o16, _⟩ := gO_12_16 L ka
  obtain rfl := gS_12_16 L ka o16
  obtain ⟨b21, o21, _⟩ := gO_12_21 L ka
  obtain rfl := gS_12_21 L ka o21
  obtain ⟨b22, o22, _⟩ := gO_12_22 L ka
  obtain rfl := gS_12_22 L ka o22
  have zn : (4000 : Int32).toInt = 4000 := by decide
  intro m
  induction m with
  | zero => intro k x δ _ _ _ _; exact hs_none
  | succ m ih =>
    intro k x δ ex hk hI K
    unfold L_X12_image_53
    have tx := ti_tn x
    have m1 := te_mulc (c := 4000) (n := 4000) (by decide) (q_I δ 12 18 (Ad ad 99)) (by omega) (by omega)
    have m2 := te_add ((4000 : Int32) * q_I δ 12 18 (Ad ad 99)) x (by omega) (by omega)
    have m3 := ti_tn (((4000 : Int32) * q_I δ 12 18 (Ad ad 99)) + x)
    have ix : (((4000 : Int32) * q_I δ 12 18 (Ad ad 99)) + x).toNatClampNeg = 4000 * J + k := by omega
    have ik : x.toNatClampNeg = k := by omega
    refine hs_ite (fun c => ?_) (fun c => ?_)
    · have c1 := o_le c
      exact K δ (cpO_e (by omega)) (cpO_e (by omega)) (fun _ _ _ => rfl) rfl
    · have c1 := o_nle c
      refine hs_at o21 (hs_at o15 (hs_gd (fun _ => hs_gd (fun _ => ?_))))
      rw [ix, ik]
      refine hs_bdv (fun d1 e1 => ?_)
      refine hs_at o22 (hs_at o16 (hs_gd (fun _ => hs_gd (fun _ => ?_))))
      rw [show q_I d1 12 18 (Ad ad 99) = q_I δ 12 18 (Ad ad 99) by rw [e1]; rfl]
      rw [ix]
      refine hs_bdv (fun d2 e2 => ?_)
      refine hs_biv (fun y ey => ?_)
      have y1 := te_addc (c := 1) (n := 1) rfl x (by omega) (by omega)
      rw [← ey] at y1
      have s0 : q_R d2 (Ad ad 104) = q_R δ (Ad ad 104) := by rw [e2, rR_o (ad_ne L (i := 104) (j := 110) (by decide) (by decide) (by decide)), e1, rR_o (ad_ne L (i := 104) (j := 109) (by decide) (by decide) (by decide))]
      have t0 : ∀ i, q_R d2 (Ad ad 109) i = if i = 4000 * J + k then q_R δ (Ad ad 104) k else q_R δ (Ad ad 109) i := fun i => by rw [e2, rR_o (ad_ne L (i := 109) (j := 110) (by decide) (by decide) (by decide))]; exact sR_at e1 i
      have s1 : q_R d2 (Ad ad 105) = q_R δ (Ad ad 105) := by rw [e2, rR_o (ad_ne L (i := 105) (j := 110) (by decide) (by decide) (by decide)), e1, rR_o (ad_ne L (i := 105) (j := 109) (by decide) (by decide) (by decide))]
      have t1 : ∀ i, q_R d2 (Ad ad 110) i = if i = 4000 * J + k then q_R δ (Ad ad 105) k else q_R δ (Ad ad 110) i := fun i => by rw [sR_at e2 i, e1, rR_o (ad_ne L (i := 105) (j := 109) (by decide) (by decide) (by decide)), rR_o (ad_ne L (i := 110) (j := 109) (by decide) (by decide) (by decide))]
      have oo : ∀ b, b ≠ Ad ad 109 → b ≠ Ad ad 110 → q_R d2 b = q_R δ b := fun b n0 n1 => by rw [e2, rR_o n1, e1, rR_o n0]
      have eI : q_I d2 = q_I δ := by rw [e2, e1]; rfl
      refine ih (k + 1) y d2 (by omega) (by omega) (by rw [eI]; exact hI) (fun r p0 p1 po pI => ?_)
      exact K r (cpO_s (by omega) s0 t0 p0) (cpO_s (by omega) s1 t1 p1) (fun b n0 n1 => (po b n0 n1).trans (oo b n0 n1)) (pI.trans eI)
theorem im_image_17 {ad : List Nat} {h : hp} (L : Lay TLx ad h) {N J : Nat} (hJ : J ≤ 2) {Q : Int32 × dp → Prop} : ∀ (m k : Nat) (x : Int32) (δ : dp), x.toInt = (k : Int) → k ≤ 8000 → (q_I δ 12 18 (Ad ad 99)).toInt = (J : Int) → (∀ r : dp, cpO ad 8000 J 8000 102 107 k δ r → (∀ b, b ≠ Ad ad 107 → q_R r b = q_R δ b) → q_I r = q_I δ → hs (L_X12_image_53 N h.1 (Ad ad 99) N 0 r) Q) → hs (L_X12_image_17 N h.1 (Ad ad 99) m x δ) Q := by
  have ka : q_K h.1 (Ad ad 99) = 12 := (lay_knd L (by decide)).trans (by decide)
  obtain ⟨b13, o13, _⟩ := gO_12_13 L ka
  obtain rfl := gS_12_13 L ka o13
  obtain ⟨b19, o19, _⟩ := gO_12_19 L ka
  obtain rfl := gS_12_19 L ka o19
  have zn : (8000 : Int32).toInt = 8000 := by decide
  intro m
  induction m with
  | zero => intro k x δ _ _ _ _; exact hs_none
  | succ m ih =>
    intro k x δ ex hk hI K
    unfold L_X12_image_17
    have tx := ti_tn x
    have m1 := te_mulc (c := 8000) (n := 8000) (by decide) (q_I δ 12 18 (Ad ad 99)) (by omega) (by omega)
    have m2 := te_add ((8000 : Int32) * q_I δ 12 18 (Ad ad 99)) x (by omega) (by omega)
    have m3 := ti_tn (((8000 : Int32) * q_I δ 12 18 (Ad ad 99)) + x)
    have ix : (((8000 : Int32) * q_I δ 12 18 (Ad ad 99)) + x).toNatClampNeg = 8000 * J + k := by omega
    have ik : x.toNatClampNeg = k := by omega
    refine hs_ite (fun c => ?_) (fun c => ?_)
    · have c1 := o_le c
      exact K δ (cpO_e (by omega)) (fun _ _ => rfl) rfl
    · have c1 := o_nle c
      refine hs_at o19 (hs_at o13 (hs_gd (fun _ => hs_gd (fun _ => ?_))))
      rw [ix, ik]
      refine hs_bdv (fun d1 e1 => ?_)
      refine hs_biv (fun y ey => ?_)
      have y1 := te_addc (c := 1) (n := 1) rfl x (by omega) (by omega)
      rw [← ey] at y1
      have s0 : q_R d1 (Ad ad 102) = q_R δ (Ad ad 102) := by rw [e1, rR_o (ad_ne L (i := 102) (j := 107) (by decide) (by decide) (by decide))]
      have t0 : ∀ i, q_R d1 (Ad ad 107) i = if i = 8000 * J + k then q_R δ (Ad ad 102) k else q_R δ (Ad ad 107) i := fun i => sR_at e1 i
      have oo : ∀ b, b ≠ Ad ad 107 → q_R d1 b = q_R δ b := fun b n0 => by rw [e1, rR_o n0]
      have eI : q_I d1 = q_I δ := by rw [e1]; rfl
      refine ih (k + 1) y d1 (by omega) (by omega) (by rw [eI]; exact hI) (fun r p0 po pI => ?_)
      exact K r (cpO_s (by omega) s0 t0 p0) (fun b n0 => (po b n0).trans (oo b n0)) (pI.trans eI)
theorem im_restore_119 {ad : List Nat} {h : hp} (L : Lay TLx ad h) {N J : Nat} (hJ : J ≤ 2) {Q : Int32 × dp → Prop} : ∀ (m k : Nat) (x : Int32) (δ : dp), x.toInt = (k : Int) → k ≤ 4 → (q_I δ 12 18 (Ad ad 99)).toInt = (J : Int) → (∀ r : dp, cpI ad 4 J 4 108 103 k δ r → cpI ad 4 J 4 111 106 k δ r → (∀ b, b ≠ Ad ad 103 → b ≠ Ad ad 106 → q_R r b = q_R δ b) → q_I r = q_I δ → hs (some (q_I r 12 18 (Ad ad 99), r)) Q) → hs (L_X12_restore_119 N h.1 (Ad ad 99) m x δ) Q := by
  have ka : q_K h.1 (Ad ad 99) = 12 := (lay_knd L (by decide)).trans (by decide)
  obtain ⟨b14, o14, _⟩ := gO_12_14 L ka
  obtain rfl := gS_12_14 L ka o14
  obtain ⟨b17, o17, _⟩ := gO_12_17 L ka
  obtain rfl := gS_12_17 L ka o17
  obtain ⟨b20, o20, _⟩ := gO_12_20 L ka
  obtain rfl := gS_12_20 L ka o20
  obtain ⟨b23, o23, _⟩ := gO_12_23 L ka
  obtain rfl := gS_12_23 L ka o23
  have zn : (4 : Int32).toInt = 4 := by decide
  intro m
  induction m with
  | zero => intro k x δ _ _ _ _; exact hs_none
  | succ m ih =>
    intro k x δ ex hk hI K
    unfold L_X12_restore_119
    have tx := ti_tn x
    have m1 := te_mulc (c := 4) (n := 4) (by decide) (q_I δ 12 18 (Ad ad 99)) (by omega) (by omega)
    have m2 := te_add ((4 : Int32) * q_I δ 12 18 (Ad ad 99)) x (by omega) (by omega)
    have m3 := ti_tn (((4 : Int32) * q_I δ 12 18 (Ad ad 99)) + x)
    have ix : (((4 : Int32) * q_I δ 12 18 (Ad ad 99)) + x).toNatClampNeg = 4 * J + k := by omega
    have ik : x.toNatClampNeg = k := by omega
    refine hs_ite (fun c => ?_) (fun c => ?_)
    · have c1 := o_le c
      exact K δ (cpI_e (by omega)) (cpI_e (by omega)) (fun _ _ _ => rfl) rfl
    · have c1 := o_nle c
      refine hs_at o14 (hs_at o20 (hs_gd (fun _ => hs_gd (fun _ => ?_))))
      rw [ix, ik]
      refine hs_bdv (fun d1 e1 => ?_)
      refine hs_at o17 (hs_at o23 (hs_gd (fun _ => hs_gd (fun _ => ?_))))
      rw [show q_I d1 12 18 (Ad ad 99) = q_I δ 12 18 (Ad ad 99) by rw [e1]; rfl]
      rw [ix]
      refine hs_bdv (fun d2 e2 => ?_)
      refine hs_biv (fun y ey => ?_)
      have y1 := te_addc (c := 1) (n := 1) rfl x (by omega) (by omega)
      rw [← ey] at y1
      have s0 : q_R d2 (Ad ad 108) = q_R δ (Ad ad 108) := by rw [e2, rR_o (ad_ne L (i := 108) (j := 106) (by decide) (by decide) (by decide)), e1, rR_o (ad_ne L (i := 108) (j := 103) (by decide) (by decide) (by decide))]
      have t0 : ∀ i, q_R d2 (Ad ad 103) i = if i = k then q_R δ (Ad ad 108) (4 * J + k) else q_R δ (Ad ad 103) i := fun i => by rw [e2, rR_o (ad_ne L (i := 103) (j := 106) (by decide) (by decide) (by decide))]; exact sR_at e1 i
      have s1 : q_R d2 (Ad ad 111) = q_R δ (Ad ad 111) := by rw [e2, rR_o (ad_ne L (i := 111) (j := 106) (by decide) (by decide) (by decide)), e1, rR_o (ad_ne L (i := 111) (j := 103) (by decide) (by decide) (by decide))]
      have t1 : ∀ i, q_R d2 (Ad ad 106) i = if i = k then q_R δ (Ad ad 111) (4 * J + k) else q_R δ (Ad ad 106) i := fun i => by rw [sR_at e2 i, e1, rR_o (ad_ne L (i := 111) (j := 103) (by decide) (by decide) (by decide)), rR_o (ad_ne L (i := 106) (j := 103) (by decide) (by decide) (by decide))]
      have oo : ∀ b, b ≠ Ad ad 103 → b ≠ Ad ad 106 → q_R d2 b = q_R δ b := fun b n0 n1 => by rw [e2, rR_o n1, e1, rR_o n0]
      have eI : q_I d2 = q_I δ := by rw [e2, e1]; rfl
      refine ih (k + 1) y d2 (by omega) (by omega) (by rw [eI]; exact hI) (fun r p0 p1 po pI => ?_)
      exact K r (cpI_s (by omega) s0 t0 p0) (cpI_s (by omega) s1 t1 p1) (fun b n0 n1 => (po b n0 n1).trans (oo b n0 n1)) (pI.trans eI)
theorem im_restore_62 {ad : List Nat} {h : hp} (L : Lay TLx ad h) {N J : Nat} (hJ : J ≤ 2) {Q : Int32 × dp → Prop} : ∀ (m k : Nat) (x : Int32) (δ : dp), x.toInt = (k : Int) → k ≤ 4000 → (q_I δ 12 18 (Ad ad 99)).toInt = (J : Int) → (∀ r : dp, cpI ad 4000 J 4000 109 104 k δ r → cpI ad 4000 J 4000 110 105 k δ r → (∀ b, b ≠ Ad ad 104 → b ≠ Ad ad 105 → q_R r b = q_R δ b) → q_I r = q_I δ → hs (L_X12_restore_119 N h.1 (Ad ad 99) N 0 r) Q) → hs (L_X12_restore_62 N h.1 (Ad ad 99) m x δ) Q := by
  have ka : q_K h.1 (Ad ad 99) = 12 := (lay_knd L (by decide)).trans (by decide)
  obtain ⟨b15, o15, _⟩ := gO_12_15 L ka
  obtain rfl := gS_12_15 L ka o15
  obtain ⟨b16, o16, _⟩ := gO_12_16 L ka
  obtain rfl := gS_12_16 L ka o16
  obtain ⟨b21, o21, _⟩ := gO_12_21 L ka
  obtain rfl := gS_12_21 L ka o21
  obtain ⟨b22, o22, _⟩ := gO_12_22 L ka
  obtain rfl := gS_12_22 L ka o22
  have zn : (4000 : Int32).toInt = 4000 := by decide
  intro m
  induction m with
  | zero => intro k x δ _ _ _ _; exact hs_none
  | succ m ih =>
    intro k x δ ex hk hI K
    unfold L_X12_restore_62
    have tx := ti_tn x
    have m1 := te_mulc (c := 4000) (n := 4000) (by decide) (q_I δ 12 18 (Ad ad 99)) (by omega) (by omega)
    have m2 := te_add ((4000 : Int32) * q_I δ 12 18 (Ad ad 99)) x (by omega) (by omega)
    have m3 := ti_tn (((4000 : Int32) * q_I δ 12 18 (Ad ad 99)) + x)
    have ix : (((4000 : Int32) * q_I δ 12 18 (Ad ad 99)) + x).toNatClampNeg = 4000 * J + k := by omega
    have ik : x.toNatClampNeg = k := by omega
    refine hs_ite (fun c => ?_) (fun c => ?_)
    · have c1 := o_le c
      exact K δ (cpI_e (by omega)) (cpI_e (by omega)) (fun _ _ _ => rfl) rfl
    · have c1 := o_nle c
      refine hs_at o15 (hs_at o21 (hs_gd (fun _ => hs_gd (fun _ => ?_))))
      rw [ix, ik]
      refine hs_bdv (fun d1 e1 => ?_)
      refine hs_at o16 (hs_at o22 (hs_gd (fun _ => hs_gd (fun _ => ?_))))
      rw [show q_I d1 12 18 (Ad ad 99) = q_I δ 12 18 (Ad ad 99) by rw [e1]; rfl]
      rw [ix]
      refine hs_bdv (fun d2 e2 => ?_)
      refine hs_biv (fun y ey => ?_)
      have y1 := te_addc (c := 1) (n := 1) rfl x (by omega) (by omega)
      rw [← ey] at y1
      have s0 : q_R d2 (Ad ad 109) = q_R δ (Ad ad 109) := by rw [e2, rR_o (ad_ne L (i := 109) (j := 105) (by decide) (by decide) (by decide)), e1, rR_o (ad_ne L (i := 109) (j := 104) (by decide) (by decide) (by decide))]
      have t0 : ∀ i, q_R d2 (Ad ad 104) i = if i = k then q_R δ (Ad ad 109) (4000 * J + k) else q_R δ (Ad ad 104) i := fun i => by rw [e2, rR_o (ad_ne L (i := 104) (j := 105) (by decide) (by decide) (by decide))]; exact sR_at e1 i
      have s1 : q_R d2 (Ad ad 110) = q_R δ (Ad ad 110) := by rw [e2, rR_o (ad_ne L (i := 110) (j := 105) (by decide) (by decide) (by decide)), e1, rR_o (ad_ne L (i := 110) (j := 104) (by decide) (by decide) (by decide))]
      have t1 : ∀ i, q_R d2 (Ad ad 105) i = if i = k then q_R δ (Ad ad 110) (4000 * J + k) else q_R δ (Ad ad 105) i := fun i => by rw [sR_at e2 i, e1, rR_o (ad_ne L (i := 110) (j := 104) (by decide) (by decide) (by decide)), rR_o (ad_ne L (i := 105) (j := 104) (by decide) (by decide) (by decide))]
      have oo : ∀ b, b ≠ Ad ad 104 → b ≠ Ad ad 105 → q_R d2 b = q_R δ b := fun b n0 n1 => by rw [e2, rR_o n1, e1, rR_o n0]
      have eI : q_I d2 = q_I δ := by rw [e2, e1]; rfl
      refine ih (k + 1) y d2 (by omega) (by omega) (by rw [eI]; exact hI) (fun r p0 p1 po pI => ?_)
      exact K r (cpI_s (by omega) s0 t0 p0) (cpI_s (by omega) s1 t1 p1) (fun b n0 n1 => (po b n0 n1).trans (oo b n0 n1)) (pI.trans eI)
theorem im_restore_26 {ad : List Nat} {h : hp} (L : Lay TLx ad h) {N J : Nat} (hJ : J ≤ 2) {Q : Int32 × dp → Prop} : ∀ (m k : Nat) (x : Int32) (δ : dp), x.toInt = (k : Int) → k ≤ 8000 → (q_I δ 12 18 (Ad ad 99)).toInt = (J : Int) → (∀ r : dp, cpI ad 8000 J 8000 107 102 k δ r → (∀ b, b ≠ Ad ad 102 → q_R r b = q_R δ b) → q_I r = q_I δ → hs (L_X12_restore_62 N h.1 (Ad ad 99) N 0 r) Q) → hs (L_X12_restore_26 N h.1 (Ad ad 99) m x δ) Q := by
  have ka : q_K h.1 (Ad ad 99) = 12 := (lay_knd L (by decide)).trans (by decide)
  obtain ⟨b13, o13, _⟩ := gO_12_13 L ka
  obtain rfl := gS_12_13 L ka o13
  obtain ⟨b19, o19, _⟩ := gO_12_19 L ka
  obtain rfl := gS_12_19 L ka o19
  have zn : (8000 : Int32).toInt = 8000 := by decide
  intro m
  induction m with
  | zero => intro k x δ _ _ _ _; exact hs_none
  | succ m ih =>
    intro k x δ ex hk hI K
    unfold L_X12_restore_26
    have tx := ti_tn x
    have m1 := te_mulc (c := 8000) (n := 8000) (by decide) (q_I δ 12 18 (Ad ad 99)) (by omega) (by omega)
    have m2 := te_add ((8000 : Int32) * q_I δ 12 18 (Ad ad 99)) x (by omega) (by omega)
    have m3 := ti_tn (((8000 : Int32) * q_I δ 12 18 (Ad ad 99)) + x)
    have ix : (((8000 : Int32) * q_I δ 12 18 (Ad ad 99)) + x).toNatClampNeg = 8000 * J + k := by omega
    have ik : x.toNatClampNeg = k := by omega
    refine hs_ite (fun c => ?_) (fun c => ?_)
    · have c1 := o_le c
      exact K δ (cpI_e (by omega)) (fun _ _ => rfl) rfl
    · have c1 := o_nle c
      refine hs_at o13 (hs_at o19 (hs_gd (fun _ => hs_gd (fun _ => ?_))))
      rw [ix, ik]
      refine hs_bdv (fun d1 e1 => ?_)
      refine hs_biv (fun y ey => ?_)
      have y1 := te_addc (c := 1) (n := 1) rfl x (by omega) (by omega)
      rw [← ey] at y1
      have s0 : q_R d1 (Ad ad 107) = q_R δ (Ad ad 107) := by rw [e1, rR_o (ad_ne L (i := 107) (j := 102) (by decide) (by decide) (by decide))]
      have t0 : ∀ i, q_R d1 (Ad ad 102) i = if i = k then q_R δ (Ad ad 107) (8000 * J + k) else q_R δ (Ad ad 102) i := fun i => sR_at e1 i
      have oo : ∀ b, b ≠ Ad ad 102 → q_R d1 b = q_R δ b := fun b n0 => by rw [e1, rR_o n0]
      have eI : q_I d1 = q_I δ := by rw [e1]; rfl
      refine ih (k + 1) y d1 (by omega) (by omega) (by rw [eI]; exact hI) (fun r p0 po pI => ?_)
      exact K r (cpI_s (by omega) s0 t0 p0) (fun b n0 => (po b n0).trans (oo b n0)) (pI.trans eI)
