/-! what image and restore copy -/
/-- rows 107 and 108 behind image -/
def PI (ad : List Nat) (a0 J k : Nat) (δ r : dp) : Prop := (q_I r 12 18 a0).toInt = (J : Int) + 1 ∧ (∀ i, q_R r (Ad ad 107) i = if 8000 * J + k ≤ i ∧ i < 8000 * J + 8000 then q_R δ (Ad ad 102) (i - 8000 * J) else q_R δ (Ad ad 107) i) ∧ ∀ i, q_R r (Ad ad 108) i = if 4 * J ≤ i ∧ i < 4 * J + 4 then q_R δ (Ad ad 103) (i - 4 * J) else q_R δ (Ad ad 108) i
set_option maxHeartbeats 4000000 in
theorem fl_image_110 {ad : List Nat} {h : hp} (L : Lay TLx ad h) {N : Nat} {a0 : Nat} (k_a0 : q_K h.1 a0 = 12) {J : Nat} (hJ : J ≤ 2) : ∀ (n : Nat) (k : Nat) (x : Int32) (δ : dp), x.toInt = (k : Int) → k ≤ 4 → (q_I δ 12 18 a0).toInt = (J : Int) → 4 - k < n → ok (L_X12_image_110 N h.1 a0 n x δ) (fun r => (q_I r.2 12 18 a0).toInt = (J : Int) + 1 ∧ q_R r.2 (Ad ad 107) = q_R δ (Ad ad 107) ∧ ∀ i, q_R r.2 (Ad ad 108) i = if 4 * J + k ≤ i ∧ i < 4 * J + 4 then q_R δ (Ad ad 103) (i - 4 * J) else q_R δ (Ad ad 108) i) := by
  obtain ⟨b1, o1, _, n1⟩ := gO_12_20 L k_a0
  obtain rfl := gS_12_20 L k_a0 o1
  obtain ⟨b2, o2, _, n2⟩ := gO_12_14 L k_a0
  obtain rfl := gS_12_14 L k_a0 o2
  obtain ⟨b3, o3, _, n3⟩ := gO_12_23 L k_a0
  obtain rfl := gS_12_23 L k_a0 o3
  obtain ⟨b4, o4, _, n4⟩ := gO_12_17 L k_a0
  obtain rfl := gS_12_17 L k_a0 o4
  have z0 : (0 : Int32).toInt = 0 := rfl
  have z4 : (4 : Int32).toInt = 4 := rfl
  have ne1 : Ad ad 107 ≠ Ad ad 108 := ad_ne L (by decide) (by decide) (by decide)
  have ne2 : Ad ad 107 ≠ Ad ad 111 := ad_ne L (by decide) (by decide) (by decide)
  have ne3 : Ad ad 108 ≠ Ad ad 111 := ad_ne L (by decide) (by decide) (by decide)
  have ne4 : Ad ad 103 ≠ Ad ad 111 := ad_ne L (by decide) (by decide) (by decide)
  have ne5 : Ad ad 103 ≠ Ad ad 108 := ad_ne L (by decide) (by decide) (by decide)
  intro n
  induction n with
  | zero => intro k x δ _ _ _ hm; exfalso; omega
  | succ n ih =>
    intro k x δ ex hk hI hm
    unfold L_X12_image_110
    have tx := ti_tn x
    have m1 := te_mulc (c := 4) (n := 4) rfl (q_I δ 12 18 a0) (by omega) (by omega)
    have m2 := te_add ((4 : Int32) * q_I δ 12 18 a0) x (by omega) (by omega)
    have m3 := ti_tn (((4 : Int32) * q_I δ 12 18 a0) + x)
    refine ok_ite (fun c => ?_) (fun c => ?_)
    · have c1 := o_le c
      refine ok_bdv (fun d e => ok_some ⟨?_, ?_, fun i => ?_⟩)
      · rw [e, rI_s]
        have := te_addc (c := 1) (n := 1) rfl (q_I δ 12 18 a0) (by omega) (by omega)
        omega
      · rw [e]; rfl
      · rw [if_neg (by omega), e]; rfl
    · have c1 := o_nle c
      refine ok_at o1 (ok_at o2 ?_)
      refine ok_gd (fun z => ?_) ?_
      · rcases z with z | z
        · have := o_lt z; omega
        · rw [n2] at z; omega
      refine ok_gd (fun z => ?_) ?_
      · rcases z with z | z
        · have := o_lt z; omega
        · rw [n1] at z; omega
      refine ok_bdv (fun d e => ?_)
      have ed : q_I d 12 18 a0 = q_I δ 12 18 a0 := by rw [e]; rfl
      refine ok_at o3 (ok_at o4 ?_)
      refine ok_gd (fun z => ?_) ?_
      · rcases z with z | z
        · have := o_lt z; omega
        · rw [n4] at z; omega
      rw [ed]
      refine ok_gd (fun z => ?_) ?_
      · rcases z with z | z
        · have := o_lt z; omega
        · rw [n3] at z; omega
      refine ok_bdv (fun d2 e2 => ?_)
      refine ok_biv (fun y ey => ?_)
      have y1 := te_addc (c := 1) (n := 1) rfl x (by omega) (by omega)
      rw [← ey] at y1
      have ed2 : q_I d2 12 18 a0 = q_I δ 12 18 a0 := by rw [e2]; exact ed
      refine ok_mono (ih (k + 1) y d2 (by omega) (by omega) (by rw [ed2]; exact hI) (by omega)) (fun r hr => ?_)
      obtain ⟨h1, h2, h3⟩ := hr
      refine ⟨h1, ?_, fun i => ?_⟩
      · rw [h2, e2, rR_o ne2, e, rR_o ne1]
      · rw [h3, e2, rR_o ne4, rR_o ne3, e, rR_o ne5, qR_sR]
        have ix : (((4 : Int32) * q_I δ 12 18 a0) + x).toNatClampNeg = 4 * J + k := by omega
        have ik : x.toNatClampNeg = k := by omega
        rw [ix, ik]
        by_cases c2 : i = 4 * J + k
        · subst c2
          rw [if_neg (by omega), if_pos ⟨rfl, rfl⟩, if_pos (by omega)]
          congr 1; omega
        · by_cases c3 : 4 * J + (k + 1) ≤ i ∧ i < 4 * J + 4
          · rw [if_pos c3, if_pos (by omega)]
          · rw [if_neg c3, if_neg (fun z => c2 z.2), if_neg (by omega)]
set_option maxHeartbeats 4000000 in
theorem fl_image_53 {ad : List Nat} {h : hp} (L : Lay TLx ad h) {N : Nat} (hN : 10000000 ≤ N) {a0 : Nat} (k_a0 : q_K h.1 a0 = 12) {J : Nat} (hJ : J ≤ 2) : ∀ (n : Nat) (k : Nat) (x : Int32) (δ : dp), x.toInt = (k : Int) → k ≤ 4000 → (q_I δ 12 18 a0).toInt = (J : Int) → 4000 - k < n → ok (L_X12_image_53 N h.1 a0 n x δ) (fun r => (q_I r.2 12 18 a0).toInt = (J : Int) + 1 ∧ q_R r.2 (Ad ad 107) = q_R δ (Ad ad 107) ∧ ∀ i, q_R r.2 (Ad ad 108) i = if 4 * J ≤ i ∧ i < 4 * J + 4 then q_R δ (Ad ad 103) (i - 4 * J) else q_R δ (Ad ad 108) i) := by
  obtain ⟨b1, o1, _, n1, _⟩ := gO_12_21 L k_a0
  obtain rfl := gS_12_21 L k_a0 o1
  obtain ⟨b2, o2, _, n2, _⟩ := gO_12_15 L k_a0
  obtain rfl := gS_12_15 L k_a0 o2
  obtain ⟨b3, o3, _, n3, _⟩ := gO_12_22 L k_a0
  obtain rfl := gS_12_22 L k_a0 o3
  obtain ⟨b4, o4, _, n4, _⟩ := gO_12_16 L k_a0
  obtain rfl := gS_12_16 L k_a0 o4
  have z0 : (0 : Int32).toInt = 0 := rfl
  have z4 : (4000 : Int32).toInt = 4000 := rfl
  intro n
  induction n with
  | zero => intro k x δ _ _ _ hm; exfalso; omega
  | succ n ih =>
    intro k x δ ex hk hI hm
    unfold L_X12_image_53
    have tx := ti_tn x
    have m1 := te_mulc (c := 4000) (n := 4000) rfl (q_I δ 12 18 a0) (by omega) (by omega)
    have m2 := te_add ((4000 : Int32) * q_I δ 12 18 a0) x (by omega) (by omega)
    have m3 := ti_tn (((4000 : Int32) * q_I δ 12 18 a0) + x)
    refine ok_ite (fun c => ?_) (fun c => ?_)
    · exact fl_image_110 L k_a0 hJ N 0 0 δ rfl (by omega) hI (by omega)
    · have c1 := o_nle c
      refine ok_at o1 (ok_at o2 ?_)
      refine ok_gd (fun z => ?_) ?_
      · rcases z with z | z
        · have := o_lt z; omega
        · rw [n2] at z; omega
      refine ok_gd (fun z => ?_) ?_
      · rcases z with z | z
        · have := o_lt z; omega
        · rw [n1] at z; omega
      refine ok_bdv (fun d e => ?_)
      have ed : q_I d 12 18 a0 = q_I δ 12 18 a0 := by rw [e]; rfl
      refine ok_at o3 (ok_at o4 ?_)
      refine ok_gd (fun z => ?_) ?_
      · rcases z with z | z
        · have := o_lt z; omega
        · rw [n4] at z; omega
      rw [ed]
      refine ok_gd (fun z => ?_) ?_
      · rcases z with z | z
        · have := o_lt z; omega
        · rw [n3] at z; omega
      refine ok_bdv (fun d2 e2 => ?_)
      refine ok_biv (fun y ey => ?_)
      have y1 := te_addc (c := 1) (n := 1) rfl x (by omega) (by omega)
      rw [← ey] at y1
      have ed2 : q_I d2 12 18 a0 = q_I δ 12 18 a0 := by rw [e2]; exact ed
      have R : ∀ c, c ∈ [103, 107, 108] → q_R d2 (Ad ad c) = q_R δ (Ad ad c) := by
        intro c hc
        simp only [List.mem_cons, List.not_mem_nil, or_false] at hc
        rcases hc with rfl | rfl | rfl <;> rw [e2, rR_o (ad_ne L (by decide) (by decide) (by decide)), e, rR_o (ad_ne L (by decide) (by decide) (by decide))]
      refine ok_mono (ih (k + 1) y d2 (by omega) (by omega) (by rw [ed2]; exact hI) (by omega)) (fun r hr => ?_)
      obtain ⟨h1, h2, h3⟩ := hr
      rw [R 107 (by decide)] at h2
      rw [R 103 (by decide), R 108 (by decide)] at h3
      exact ⟨h1, h2, h3⟩
set_option maxHeartbeats 4000000 in
theorem fl_image_17 {ad : List Nat} {h : hp} (L : Lay TLx ad h) {N : Nat} (hN : 10000000 ≤ N) {a0 : Nat} (k_a0 : q_K h.1 a0 = 12) {J : Nat} (hJ : J ≤ 2) : ∀ (n : Nat) (k : Nat) (x : Int32) (δ : dp), x.toInt = (k : Int) → k ≤ 8000 → (q_I δ 12 18 a0).toInt = (J : Int) → 8000 - k < n → ok (L_X12_image_17 N h.1 a0 n x δ) (fun r => PI ad a0 J k δ r.2) := by
  obtain ⟨b1, o1, _, n1, _⟩ := gO_12_19 L k_a0
  obtain rfl := gS_12_19 L k_a0 o1
  obtain ⟨b2, o2, _, n2, _⟩ := gO_12_13 L k_a0
  obtain rfl := gS_12_13 L k_a0 o2
  have z0 : (0 : Int32).toInt = 0 := rfl
  have z4 : (8000 : Int32).toInt = 8000 := rfl
  have ne1 : Ad ad 102 ≠ Ad ad 107 := ad_ne L (by decide) (by decide) (by decide)
  have ne2 : Ad ad 103 ≠ Ad ad 107 := ad_ne L (by decide) (by decide) (by decide)
  have ne3 : Ad ad 108 ≠ Ad ad 107 := ad_ne L (by decide) (by decide) (by decide)
  intro n
  induction n with
  | zero => intro k x δ _ _ _ hm; exfalso; omega
  | succ n ih =>
    intro k x δ ex hk hI hm
    unfold L_X12_image_17
    have tx := ti_tn x
    have m1 := te_mulc (c := 8000) (n := 8000) rfl (q_I δ 12 18 a0) (by omega) (by omega)
    have m2 := te_add ((8000 : Int32) * q_I δ 12 18 a0) x (by omega) (by omega)
    have m3 := ti_tn (((8000 : Int32) * q_I δ 12 18 a0) + x)
    refine ok_ite (fun c => ?_) (fun c => ?_)
    · have c1 := o_le c
      refine ok_mono (fl_image_53 L hN k_a0 hJ N 0 0 δ rfl (by omega) hI (by omega)) (fun r hr => ⟨hr.1, fun i => ?_, hr.2.2⟩)
      rw [if_neg (by omega), hr.2.1]
    · have c1 := o_nle c
      refine ok_at o1 (ok_at o2 ?_)
      refine ok_gd (fun z => ?_) ?_
      · rcases z with z | z
        · have := o_lt z; omega
        · rw [n2] at z; omega
      refine ok_gd (fun z => ?_) ?_
      · rcases z with z | z
        · have := o_lt z; omega
        · rw [n1] at z; omega
      refine ok_bdv (fun d e => ?_)
      have ed : q_I d 12 18 a0 = q_I δ 12 18 a0 := by rw [e]; rfl
      refine ok_biv (fun y ey => ?_)
      have y1 := te_addc (c := 1) (n := 1) rfl x (by omega) (by omega)
      rw [← ey] at y1
      refine ok_mono (ih (k + 1) y d (by omega) (by omega) (by rw [ed]; exact hI) (by omega)) (fun r hr => ?_)
      obtain ⟨h1, h2, h3⟩ := hr
      refine ⟨h1, fun i => ?_, fun i => ?_⟩
      · rw [h2, e, rR_o ne1, qR_sR]
        have ix : (((8000 : Int32) * q_I δ 12 18 a0) + x).toNatClampNeg = 8000 * J + k := by omega
        have ik : x.toNatClampNeg = k := by omega
        rw [ix, ik]
        by_cases c2 : i = 8000 * J + k
        · subst c2
          rw [if_neg (by omega), if_pos ⟨rfl, rfl⟩, if_pos (by omega)]
          congr 1; omega
        · by_cases c3 : 8000 * J + (k + 1) ≤ i ∧ i < 8000 * J + 8000
          · rw [if_pos c3, if_pos (by omega)]
          · rw [if_neg c3, if_neg (fun z => c2 z.2), if_neg (by omega)]
      · rw [h3, e, rR_o ne2, rR_o ne3]
/-- rows 102 and 103 behind restore -/
def PR (ad : List Nat) (a0 J k : Nat) (δ r : dp) : Prop := q_I r 12 18 a0 = q_I δ 12 18 a0 ∧ (∀ i, k ≤ i → i < 8000 → q_R r (Ad ad 102) i = q_R δ (Ad ad 107) (8000 * J + i)) ∧ (∀ i, i < k → q_R r (Ad ad 102) i = q_R δ (Ad ad 102) i) ∧ ∀ i, i < 4 → q_R r (Ad ad 103) i = q_R δ (Ad ad 108) (4 * J + i)
set_option maxHeartbeats 4000000 in
theorem fl_restore_119 {ad : List Nat} {h : hp} (L : Lay TLx ad h) {N : Nat} {a0 : Nat} (k_a0 : q_K h.1 a0 = 12) {J : Nat} (hJ : J ≤ 2) : ∀ (n : Nat) (k : Nat) (x : Int32) (δ : dp), x.toInt = (k : Int) → k ≤ 4 → (q_I δ 12 18 a0).toInt = (J : Int) → 4 - k < n → ok (L_X12_restore_119 N h.1 a0 n x δ) (fun r => q_I r.2 12 18 a0 = q_I δ 12 18 a0 ∧ q_R r.2 (Ad ad 102) = q_R δ (Ad ad 102) ∧ (∀ i, k ≤ i → i < 4 → q_R r.2 (Ad ad 103) i = q_R δ (Ad ad 108) (4 * J + i)) ∧ ∀ i, i < k → q_R r.2 (Ad ad 103) i = q_R δ (Ad ad 103) i) := by
  obtain ⟨b1, o1, _, n1⟩ := gO_12_20 L k_a0
  obtain rfl := gS_12_20 L k_a0 o1
  obtain ⟨b2, o2, _, n2⟩ := gO_12_14 L k_a0
  obtain rfl := gS_12_14 L k_a0 o2
  obtain ⟨b3, o3, _, n3⟩ := gO_12_23 L k_a0
  obtain rfl := gS_12_23 L k_a0 o3
  obtain ⟨b4, o4, _, n4⟩ := gO_12_17 L k_a0
  obtain rfl := gS_12_17 L k_a0 o4
  have z0 : (0 : Int32).toInt = 0 := rfl
  have z4 : (4 : Int32).toInt = 4 := rfl
  have ne1 : Ad ad 102 ≠ Ad ad 103 := ad_ne L (by decide) (by decide) (by decide)
  have ne2 : Ad ad 102 ≠ Ad ad 106 := ad_ne L (by decide) (by decide) (by decide)
  have ne3 : Ad ad 108 ≠ Ad ad 106 := ad_ne L (by decide) (by decide) (by decide)
  have ne4 : Ad ad 108 ≠ Ad ad 103 := ad_ne L (by decide) (by decide) (by decide)
  have ne5 : Ad ad 103 ≠ Ad ad 106 := ad_ne L (by decide) (by decide) (by decide)
  intro n
  induction n with
  | zero => intro k x δ _ _ _ hm; exfalso; omega
  | succ n ih =>
    intro k x δ ex hk hI hm
    unfold L_X12_restore_119
    have tx := ti_tn x
    have m1 := te_mulc (c := 4) (n := 4) rfl (q_I δ 12 18 a0) (by omega) (by omega)
    have m2 := te_add ((4 : Int32) * q_I δ 12 18 a0) x (by omega) (by omega)
    have m3 := ti_tn (((4 : Int32) * q_I δ 12 18 a0) + x)
    refine ok_ite (fun c => ?_) (fun c => ?_)
    · have c1 := o_le c
      exact ok_some ⟨rfl, rfl, fun i h1 h2 => by omega, fun i _ => rfl⟩
    · have c1 := o_nle c
      refine ok_at o2 (ok_at o1 ?_)
      refine ok_gd (fun z => ?_) ?_
      · rcases z with z | z
        · have := o_lt z; omega
        · rw [n1] at z; omega
      refine ok_gd (fun z => ?_) ?_
      · rcases z with z | z
        · have := o_lt z; omega
        · rw [n2] at z; omega
      refine ok_bdv (fun d e => ?_)
      have ed : q_I d 12 18 a0 = q_I δ 12 18 a0 := by rw [e]; rfl
      refine ok_at o4 (ok_at o3 ?_)
      rw [ed]
      refine ok_gd (fun z => ?_) ?_
      · rcases z with z | z
        · have := o_lt z; omega
        · rw [n3] at z; omega
      refine ok_gd (fun z => ?_) ?_
      · rcases z with z | z
        · have := o_lt z; omega
        · rw [n4] at z; omega
      refine ok_bdv (fun d2 e2 => ?_)
      refine ok_biv (fun y ey => ?_)
      have y1 := te_addc (c := 1) (n := 1) rfl x (by omega) (by omega)
      rw [← ey] at y1
      have ed2 : q_I d2 12 18 a0 = q_I δ 12 18 a0 := by rw [e2]; exact ed
      have ix : (((4 : Int32) * q_I δ 12 18 a0) + x).toNatClampNeg = 4 * J + k := by omega
      have ik : x.toNatClampNeg = k := by omega
      rw [ix, ik] at e
      have r8 : q_R d2 (Ad ad 108) = q_R δ (Ad ad 108) := by rw [e2, rR_o ne3, e, rR_o ne4]
      have r3 : ∀ i, q_R d2 (Ad ad 103) i = if i = k then q_R δ (Ad ad 108) (4 * J + k) else q_R δ (Ad ad 103) i := by
        intro i
        rw [e2, rR_o ne5, e, qR_sR]
        by_cases c : i = k
        · rw [if_pos ⟨rfl, c⟩, if_pos c]
        · rw [if_neg (fun z => c z.2), if_neg c]
      refine ok_mono (ih (k + 1) y d2 (by omega) (by omega) (by rw [ed2]; exact hI) (by omega)) (fun r hr => ?_)
      obtain ⟨h1, h2, h3, h4⟩ := hr
      refine ⟨h1.trans ed2, ?_, fun i i1 i2 => ?_, fun i i1 => ?_⟩
      · rw [h2, e2, rR_o ne2, e, rR_o ne1]
      · by_cases c : i = k
        · rw [h4 i (by omega), r3, if_pos c, c]
        · rw [h3 i (by omega) i2, r8]
      · rw [h4 i (by omega), r3, if_neg (by omega)]
set_option maxHeartbeats 4000000 in
theorem fl_restore_62 {ad : List Nat} {h : hp} (L : Lay TLx ad h) {N : Nat} (hN : 10000000 ≤ N) {a0 : Nat} (k_a0 : q_K h.1 a0 = 12) {J : Nat} (hJ : J ≤ 2) : ∀ (n : Nat) (k : Nat) (x : Int32) (δ : dp), x.toInt = (k : Int) → k ≤ 4000 → (q_I δ 12 18 a0).toInt = (J : Int) → 4000 - k < n → ok (L_X12_restore_62 N h.1 a0 n x δ) (fun r => q_I r.2 12 18 a0 = q_I δ 12 18 a0 ∧ q_R r.2 (Ad ad 102) = q_R δ (Ad ad 102) ∧ ∀ i, i < 4 → q_R r.2 (Ad ad 103) i = q_R δ (Ad ad 108) (4 * J + i)) := by
  obtain ⟨b1, o1, _, n1, _⟩ := gO_12_21 L k_a0
  obtain rfl := gS_12_21 L k_a0 o1
  obtain ⟨b2, o2, _, n2, _⟩ := gO_12_15 L k_a0
  obtain rfl := gS_12_15 L k_a0 o2
  obtain ⟨b3, o3, _, n3, _⟩ := gO_12_22 L k_a0
  obtain rfl := gS_12_22 L k_a0 o3
  obtain ⟨b4, o4, _, n4, _⟩ := gO_12_16 L k_a0
  obtain rfl := gS_12_16 L k_a0 o4
  have z0 : (0 : Int32).toInt = 0 := rfl
  have z4 : (4000 : Int32).toInt = 4000 := rfl
  intro n
  induction n with
  | zero => intro k x δ _ _ _ hm; exfalso; omega
  | succ n ih =>
    intro k x δ ex hk hI hm
    unfold L_X12_restore_62
    have tx := ti_tn x
    have m1 := te_mulc (c := 4000) (n := 4000) rfl (q_I δ 12 18 a0) (by omega) (by omega)
    have m2 := te_add ((4000 : Int32) * q_I δ 12 18 a0) x (by omega) (by omega)
    have m3 := ti_tn (((4000 : Int32) * q_I δ 12 18 a0) + x)
    refine ok_ite (fun c => ?_) (fun c => ?_)
    · refine ok_mono (fl_restore_119 L k_a0 hJ N 0 0 δ rfl (by omega) hI (by omega)) (fun r hr => ⟨hr.1, hr.2.1, fun i hi => hr.2.2.1 i (Nat.zero_le _) hi⟩)
    · have c1 := o_nle c
      refine ok_at o2 (ok_at o1 ?_)
      refine ok_gd (fun z => ?_) ?_
      · rcases z with z | z
        · have := o_lt z; omega
        · rw [n1] at z; omega
      refine ok_gd (fun z => ?_) ?_
      · rcases z with z | z
        · have := o_lt z; omega
        · rw [n2] at z; omega
      refine ok_bdv (fun d e => ?_)
      have ed : q_I d 12 18 a0 = q_I δ 12 18 a0 := by rw [e]; rfl
      refine ok_at o4 (ok_at o3 ?_)
      rw [ed]
      refine ok_gd (fun z => ?_) ?_
      · rcases z with z | z
        · have := o_lt z; omega
        · rw [n3] at z; omega
      refine ok_gd (fun z => ?_) ?_
      · rcases z with z | z
        · have := o_lt z; omega
        · rw [n4] at z; omega
      refine ok_bdv (fun d2 e2 => ?_)
      refine ok_biv (fun y ey => ?_)
      have y1 := te_addc (c := 1) (n := 1) rfl x (by omega) (by omega)
      rw [← ey] at y1
      have ed2 : q_I d2 12 18 a0 = q_I δ 12 18 a0 := by rw [e2]; exact ed
      have R : ∀ c, c ∈ [102, 108] → q_R d2 (Ad ad c) = q_R δ (Ad ad c) := by
        intro c hc
        simp only [List.mem_cons, List.not_mem_nil, or_false] at hc
        rcases hc with rfl | rfl <;> rw [e2, rR_o (ad_ne L (by decide) (by decide) (by decide)), e, rR_o (ad_ne L (by decide) (by decide) (by decide))]
      refine ok_mono (ih (k + 1) y d2 (by omega) (by omega) (by rw [ed2]; exact hI) (by omega)) (fun r hr => ?_)
      obtain ⟨h1, h2, h3⟩ := hr
      rw [R 102 (by decide)] at h2
      rw [R 108 (by decide)] at h3
      exact ⟨h1.trans ed2, h2, h3⟩
set_option maxHeartbeats 4000000 in
theorem fl_restore_26 {ad : List Nat} {h : hp} (L : Lay TLx ad h) {N : Nat} (hN : 10000000 ≤ N) {a0 : Nat} (k_a0 : q_K h.1 a0 = 12) {J : Nat} (hJ : J ≤ 2) : ∀ (n : Nat) (k : Nat) (x : Int32) (δ : dp), x.toInt = (k : Int) → k ≤ 8000 → (q_I δ 12 18 a0).toInt = (J : Int) → 8000 - k < n → ok (L_X12_restore_26 N h.1 a0 n x δ) (fun r => PR ad a0 J k δ r.2) := by
  obtain ⟨b1, o1, _, n1, _⟩ := gO_12_19 L k_a0
  obtain rfl := gS_12_19 L k_a0 o1
  obtain ⟨b2, o2, _, n2, _⟩ := gO_12_13 L k_a0
  obtain rfl := gS_12_13 L k_a0 o2
  have z0 : (0 : Int32).toInt = 0 := rfl
  have z4 : (8000 : Int32).toInt = 8000 := rfl
  have ne1 : Ad ad 107 ≠ Ad ad 102 := ad_ne L (by decide) (by decide) (by decide)
  have ne2 : Ad ad 108 ≠ Ad ad 102 := ad_ne L (by decide) (by decide) (by decide)
  intro n
  induction n with
  | zero => intro k x δ _ _ _ hm; exfalso; omega
  | succ n ih =>
    intro k x δ ex hk hI hm
    unfold L_X12_restore_26
    have tx := ti_tn x
    have m1 := te_mulc (c := 8000) (n := 8000) rfl (q_I δ 12 18 a0) (by omega) (by omega)
    have m2 := te_add ((8000 : Int32) * q_I δ 12 18 a0) x (by omega) (by omega)
    have m3 := ti_tn (((8000 : Int32) * q_I δ 12 18 a0) + x)
    refine ok_ite (fun c => ?_) (fun c => ?_)
    · have c1 := o_le c
      refine ok_mono (fl_restore_62 L hN k_a0 hJ N 0 0 δ rfl (by omega) hI (by omega)) (fun r hr => ⟨hr.1, fun i h1 h2 => by omega, fun i _ => by rw [hr.2.1], hr.2.2⟩)
    · have c1 := o_nle c
      refine ok_at o2 (ok_at o1 ?_)
      refine ok_gd (fun z => ?_) ?_
      · rcases z with z | z
        · have := o_lt z; omega
        · rw [n1] at z; omega
      refine ok_gd (fun z => ?_) ?_
      · rcases z with z | z
        · have := o_lt z; omega
        · rw [n2] at z; omega
      refine ok_bdv (fun d e => ?_)
      have ed : q_I d 12 18 a0 = q_I δ 12 18 a0 := by rw [e]; rfl
      refine ok_biv (fun y ey => ?_)
      have y1 := te_addc (c := 1) (n := 1) rfl x (by omega) (by omega)
      rw [← ey] at y1
      have ix : (((8000 : Int32) * q_I δ 12 18 a0) + x).toNatClampNeg = 8000 * J + k := by omega
      have ik : x.toNatClampNeg = k := by omega
      rw [ix, ik] at e
      have r7 : q_R d (Ad ad 107) = q_R δ (Ad ad 107) := by rw [e, rR_o ne1]
      have r8 : q_R d (Ad ad 108) = q_R δ (Ad ad 108) := by rw [e, rR_o ne2]
      have r2 : ∀ i, q_R d (Ad ad 102) i = if i = k then q_R δ (Ad ad 107) (8000 * J + k) else q_R δ (Ad ad 102) i := by
        intro i
        rw [e, qR_sR]
        by_cases c : i = k
        · rw [if_pos ⟨rfl, c⟩, if_pos c]
        · rw [if_neg (fun z => c z.2), if_neg c]
      refine ok_mono (ih (k + 1) y d (by omega) (by omega) (by rw [ed]; exact hI) (by omega)) (fun r hr => ?_)
      obtain ⟨h1, h2, h3, h4⟩ := hr
      refine ⟨h1.trans ed, fun i i1 i2 => ?_, fun i i1 => ?_, fun i i1 => ?_⟩
      · by_cases c : i = k
        · rw [h3 i (by omega), r2, if_pos c, c]
        · rw [h2 i (by omega) i2, r7]
      · rw [h3 i (by omega), r2, if_neg (by omega)]
      · rw [h4 i i1, r8]
