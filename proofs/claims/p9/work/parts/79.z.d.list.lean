/-! the reference's TOUCHES by HALVES -/
def DS (R : Nat → Int) (a e : Nat) : Nat → Prop := fun y => ∃ k, a ≤ k ∧ k < e ∧ R k = (y : Int)
def RG (R : Nat → Int) (a e _w : Nat) : Prop := (∀ i j, a ≤ i → i < j → j < e → R i < R j) ∧ ∀ i, a ≤ i → i < e → 0 ≤ R i ∧ True
theorem RG.m {R : Nat → Int} {a e w : Nat} (h : RG R a e w) {i j : Nat} (p : a ≤ i) (q : i ≤ j) (r : j < e) : R i ≤ R j := by
  by_cases z : i = j
  · rw [z]; exact Int.le_refl _
  · have := h.1 i j p (by omega) r; omega
theorem DS_l {R : Nat → Int} {a e w : Nat} (h : RG R a e w) (l : a < e) : Lst (DS R a e) (R a).toNat := ⟨⟨a, by omega, l, by have := (h.2 a (by omega) l).1; omega⟩, fun y ⟨k, p, q, r⟩ => by have := h.m (Nat.le_refl _) p q; omega⟩
theorem DS_g {R : Nat → Int} {a e w : Nat} (h : RG R a e w) (l : a < e) : Gst (DS R a e) (R (e - 1)).toNat := ⟨⟨e - 1, by omega, by omega, by have := (h.2 (e - 1) (by omega) (by omega)).1; omega⟩, fun y ⟨k, p, q, r⟩ => by have := h.m p (by omega : k ≤ e - 1) (by omega); omega⟩
theorem DS_0 {R : Nat → Int} {a e : Nat} (l : e ≤ a) : Emp (DS R a e) := fun y ⟨k, p, q, _⟩ => by omega
theorem DS_n {R : Nat → Int} {a e w : Nat} (h : RG R a e w) (z : Emp (DS R a e)) : e ≤ a := Nat.not_lt.mp (fun l => z _ (DS_l h l).1)
theorem DS_I {R : Nat → Int} {a e w : Nat} (h : RG R a e w) (l : a < e) : Ins (DS R a e) (R a).toNat (R (e - 1)).toNat = DS R (a + 1) (e - 1) := by
  funext y
  refine propext ⟨fun ⟨⟨k, p, q, r⟩, k1, k2⟩ => ⟨k, ?_, ?_, r⟩, fun ⟨k, p, q, r⟩ => ⟨⟨k, by omega, by omega, r⟩, ?_, ?_⟩⟩
  · refine Nat.not_lt.mp (fun z => ?_)
    have : k = a := by omega
    rw [this] at r
    omega
  · refine Nat.not_le.mp (fun z => ?_)
    have : k = e - 1 := by omega
    rw [this] at r
    omega
  · have h1 := h.1 a k (Nat.le_refl _) (by omega) (by omega)
    have h2 := (h.2 a (Nat.le_refl _) l).1
    omega
  · have h1 := h.1 k (e - 1) (by omega) (by omega) (by omega)
    have h2 := (h.2 k (by omega) (by omega)).1
    omega
theorem RG.s {R : Nat → Int} {a e w a' e' : Nat} (h : RG R a e w) (p : a ≤ a') (q : e' ≤ e) : RG R a' e' w := ⟨fun i j x y z => h.1 i j (by omega) y (by omega), fun i x y => h.2 i (by omega) (by omega)⟩
theorem DS_push {R R1 : Nat → Int} {T0 T V : Nat} (hT : T0 ≤ T) (h1 : R1 T = (V : Int)) (h2 : ∀ i, T0 ≤ i → i < T → R1 i = R i) (v : Nat) : DS R1 T0 (T + 1) v ↔ DS R T0 T v ∨ v = V := by
  constructor
  · rintro ⟨k, p, q, r⟩
    by_cases z : k = T
    · rw [z, h1] at r; exact Or.inr (by omega)
    · exact Or.inl ⟨k, p, by omega, by rw [← h2 k p (by omega)]; exact r⟩
  · rintro (⟨k, p, q, r⟩ | z)
    · exact ⟨k, p, by omega, by rw [h2 k p q]; exact r⟩
    · exact ⟨T, hT, by omega, by rw [h1, z]⟩
theorem DS_c {R R1 : Nat → Int} {a e : Nat} (h : ∀ i, a ≤ i → i < e → R1 i = R i) : DS R1 a e = DS R a e := by
  funext y
  exact propext ⟨fun ⟨k, p, q, r⟩ => ⟨k, p, q, by rw [← h k p q]; exact r⟩, fun ⟨k, p, q, r⟩ => ⟨k, p, q, by rw [h k p q]; exact r⟩⟩
theorem RG_c {R R1 : Nat → Int} {a e w : Nat} (h : ∀ i, a ≤ i → i < e → R1 i = R i) (G : RG R a e w) : RG R1 a e w := ⟨fun i j p q r => by rw [h i p (by omega), h j (by omega) r]; exact G.1 i j p q r, fun i p q => by rw [h i p q]; exact G.2 i p q⟩
/-- rows but laid untouched, and laid below T0 -/
def RFm (b T0 : Nat) (δ d : dp) : Prop := (∀ b', b' ≠ b → q_R d b' = q_R δ b') ∧ ∀ i, i < T0 → mR d b i = mR δ b i
theorem RFm.r {b T0 : Nat} {δ : dp} : RFm b T0 δ δ := ⟨fun _ _ => rfl, fun _ _ => rfl⟩
theorem RFm.t {b T0 T1 : Nat} {δ d e : dp} (h : RFm b T0 δ d) (k : RFm b T1 d e) (l : T0 ≤ T1) : RFm b T0 δ e := ⟨fun b' n => (k.1 b' n).trans (h.1 b' n), fun i hi => (k.2 i (by omega)).trans (h.2 i hi)⟩
theorem RFm.push {b T0 T : Nat} {δ d e : dp} {v : Int32} (h : RFm b T0 δ d) (l : T0 ≤ T) (e1 : e = s_R d b T v) : RFm b T0 δ e := ⟨fun b' n => by rw [e1, rR_o n]; exact h.1 b' n, fun i hi => by
  rw [← h.2 i hi, e1]
  show (q_R (s_R d b T v) b i).toInt = _
  rw [qR_sR, if_neg (fun z => by omega)]
  rfl⟩
section
variable {N : Nat} {g : gp} {a0 b : Nat}
theorem r_lower {x1 : Int32} {δ : dp} {w : Nat} (hw : x1.toInt = (w : Int)) (ww : w ≤ 16) : hs (D_X12_lowerBits N g a0 x1 δ) (fun r => r.2 = δ ∧ r.1.toInt = ((lwf (q_I δ 12 12 a0) w : Nat) : Int)) := by
  have z0 : (0 : Int32).toInt = 0 := rfl
  have t2 := ti_div (c := 2) (n := 2) rfl (by decide) x1 (by omega)
  have t3 := te_mulr (c := 2) (n := 2) rfl (x1 / 2) (by omega) (by omega)
  have t4 := te_sub x1 (x1 / 2 * 2) (by omega) (by omega)
  have t5 := te_addc (c := 1) (n := 1) rfl (x1 / 2) (by omega) (by omega)
  unfold D_X12_lowerBits J_X12_lowerBits_30 lwf
  refine hs_ite (fun c => hs_some ⟨rfl, ?_⟩) (fun c => hs_ite (fun c2 => hs_some ⟨rfl, ?_⟩) (fun c2 => hs_some ⟨rfl, ?_⟩))
  · have c1 := o_eq c
    show (x1 / 2).toInt = _
    split <;> omega
  · have c1 := o_ne c
    rw [if_pos c2]
    show (x1 / 2 + 1).toInt = _
    omega
  · rw [if_neg c2]
    show (x1 / 2).toInt = _
    omega
theorem r_listsL (hO : q_O g 12 35 a0 = some b) (hN : q_N g b = 14000) {a e l w T0 : Nat} {x1 x2 x3 : Int32} {δ : dp} (h2 : x2.toInt = (e : Int)) (h3 : x3.toInt = (l : Int)) (l16 : l ≤ 16) (ae : a < e) (eT : e ≤ T0) (T14 : T0 ≤ 14000) (G : RG (mR δ b) a e w) : ∀ (m k T : Nat) (x4 x5 : Int32) (d : dp), x5.toInt = (k : Int) → x4.toInt = (T0 : Int) → (q_I d 12 36 a0).toInt = (T : Int) → a + 1 ≤ k → (k ≤ e - 1 ∨ k = a + 1) → T0 ≤ T → T ≤ 14000 → kp [(12, 36)] δ d → RFm b T0 δ d → (∀ i j, T0 ≤ i → i < j → j < T → mR d b i < mR d b j) → (∀ v : Nat, DS (mR d b) T0 T v ↔ ∃ i, a + 1 ≤ i ∧ i < k ∧ (mR δ b i).toNat / 2 ^ l = v) → (∀ i, T0 ≤ i → i < T → 0 ≤ mR d b i) → hs (L_X12_lists_11 N g a0 x1 x2 x3 m x4 x5 d) (fun r => r.1.toInt = (T0 : Int) ∧ kp [(12, 36)] δ r.2 ∧ RFm b T0 δ r.2 ∧ ∃ T' : Nat, (q_I r.2 12 36 a0).toInt = (T' : Int) ∧ T0 ≤ T' ∧ T' ≤ 14000 ∧ (∀ i j, T0 ≤ i → i < j → j < T' → mR r.2 b i < mR r.2 b j) ∧ (∀ i, T0 ≤ i → i < T' → 0 ≤ mR r.2 b i) ∧ DS (mR r.2 b) T0 T' = Lis (DS (mR δ b) (a + 1) (e - 1)) (2 ^ l)) := by
  have z0 : (0 : Int32).toInt = 0 := rfl
  have te := te_subc (c := 1) (n := 1) rfl x2 (by omega) (by omega)
  intro m
  induction m with
  | zero => intro k T x4 x5 d _ _ _ _ _ _ _ _ _ _ _ _; exact hs_none
  | succ m ih =>
    intro k T x4 x5 d h5 h4 hT ka kk TT0 TT1 kpd F st se nn
    unfold L_X12_lists_11 J_X12_lists_58 J_X12_lists_79
    refine hs_ite (fun c => ?_) (fun c => ?_)
    · have c1 := o_le c
      refine hs_some ⟨h4, kpd, F, T, hT, TT0, TT1, st, nn, ?_⟩
      funext v
      refine propext ((se v).trans ⟨fun ⟨i, p, q, r⟩ => ⟨(mR δ b i).toNat, ⟨i, p, by omega, by have := (G.2 i (by omega) (by omega)).1; omega⟩, r⟩, fun ⟨y, ⟨i, p, q, r⟩, s⟩ => ⟨i, p, by omega, by rw [r]; exact s⟩⟩)
    · have c1 := o_nle c
      have ke : k < e - 1 := by omega
      refine hs_at hO (hs_gd (fun _ => ?_))
      have ix : x5.toNatClampNeg = k := by have := ti_tn x5; omega
      rw [ix]
      have eR : mR d b k = mR δ b k := F.2 k (by omega)
      have Gk := G.2 k (by omega) (by omega)
      refine hs_biv (fun v ev => ?_)
      have hv : v.toInt = (((mR δ b k).toNat / 2 ^ l : Nat) : Int) := by
        rw [ev]
        exact sr_i (A := (mR δ b k).toNat) (by show mR d b k = _; omega) h3 (by omega)
      clear ev
      have t5 := te_addc (c := 1) (n := 1) rfl x5 (by omega) (by omega)
      -- one more, or none
      have le : ∀ i, T0 ≤ i → i < T → mR d b i ≤ (((mR δ b k).toNat / 2 ^ l : Nat) : Int) := fun i p q => by
        have n0 := nn i p q
        obtain ⟨j, j1, j2, j3⟩ := (se (mR d b i).toNat).mp ⟨i, p, q, by omega⟩
        have h1 := G.m (i := j) (j := k) (by omega) (by omega) (by omega)
        have := Nat.div_le_div_right (c := 2 ^ l) (show (mR δ b j).toNat ≤ (mR δ b k).toNat by omega)
        omega
      have push : (∀ i, T0 ≤ i → i < T → mR d b i < (((mR δ b k).toNat / 2 ^ l : Nat) : Int)) → hs ((q_O g 12 35 a0).bind fun b_11 => if (q_I d 12 36 a0) < 0 ∨ q_N g b_11 ≤ (q_I d 12 36 a0).toNatClampNeg then none else bd (s_R d b_11 (q_I d 12 36 a0).toNatClampNeg v) fun δ_13 => bd (s_I δ_13 12 36 a0 ((q_I δ_13 12 36 a0) + (1 : Int32))) fun δ_15 => bi (x5 + 1) fun x_17 => L_X12_lists_11 N g a0 x1 x2 x3 m x4 x_17 δ_15) (fun r => r.1.toInt = (T0 : Int) ∧ kp [(12, 36)] δ r.2 ∧ RFm b T0 δ r.2 ∧ ∃ T' : Nat, (q_I r.2 12 36 a0).toInt = (T' : Int) ∧ T0 ≤ T' ∧ T' ≤ 14000 ∧ (∀ i j, T0 ≤ i → i < j → j < T' → mR r.2 b i < mR r.2 b j) ∧ (∀ i, T0 ≤ i → i < T' → 0 ≤ mR r.2 b i) ∧ DS (mR r.2 b) T0 T' = Lis (DS (mR δ b) (a + 1) (e - 1)) (2 ^ l)) := fun lt => by
        refine hs_at hO (hs_gd (fun gd => hs_bdv (fun d1 e1 => hs_bdv (fun d2 e2 => hs_biv (fun y ey => ?_)))))
        have iT : (q_I d 12 36 a0).toNatClampNeg = T := by have := ti_tn (q_I d 12 36 a0); omega
        rw [iT] at e1 gd
        rw [hN] at gd
        have q1 : q_I d1 12 36 a0 = q_I d 12 36 a0 := by rw [e1]; rfl
        have t7 := te_addc (c := 1) (n := 1) rfl (q_I d 12 36 a0) (by omega) (by omega)
        rw [← ey] at t5
        have w2 : q_R d2 = q_R d1 := by rw [e2]; rfl
        have F1 := F.push TT0 e1
        have r2 : ∀ i, mR d2 b i = if i = T then (((mR δ b k).toNat / 2 ^ l : Nat) : Int) else mR d b i := fun i => by
          rw [mR_w w2]
          show (q_R d1 b i).toInt = _
          rw [e1, qR_sR]
          by_cases z : i = T
          · rw [if_pos ⟨rfl, z⟩, if_pos z]; exact hv
          · rw [if_neg (fun y => z y.2), if_neg z]; rfl
        have rT : mR d2 b T = (((mR δ b k).toNat / 2 ^ l : Nat) : Int) := by rw [r2, if_pos rfl]
        have ro : ∀ i, T0 ≤ i → i < T → mR d2 b i = mR d b i := fun i _ q => by rw [r2, if_neg (by omega)]
        refine ih (k + 1) (T + 1) x4 y d2 (by omega) h4 (by rw [e2, rI_s, q1]; omega) (by omega) (Or.inl (by omega)) (by omega) (by have := gd; omega) (kp_w (by decide) (kp_I (kp_N kpd (by rw [e1]; rfl)) e2)) ⟨fun b' n => by rw [w2]; exact F1.1 b' n, fun i hi => by rw [mR_w w2]; exact F1.2 i hi⟩ (fun i j p q r => ?_) (fun u => ?_) (fun i p q => ?_)
        · by_cases z : j = T
          · rw [z, rT, ro i p (by omega)]; exact lt i p (by omega)
          · rw [ro i p (by omega), ro j (by omega) (by omega)]; exact st i j p q (by omega)
        · rw [DS_push TT0 rT ro u, se u]
          constructor
          · rintro (⟨i, p, q, r⟩ | z)
            · exact ⟨i, p, by omega, r⟩
            · exact ⟨k, ka, by omega, z.symm⟩
          · rintro ⟨i, p, q, r⟩
            by_cases z : i = k
            · rw [z] at r; exact Or.inr r.symm
            · exact Or.inl ⟨i, p, by omega, r⟩
        · by_cases z : i = T
          · rw [z, rT]; exact Int.natCast_nonneg _
          · rw [ro i p (by omega)]; exact nn i p (by omega)
      refine hs_ite (fun c2 => push (fun i p q => by have := o_le c2; omega)) (fun c2 => ?_)
      have c3 := o_nle c2
      have tT := te_subc (c := 1) (n := 1) rfl (q_I d 12 36 a0) (by omega) (by omega)
      refine hs_at hO (hs_gd (fun _ => ?_))
      have iT : (q_I d 12 36 a0 - 1).toNatClampNeg = T - 1 := by have := ti_tn (q_I d 12 36 a0 - 1); omega
      rw [iT]
      clear tT iT
      have vT : (q_R d b (T - 1)).toInt = mR d b (T - 1) := rfl
      refine hs_ite (fun c4 => ?_) (fun c4 => push (fun i p q => ?_))
      · have c5 := o_eq c4
        refine hs_biv (fun y ey => ?_)
        rw [← ey] at t5
        refine ih (k + 1) T x4 y d (by omega) h4 hT (by omega) (Or.inl (by omega)) TT0 TT1 kpd F st (fun u => ?_) nn
        rw [se u]
        constructor
        · rintro ⟨i, p, q, r⟩
          exact ⟨i, p, by omega, r⟩
        · rintro ⟨i, p, q, r⟩
          by_cases z : i = k
          · rw [z] at r
            exact (se u).mp ⟨T - 1, by omega, by omega, by omega⟩
          · exact ⟨i, p, by omega, r⟩
      · have c5 := o_ne c4
        have l1 := le (T - 1) (by omega) (by omega)
        by_cases z : i = T - 1
        · rw [z]; omega
        · have := st i (T - 1) p (by omega) (by omega); omega
theorem r_lists (hO : q_O g 12 35 a0 = some b) (hN : q_N g b = 14000) {a e l w : Nat} {x1 x2 x3 : Int32} {δ : dp} (h1 : x1.toInt = (a : Int)) (h2 : x2.toInt = (e : Int)) (h3 : x3.toInt = (l : Int)) (hT : (q_I δ 12 36 a0).toInt = (e : Int)) (lw : l ≤ w) (w16 : w ≤ 16) (ae : a < e) (e14 : e ≤ 14000) (G : RG (mR δ b) a e w) : hs (D_X12_lists N g a0 x1 x2 x3 δ) (fun r => r.1.toInt = (e : Int) ∧ kp [(12, 36)] δ r.2 ∧ RFm b e δ r.2 ∧ ∃ T' : Nat, (q_I r.2 12 36 a0).toInt = (T' : Int) ∧ e ≤ T' ∧ T' ≤ 14000 ∧ RG (mR r.2 b) e T' (w - l) ∧ DS (mR r.2 b) e T' = Lis (DS (mR δ b) (a + 1) (e - 1)) (2 ^ l)) := by
  have t1 := te_addc (c := 1) (n := 1) rfl x1 (by omega) (by omega)
  unfold D_X12_lists
  refine hs_biv (fun y ey => hs_biv (fun z ez => ?_))
  rw [← ez] at t1
  refine hs_mono (r_listsL hO hN h2 h3 (by omega) ae (Nat.le_refl _) e14 G N (a + 1) e y z δ (by omega) (by rw [ey]; exact hT) hT (Nat.le_refl _) (Or.inr rfl) (Nat.le_refl _) e14 (kp_w (by decide) kp_r) RFm.r (fun i j p q r => by omega) (fun v => ⟨fun ⟨k, p, q, _⟩ => by omega, fun ⟨i, p, q, _⟩ => by omega⟩) (fun i p q => by omega)) (fun r hr => ?_)
  obtain ⟨g1, g2, g3, T', g4, g5, g6, g7, g8, g9⟩ := hr
  exact ⟨g1, g2, g3, T', g4, g5, g6, ⟨g7, fun i p q => ⟨g8 i p q, trivial⟩⟩, g9⟩
theorem r_roomsL (hO : q_O g 12 35 a0 = some b) (hN : q_N g b = 14000) {a e l w T0 u : Nat} {x1 x2 x3 x4 : Int32} {δ : dp} (h2 : x2.toInt = (e : Int)) (h3 : x3.toInt = (l : Int)) (h4 : x4.toInt = (u : Int)) (l16 : l ≤ 16) (ae : a < e) (eT : e ≤ T0) (T14 : T0 ≤ 14000) (G : RG (mR δ b) a e w) : ∀ (m k T : Nat) (x5 x6 : Int32) (d : dp), x6.toInt = (k : Int) → x5.toInt = (T0 : Int) → (q_I d 12 36 a0).toInt = (T : Int) → a + 1 ≤ k → (k ≤ e - 1 ∨ k = a + 1) → T0 ≤ T → T ≤ 14000 → kp [(12, 36)] δ d → RFm b T0 δ d → (∀ i j, T0 ≤ i → i < j → j < T → mR d b i < mR d b j) → (∀ v : Nat, DS (mR d b) T0 T v ↔ ∃ i, a + 1 ≤ i ∧ i < k ∧ (mR δ b i).toNat / 2 ^ l = u ∧ (mR δ b i).toNat % 2 ^ l = v) → (∀ i, T0 ≤ i → i < T → 0 ≤ mR d b i) → hs (L_X12_rooms_11 N g a0 x1 x2 x3 x4 m x5 x6 d) (fun r => r.1.toInt = (T0 : Int) ∧ kp [(12, 36)] δ r.2 ∧ RFm b T0 δ r.2 ∧ ∃ T' : Nat, (q_I r.2 12 36 a0).toInt = (T' : Int) ∧ T0 ≤ T' ∧ T' ≤ 14000 ∧ (∀ i j, T0 ≤ i → i < j → j < T' → mR r.2 b i < mR r.2 b j) ∧ (∀ i, T0 ≤ i → i < T' → 0 ≤ mR r.2 b i) ∧ DS (mR r.2 b) T0 T' = Roo (DS (mR δ b) (a + 1) (e - 1)) (2 ^ l) u) := by
  have z0 : (0 : Int32).toInt = 0 := rfl
  have te := te_subc (c := 1) (n := 1) rfl x2 (by omega) (by omega)
  intro m
  induction m with
  | zero => intro k T x5 x6 d _ _ _ _ _ _ _ _ _ _ _ _; exact hs_none
  | succ m ih =>
    intro k T x5 x6 d h6 h5 hT ka kk TT0 TT1 kpd F st se nn
    unfold L_X12_rooms_11 J_X12_rooms_68
    refine hs_ite (fun c => ?_) (fun c => ?_)
    · have c1 := o_le c
      refine hs_some ⟨h5, kpd, F, T, hT, TT0, TT1, st, nn, ?_⟩
      funext v
      refine propext ((se v).trans ⟨fun ⟨i, p, q, r, s⟩ => ⟨(mR δ b i).toNat, ⟨i, p, by omega, by have := (G.2 i (by omega) (by omega)).1; omega⟩, r, s⟩, fun ⟨y, ⟨i, p, q, r⟩, s, t⟩ => ⟨i, p, by omega, by rw [r]; exact s, by rw [r]; exact t⟩⟩)
    · have c1 := o_nle c
      have ke : k < e - 1 := by omega
      refine hs_at hO (hs_gd (fun _ => ?_))
      have ix : x6.toNatClampNeg = k := by have := ti_tn x6; omega
      rw [ix]
      have eR : mR d b k = mR δ b k := F.2 k (by omega)
      have Gk := G.2 k (by omega) (by omega)
      have ek : (q_R d b k).toInt = (((mR δ b k).toNat : Nat) : Int) := by show mR d b k = _; omega
      have hv := sr_i ek h3 (by omega)
      have t6 := te_addc (c := 1) (n := 1) rfl x6 (by omega) (by omega)
      refine hs_ite (fun c2 => ?_) (fun c2 => ?_)
      · have c3 := o_eq c2
        have uk : (mR δ b k).toNat / 2 ^ l = u := by omega
        refine hs_at hO (hs_at hO (hs_gd (fun _ => hs_gd (fun gd => hs_bdv (fun d1 e1 => hs_bdv (fun d2 e2 => hs_biv (fun y ey => ?_)))))))
        have iT : (q_I d 12 36 a0).toNatClampNeg = T := by have := ti_tn (q_I d 12 36 a0); omega
        rw [iT] at e1 gd
        rw [hN] at gd
        have hm := ms_i ek h3 l16
        have q1 : q_I d1 12 36 a0 = q_I d 12 36 a0 := by rw [e1]; rfl
        have t7 := te_addc (c := 1) (n := 1) rfl (q_I d 12 36 a0) (by omega) (by omega)
        rw [← ey] at t6
        have w2 : q_R d2 = q_R d1 := by rw [e2]; rfl
        have F1 := F.push TT0 e1
        have r2 : ∀ i, mR d2 b i = if i = T then (((mR δ b k).toNat % 2 ^ l : Nat) : Int) else mR d b i := fun i => by
          rw [mR_w w2]
          show (q_R d1 b i).toInt = _
          rw [e1, qR_sR]
          by_cases z : i = T
          · rw [if_pos ⟨rfl, z⟩, if_pos z]; exact hm
          · rw [if_neg (fun y => z y.2), if_neg z]; rfl
        have rT : mR d2 b T = (((mR δ b k).toNat % 2 ^ l : Nat) : Int) := by rw [r2, if_pos rfl]
        have ro : ∀ i, T0 ≤ i → i < T → mR d2 b i = mR d b i := fun i _ q => by rw [r2, if_neg (by omega)]
        have lt : ∀ i, T0 ≤ i → i < T → mR d b i < (((mR δ b k).toNat % 2 ^ l : Nat) : Int) := fun i p q => by
          have n0 := nn i p q
          obtain ⟨j, j1, j2, j3, j4⟩ := (se (mR d b i).toNat).mp ⟨i, p, q, by omega⟩
          have h1 := G.1 j k (by omega) j2 (by omega)
          have h0 := (G.2 j (by omega) (by omega)).1
          have := (dq_lt (j3.trans uk.symm)).mpr (show (mR δ b j).toNat < (mR δ b k).toNat by omega)
          omega
        refine ih (k + 1) (T + 1) x5 y d2 (by omega) h5 (by rw [e2, rI_s, q1]; omega) (by omega) (Or.inl (by omega)) (by omega) (by have := gd; omega) (kp_w (by decide) (kp_I (kp_N kpd (by rw [e1]; rfl)) e2)) ⟨fun b' n => by rw [w2]; exact F1.1 b' n, fun i hi => by rw [mR_w w2]; exact F1.2 i hi⟩ (fun i j p q r => ?_) (fun v => ?_) (fun i p q => ?_)
        · by_cases z : j = T
          · rw [z, rT, ro i p (by omega)]; exact lt i p (by omega)
          · rw [ro i p (by omega), ro j (by omega) (by omega)]; exact st i j p q (by omega)
        · rw [DS_push TT0 rT ro v, se v]
          constructor
          · rintro (⟨i, p, q, r, s⟩ | z)
            · exact ⟨i, p, by omega, r, s⟩
            · exact ⟨k, ka, by omega, uk, z.symm⟩
          · rintro ⟨i, p, q, r, s⟩
            by_cases z : i = k
            · rw [z] at s; exact Or.inr s.symm
            · exact Or.inl ⟨i, p, by omega, r, s⟩
        · by_cases z : i = T
          · rw [z, rT]; omega
          · rw [ro i p (by omega)]; exact nn i p (by omega)
      · have c3 := o_ne c2
        refine hs_biv (fun y ey => ?_)
        rw [← ey] at t6
        refine ih (k + 1) T x5 y d (by omega) h5 hT (by omega) (Or.inl (by omega)) TT0 TT1 kpd F st (fun v => ?_) nn
        rw [se v]
        constructor
        · rintro ⟨i, p, q, r, s⟩
          exact ⟨i, p, by omega, r, s⟩
        · rintro ⟨i, p, q, r, s⟩
          by_cases z : i = k
          · rw [z] at r
            exfalso; omega
          · exact ⟨i, p, by omega, r, s⟩
theorem r_rooms (hO : q_O g 12 35 a0 = some b) (hN : q_N g b = 14000) {a e l w u : Nat} {x1 x2 x3 x4 : Int32} {δ : dp} (h1 : x1.toInt = (a : Int)) (h2 : x2.toInt = (e : Int)) (h3 : x3.toInt = (l : Int)) (h4 : x4.toInt = (u : Int)) (hT : (q_I δ 12 36 a0).toInt = (e : Int)) (l16 : l ≤ 16) (ae : a < e) (e14 : e ≤ 14000) (G : RG (mR δ b) a e w) : hs (D_X12_rooms N g a0 x1 x2 x3 x4 δ) (fun r => r.1.toInt = (e : Int) ∧ kp [(12, 36)] δ r.2 ∧ RFm b e δ r.2 ∧ ∃ T' : Nat, (q_I r.2 12 36 a0).toInt = (T' : Int) ∧ e ≤ T' ∧ T' ≤ 14000 ∧ RG (mR r.2 b) e T' l ∧ DS (mR r.2 b) e T' = Roo (DS (mR δ b) (a + 1) (e - 1)) (2 ^ l) u) := by
  have t1 := te_addc (c := 1) (n := 1) rfl x1 (by omega) (by omega)
  unfold D_X12_rooms
  refine hs_biv (fun y ey => hs_biv (fun z ez => ?_))
  rw [← ez] at t1
  refine hs_mono (r_roomsL hO hN h2 h3 h4 l16 ae (Nat.le_refl _) e14 G N (a + 1) e y z δ (by omega) (by rw [ey]; exact hT) hT (Nat.le_refl _) (Or.inr rfl) (Nat.le_refl _) e14 (kp_w (by decide) kp_r) RFm.r (fun i j p q r => by omega) (fun v => ⟨fun ⟨k, p, q, _⟩ => by omega, fun ⟨i, p, q, _⟩ => by omega⟩) (fun i p q => by omega)) (fun r hr => ?_)
  obtain ⟨g1, g2, g3, T', g4, g5, g6, g7, g8, g9⟩ := hr
  exact ⟨g1, g2, g3, T', g4, g5, g6, ⟨g7, fun i p q => ⟨g8 i p q, trivial⟩⟩, g9⟩
/-- how many are such: none, one, more -/
def CN (P : Nat → Prop) (lo hi : Nat) (c : Int) : Prop := (c = 0 ∧ ∀ i, lo ≤ i → i < hi → ¬ P i) ∨ (c = 1 ∧ ∃ i, lo ≤ i ∧ i < hi ∧ P i ∧ ∀ j, lo ≤ j → j < hi → P j → j = i) ∨ (2 ≤ c ∧ ∃ i j, lo ≤ i ∧ i < j ∧ j < hi ∧ P i ∧ P j)
theorem CN_y {P : Nat → Prop} {lo k : Nat} {c : Int} (h : CN P lo k c) (lk : lo ≤ k) (p : P k) : CN P lo (k + 1) (c + 1) := by
  rcases h with ⟨h1, h2⟩ | ⟨h1, i, a, b, d, _⟩ | ⟨h1, i, j, a, b, d, e⟩
  · refine Or.inr (Or.inl ⟨by omega, k, lk, by omega, p, fun j x y z => ?_⟩)
    by_cases w : j = k
    · exact w
    · exact absurd z (h2 j x (by omega))
  · exact Or.inr (Or.inr ⟨by omega, i, k, a, b, by omega, d, p⟩)
  · exact Or.inr (Or.inr ⟨by omega, i, j, a, b, by omega, e⟩)
theorem CN_n {P : Nat → Prop} {lo k : Nat} {c : Int} (h : CN P lo k c) (p : ¬ P k) : CN P lo (k + 1) c := by
  rcases h with ⟨h1, h2⟩ | ⟨h1, i, a, b, d, h2⟩ | ⟨h1, i, j, a, b, d, e⟩
  · refine Or.inl ⟨h1, fun i x y z => ?_⟩
    by_cases w : i = k
    · rw [w] at z; exact p z
    · exact h2 i x (by omega) z
  · refine Or.inr (Or.inl ⟨h1, i, a, by omega, d, fun j x y z => ?_⟩)
    by_cases w : j = k
    · rw [w] at z; exact absurd z p
    · exact h2 j x (by omega) z
  · exact Or.inr (Or.inr ⟨h1, i, j, a, b, by omega, e⟩)
theorem r_manyL (hO : q_O g 12 35 a0 = some b) {a e l y w : Nat} {x1 x2 x3 x4 : Int32} {δ : dp} (h1 : x1.toInt = (y : Int)) (h4 : x4.toInt = (e : Int)) (l16 : l ≤ 16) (ae : a < e) (e14 : e ≤ 14000) (G : RG (mR δ b) a e w) : ∀ (m k : Nat) (x5 x6 x7 : Int32), x5.toInt = (l : Int) → x7.toInt = (k : Int) → a + 1 ≤ k → (k ≤ e - 1 ∨ k = a + 1) → 0 ≤ x6.toInt → x6.toInt ≤ (k : Int) → CN (fun i => (mR δ b i).toNat / 2 ^ l = y / 2 ^ l) (a + 1) k x6.toInt → hs (L_X12_roomMany_15 N g a0 x1 x2 x3 x4 m x5 x6 x7 δ) (fun r => r.2 = δ ∧ CN (fun i => (mR δ b i).toNat / 2 ^ l = y / 2 ^ l) (a + 1) (e - 1) r.1.toInt) := by
  have z0 : (0 : Int32).toInt = 0 := rfl
  have z1 : (1 : Int32).toInt = 1 := rfl
  have te := te_subc (c := 1) (n := 1) rfl x4 (by omega) (by omega)
  intro m
  induction m with
  | zero => intro k x5 x6 x7 _ _ _ _ _ _ _; exact hs_none
  | succ m ih =>
    intro k x5 x6 x7 h5 h7 ka kk y0 y1 C
    unfold L_X12_roomMany_15 J_X12_roomMany_48
    refine hs_ite (fun c => ?_) (fun c => ?_)
    · have c1 := o_le c
      refine hs_some ⟨rfl, ?_⟩
      rcases kk with kk | kk
      · rw [show e - 1 = k by omega]; exact C
      · refine Or.inl ⟨?_, fun i p q => by omega⟩
        rcases C with ⟨z, _⟩ | ⟨_, i, p, q, _⟩ | ⟨_, i, j, p, q, r, _⟩
        · exact z
        · omega
        · omega
    · have c1 := o_nle c
      refine hs_at hO (hs_gd (fun _ => ?_))
      have ix : x7.toNatClampNeg = k := by have := ti_tn x7; omega
      rw [ix]
      have Gk := G.2 k (by omega) (by omega)
      have ek : (q_R δ b k).toInt = (((mR δ b k).toNat : Nat) : Int) := by show mR δ b k = _; omega
      have s1 := sr_i ek h5 (by omega)
      have s2 := sr_i h1 h5 (by omega)
      have t7 := te_addc (c := 1) (n := 1) rfl x7 (by omega) (by omega)
      refine hs_ite (fun c2 => ?_) (fun c2 => ?_)
      · have c3 := o_eq c2
        refine hs_biv (fun u eu => hs_biv (fun v ev => ?_))
        have t6 := te_addc (c := 1) (n := 1) rfl x6 (by omega) (by omega)
        rw [← eu] at t6
        rw [← ev] at t7
        refine ih (k + 1) x5 u v h5 (by omega) (by omega) (Or.inl (by omega)) (by omega) (by omega) ?_
        rw [t6.1]
        exact CN_y C ka (by show (mR δ b k).toNat / 2 ^ l = y / 2 ^ l; omega)
      · have c3 := o_ne c2
        refine hs_biv (fun u eu => hs_biv (fun v ev => ?_))
        have eu' : u = x6 := by rw [eu, Int32.add_zero]
        rw [← ev] at t7
        rw [eu']
        exact ih (k + 1) x5 x6 v h5 (by omega) (by omega) (Or.inl (by omega)) y0 (by omega) (CN_n C (by show ¬ (mR δ b k).toNat / 2 ^ l = y / 2 ^ l; omega))
theorem r_many (hO : q_O g 12 35 a0 = some b) {a e y w : Nat} {x1 x2 x3 x4 : Int32} {δ : dp} (h1 : x1.toInt = (y : Int)) (h2 : x2.toInt = (w : Int)) (h3 : x3.toInt = (a : Int)) (h4 : x4.toInt = (e : Int)) (w2 : 2 ≤ w) (w16 : w ≤ 16) (ae : a < e) (e14 : e ≤ 14000) (G : RG (mR δ b) a e w) : hs (D_X12_roomMany N g a0 x1 x2 x3 x4 δ) (fun r => r.2 = δ ∧ CN (fun i => (mR δ b i).toNat / 2 ^ lwf (q_I δ 12 12 a0) w = y / 2 ^ lwf (q_I δ 12 12 a0) w) (a + 1) (e - 1) r.1.toInt) := by
  have lb := lwf_b (m := q_I δ 12 12 a0) w2
  have t3 := te_addc (c := 1) (n := 1) rfl x3 (by omega) (by omega)
  unfold D_X12_roomMany
  refine hs_bind (r_lower h2 w16) (fun r1 hr1 => ?_)
  obtain ⟨e1, v1⟩ := hr1
  rw [e1]
  refine hs_biv (fun z ez => ?_)
  rw [← ez] at t3
  exact r_manyL hO h1 h4 (by omega) ae e14 G N (a + 1) r1.1 0 z v1 (by omega) (Nat.le_refl _) (Or.inr rfl) (by decide) (by show (0 : Int) ≤ _; omega) (Or.inl ⟨rfl, fun i p q => by omega⟩)
theorem r_insideL (hO : q_O g 12 35 a0 = some b) {a e y : Nat} {x1 x2 x3 : Int32} {δ : dp} (h1 : x1.toInt = (y : Int)) (h3 : x3.toInt = (e : Int)) (ae : a < e) (e14 : e ≤ 14000) : ∀ (m k : Nat) (x4 : Int32), x4.toInt = (k : Int) → a + 1 ≤ k → (∀ i, a + 1 ≤ i → i < k → mR δ b i ≠ (y : Int)) → hs (L_X12_isInside_5 N g a0 x1 x2 x3 m x4 δ) (fun r => r.2 = δ ∧ ((r.1 = 1 ∧ DS (mR δ b) (a + 1) (e - 1) y) ∨ (r.1 = 0 ∧ ¬ DS (mR δ b) (a + 1) (e - 1) y))) := by
  have te := te_subc (c := 1) (n := 1) rfl x3 (by omega) (by omega)
  intro m
  induction m with
  | zero => intro k x4 _ _ _; exact hs_none
  | succ m ih =>
    intro k x4 h4 ka no
    unfold L_X12_isInside_5
    refine hs_ite (fun c => ?_) (fun c => ?_)
    · have c1 := o_le c
      exact hs_gp (fun _ => hs_some ⟨rfl, Or.inr ⟨rfl, fun ⟨i, p, q, r⟩ => no i p (by omega) r⟩⟩)
    · have c1 := o_nle c
      refine hs_at hO (hs_gd (fun _ => ?_))
      have ix : x4.toNatClampNeg = k := by have := ti_tn x4; omega
      rw [ix]
      have vk : (q_R δ b k).toInt = mR δ b k := rfl
      refine hs_ite (fun c2 => hs_gp (fun _ => hs_some ⟨rfl, Or.inl ⟨rfl, k, ka, by omega, by have := o_eq c2; omega⟩⟩)) (fun c2 => ?_)
      have c3 := o_ne c2
      have t4 := te_addc (c := 1) (n := 1) rfl x4 (by omega) (by omega)
      refine hs_biv (fun z ez => ?_)
      rw [← ez] at t4
      refine ih (k + 1) z (by omega) (by omega) (fun i p q => ?_)
      by_cases w : i = k
      · rw [w]; omega
      · exact no i p (by omega)
theorem r_inside (hO : q_O g 12 35 a0 = some b) {a e y : Nat} {x1 x2 x3 : Int32} {δ : dp} (h1 : x1.toInt = (y : Int)) (h2 : x2.toInt = (a : Int)) (h3 : x3.toInt = (e : Int)) (ae : a < e) (e14 : e ≤ 14000) : hs (D_X12_isInside N g a0 x1 x2 x3 δ) (fun r => r.2 = δ ∧ ((r.1 = 1 ∧ DS (mR δ b) (a + 1) (e - 1) y) ∨ (r.1 = 0 ∧ ¬ DS (mR δ b) (a + 1) (e - 1) y))) := by
  have t2 := te_addc (c := 1) (n := 1) rfl x2 (by omega) (by omega)
  unfold D_X12_isInside
  refine hs_biv (fun z ez => ?_)
  rw [← ez] at t2
  exact r_insideL hO h1 h3 ae e14 N (a + 1) z (by omega) (Nat.le_refl _) (fun i p q => by omega)
/-- the first or last such so far -/
def EN (P : Nat → Prop) (f : Nat → Int) (ls : Int32) (lo k : Nat) (v : Int) : Prop := (v = -1 ∧ ∀ i, lo ≤ i → i < k → ¬ P i) ∨ ∃ i, lo ≤ i ∧ i < k ∧ P i ∧ v = f i ∧ (ls ≠ 0 → ∀ j, lo ≤ j → j < i → ¬ P j) ∧ (ls = 0 → ∀ j, i < j → j < k → ¬ P j)
theorem r_endL (hO : q_O g 12 35 a0 = some b) {a e l y w : Nat} {x1 x2 x3 x4 x5 : Int32} {δ : dp} (h1 : x1.toInt = (y : Int)) (h4 : x4.toInt = (e : Int)) (l16 : l ≤ 16) (ae : a < e) (e14 : e ≤ 14000) (G : RG (mR δ b) a e w) : ∀ (m k : Nat) (x6 x7 x8 : Int32), x6.toInt = (l : Int) → x8.toInt = (k : Int) → a + 1 ≤ k → (k ≤ e - 1 ∨ k = a + 1) → EN (fun i => (mR δ b i).toNat / 2 ^ l = y / 2 ^ l) (fun i => (((mR δ b i).toNat % 2 ^ l : Nat) : Int)) x5 (a + 1) k x7.toInt → hs (L_X12_roomEnd_15 N g a0 x1 x2 x3 x4 x5 m x6 x7 x8 δ) (fun r => r.2 = δ ∧ EN (fun i => (mR δ b i).toNat / 2 ^ l = y / 2 ^ l) (fun i => (((mR δ b i).toNat % 2 ^ l : Nat) : Int)) x5 (a + 1) (e - 1) r.1.toInt) := by
  have zm : (-1 : Int32).toInt = -1 := by decide
  have te := te_subc (c := 1) (n := 1) rfl x4 (by omega) (by omega)
  intro m
  induction m with
  | zero => intro k x6 x7 x8 _ _ _ _ _; exact hs_none
  | succ m ih =>
    intro k x6 x7 x8 h6 h8 ka kk C
    unfold L_X12_roomEnd_15 J_X12_roomEnd_55 J_X12_roomEnd_71
    refine hs_ite (fun c => ?_) (fun c => ?_)
    · have c1 := o_le c
      refine hs_some ⟨rfl, ?_⟩
      rcases kk with kk | kk
      · rw [show e - 1 = k by omega]; exact C
      · refine Or.inl ⟨?_, fun i p q => by omega⟩
        rcases C with ⟨z, _⟩ | ⟨i, p, q, _⟩
        · exact z
        · omega
    · have c1 := o_nle c
      have Gk := G.2 k (by omega) (by omega)
      have ek : (q_R δ b k).toInt = (((mR δ b k).toNat : Nat) : Int) := by show mR δ b k = _; omega
      have s1 := sr_i ek h6 (by omega)
      have s2 := sr_i h1 h6 (by omega)
      have s3 := ms_i ek h6 l16
      have t8 := te_addc (c := 1) (n := 1) rfl x8 (by omega) (by omega)
      have ix : x8.toNatClampNeg = k := by have := ti_tn x8; omega
      -- taken
      have take : (mR δ b k).toNat / 2 ^ l = y / 2 ^ l → (x7.toInt = -1 ∨ x5 = 0) → hs ((q_O g 12 35 a0).bind fun b_9 => if x8 < 0 ∨ q_N g b_9 ≤ x8.toNatClampNeg then none else bi ((q_R δ b_9 x8.toNatClampNeg) &&& (((1 : Int32) <<< (x6 &&& 31)) - (1 : Int32))) fun x_11 => bi (x8 + 1) fun x_13 => L_X12_roomEnd_15 N g a0 x1 x2 x3 x4 x5 m x6 x_11 x_13 δ) (fun r => r.2 = δ ∧ EN (fun i => (mR δ b i).toNat / 2 ^ l = y / 2 ^ l) (fun i => (((mR δ b i).toNat % 2 ^ l : Nat) : Int)) x5 (a + 1) (e - 1) r.1.toInt) := fun pk why => by
        refine hs_at hO (hs_gd (fun _ => hs_biv (fun u eu => hs_biv (fun v ev => ?_))))
        rw [ix] at eu
        rw [← eu] at s3
        rw [← ev] at t8
        refine ih (k + 1) x6 u v h6 (by omega) (by omega) (Or.inl (by omega)) (Or.inr ⟨k, ka, by omega, pk, s3, fun ls j p q => ?_, fun _ j p q => by omega⟩)
        rcases C with ⟨_, z⟩ | ⟨i, i1, i2, i3, i4, _⟩
        · exact z j p q
        · rcases why with why | why
          · have h7 : x7.toInt = (((mR δ b i).toNat % 2 ^ l : Nat) : Int) := i4
            have n7 := Int.natCast_nonneg ((mR δ b i).toNat % 2 ^ l)
            rw [← h7] at n7
            exfalso; omega
          · exact absurd why ls
      -- left
      have left : ((mR δ b k).toNat / 2 ^ l = y / 2 ^ l → x7.toInt ≠ -1 ∧ x5 ≠ 0) → hs (bi (x8 + 1) fun x_13 => L_X12_roomEnd_15 N g a0 x1 x2 x3 x4 x5 m x6 x7 x_13 δ) (fun r => r.2 = δ ∧ EN (fun i => (mR δ b i).toNat / 2 ^ l = y / 2 ^ l) (fun i => (((mR δ b i).toNat % 2 ^ l : Nat) : Int)) x5 (a + 1) (e - 1) r.1.toInt) := fun why => by
        refine hs_biv (fun v ev => ?_)
        rw [← ev] at t8
        refine ih (k + 1) x6 x7 v h6 (by omega) (by omega) (Or.inl (by omega)) ?_
        rcases C with ⟨z1, z⟩ | ⟨i, i1, i2, i3, i4, i5, i6⟩
        · refine Or.inl ⟨z1, fun i p q r => ?_⟩
          by_cases w : i = k
          · rw [w] at r; exact (why r).1 z1
          · exact z i p (by omega) r
        · refine Or.inr ⟨i, i1, by omega, i3, i4, i5, fun l0 j p q r => ?_⟩
          by_cases w : j = k
          · rw [w] at r; exact (why r).2 l0
          · exact i6 l0 j p (by omega) r
      refine hs_at hO (hs_gd (fun _ => ?_))
      rw [ix]
      refine hs_ite (fun c2 => ?_) (fun c2 => left (fun z => by have := o_ne c2; omega))
      have c3 := o_eq c2
      rw [ix] at take
      refine hs_ite (fun c4 => take (by omega) (Or.inl (by have := o_eq c4; omega))) (fun c4 => hs_ite (fun c5 => take (by omega) (Or.inr c5)) (fun c5 => left (fun _ => ⟨by have := o_ne c4; omega, c5⟩)))
theorem r_end (hO : q_O g 12 35 a0 = some b) {a e y w : Nat} {x1 x2 x3 x4 x5 : Int32} {δ : dp} (h1 : x1.toInt = (y : Int)) (h2 : x2.toInt = (w : Int)) (h3 : x3.toInt = (a : Int)) (h4 : x4.toInt = (e : Int)) (w2 : 2 ≤ w) (w16 : w ≤ 16) (ae : a < e) (e14 : e ≤ 14000) (G : RG (mR δ b) a e w) (ne : ¬ Emp (Roo (DS (mR δ b) (a + 1) (e - 1)) (2 ^ lwf (q_I δ 12 12 a0) w) (y / 2 ^ lwf (q_I δ 12 12 a0) w))) : hs (D_X12_roomEnd N g a0 x1 x2 x3 x4 x5 δ) (fun r => r.2 = δ ∧ ∃ v : Nat, r.1.toInt = (v : Int) ∧ (x5 ≠ 0 → Lst (Roo (DS (mR δ b) (a + 1) (e - 1)) (2 ^ lwf (q_I δ 12 12 a0) w) (y / 2 ^ lwf (q_I δ 12 12 a0) w)) v) ∧ (x5 = 0 → Gst (Roo (DS (mR δ b) (a + 1) (e - 1)) (2 ^ lwf (q_I δ 12 12 a0) w) (y / 2 ^ lwf (q_I δ 12 12 a0) w)) v)) := by
  have zm : (-1 : Int32).toInt = -1 := by decide
  have lb := lwf_b (m := q_I δ 12 12 a0) w2
  have t3 := te_addc (c := 1) (n := 1) rfl x3 (by omega) (by omega)
  unfold D_X12_roomEnd
  refine hs_bind (r_lower h2 w16) (fun r1 hr1 => ?_)
  obtain ⟨e1, v1⟩ := hr1
  rw [e1]
  refine hs_biv (fun z ez => ?_)
  rw [← ez] at t3
  refine hs_mono (r_endL hO h1 h4 (by omega) ae e14 G N (a + 1) r1.1 (-1) z v1 (by omega) (Nat.le_refl _) (Or.inr rfl) (Or.inl ⟨zm, fun i p q => by omega⟩)) (fun r hr => ?_)
  obtain ⟨e2, h⟩ := hr
  refine ⟨e2, ?_⟩
  generalize lwf (q_I δ 12 12 a0) w = l at *
  rcases h with ⟨_, z⟩ | ⟨i, i1, i2, i3, i4, i5, i6⟩
  · exfalso
    refine ne (fun v ⟨y', ⟨k, p, q, r⟩, s, _⟩ => z k p q ?_)
    show (mR δ b k).toNat / 2 ^ l = y / 2 ^ l
    rw [r]; exact s
  · have gi := G.2 i (by omega) (by omega)
    have me : Roo (DS (mR δ b) (a + 1) (e - 1)) (2 ^ l) (y / 2 ^ l) ((mR δ b i).toNat % 2 ^ l) := ⟨(mR δ b i).toNat, ⟨i, i1, i2, by omega⟩, i3, rfl⟩
    refine ⟨(mR δ b i).toNat % 2 ^ l, i4, fun ls => ⟨me, fun v ⟨y', ⟨k, p, q, r⟩, s, t⟩ => ?_⟩, fun ls => ⟨me, fun v ⟨y', ⟨k, p, q, r⟩, s, t⟩ => ?_⟩⟩
    · have pk : (mR δ b k).toNat / 2 ^ l = y / 2 ^ l := by rw [r]; exact s
      have ik : i ≤ k := Nat.not_lt.mp (fun lt => i5 ls k p lt pk)
      have mm := G.m (i := i) (j := k) (by omega) ik (by omega)
      have := dm_le (q := 2 ^ l) (show (mR δ b i).toNat ≤ y' by omega) (i3.trans s.symm)
      omega
    · have pk : (mR δ b k).toNat / 2 ^ l = y / 2 ^ l := by rw [r]; exact s
      have ik : k ≤ i := Nat.not_lt.mp (fun lt => i6 ls k lt q pk)
      have mm := G.m (i := k) (j := i) (by omega) ik (by omega)
      have := dm_le (q := 2 ^ l) (show y' ≤ (mR δ b i).toNat by omega) (s.trans (show y / 2 ^ l = (mR δ b i).toNat / 2 ^ l from i3.symm))
      omega
theorem CN_e {R : Nat → Int} {lo hi l y w a e : Nat} {c : Int} (G : RG R a e w) (h1 : a ≤ lo) (h2 : hi ≤ e) (h : CN (fun i => (R i).toNat / 2 ^ l = y / 2 ^ l) lo hi c) : (c = 0 ↔ Emp (Roo (DS R lo hi) (2 ^ l) (y / 2 ^ l))) ∧ 0 ≤ c := by
  have no : ∀ i, lo ≤ i → i < hi → (R i).toNat / 2 ^ l = y / 2 ^ l → ¬ Emp (Roo (DS R lo hi) (2 ^ l) (y / 2 ^ l)) := fun i p q r z => z _ ⟨(R i).toNat, ⟨i, p, q, by have := (G.2 i (by omega) (by omega)).1; omega⟩, r, rfl⟩
  rcases h with ⟨c0, z⟩ | ⟨c0, i, p, q, r, _⟩ | ⟨c0, i, j, p, q, r, s, _⟩
  · refine ⟨⟨fun _ v ⟨y', ⟨k, p, q, r⟩, s, _⟩ => z k p q (by show (R k).toNat / 2 ^ l = _; rw [r]; exact s), fun _ => c0⟩, by omega⟩
  · exact ⟨⟨fun w => by omega, fun w => absurd w (no i p q r)⟩, by omega⟩
  · exact ⟨⟨fun w => by omega, fun w => absurd w (no i p (by omega) s)⟩, by omega⟩
theorem CN_1 {R : Nat → Int} {lo hi l y w a e : Nat} {c : Int} (G : RG R a e w) (h1 : a ≤ lo) (h2 : hi ≤ e) (h : CN (fun i => (R i).toNat / 2 ^ l = y / 2 ^ l) lo hi c) : (c = 1 ∧ DS R lo hi y) ↔ (DS R lo hi y ∧ ∀ z, DS R lo hi z → z / 2 ^ l = y / 2 ^ l → z = y) := by
  constructor
  · rintro ⟨c1, k, p, q, r⟩
    refine ⟨⟨k, p, q, r⟩, fun z ⟨j, p', q', r'⟩ s => ?_⟩
    rcases h with ⟨c0, _⟩ | ⟨c0, i, _, _, _, u⟩ | ⟨c0, _⟩
    · omega
    · have e1 := u k p q (by show (R k).toNat / 2 ^ l = _; rw [r]; rfl)
      have e2 := u j p' q' (by show (R j).toNat / 2 ^ l = _; rw [r']; exact s)
      rw [e1] at r
      rw [e2] at r'
      omega
    · omega
  · rintro ⟨⟨k, p, q, r⟩, u⟩
    refine ⟨?_, k, p, q, r⟩
    rcases h with ⟨c0, z⟩ | ⟨c0, _⟩ | ⟨c0, i, j, i1, i2, i3, i4, i5⟩
    · exact absurd (show (R k).toNat / 2 ^ l = y / 2 ^ l by rw [r]; rfl) (z k p q)
    · exact c0
    · have gi := (G.2 i (by omega) (by omega)).1
      have gj := (G.2 j (by omega) (by omega)).1
      have e1 := u (R i).toNat ⟨i, i1, by omega, by omega⟩ i4
      have e2 := u (R j).toNat ⟨j, by omega, i3, by omega⟩ i5
      have := G.1 i j (by omega) i2 (by omega)
      omega
end
