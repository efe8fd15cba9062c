/-! a SHAPE's text read by the reference -/
theorem e_of' {N : Nat} (hN : 10000000 ≤ N) {g : gp} {i : Nat} {δ : dp} (z0 : i < 16) : D_X12_of N g i δ = some (ofg i 0 (tx_n i) 0, δ) := by
  have hb := tx_le z0
  unfold D_X12_of
  exact fl_of z0 (tx_n i) 0 N 0 (by omega) (by omega)
/-- how the reading ends, seen from a state of the loop -/
def RF (t : Nat) (δ : dp) (o : Nat ⊕ PS) (r : Int32 × dp) : Prop := match o with
  | .inl k => r.1.toInt = (k : Int) - 10 ∧ q_I r.2 12 10 t = q_I δ 12 10 t ∧ q_I r.2 12 11 t = q_I δ 12 11 t ∧ q_I r.2 12 12 t = q_I δ 12 12 t ∧ q_I r.2 12 18 t = q_I δ 12 18 t
  | .inr x => r.1 = x.2.2.1 ∧ q_I r.2 12 10 t = x.2.2.1 ∧ q_I r.2 12 11 t = x.2.2.2.2 ∧ q_I r.2 12 12 t = x.2.2.2.1 ∧ q_I r.2 12 18 t = 0
theorem RF.k {t : Nat} {δ d : dp} {o : Nat ⊕ PS} {r : Int32 × dp} (h : RF t d o r) {W : List (Nat × Nat)} (k : kp W δ d) (h0 : (12, 10) ∉ W) (h1 : (12, 11) ∉ W) (h2 : (12, 12) ∉ W) (h8 : (12, 18) ∉ W) : RF t δ o r := by
  cases o with
  | inl q =>
    obtain ⟨a, b, c, d, e⟩ := h
    exact ⟨a, b.trans (k 12 10 t h0), c.trans (k 12 11 t h1), d.trans (k 12 12 t h2), e.trans (k 12 18 t h8)⟩
  | inr x => exact h
theorem r_result {N : Nat} {g : gp} {t : Nat} {x1 : Int32} {δ : dp} : hs (D_X12_result N g t x1 δ) (fun r => kp [(12, 8)] δ r.2 ∧ (q_I δ 12 5 t = -1 ∧ r.1 = x1 ∨ q_I δ 12 5 t ≠ -1 ∧ r.1 = q_I δ 12 6 t - 10)) := by
  unfold D_X12_result J_X12_result_26
  refine hs_bdv (fun d e => ?_)
  have d5 : q_I d 12 5 t = q_I δ 12 5 t := by rw [e, rI_o (by decide)]
  have d6 : q_I d 12 6 t = q_I δ 12 6 t := by rw [e, rI_o (by decide)]
  have kd : kp [(12, 8)] δ d := kp_w (by decide) (kp_I kp_r e)
  refine hs_bind r_fine (fun r hr => ?_)
  obtain ⟨f1, f2⟩ := hr
  rw [f1]
  refine hs_ite (fun c => hs_some ⟨kd, ?_⟩) (fun c => hs_some ⟨kd, ?_⟩)
  · rcases f2 with ⟨a, _⟩ | ⟨_, b⟩
    · rw [a] at c; exact absurd c (by decide)
    · exact Or.inr ⟨by rw [← d5]; exact b, by rw [d6]⟩
  · rcases f2 with ⟨_, b⟩ | ⟨a, _⟩
    · exact Or.inl ⟨by rw [← d5]; exact b, rfl⟩
    · exact absurd a c
theorem rl_299 {N : Nat} {g : gp} {t : Nat} {x1 : Int32} : ∀ (m : Nat) (x : Int32) (δ : dp), q_I δ 12 5 t = -1 → hs (L_X12_shape_299 N g t x1 m x δ) (fun r => r.1 = q_I δ 12 10 t ∧ q_I r.2 12 10 t = q_I δ 12 10 t ∧ q_I r.2 12 11 t = q_I δ 12 11 t ∧ q_I r.2 12 12 t = q_I δ 12 12 t ∧ q_I r.2 12 18 t = 0) := by
  intro m
  induction m with
  | zero => intro x δ _; exact hs_none
  | succ m ih =>
    intro x δ hf
    unfold L_X12_shape_299
    refine hs_ite (fun c => ?_) (fun c => ?_)
    · refine hs_bdv (fun d e => hs_bind r_result (fun r hr => hs_some ?_))
      obtain ⟨k, h⟩ := hr
      have dk : kp [(12, 18)] δ d := kp_w (by decide) (kp_I kp_r e)
      have d5 : q_I d 12 5 t = -1 := by rw [dk 12 5 t (by decide)]; exact hf
      have d0 := dk 12 10 t (by decide)
      refine ⟨?_, by rw [k 12 10 t (by decide), d0], by rw [k 12 11 t (by decide), dk 12 11 t (by decide)], by rw [k 12 12 t (by decide), dk 12 12 t (by decide)], by rw [k 12 18 t (by decide), e, rI_s]⟩
      rcases h with ⟨_, b⟩ | ⟨a, _⟩
      · exact b.trans d0
      · exact absurd d5 a
    · refine hs_bind (P := fun _ => True) (fun _ _ => trivial) (fun b1 _ => hs_gd (fun _ => hs_bdv (fun d e => hs_bind (P := fun _ => True) (fun _ _ => trivial) (fun b2 _ => hs_gd (fun _ => hs_bdv (fun d2 e2 => hs_biv (fun y ey => ?_)))))))
      have I : q_I d2 = q_I δ := by rw [e2, e]; rfl
      have := ih y d2 (by rw [I]; exact hf)
      rw [I] at this
      exact this
/-- the end, where all was fine, and where not -/
theorem r_267g {N : Nat} {g : gp} {t : Nat} {x1 w e u : Int32} {δ : dp} {p m : Nat} (hf : q_I δ 12 5 t = -1) : hs (J_X12_shape_267 N g t x1 w e u δ) (fun r => RF t δ (.inr (p, m, w, u, e)) r) := by
  unfold J_X12_shape_267
  refine hs_bind r_fine (fun r hr => ?_)
  obtain ⟨f1, f2⟩ := hr
  rw [f1]
  refine hs_ite (fun c => ?_) (fun c => ?_)
  · rcases f2 with ⟨a, _⟩ | ⟨_, b⟩
    · rw [a] at c; exact absurd c (by decide)
    · exact absurd hf b
  · refine hs_bdv (fun d1 e1 => hs_bdv (fun d2 e2 => hs_gp (fun _ => hs_bdv (fun d3 e3 => ?_))))
    have f5 : q_I d3 12 5 t = -1 := by rw [e3, rI_o (by decide), e2, rI_o (by decide), e1, rI_o (by decide)]; exact hf
    refine hs_mono (rl_299 N 0 d3 f5) (fun q hq => ?_)
    have h10 : q_I d3 12 10 t = w := by rw [e3, rI_o (by decide), e2, rI_o (by decide), e1, rI_s]
    have h11 : q_I d3 12 11 t = e := by rw [e3, rI_o (by decide), e2, rI_s]
    have h12 : q_I d3 12 12 t = u := by rw [e3, rI_s]
    rw [h10, h11, h12] at hq
    exact hq
theorem r_267b {N : Nat} {g : gp} {t : Nat} {x1 w e u : Int32} {δ : dp} {k : Nat} (hk : k ≤ 4) (hf : 0 ≤ (q_I δ 12 5 t).toInt) (h6 : (q_I δ 12 6 t).toInt = (k : Int)) : hs (J_X12_shape_267 N g t x1 w e u δ) (fun r => RF t δ (.inl k) r) := by
  have zm : (-1 : Int32).toInt = -1 := rfl
  have nf : q_I δ 12 5 t ≠ -1 := fun z => by have := o_eq z; omega
  unfold J_X12_shape_267
  refine hs_bind r_fine (fun r hr => ?_)
  obtain ⟨f1, f2⟩ := hr
  rw [f1]
  refine hs_ite (fun c => ?_) (fun c => ?_)
  · refine hs_bind r_result (fun q hq => hs_some ?_)
    obtain ⟨kk, h⟩ := hq
    refine ⟨?_, kk 12 10 t (by decide), kk 12 11 t (by decide), kk 12 12 t (by decide), kk 12 18 t (by decide)⟩
    rcases h with ⟨a, _⟩ | ⟨_, b⟩
    · exact absurd a nf
    · have s1 := te_subc (c := 10) (n := 10) rfl (q_I δ 12 6 t) (by omega) (by omega)
      show q.1.toInt = _
      rw [b]; omega
  · rcases f2 with ⟨_, b⟩ | ⟨a, _⟩
    · exact absurd b nf
    · exact absurd a c
theorem rl_bad {N : Nat} {g : gp} {t : Nat} {x1 : Int32} {k : Nat} (hk : k ≤ 4) : ∀ (m : Nat) (w e u s : Int32) (δ : dp), 0 ≤ (q_I δ 12 5 t).toInt → (q_I δ 12 6 t).toInt = (k : Int) → hs (L_X12_shape_49 N g t x1 m w e u s δ) (fun r => RF t δ (.inl k) r) := by
  intro m w e u s δ hf h6
  have zm : (-1 : Int32).toInt = -1 := rfl
  cases m with
  | zero => exact hs_none
  | succ m =>
    unfold L_X12_shape_49
    refine hs_bind r_fine (fun r hr => ?_)
    obtain ⟨f1, f2⟩ := hr
    rw [f1]
    refine hs_ite (fun _ => r_267b hk hf h6) (fun c => ?_)
    rcases f2 with ⟨_, b⟩ | ⟨a, _⟩
    · have := o_eq b; omega
    · exact absurd a c
theorem r_signb {N : Nat} {g : gp} {t : Nat} {x1 : Int32} {δ : dp} (hf : 0 ≤ (q_I δ 12 5 t).toInt) : hs (D_X12_sign N g t x1 δ) (fun r => r = δ) := by
  have zm : (-1 : Int32).toInt = -1 := rfl
  have nf : q_I δ 12 5 t ≠ -1 := fun z => by have := o_eq z; omega
  unfold D_X12_sign J_X12_sign_24 J_X12_sign_41
  refine hs_bind r_fine (fun r hr => ?_)
  obtain ⟨f1, f2⟩ := hr
  rw [f1]
  refine hs_ite (fun _ => ?_) (fun c => ?_)
  · refine hs_bind r_fine (fun r hr => ?_)
    obtain ⟨f1, f2⟩ := hr
    rw [f1]
    refine hs_ite (fun _ => hs_some rfl) (fun c => ?_)
    rcases f2 with ⟨_, b⟩ | ⟨a, _⟩
    · exact absurd b nf
    · exact absurd a c
  · rcases f2 with ⟨_, b⟩ | ⟨a, _⟩
    · exact absurd b nf
    · exact absurd a c
/-- seen clauses, as bits -/
theorem seen_n : ∀ m : Fin 8, ((Int32.ofNat m.val &&& 1 = 0) ↔ m.val % 2 = 0) ∧ ((Int32.ofNat m.val &&& 2 = 0) ↔ m.val / 2 % 2 = 0) ∧ ((Int32.ofNat m.val &&& 4 = 0) ↔ m.val / 4 % 2 = 0) ∧ (m.val % 2 = 0 → (Int32.ofNat m.val ||| 1) = Int32.ofNat (m.val + 1)) ∧ (m.val / 2 % 2 = 0 → (Int32.ofNat m.val ||| 2) = Int32.ofNat (m.val + 2)) ∧ (m.val / 4 % 2 = 0 → (Int32.ofNat m.val ||| 4) = Int32.ofNat (m.val + 4)) := by decide +kernel
/-- a state of the reference that reads a SHAPE -/
def RS (t n p : Nat) (δ : dp) : Prop := (q_I δ 12 4 t).toInt = (p : Int) ∧ (q_I δ 12 3 t).toInt = (n : Int) ∧ q_I δ 12 5 t = -1
theorem RS.k {t n p q : Nat} {δ d : dp} (h : RS t n p δ) (k : kp [(12, 4)] δ d) (e : (q_I d 12 4 t).toInt = (q : Int)) : RS t n q d := ⟨e, by rw [k 12 3 t (by decide)]; exact h.2.1, by rw [k 12 5 t (by decide)]; exact h.2.2⟩
/-- the sign behind a value, and the loop behind it -/
theorem r_258 {N : Nat} {g : gp} {t bt n : Nat} (hn : n ≤ 500) (ob : q_O g 12 9 t = some bt) {x1 w e u s : Int32} {kt : Int32 → Int32 → Int32 → Int32 → dp → Option (Int32 × dp)} {β : Nat → Int32} {δ d : dp} {q k' : Nat} {f : Nat → PS} (W : kp [(12, 4), (12, 5), (12, 6)] δ d) (hβ : q_R d bt = β) (h : RS t n q d)
    (hb : ∀ d2, 0 ≤ (q_I d2 12 5 t).toInt → (q_I d2 12 6 t).toInt = 1 → hs (kt w e u s d2) (fun r => RF t d2 (.inl 1) r))
    (hg : ∀ d2, q_R d2 bt = β → RS t n (sp β n q + 1) d2 → sp β n q < n → hs (kt w e u s d2) (fun r => RF t d2 (rZ β n k' (f (sp β n q + 1))) r)) :
    hs (J_X12_shape_258 N g t x1 kt w e u s d) (fun r => RF t δ (match sG β n q f with | .inl e => .inl e | .inr y => rZ β n k' y) r) := by
  unfold J_X12_shape_258
  refine hs_bind (rD_sign hn ob h.1 h.2.1 h.2.2) (fun r hr => ?_)
  obtain ⟨a, b, c⟩ := hr
  rw [hβ] at c
  have W2 : kp [(12, 4), (12, 5), (12, 6)] δ r := kp_w (by decide) (kp_t W a)
  rcases c with ⟨c1, c2, c3, c4⟩ | ⟨c1, c2, c3⟩
  · refine hs_mono (hg r (by rw [b]; exact hβ) ⟨by rw [c4]; rfl, by rw [a 12 3 t (by decide)]; exact h.2.1, c3⟩ c1) (fun y hy => ?_)
    unfold sG
    rw [if_pos ⟨c1, c2⟩]
    exact hy.k W2 (by decide) (by decide) (by decide) (by decide)
  · refine hs_mono (hb r c2 c3) (fun y hy => ?_)
    unfold sG
    rw [if_neg c1]
    exact hy.k W2 (by decide) (by decide) (by decide) (by decide)
