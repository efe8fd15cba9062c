/-! a SHAPE's text, clause by clause -/
def wB (β : Nat → Int32) (p q k : Nat) : Bool := decide (q = p + tx_n k) && (List.range (tx_n k)).all (fun i => decide (β (p + i) = tx_b k i))
theorem wB_t {β : Nat → Int32} {p q k : Nat} (h : wI β p q k) : wB β p q k = true := by
  unfold wB
  rw [decide_eq_true h.1, Bool.true_and, List.all_eq_true]
  intro i hi
  exact decide_eq_true (h.2 i (List.mem_range.mp hi))
theorem wB_i {β : Nat → Int32} {p q k : Nat} (h : wB β p q k = true) : wI β p q k := by
  unfold wB at h
  rw [Bool.and_eq_true, List.all_eq_true] at h
  exact ⟨of_decide_eq_true h.1, fun i hi => of_decide_eq_true (h.2 i (List.mem_range.mpr hi))⟩
theorem wB_f {β : Nat → Int32} {p q k : Nat} (h : ¬ wI β p q k) : ¬ wB β p q k = true := fun z => h (wB_i z)
/-- the number behind q, from lo to hi, and where it ends; else the fault -/
def nM (β : Nat → Int32) (n q lo hi : Nat) : Nat ⊕ (Nat × Nat) := if de β n (sp β n q) = sp β n q then .inl 1 else if dV β n 501 (sp β n q) 0 < lo ∨ hi < dV β n 501 (sp β n q) 0 then .inl 2 else .inr (de β n (sp β n q), dV β n 501 (sp β n q) 0)
abbrev PS : Type := Nat × Nat × Int32 × Int32 × Int32
/-- the sign behind q -/
def sG (β : Nat → Int32) (n q : Nat) (f : Nat → PS) : Nat ⊕ PS := if sp β n q < n ∧ β (sp β n q) = 59 then .inr (f (sp β n q + 1)) else .inl 1
def nG (β : Nat → Int32) (n q lo hi : Nat) (f : Nat → Nat → PS) : Nat ⊕ PS := match nM β n q lo hi with
  | .inl k => .inl k
  | .inr x => sG β n x.1 (fun p => f p x.2)
def uG (β : Nat → Int32) (n p2 q2 : Nat) (f : Nat → Int32 → PS) : Nat ⊕ PS := if wB β p2 q2 3 = true then sG β n q2 (fun p => f p 1) else if wB β p2 q2 4 = true then sG β n q2 (fun p => f p 0) else .inl 1
def cZ (β : Nat → Int32) (n p1 q m : Nat) (w u e : Int32) : Nat ⊕ PS := if wB β p1 q 0 = true then (if m % 2 = 1 then .inl 4 else nG β n q 2 16 (fun p v => (p, m + 1, Int32.ofNat v, u, e))) else if wB β p1 q 1 = true then (if m / 2 % 2 = 1 then .inl 4 else uG β n (sp β n q) (we β n (sp β n q)) (fun p u' => (p, m + 2, w, u', e))) else if wB β p1 q 2 = true then (if m / 4 % 2 = 1 then .inl 4 else nG β n q 1 5 (fun p v => (p, m + 4, w, u, Int32.ofNat v))) else .inl 1
/-- a state of the class that reads a SHAPE -/
def CS (s t bo n : Nat) (x : PS) (δ : dp) : Prop := (q_I δ 7 3 t).toInt = (x.1 : Int) ∧ (q_I δ 7 2 t).toInt = (n : Int) ∧ q_I δ 7 5 t = 0 ∧ (q_R δ bo 0).toInt = ((x.2.1 % 2 : Nat) : Int) ∧ (q_R δ bo 1).toInt = ((x.2.1 / 2 % 2 : Nat) : Int) ∧ (q_R δ bo 2).toInt = ((x.2.1 / 4 % 2 : Nat) : Int) ∧ x.2.1 < 8 ∧ q_I δ 6 0 s = x.2.2.1 ∧ q_I δ 6 1 s = x.2.2.2.1 ∧ q_I δ 6 2 s = x.2.2.2.2
def CR (s t bo n : Nat) (o : Nat ⊕ PS) (r : dp) : Prop := match o with
  | .inl k => (q_I r 7 5 t).toInt = (k : Int) ∧ k ≠ 0
  | .inr x => CS s t bo n x r
/-- what stays -/
def CF (s t bt bo : Nat) (δ r : dp) : Prop := kp [(6, 0), (6, 1), (6, 2), (7, 3), (7, 4), (7, 5), (7, 6)] δ r ∧ ∀ b, b ≠ bo → q_R r b = q_R δ b
/-- the sign, once the value is read -/
theorem h6_sign {N : Nat} {g : gp} {s t bt bo n : Nat} (hn : n ≤ 500) (ob : q_O g 7 0 t = some bt) {δ : dp} {q m : Nat} {w u e : Int32} (hc : CS s t bo n (q, m, w, u, e) δ) : hs (D_X7_needSign N g t 59 δ) (fun r => kp [(7, 3), (7, 4), (7, 5), (7, 6)] δ r ∧ q_R r = q_R δ ∧ CR s t bo n (sG (q_R δ bt) n q (fun p => (p, m, w, u, e))) r) := by
  obtain ⟨c1, c2, c3, c4, c5, c6, c7, c8, c9, c10⟩ := hc
  dsimp only at c1 c4 c5 c6 c7 c8 c9 c10
  refine hs_mono (hD_needSign hn ob c1 c2) (fun r hr => ?_)
  obtain ⟨h1, h2, h3⟩ := hr
  refine ⟨h1, h2, ?_⟩
  rcases h3 with ⟨a, b, c, d⟩ | ⟨a, b⟩
  · unfold sG
    rw [if_pos ⟨a, b⟩]
    refine ⟨by rw [d]; rfl, by rw [h1 7 2 t (by decide)]; exact c2, c.trans c3, by rw [h2]; exact c4, by rw [h2]; exact c5, by rw [h2]; exact c6, c7, by rw [h1 6 0 s (by decide)]; exact c8, by rw [h1 6 1 s (by decide)]; exact c9, by rw [h1 6 2 s (by decide)]; exact c10⟩
  · unfold sG
    rw [if_neg a]
    refine ⟨?_, by decide⟩
    rw [b, c3, if_pos rfl]; rfl
/-- a fault stays -/
theorem h6_bad {N : Nat} {g : gp} {t bt n q : Nat} (hn : n ≤ 500) (ob : q_O g 7 0 t = some bt) {δ : dp} (h3 : (q_I δ 7 3 t).toInt = (q : Int)) (h2 : (q_I δ 7 2 t).toInt = (n : Int)) (h5 : q_I δ 7 5 t ≠ 0) : hs (D_X7_needSign N g t 59 δ) (fun r => kp [(7, 3), (7, 4), (7, 5), (7, 6)] δ r ∧ q_R r = q_R δ ∧ q_I r 7 5 t = q_I δ 7 5 t) := by
  refine hs_mono (hD_needSign hn ob h3 h2) (fun r hr => ?_)
  obtain ⟨k1, k2, k3⟩ := hr
  refine ⟨k1, k2, ?_⟩
  rcases k3 with ⟨_, _, c, _⟩ | ⟨_, b⟩
  · exact c
  · rw [b, if_neg h5]
set_option maxHeartbeats 4000000 in
theorem h6_num {N : Nat} {g : gp} {s t bt bo n : Nat} (hn : n ≤ 500) (ob : q_O g 7 0 t = some bt) {K lo hi : Nat} (hK : K = 0 ∨ K = 2) (hh : hi < 1000000) {xl xh : Int32} (el : xl.toInt = (lo : Int)) (eh : xh.toInt = (hi : Int)) {δ : dp} {q m : Nat} {w u e : Int32} {f : Nat → Nat → PS} (hf : ∀ p v, f p v = if K = 0 then (p, m, Int32.ofNat v, u, e) else (p, m, w, u, Int32.ofNat v)) (hc : CS s t bo n (q, m, w, u, e) δ) : hs ((D_X7_readNumber N g t xl xh δ).bind fun r_15 => (bd (s_I r_15.2 6 K s r_15.1) fun δ_16 => some δ_16).bind fun r_16 => (D_X7_needSign N g t 59 r_16).bind fun r_17 => some r_17) (fun r => CF s t bt bo δ r ∧ CR s t bo n (nG (q_R δ bt) n q lo hi f) r) := by
  obtain ⟨c1, c2, c3, c4, c5, c6, c7, c8, c9, c10⟩ := hc
  dsimp only at c1 c4 c5 c6 c7 c8 c9 c10
  refine hs_bind (hD_readNumber hn ob (x1 := xl) (x2 := xh) c1 c2) (fun r hr => ?_)
  obtain ⟨h1, h2, h3, h4, h5⟩ := hr
  refine hs_bind (P := fun d => d = s_I r.2 6 K s r.1) (hs_bdv (fun d ed => hs_some ed)) (fun d ed => ?_)
  have kd : kp [(6, 0), (6, 1), (6, 2), (7, 3), (7, 4), (7, 5), (7, 6)] δ d := by
    rcases hK with rfl | rfl <;> exact kp_w (by decide) (kp_I h1 ed)
  have dR : q_R d = q_R δ := by rw [ed]; exact h2
  have d7 : ∀ k, q_I d 7 k t = q_I r.2 7 k t := fun k => by rw [ed, rI_o (fun z => absurd z.1 (by decide))]
  have l2 : (q_I d 7 2 t).toInt = (n : Int) := by rw [kd 7 2 t (by decide)]; exact c2
  have fin : ∀ d2, kp [(7, 3), (7, 4), (7, 5), (7, 6)] d d2 → q_R d2 = q_R d → CF s t bt bo δ d2 := fun d2 a b => ⟨kp_w (by decide) (kp_t kd a), fun c _ => by rw [b, dR]⟩
  rcases h5 with ⟨a, b⟩ | ⟨a, b, c⟩ | ⟨a, b, c, d5⟩
  · have b5 : q_I d 7 5 t = 1 := by rw [d7, b, c3, if_pos rfl]
    refine hs_bind (h6_bad hn ob (by rw [d7]; exact h3) l2 (by rw [b5]; decide)) (fun r2 hr2 => hs_some ⟨fin _ hr2.1 hr2.2.1, ?_⟩)
    unfold nG nM
    rw [if_pos a]
    exact ⟨by rw [hr2.2.2, b5]; rfl, by decide⟩
  · have b5 : q_I d 7 5 t = 2 := by rw [d7, c, c3, if_pos rfl]
    refine hs_bind (h6_bad hn ob (by rw [d7]; exact h3) l2 (by rw [b5]; decide)) (fun r2 hr2 => hs_some ⟨fin _ hr2.1 hr2.2.1, ?_⟩)
    unfold nG nM
    rw [if_neg a, if_pos (by omega)]
    exact ⟨by rw [hr2.2.2, b5]; rfl, by decide⟩
  · have hv : r.1 = Int32.ofNat (dV (q_R δ bt) n 501 (sp (q_R δ bt) n q) 0) := by
      apply i_eq
      rw [n_ti _ (by omega)]
      omega
    have hcs : CS s t bo n (f (de (q_R δ bt) n (sp (q_R δ bt) n q)) (dV (q_R δ bt) n 501 (sp (q_R δ bt) n q) 0)) d := by
      rw [hf]
      have e3 : (q_I d 7 3 t).toInt = (de (q_R δ bt) n (sp (q_R δ bt) n q) : Int) := by rw [d7]; exact h3
      have e5 : q_I d 7 5 t = 0 := by rw [d7, d5, c3]
      rcases hK with rfl | rfl
      · rw [if_pos rfl]
        exact ⟨e3, l2, e5, by rw [dR]; exact c4, by rw [dR]; exact c5, by rw [dR]; exact c6, c7, by rw [ed, rI_s]; exact hv, by rw [ed, rI_o (by decide), h1 6 1 s (by decide)]; exact c9, by rw [ed, rI_o (by decide), h1 6 2 s (by decide)]; exact c10⟩
      · rw [if_neg (by decide)]
        exact ⟨e3, l2, e5, by rw [dR]; exact c4, by rw [dR]; exact c5, by rw [dR]; exact c6, c7, by rw [ed, rI_o (by decide), h1 6 0 s (by decide)]; exact c8, by rw [ed, rI_o (by decide), h1 6 1 s (by decide)]; exact c9, by rw [ed, rI_s]; exact hv⟩
    have hg : nG (q_R δ bt) n q lo hi f = sG (q_R δ bt) n (de (q_R δ bt) n (sp (q_R δ bt) n q)) (fun p => f p (dV (q_R δ bt) n 501 (sp (q_R δ bt) n q) 0)) := by
      unfold nG nM
      rw [if_neg a, if_neg (by omega)]
    rw [hg]
    rw [hf] at hcs
    rcases hK with rfl | rfl
    · rw [if_pos rfl] at hcs
      refine hs_bind (h6_sign hn ob hcs) (fun r2 hr2 => hs_some ⟨fin _ hr2.1 hr2.2.1, ?_⟩)
      have := hr2.2.2
      rw [dR] at this
      rw [show (fun p => f p (dV (q_R δ bt) n 501 (sp (q_R δ bt) n q) 0)) = fun p => (p, m, Int32.ofNat (dV (q_R δ bt) n 501 (sp (q_R δ bt) n q) 0), u, e) from funext (fun p => by rw [hf, if_pos rfl])]
      exact this
    · rw [if_neg (by decide)] at hcs
      refine hs_bind (h6_sign hn ob hcs) (fun r2 hr2 => hs_some ⟨fin _ hr2.1 hr2.2.1, ?_⟩)
      have := hr2.2.2
      rw [dR] at this
      rw [show (fun p => f p (dV (q_R δ bt) n 501 (sp (q_R δ bt) n q) 0)) = fun p => (p, m, w, u, Int32.ofNat (dV (q_R δ bt) n 501 (sp (q_R δ bt) n q) 0)) from funext (fun p => by rw [hf, if_neg (by decide)])]
      exact this
set_option maxHeartbeats 4000000 in
theorem h6_up {N : Nat} {g : gp} {s t bt bo n : Nat} (hn : n ≤ 500) (ob : q_O g 7 0 t = some bt) {δ : dp} {q m : Nat} {w u e : Int32} (hq : q ≤ n) (hc : CS s t bo n (q, m, w, u, e) δ) : hs ((D_X6_readValue N g s t 1 δ).bind fun r_16 => (D_X7_needSign N g t 59 r_16).bind fun r_17 => some r_17) (fun r => CF s t bt bo δ r ∧ CR s t bo n (uG (q_R δ bt) n (sp (q_R δ bt) n q) (we (q_R δ bt) n (sp (q_R δ bt) n q)) (fun p u' => (p, m, w, u', e))) r) := by
  obtain ⟨c1, c2, c3, c4, c5, c6, c7, c8, c9, c10⟩ := hc
  dsimp only at c1 c4 c5 c6 c7 c8 c9 c10
  have l1 : sp (q_R δ bt) n q ≤ n := rE_le 501 q hq
  have l2 : we (q_R δ bt) n (sp (q_R δ bt) n q) ≤ n := rE_le 501 _ l1
  unfold D_X6_readValue J_X6_readValue_71
  refine hs_bind (P := fun d => CF s t bt bo δ d ∧ q_R d = q_R δ ∧ (q_I d 7 3 t).toInt = (we (q_R δ bt) n (sp (q_R δ bt) n q) : Int) ∧ (wB (q_R δ bt) (sp (q_R δ bt) n q) (we (q_R δ bt) n (sp (q_R δ bt) n q)) 3 = true ∧ q_I d 7 5 t = 0 ∧ q_I d 6 1 s = 1 ∨ ¬ wB (q_R δ bt) (sp (q_R δ bt) n q) (we (q_R δ bt) n (sp (q_R δ bt) n q)) 3 = true ∧ wB (q_R δ bt) (sp (q_R δ bt) n q) (we (q_R δ bt) n (sp (q_R δ bt) n q)) 4 = true ∧ q_I d 7 5 t = 0 ∧ q_I d 6 1 s = 0 ∨ ¬ wB (q_R δ bt) (sp (q_R δ bt) n q) (we (q_R δ bt) n (sp (q_R δ bt) n q)) 3 = true ∧ ¬ wB (q_R δ bt) (sp (q_R δ bt) n q) (we (q_R δ bt) n (sp (q_R δ bt) n q)) 4 = true ∧ q_I d 7 5 t = 1) ∧ kp [(6, 1), (7, 3), (7, 4), (7, 5), (7, 6)] δ d) ?_ (fun d hd => ?_)
  · refine hs_ite (fun c => absurd c (by decide)) (fun _ => hs_ite (fun c => absurd c (by decide)) (fun _ => ?_))
    refine hs_bind (hD_readWord hn ob c1 c2) (fun r hr => ?_)
    obtain ⟨k1, k2, k3, k4⟩ := hr
    refine hs_bind (hD_wordIs (k := 3) (by decide) ob (by omega) (by omega) k3 k4) (fun r4 hr4 => ?_)
    obtain ⟨j1, j2⟩ := hr4
    rw [k2] at j2
    rw [j1]
    refine hs_gp (fun _ => hs_bdv (fun d ed => ?_))
    have kd : kp [(6, 1), (7, 3), (7, 4), (7, 5), (7, 6)] δ d := kp_w (by decide) (kp_I k1 ed)
    have dR : q_R d = q_R δ := by rw [ed]; exact k2
    have e61 : q_I d 6 1 s = r4.1 := by rw [ed, rI_s]
    have e75 : q_I d 7 5 t = 0 := by rw [ed, rI_o (by decide), k1 7 5 t (by decide)]; exact c3
    have e73 : (q_I d 7 3 t).toInt = (we (q_R δ bt) n (sp (q_R δ bt) n q) : Int) := by rw [ed, rI_o (by decide)]; exact k4
    have e74 : (q_I d 7 4 t).toInt = (sp (q_R δ bt) n q : Int) := by rw [ed, rI_o (by decide)]; exact k3
    have cf : ∀ d2, kp [(6, 1), (7, 3), (7, 4), (7, 5), (7, 6)] δ d2 → q_R d2 = q_R δ → CF s t bt bo δ d2 := fun d2 a b => ⟨kp_w (by decide) a, fun c _ => by rw [b]⟩
    rw [e61]
    refine hs_ite (fun c => ?_) (fun c => ?_)
    · rcases j2 with ⟨a, b⟩ | ⟨a, b⟩
      · rw [a] at c; exact absurd c (by decide)
      refine hs_bind (hD_wordIs (k := 4) (by decide) ob (by omega) (by omega) e74 e73) (fun r8 hr8 => ?_)
      obtain ⟨i1, i2⟩ := hr8
      rw [dR] at i2
      rw [i1]
      refine hs_ite (fun c2 => ?_) (fun c2 => ?_)
      · rcases i2 with ⟨a2, b2⟩ | ⟨a2, b2⟩
        · rw [a2] at c2; exact absurd c2 (by decide)
        refine hs_bind hD_refuse (fun r10 hr10 => hs_some ?_)
        obtain ⟨g1, g2, g3⟩ := hr10
        have k10 := kp_w (W := [(6, 1), (7, 3), (7, 4), (7, 5), (7, 6)]) (by decide) (kp_t kd g1)
        exact ⟨cf _ k10 (g2.trans dR), g2.trans dR, by rw [g1 7 3 t (by decide)]; exact e73, Or.inr (Or.inr ⟨wB_f b, wB_f b2, by rw [g3, e75, if_pos rfl]⟩), k10⟩
      · rcases i2 with ⟨a2, b2⟩ | ⟨a2, b2⟩
        · exact hs_some ⟨cf _ kd dR, dR, e73, Or.inr (Or.inl ⟨wB_f b, wB_t b2, e75, by rw [e61, a]⟩), kd⟩
        · exact absurd a2 c2
    · rcases j2 with ⟨a, b⟩ | ⟨a, b⟩
      · exact hs_some ⟨cf _ kd dR, dR, e73, Or.inl ⟨wB_t b, e75, by rw [e61, a]⟩, kd⟩
      · exact absurd a c
  · obtain ⟨h1, h2, h3, h4, h5⟩ := hd
    have l7 : (q_I d 7 2 t).toInt = (n : Int) := by rw [h5 7 2 t (by decide)]; exact c2
    have fin : ∀ d2, kp [(7, 3), (7, 4), (7, 5), (7, 6)] d d2 → q_R d2 = q_R d → CF s t bt bo δ d2 := fun d2 a b => ⟨kp_w (by decide) (kp_t h1.1 a), fun c _ => by rw [b, h2]⟩
    have cs : ∀ u', q_I d 7 5 t = 0 → q_I d 6 1 s = u' → CS s t bo n (we (q_R δ bt) n (sp (q_R δ bt) n q), m, w, u', e) d := fun u' a b => ⟨h3, l7, a, by rw [h2]; exact c4, by rw [h2]; exact c5, by rw [h2]; exact c6, c7, by rw [h5 6 0 s (by decide)]; exact c8, b, by rw [h5 6 2 s (by decide)]; exact c10⟩
    unfold uG
    rcases h4 with ⟨a, b, c⟩ | ⟨a, a2, b, c⟩ | ⟨a, a2, b⟩
    · rw [if_pos a]
      refine hs_bind (h6_sign hn ob (cs 1 b c)) (fun r2 hr2 => hs_some ⟨fin _ hr2.1 hr2.2.1, ?_⟩)
      have := hr2.2.2
      rw [h2] at this
      exact this
    · rw [if_neg a, if_pos a2]
      refine hs_bind (h6_sign hn ob (cs 0 b c)) (fun r2 hr2 => hs_some ⟨fin _ hr2.1 hr2.2.1, ?_⟩)
      have := hr2.2.2
      rw [h2] at this
      exact this
    · rw [if_neg a, if_neg a2]
      refine hs_bind (h6_bad hn ob h3 l7 (by rw [b]; decide)) (fun r2 hr2 => hs_some ⟨fin _ hr2.1 hr2.2.1, ?_⟩)
      exact ⟨by rw [hr2.2.2, b]; rfl, by decide⟩
