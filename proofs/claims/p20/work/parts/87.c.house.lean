section
/-! the class's houses: how they lie, what a change does -/
theorem k4 {K : Nat} (hK : K < 4) {P : Nat → Prop} (h0 : P 0) (h1 : P 1) (h2 : P 2) (h3 : P 3) : P K := by
  rcases (show K = 0 ∨ K = 1 ∨ K = 2 ∨ K = 3 by omega) with rfl | rfl | rfl | rfl
  · exact h0
  · exact h1
  · exact h2
  · exact h3
section LK
variable {ad : List Nat} {h : hp} {K : Nat}
theorem lk_e (L : Lay TLx ad h) (hK : K < 4) : q_E h.1 (Ad ad 10) K = some (Ad ad (75 + 6 * K)) := k4 (P := fun K => q_E h.1 (Ad ad 10) K = some (Ad ad (75 + 6 * K))) hK (fE_10_0 L) (fE_10_1 L) (fE_10_2 L) (fE_10_3 L)
theorem lk_0 (L : Lay TLx ad h) (hK : K < 4) : q_O h.1 2 0 (Ad ad (75 + 6 * K)) = some (Ad ad (76 + 6 * K)) := k4 (P := fun K => q_O h.1 2 0 (Ad ad (75 + 6 * K)) = some (Ad ad (76 + 6 * K))) hK (fO_75_0 L) (fO_81_0 L) (fO_87_0 L) (fO_93_0 L)
theorem lk_1 (L : Lay TLx ad h) (hK : K < 4) : q_O h.1 2 1 (Ad ad (75 + 6 * K)) = some (Ad ad (80 + 6 * K)) := k4 (P := fun K => q_O h.1 2 1 (Ad ad (75 + 6 * K)) = some (Ad ad (80 + 6 * K))) hK (fO_75_1 L) (fO_81_1 L) (fO_87_1 L) (fO_93_1 L)
theorem lk_2 (L : Lay TLx ad h) (hK : K < 4) : q_O h.1 2 2 (Ad ad (75 + 6 * K)) = some (Ad ad (78 + 6 * K)) := k4 (P := fun K => q_O h.1 2 2 (Ad ad (75 + 6 * K)) = some (Ad ad (78 + 6 * K))) hK (fO_75_2 L) (fO_81_2 L) (fO_87_2 L) (fO_93_2 L)
theorem lk_3 (L : Lay TLx ad h) (hK : K < 4) : q_O h.1 2 3 (Ad ad (75 + 6 * K)) = some (Ad ad (79 + 6 * K)) := k4 (P := fun K => q_O h.1 2 3 (Ad ad (75 + 6 * K)) = some (Ad ad (79 + 6 * K))) hK (fO_75_3 L) (fO_81_3 L) (fO_87_3 L) (fO_93_3 L)
theorem lk_r (L : Lay TLx ad h) (hK : K < 4) : q_O h.1 3 0 (Ad ad (76 + 6 * K)) = some (Ad ad (77 + 6 * K)) := k4 (P := fun K => q_O h.1 3 0 (Ad ad (76 + 6 * K)) = some (Ad ad (77 + 6 * K))) hK (fO_76_0 L) (fO_82_0 L) (fO_88_0 L) (fO_94_0 L)
theorem lk_h (L : Lay TLx ad h) (hK : K < 4) : q_O h.1 1 1 (Ad ad (80 + 6 * K)) = some (Ad ad (76 + 6 * K)) := k4 (P := fun K => q_O h.1 1 1 (Ad ad (80 + 6 * K)) = some (Ad ad (76 + 6 * K))) hK (fO_80_1 L) (fO_86_1 L) (fO_92_1 L) (fO_98_1 L)
theorem lk_n (L : Lay TLx ad h) (hK : K < 4) : q_N h.1 (Ad ad (77 + 6 * K)) = 2000 := k4 (P := fun K => q_N h.1 (Ad ad (77 + 6 * K)) = 2000) hK (fN_77 L) (fN_83 L) (fN_89 L) (fN_95 L)
theorem kk_2 (L : Lay TLx ad h) (hK : K < 4) : q_K h.1 (Ad ad (75 + 6 * K)) = 2 := k4 (P := fun K => q_K h.1 (Ad ad (75 + 6 * K)) = 2) hK ((lay_knd L (by decide)).trans (by decide)) ((lay_knd L (by decide)).trans (by decide)) ((lay_knd L (by decide)).trans (by decide)) ((lay_knd L (by decide)).trans (by decide))
theorem kk_3 (L : Lay TLx ad h) (hK : K < 4) : q_K h.1 (Ad ad (76 + 6 * K)) = 3 := k4 (P := fun K => q_K h.1 (Ad ad (76 + 6 * K)) = 3) hK ((lay_knd L (by decide)).trans (by decide)) ((lay_knd L (by decide)).trans (by decide)) ((lay_knd L (by decide)).trans (by decide)) ((lay_knd L (by decide)).trans (by decide))
theorem kk_1 (L : Lay TLx ad h) (hK : K < 4) : q_K h.1 (Ad ad (80 + 6 * K)) = 1 := k4 (P := fun K => q_K h.1 (Ad ad (80 + 6 * K)) = 1) hK ((lay_knd L (by decide)).trans (by decide)) ((lay_knd L (by decide)).trans (by decide)) ((lay_knd L (by decide)).trans (by decide)) ((lay_knd L (by decide)).trans (by decide))
end LK
def cM (ad : List Nat) (δ : dp) (K : Nat) : Int := (q_I δ 3 1 (Ad ad (76 + 6 * K))).toInt
def cR (ad : List Nat) (δ : dp) (K i : Nat) : Int := (q_R δ (Ad ad (77 + 6 * K)) i).toInt
def cN (ad : List Nat) (δ : dp) (K : Nat) : Int := (q_I δ 2 4 (Ad ad (75 + 6 * K))).toInt
def cC (ad : List Nat) (δ : dp) (K i : Nat) : Int := (q_R δ (Ad ad (78 + 6 * K)) i).toInt
def cT (ad : List Nat) (δ : dp) (K i : Nat) : Int := (q_R δ (Ad ad (79 + 6 * K)) i).toInt
theorem cM_b {ad : List Nat} {h : hp} (L : Lay TLx ad h) {δ0 δ : dp} (I : CI ad h.1 δ0 δ) {K : Nat} (hK : K < 4) : 0 ≤ cM ad δ K ∧ cM ad δ K ≤ 2000 := by
  have b := cb_3_1 I (kk_3 L hK) (lk_r L hK)
  rw [lk_n L hK] at b
  exact b
theorem cN_b {ad : List Nat} {h : hp} (L : Lay TLx ad h) {δ0 δ : dp} (I : CI ad h.1 δ0 δ) {K : Nat} (hK : K < 4) : 0 ≤ cN ad δ K ∧ cN ad δ K ≤ 1000 := cb_2_4 I (kk_2 L hK)
/-- what a change of house K leaves: all but counts of touches, and what is K's -/
def mf (ad : List Nat) (K : Nat) (δ δ1 : dp) : Prop := (∀ c k a, c ≠ 1 → c ≠ 4 → ¬ (c = 3 ∧ k = 1 ∧ a = Ad ad (76 + 6 * K)) → ¬ (c = 2 ∧ k = 4 ∧ a = Ad ad (75 + 6 * K)) → q_I δ1 c k a = q_I δ c k a) ∧ (∀ b, b ≠ Ad ad 59 → b ≠ Ad ad (77 + 6 * K) → b ≠ Ad ad (78 + 6 * K) → b ≠ Ad ad (79 + 6 * K) → q_R δ1 b = q_R δ b)
theorem mf.r {ad : List Nat} {K : Nat} {δ : dp} : mf ad K δ δ := ⟨fun _ _ _ _ _ _ _ => rfl, fun _ _ _ _ _ => rfl⟩
theorem mf.t {ad : List Nat} {K : Nat} {δ δ1 δ2 : dp} (h : mf ad K δ δ1) (k : mf ad K δ1 δ2) : mf ad K δ δ2 := ⟨fun c q a n1 n4 n2 n3 => (k.1 c q a n1 n4 n2 n3).trans (h.1 c q a n1 n4 n2 n3), fun b n4 n1 n2 n3 => (k.2 b n4 n1 n2 n3).trans (h.2 b n4 n1 n2 n3)⟩
/-- the same CHANGES, or one more -/
def nsm (ad : List Nat) (K : Nat) (δ δ1 : dp) : Prop := cN ad δ1 K = cN ad δ K ∧ (∀ i, cC ad δ1 K i = cC ad δ K i) ∧ ∀ i, cT ad δ1 K i = cT ad δ K i
def nmo (ad : List Nat) (K : Nat) (call x t : Int) (δ δ1 : dp) : Prop := cN ad δ1 K = cN ad δ K + 1 ∧ (∀ i : Nat, cC ad δ1 K i = if (i : Int) = cN ad δ K then 2 * x + call else cC ad δ K i) ∧ ∀ i : Nat, cT ad δ1 K i = if (i : Int) = cN ad δ K then t else cT ad δ K i
/-- what becomes of house K -/
def mk (ad : List Nat) (K : Nat) (call x t : Int) (δ δ1 : dp) : Prop :=
  (call = 0 ∧ ME (cM ad δ K) (cR ad δ K) x ∧ RE (cM ad δ K) (cR ad δ K) (cM ad δ1 K) (cR ad δ1 K) ∧ nsm ad K δ δ1) ∨
  (call = 0 ∧ ¬ ME (cM ad δ K) (cR ad δ K) x ∧ (∃ p : Nat, PL (cM ad δ K) (cR ad δ K) x p ∧ IN (cM ad δ K) (cR ad δ K) x p (cM ad δ1 K) (cR ad δ1 K)) ∧ nmo ad K call x t δ δ1) ∨
  (call = 1 ∧ ¬ ME (cM ad δ K) (cR ad δ K) x ∧ RE (cM ad δ K) (cR ad δ K) (cM ad δ1 K) (cR ad δ1 K) ∧ nsm ad K δ δ1) ∨
  (call = 1 ∧ ME (cM ad δ K) (cR ad δ K) x ∧ (∃ p : Nat, (p : Int) < cM ad δ K ∧ cR ad δ K p = x ∧ DE (cM ad δ K) (cR ad δ K) p (cM ad δ1 K) (cR ad δ1 K)) ∧ nmo ad K call x t δ δ1)
theorem h2_refusal {ad : List Nat} {h : hp} (L : Lay TLx ad h) {δ0 : dp} {N K : Nat} (hK : K < 4) {x1 x2 : Int32} {δ : dp} (I : CI ad h.1 δ0 δ) (a1 : 0 ≤ x1.toInt) (a2 : x1.toInt ≤ 2000) (b1 : 0 ≤ x2.toInt) (b2 : x2.toInt ≤ 2000) : hs (D_X2_refusal N h.1 (Ad ad (75 + 6 * K)) x1 x2 δ) (fun r => r.2 = δ ∧ ((cM ad δ K + x1.toInt ≤ 2000 ∧ cN ad δ K + x1.toInt + x2.toInt ≤ 1000 ∧ r.1 = 0) ∨ (cM ad δ K + x1.toInt ≤ 2000 ∧ 1000 < cN ad δ K + x1.toInt + x2.toInt ∧ r.1 = -2) ∨ (2000 < cM ad δ K + x1.toInt ∧ r.1 = -1))) := by
  have m := cM_b L I hK
  have n := cN_b L I hK
  unfold cM at m
  unfold cN at n
  have z2 : (2000 : Int32).toInt = 2000 := rfl
  have z1 : (1000 : Int32).toInt = 1000 := rfl
  have t1 := te_add (q_I δ 3 1 (Ad ad (76 + 6 * K))) x1 (by omega) (by omega)
  have t2 := te_add (q_I δ 2 4 (Ad ad (75 + 6 * K))) x1 (by omega) (by omega)
  have t3 := te_add (q_I δ 2 4 (Ad ad (75 + 6 * K)) + x1) x2 (by omega) (by omega)
  unfold D_X2_refusal J_X2_refusal_37 cM cN
  refine hs_at (lk_0 L hK) (hs_ite (fun c => ?_) (fun c => ?_))
  · have c1 := o_le c
    refine hs_ite (fun d => ?_) (fun d => ?_)
    · have d1 := o_le d
      exact hs_some ⟨rfl, Or.inl ⟨by omega, by omega, rfl⟩⟩
    · have d1 := o_nle d
      exact hs_some ⟨rfl, Or.inr (Or.inl ⟨by omega, by omega, rfl⟩)⟩
  · have c1 := o_nle c
    exact hs_some ⟨rfl, Or.inr (Or.inr ⟨by omega, rfl⟩)⟩
theorem cell_ne {ad : List Nat} {h : hp} (L : Lay TLx ad h) {i j : Nat} (hi : i < 128) (hj : j < 128) (n : i ≠ j) : Ad ad i ≠ Ad ad j := ad_ne L hi hj n
/-- the CHANGE is noted, if there was one -/
theorem h2_make33 {ad : List Nat} {h : hp} (L : Lay TLx ad h) {N K : Nat} (hK : K < 4) {x1 x2 w t : Int32} {δ : dp} (c0 : 0 ≤ x1.toInt) (c1 : x1.toInt ≤ 1) (a1 : 0 ≤ x2.toInt) (a2 : x2.toInt ≤ 65536) (nb : 0 ≤ cN ad δ K) (nn : w ≠ 0 → cN ad δ K < 1000) : hs (J_X2_make_33 N h.1 (Ad ad (75 + 6 * K)) x1 x2 w t δ) (fun r => r.1 = t ∧ mf ad K δ r.2 ∧ cM ad r.2 K = cM ad δ K ∧ (∀ i, cR ad r.2 K i = cR ad δ K i) ∧ ((w = 0 ∧ nsm ad K δ r.2) ∨ (w ≠ 0 ∧ nmo ad K x1.toInt x2.toInt t.toInt δ r.2))) := by
  unfold J_X2_make_33 J_X2_make_84
  refine hs_ite (fun c => ?_) (fun c => ?_)
  · exact hs_some ⟨rfl, mf.r, rfl, fun _ => rfl, Or.inl ⟨c, rfl, fun _ => rfl, fun _ => rfl⟩⟩
  · have n1 := nn c
    unfold cN at n1 nb
    have z1 : (1000 : Int32).toInt = 1000 := rfl
    have z2 : (2 : Int32).toInt = 2 := rfl
    refine hs_ite (fun d => by have := o_le d; omega) (fun d => ?_)
    refine hs_at (lk_2 L hK) (hs_gd (fun _ => hs_bdv (fun d1 e1 => hs_at (lk_3 L hK) (hs_gd (fun _ => hs_bdv (fun d2 e2 => hs_bdv (fun d3 e3 => hs_some ?_)))))))
    have q1 : q_I d1 2 4 (Ad ad (75 + 6 * K)) = q_I δ 2 4 (Ad ad (75 + 6 * K)) := by rw [e1]; rfl
    have q2 : q_I d2 2 4 (Ad ad (75 + 6 * K)) = q_I δ 2 4 (Ad ad (75 + 6 * K)) := by rw [e2, ← q1]; rfl
    have ne1 : Ad ad (79 + 6 * K) ≠ Ad ad (78 + 6 * K) := ad_ne L (by omega) (by omega) (by omega)
    have tn := ti_tn (q_I δ 2 4 (Ad ad (75 + 6 * K)))
    have t1 := te_addc (c := 1) (n := 1) rfl (q_I δ 2 4 (Ad ad (75 + 6 * K))) (by omega) (by omega)
    have t2 := te_mulr (c := 2) (n := 2) rfl x2 (by omega) (by omega)
    have t3 := te_add (x2 * 2) x1 (by omega) (by omega)
    have fr : mf ad K δ d3 := ⟨fun c k a _ _ _ m3 => by rw [e3, qI_sI, if_neg m3, e2, e1]; rfl, fun b _ m1 m2 m3 => by rw [e3]; show q_R d2 b = _; rw [e2, rR_o m3, e1, rR_o m2]⟩
    refine ⟨rfl, fr, ?_, fun i => ?_, Or.inr ⟨c, ?_, fun i => ?_, fun i => ?_⟩⟩
    · unfold cM; rw [e3, rI_o (by decide), e2, e1]; rfl
    · unfold cR; rw [e3]; show (q_R d2 _ i).toInt = _; rw [e2, rR_o (ad_ne L (by omega) (by omega) (by omega)), e1, rR_o (ad_ne L (by omega) (by omega) (by omega))]
    · unfold cN; rw [e3, rI_s, q2]; exact t1.1
    · have : q_R d3 (Ad ad (78 + 6 * K)) = q_R d1 (Ad ad (78 + 6 * K)) := by rw [e3]; show q_R d2 _ = _; rw [e2]; exact rR_o ne1.symm
      unfold cC cN
      rw [this, e1, qR_sR]
      by_cases z : (i : Int) = (q_I δ 2 4 (Ad ad (75 + 6 * K))).toInt
      · rw [if_pos ⟨rfl, by omega⟩, if_pos z]; omega
      · rw [if_neg (fun y => z (by omega)), if_neg z]
    · have : q_R d3 (Ad ad (79 + 6 * K)) = q_R d2 (Ad ad (79 + 6 * K)) := by rw [e3]; rfl
      unfold cT cN
      rw [this, e2, qR_sR, q1]
      by_cases z : (i : Int) = (q_I δ 2 4 (Ad ad (75 + 6 * K))).toInt
      · rw [if_pos ⟨rfl, by omega⟩, if_pos z]
      · rw [if_neg (fun y => z (by omega)), if_neg z, e1]
        show (q_R (s_R δ _ _ _) _ _).toInt = _
        rw [rR_o ne1]
theorem h2_make {ad : List Nat} {h : hp} (L : Lay TLx ad h) {δ0 : dp} {N : Nat} (hN : 10000000 ≤ N) {K : Nat} (hK : K < 4) {x1 x2 : Int32} {δ : dp} (I : CI ad h.1 δ0 δ) (S : SR (cM ad δ K) (cR ad δ K)) (c0 : 0 ≤ x1.toInt) (c1 : x1.toInt ≤ 1) (a1 : 0 ≤ x2.toInt) (a2 : x2.toInt ≤ 65536) (mm : x1.toInt = 0 → ¬ ME (cM ad δ K) (cR ad δ K) x2.toInt → cM ad δ K < 2000) (nn : (x1.toInt = 0 ↔ ¬ ME (cM ad δ K) (cR ad δ K) x2.toInt) → cN ad δ K < 1000) : hs (D_X2_make N h.1 (Ad ad (75 + 6 * K)) x1 x2 δ) (fun r => mf ad K δ r.2 ∧ (∃ d, D_X1_touchesOf N h.1 (Ad ad (80 + 6 * K)) x1 x2 δ = some (r.1, d)) ∧ mk ad K x1.toInt x2.toInt r.1.toInt δ r.2) := by
  have z0 : (0 : Int32).toInt = 0 := rfl
  have nb := (cN_b L I hK).1
  unfold D_X2_make
  refine hs_at (lk_1 L hK) ?_
  cases et : D_X1_touchesOf N h.1 (Ad ad (80 + 6 * K)) x1 x2 δ with
  | none => exact hs_none
  | some r3 =>
    obtain ⟨t, d3⟩ := r3
    have ht := ok_h (k_X1_touchesOf L hN (x1 := x1) (x2 := x2) (kk_1 L hK) (lk_h L hK) (kk_3 L hK) I) _ et
    obtain ⟨I3, ⟨u3, _, w3⟩⟩ := ht
    dsimp only at I3 u3 w3
    show hs (if x1 = 0 then _ else _) _
    have f3 : mf ad K δ d3 := ⟨fun c k a n1 _ _ _ => u3 c k a (fun z => n1 (by simp only [List.mem_cons, List.not_mem_nil, or_false, Prod.mk.injEq] at z; omega)), fun b _ _ _ _ => by rw [w3]⟩
    have eM : cM ad d3 K = cM ad δ K := by unfold cM; rw [u3 3 1 _ (by decide)]
    have eR : cR ad d3 K = cR ad δ K := by funext i; unfold cR; rw [w3]
    have eN : cN ad d3 K = cN ad δ K := by unfold cN; rw [u3 2 4 _ (by decide)]
    have eC : cC ad d3 K = cC ad δ K := by funext i; unfold cC; rw [w3]
    have eT : cT ad d3 K = cT ad δ K := by funext i; unfold cT; rw [w3]
    have S3 : SR (mM d3 (Ad ad (76 + 6 * K))) (mR d3 (Ad ad (77 + 6 * K))) := by
      show SR (cM ad d3 K) (cR ad d3 K)
      rw [eM, eR]; exact S
    have fr : ∀ d4, fr3 (Ad ad (76 + 6 * K)) (Ad ad (77 + 6 * K)) d3 d4 → mf ad K δ d4 ∧ cN ad d4 K = cN ad δ K ∧ cC ad d4 K = cC ad δ K ∧ cT ad d4 K = cT ad δ K := fun d4 f => by
      refine ⟨f3.t ⟨fun c k a _ _ n2 _ => f.1 c k a n2, fun b _ n1 _ _ => f.2 b n1⟩, ?_, ?_, ?_⟩
      · rw [← eN]; unfold cN; rw [f.1 2 4 _ (by omega)]
      · rw [← eC]; funext i; unfold cC; rw [f.2 _ (ad_ne L (by omega) (by omega) (by omega))]
      · rw [← eT]; funext i; unfold cT; rw [f.2 _ (ad_ne L (by omega) (by omega) (by omega))]
    refine hs_ite (fun c => ?_) (fun c => ?_)
    · have x0 : x1.toInt = 0 := by rw [c]; rfl
      refine hs_at (lk_0 L hK) (hs_bind (h3_add L hN (x := x2) (kk_3 L hK) (lk_r L hK) I3 S3) (fun r4 h4 => ?_))
      obtain ⟨f4, i4, _, q4⟩ := h4
      obtain ⟨m4, n4, c4, t4⟩ := fr _ f4
      change (_ ∧ _ ∧ (_ ≤ cM ad d3 K ∨ ME (cM ad d3 K) (cR ad d3 K) _)) ∨ (_ ∧ ¬ ME (cM ad d3 K) (cR ad d3 K) _ ∧ ∃ p : Nat, PL (cM ad d3 K) (cR ad d3 K) _ p ∧ IN (cM ad d3 K) (cR ad d3 K) _ p (cM ad r4.2 K) (cR ad r4.2 K)) at q4
      rw [eM, eR, lk_n L hK] at q4
      rcases q4 with ⟨w4, s4, y4⟩ | ⟨w4, ne4, p, P, J⟩
      · have me : ME (cM ad δ K) (cR ad δ K) x2.toInt := by
          rcases y4 with y4 | y4
          · exact Classical.byContradiction fun z => by have := mm x0 z; omega
          · exact y4
        refine hs_mono (h2_make33 L hK c0 c1 a1 a2 (by rw [n4]; exact nb) (fun z => absurd w4 z)) (fun r hr => ?_)
        obtain ⟨g1, g2, g3, g4, g5⟩ := hr
        rw [w4] at g5
        rcases g5 with ⟨_, g6, g7, g8⟩ | ⟨z, _⟩
        · refine ⟨m4.t g2, ⟨d3, by rw [g1]⟩, Or.inl ⟨x0, me, ⟨by rw [g3, s4, eM], fun i _ => by rw [g4, s4, eR]⟩, by rw [g6, n4], fun i => by rw [g7, c4], fun i => by rw [g8, t4]⟩⟩
        · exact absurd rfl z
      · refine hs_mono (h2_make33 L hK c0 c1 a1 a2 (by rw [n4]; exact nb) (fun _ => by rw [n4]; exact nn ⟨fun _ => ne4, fun _ => x0⟩)) (fun r hr => ?_)
        obtain ⟨g1, g2, g3, g4, g5⟩ := hr
        rw [w4] at g5
        rcases g5 with ⟨z, _⟩ | ⟨_, g6, g7, g8⟩
        · exact absurd z (by decide)
        · refine ⟨m4.t g2, ⟨d3, by rw [g1]⟩, Or.inr (Or.inl ⟨x0, ne4, ⟨p, P, ?_⟩, by rw [g6, n4], fun i => by rw [g7, n4, c4], fun i => by rw [g8, n4, t4, g1]⟩)⟩
          rw [g3, show cR ad r.2 K = cR ad r4.2 K from funext g4]; exact J
    · have x0 : x1.toInt = 1 := by have := o_ne c; omega
      refine hs_at (lk_0 L hK) (hs_bind (h3_remove L hN (x := x2) (kk_3 L hK) (lk_r L hK) I3 S3) (fun r4 h4 => ?_))
      obtain ⟨f4, i4, _, q4⟩ := h4
      obtain ⟨m4, n4, c4, t4⟩ := fr _ f4
      change (_ ∧ _ ∧ ¬ ME (cM ad d3 K) (cR ad d3 K) _) ∨ (_ ∧ ∃ p : Nat, (p : Int) < cM ad d3 K ∧ cR ad d3 K p = _ ∧ DE (cM ad d3 K) (cR ad d3 K) p (cM ad r4.2 K) (cR ad r4.2 K)) at q4
      rw [eM, eR] at q4
      rcases q4 with ⟨w4, s4, y4⟩ | ⟨w4, p, P1, P2, J⟩
      · refine hs_mono (h2_make33 L hK c0 c1 a1 a2 (by rw [n4]; exact nb) (fun z => absurd w4 z)) (fun r hr => ?_)
        obtain ⟨g1, g2, g3, g4, g5⟩ := hr
        rw [w4] at g5
        rcases g5 with ⟨_, g6, g7, g8⟩ | ⟨z, _⟩
        · refine ⟨m4.t g2, ⟨d3, by rw [g1]⟩, Or.inr (Or.inr (Or.inl ⟨x0, y4, ⟨by rw [g3, s4, eM], fun i _ => by rw [g4, s4, eR]⟩, by rw [g6, n4], fun i => by rw [g7, c4], fun i => by rw [g8, t4]⟩))⟩
        · exact absurd rfl z
      · have me : ME (cM ad δ K) (cR ad δ K) x2.toInt := ⟨p, P1, P2⟩
        refine hs_mono (h2_make33 L hK c0 c1 a1 a2 (by rw [n4]; exact nb) (fun _ => by rw [n4]; exact nn ⟨fun z => by omega, fun z => absurd me z⟩)) (fun r hr => ?_)
        obtain ⟨g1, g2, g3, g4, g5⟩ := hr
        rw [w4] at g5
        rcases g5 with ⟨z, _⟩ | ⟨_, g6, g7, g8⟩
        · exact absurd z (by decide)
        · refine ⟨m4.t g2, ⟨d3, by rw [g1]⟩, Or.inr (Or.inr (Or.inr ⟨x0, me, ⟨p, P1, P2, ?_⟩, by rw [g6, n4], fun i => by rw [g7, n4, c4], fun i => by rw [g8, n4, t4, g1]⟩))⟩
          rw [g3, show cR ad r.2 K = cR ad r4.2 K from funext g4]; exact J
/-- what put and drop answer of house K -/
def chA (M : Int) (R : Nat → Int) (n call x v : Int) : Prop := (call = 0 ∧ ME M R x ∧ v = 0) ∨ (call = 1 ∧ ¬ ME M R x ∧ v = 0) ∨ ((call = 0 ↔ ¬ ME M R x) ∧ ((call = 0 ∧ 2000 ≤ M ∧ v = -1) ∨ (¬ (call = 0 ∧ 2000 ≤ M) ∧ 1000 ≤ n ∧ v = -2) ∨ (¬ (call = 0 ∧ 2000 ≤ M) ∧ n < 1000 ∧ v = 1)))
theorem h2_change {ad : List Nat} {h : hp} (L : Lay TLx ad h) {δ0 : dp} {N : Nat} (hN : 10000000 ≤ N) {K : Nat} (hK : K < 4) {x1 x2 : Int32} {δ : dp} (I : CI ad h.1 δ0 δ) (S : SR (cM ad δ K) (cR ad δ K)) (c0 : 0 ≤ x1.toInt) (c1 : x1.toInt ≤ 1) (a1 : 0 ≤ x2.toInt) (a2 : x2.toInt ≤ 65536) : hs (D_X2_change N h.1 (Ad ad (75 + 6 * K)) x1 x2 δ) (fun r => chA (cM ad δ K) (cR ad δ K) (cN ad δ K) x1.toInt x2.toInt r.1.toInt ∧ ((r.1.toInt ≠ 1 ∧ r.2 = δ) ∨ (r.1.toInt = 1 ∧ mf ad K δ r.2 ∧ ∃ t d, D_X1_touchesOf N h.1 (Ad ad (80 + 6 * K)) x1 x2 δ = some (t, d) ∧ mk ad K x1.toInt x2.toInt t.toInt δ r.2))) := by
  have z0 : (0 : Int32).toInt = 0 := rfl
  have mb := cM_b L I hK
  have nb := cN_b L I hK
  have tail : ∀ (w u : Int32), (x1.toInt = 0 ↔ ¬ ME (cM ad δ K) (cR ad δ K) x2.toInt) → (x1.toInt = 0 ∧ w = 0 ∧ u = 1 ∨ x1.toInt = 1 ∧ w = 1 ∧ u = 0) → hs (J_X2_change_43 N h.1 (Ad ad (75 + 6 * K)) x1 x2 w u (Ad ad (75 + 6 * K)) δ) (fun r => chA (cM ad δ K) (cR ad δ K) (cN ad δ K) x1.toInt x2.toInt r.1.toInt ∧ ((r.1.toInt ≠ 1 ∧ r.2 = δ) ∨ (r.1.toInt = 1 ∧ mf ad K δ r.2 ∧ ∃ t d, D_X1_touchesOf N h.1 (Ad ad (80 + 6 * K)) x1 x2 δ = some (t, d) ∧ mk ad K x1.toInt x2.toInt t.toInt δ r.2))) := by
    intro w u hc hw
    have w1 : w.toInt = x1.toInt ∧ u.toInt = 1 - x1.toInt := by
      rcases hw with ⟨q1, q2, q3⟩ | ⟨q1, q2, q3⟩
      · rw [q2, q3, q1]; exact ⟨rfl, rfl⟩
      · rw [q2, q3, q1]; exact ⟨rfl, rfl⟩
    unfold J_X2_change_43
    refine hs_bind (h2_refusal L hK (x1 := u) (x2 := w) I (by omega) (by omega) (by omega) (by omega)) (fun r hr => ?_)
    obtain ⟨e, hq⟩ := hr
    rw [e]
    have ub : u.toInt = 0 ∨ u.toInt = 1 := by omega
    rcases hq with ⟨q1, q2, q3⟩ | ⟨q1, q2, q3⟩ | ⟨q1, q3⟩
    · rw [q3]
      refine hs_ite (fun _ => ?_) (fun z => absurd (by decide) z)
      refine hs_bind (h2_make L hN hK (x1 := x1) (x2 := x2) I S c0 c1 a1 a2 (fun z _ => by omega) (fun _ => by omega)) (fun r2 h2 => ?_)
      obtain ⟨g1, ⟨d, g2⟩, g3⟩ := h2
      exact hs_some ⟨Or.inr (Or.inr ⟨hc, Or.inr (Or.inr ⟨by omega, by omega, rfl⟩)⟩), Or.inr ⟨rfl, g1, _, d, g2, g3⟩⟩
    · rw [q3]
      refine hs_ite (fun z => absurd z (by decide)) (fun _ => ?_)
      exact hs_some ⟨Or.inr (Or.inr ⟨hc, Or.inr (Or.inl ⟨by omega, by omega, rfl⟩)⟩), Or.inl ⟨(by decide : (-2 : Int32).toInt ≠ 1), rfl⟩⟩
    · rw [q3]
      refine hs_ite (fun z => absurd z (by decide)) (fun _ => ?_)
      exact hs_some ⟨Or.inr (Or.inr ⟨hc, Or.inl ⟨by omega, by omega, rfl⟩⟩), Or.inl ⟨(by decide : (-1 : Int32).toInt ≠ 1), rfl⟩⟩
  unfold D_X2_change J_X2_change_9
  refine hs_ite (fun c => ?_) (fun c => ?_)
  · have x0 : x1.toInt = 0 := by rw [c]; rfl
    refine hs_at (lk_0 L hK) (hs_bind (h3_holds L hN (x := x2) (kk_3 L hK) (lk_r L hK) I S) (fun r hr => ?_))
    obtain ⟨e, hm⟩ := hr
    rw [e]
    change (_ ∧ ME (cM ad δ K) (cR ad δ K) _) ∨ (_ ∧ ¬ ME (cM ad δ K) (cR ad δ K) _) at hm
    rcases hm with ⟨w, hm⟩ | ⟨w, hm⟩
    · rw [w]
      refine hs_ite (fun _ => hs_some ⟨Or.inl ⟨x0, hm, rfl⟩, Or.inl ⟨(by decide : (0 : Int32).toInt ≠ 1), rfl⟩⟩) (fun z => absurd rfl z)
    · rw [w]
      refine hs_ite (fun z => absurd z (by decide)) (fun _ => ?_)
      refine hs_ite (fun z => absurd z (by decide)) (fun _ => ?_)
      unfold J_X2_change_34
      refine hs_ite (fun z => absurd z (by decide)) (fun _ => ?_)
      exact tail 0 1 ⟨fun _ => hm, fun _ => x0⟩ (Or.inl ⟨x0, rfl, rfl⟩)
  · have x0 : x1.toInt = 1 := by have := o_ne c; omega
    refine hs_at (lk_0 L hK) (hs_bind (h3_holds L hN (x := x2) (kk_3 L hK) (lk_r L hK) I S) (fun r hr => ?_))
    obtain ⟨e, hm⟩ := hr
    rw [e]
    change (_ ∧ ME (cM ad δ K) (cR ad δ K) _) ∨ (_ ∧ ¬ ME (cM ad δ K) (cR ad δ K) _) at hm
    rcases hm with ⟨w, hm⟩ | ⟨w, hm⟩
    · rw [w]
      refine hs_ite (fun z => absurd z (by decide)) (fun _ => ?_)
      refine hs_ite (fun _ => ?_) (fun z => absurd rfl z)
      unfold J_X2_change_34
      refine hs_ite (fun _ => ?_) (fun z => absurd rfl z)
      exact tail 1 0 ⟨fun z => by omega, fun z => absurd hm z⟩ (Or.inr ⟨x0, rfl, rfl⟩)
    · rw [w]
      refine hs_ite (fun _ => hs_some ⟨Or.inr (Or.inl ⟨x0, hm, rfl⟩), Or.inl ⟨(by decide : (0 : Int32).toInt ≠ 1), rfl⟩⟩) (fun z => absurd rfl z)
end
section
/-! a house of the class and one of the reference: the same -/
/-- what a call does to a house of the class: its row, its CHANGES -/
def mka (call x M : Int) (R : Nat → Int) (n : Int) (C : Nat → Int) (M1 : Int) (R1 : Nat → Int) (n1 : Int) (C1 : Nat → Int) : Prop :=
  (call = 0 ∧ ME M R x ∧ RE M R M1 R1 ∧ n1 = n ∧ ∀ i : Nat, (i : Int) < n → C1 i = C i) ∨
  (call = 0 ∧ ¬ ME M R x ∧ (∃ p : Nat, PL M R x p ∧ IN M R x p M1 R1) ∧ n1 = n + 1 ∧ ∀ i : Nat, (i : Int) ≤ n → C1 i = if (i : Int) = n then 2 * x + call else C i) ∨
  (call = 1 ∧ ¬ ME M R x ∧ RE M R M1 R1 ∧ n1 = n ∧ ∀ i : Nat, (i : Int) < n → C1 i = C i) ∨
  (call = 1 ∧ ME M R x ∧ (∃ p : Nat, (p : Int) < M ∧ R p = x ∧ DE M R p M1 R1) ∧ n1 = n + 1 ∧ ∀ i : Nat, (i : Int) ≤ n → C1 i = if (i : Int) = n then 2 * x + call else C i)
/-- the same of the reference -/
def mra (call x M : Int) (R : Nat → Int) (n : Int) (T F : Nat → Int) (M1 : Int) (R1 : Nat → Int) (n1 : Int) (T1 F1 : Nat → Int) : Prop :=
  (call = 0 ∧ ME M R x ∧ RE M R M1 R1 ∧ n1 = n ∧ ∀ i : Nat, (i : Int) < n → T1 i = T i ∧ F1 i = F i) ∨
  (call = 0 ∧ ¬ ME M R x ∧ (∃ p : Nat, PL M R x p ∧ IN M R x p M1 R1) ∧ n1 = n + 1 ∧ ∀ i : Nat, (i : Int) ≤ n → (T1 i = if (i : Int) = n then x else T i) ∧ (F1 i = if (i : Int) = n then 1 - call else F i)) ∨
  (call = 1 ∧ ¬ ME M R x ∧ RE M R M1 R1 ∧ n1 = n ∧ ∀ i : Nat, (i : Int) < n → T1 i = T i ∧ F1 i = F i) ∨
  (call = 1 ∧ ME M R x ∧ (∃ p : Nat, (p : Int) < M ∧ R p = x ∧ DE M R p M1 R1) ∧ n1 = n + 1 ∧ ∀ i : Nat, (i : Int) ≤ n → (T1 i = if (i : Int) = n then x else T i) ∧ (F1 i = if (i : Int) = n then 1 - call else F i))
/-- alike: row, CHANGES, and the row is what its CHANGES make -/
def HEa (A M : Int) (R : Nat → Int) (n : Int) (C : Nat → Int) (M' : Int) (R' : Nat → Int) (n' : Int) (T F : Nat → Int) : Prop :=
  RE M' R' M R ∧ n = n' ∧ 0 ≤ n' ∧ SR M' R' ∧ 0 ≤ M' ∧ (∀ i : Nat, (i : Int) < n' → C i = 2 * T i + (1 - F i)) ∧ Vd A T F n'.toNat ∧ (∀ y, ME M' R' y ↔ St T F n'.toNat y) ∧ M' = Ct F n'.toNat
theorem HEa.c {A M M' n n' A1 M1 M1' n1 n1' : Int} {R R' C T F R1 R1' C1 T1 F1 : Nat → Int} (H : HEa A M R n C M' R' n' T F) (eA : A1 = A) (eM : RE M R M1 R1) (en : n1 = n) (eC : ∀ i : Nat, (i : Int) < n → C1 i = C i) (eM' : RE M' R' M1' R1') (en' : n1' = n') (eT : ∀ i : Nat, (i : Int) < n' → T1 i = T i ∧ F1 i = F i) : HEa A1 M1 R1 n1 C1 M1' R1' n1' T1 F1 := by
  obtain ⟨h1, h2, h3, h4, h5, h6, h7, h8, h9⟩ := H
  subst eA en en'
  have eT' : ∀ t, t < n1'.toNat → T1 t = T t ∧ F1 t = F t := fun t ht => eT t (by omega)
  refine ⟨(eM'.s.t h1).t eM, h2, h3, SR_c eM' h4, by rw [eM'.1]; exact h5, fun i hi => ?_, Vd_c eT' h7, fun y => ?_, ?_⟩
  · rw [eC i (by omega), (eT i hi).1, (eT i hi).2]; exact h6 i hi
  · rw [St_c _ eT' y, ← h8 y]; exact (ME_i eM').symm
  · rw [Ct_c _ (fun t ht => (eT' t ht).2), eM'.1]; exact h9
theorem HEa.m {A call x M M' n n' M1 M1' n1 n1' : Int} {R R' C T F R1 R1' C1 T1 F1 : Nat → Int} (H : HEa A M R n C M' R' n' T F) (x0 : 0 ≤ x) (xA : x < A) (c : mka call x M R n C M1 R1 n1 C1) (r : mra call x M' R' n' T F M1' R1' n1' T1 F1) : HEa A M1 R1 n1 C1 M1' R1' n1' T1 F1 := by
  obtain ⟨h1, h2, h3, h4, h5, h6, h7, h8, h9⟩ := id H
  have mi := ME_i (x := x) h1
  have old : ∀ i : Nat, i < n'.toNat → (i : Int) ≠ n' := fun i hi => by omega
  rcases c with ⟨k0, c1, c2, c3, c4⟩ | ⟨k0, c1, ⟨p, P, J⟩, c3, c4⟩ | ⟨k0, c1, c2, c3, c4⟩ | ⟨k0, c1, ⟨p, P, P2, J⟩, c3, c4⟩ <;> rcases r with ⟨l0, r1, r2, r3, r4⟩ | ⟨l0, r1, ⟨q, Q, Z⟩, r3, r4⟩ | ⟨l0, r1, r2, r3, r4⟩ | ⟨l0, r1, ⟨q, Q, Q2, Z⟩, r3, r4⟩ <;> first | (exfalso; omega) | skip
  · exact H.c rfl c2 c3 c4 r2 r3 r4
  · exact absurd (mi.mpr c1) r1
  · exact absurd (mi.mp r1) c1
  · obtain rfl : q = p := PL_u (PL_c h1 Q) P
    have en : n1'.toNat = n'.toNat + 1 := by omega
    have eo : ∀ t, t < n'.toNat → T1 t = T t ∧ F1 t = F t := fun t ht => by
      have := r4 t (by omega)
      rw [if_neg (old t ht), if_neg (old t ht)] at this
      exact this
    have last := r4 n'.toNat (by omega)
    rw [if_pos (by omega), if_pos (by omega)] at last
    have f1 : F1 n'.toNat = 1 := by omega
    have s0 : ∀ y, St T1 F1 n'.toNat y ↔ St T F n'.toNat y := St_c _ eo
    refine ⟨IN_e Q.1 h1 Z J, by omega, by omega, IN_s h4 Q r1 Z, by rw [Z.1]; omega, fun i hi => ?_, fun t ht => ?_, fun y => ?_, ?_⟩
    · rw [c4 i (by omega), (r4 i (by omega)).1, (r4 i (by omega)).2]
      by_cases z : (i : Int) = n'
      · rw [if_pos (by omega), if_pos z, if_pos z]; omega
      · rw [if_neg (by omega), if_neg z, if_neg z]; exact h6 i (by omega)
    · rw [en] at ht
      by_cases z : t = n'.toNat
      · subst z
        rw [s0, last.1, ← h8]
        exact ⟨x0, xA, Or.inl ⟨f1, r1⟩⟩
      · exact Vd_c eo h7 t (by omega)
    · rw [en, St_put f1, s0, last.1, ← h8]
      exact IN_m Q.1 Z y
    · rw [en, Ct_put f1, Ct_c _ (fun t ht => (eo t ht).2), Z.1, h9]
  · exact H.c rfl c2 c3 c4 r2 r3 r4
  · exact absurd (mi.mp r1) c1
  · exact absurd (mi.mpr c1) r1
  · obtain rfl : q = p := by
      have e1 := h1.2 q Q
      have e0 := h1.1
      rcases (show q < p ∨ q = p ∨ p < q by omega) with z | z | z
      · have := SR_c h1 h4 q p z P; omega
      · exact z
      · have := SR_c h1 h4 p q z (by omega); omega
    have en : n1'.toNat = n'.toNat + 1 := by omega
    have eo : ∀ t, t < n'.toNat → T1 t = T t ∧ F1 t = F t := fun t ht => by
      have := r4 t (by omega)
      rw [if_neg (old t ht), if_neg (old t ht)] at this
      exact this
    have last := r4 n'.toNat (by omega)
    rw [if_pos (by omega), if_pos (by omega)] at last
    have f1 : F1 n'.toNat = 0 := by omega
    have s0 : ∀ y, St T1 F1 n'.toNat y ↔ St T F n'.toNat y := St_c _ eo
    refine ⟨DE_e h1 Z J, by omega, by omega, DE_s h4 Z, by rw [Z.1]; omega, fun i hi => ?_, fun t ht => ?_, fun y => ?_, ?_⟩
    · rw [c4 i (by omega), (r4 i (by omega)).1, (r4 i (by omega)).2]
      by_cases z : (i : Int) = n'
      · rw [if_pos (by omega), if_pos z, if_pos z]; omega
      · rw [if_neg (by omega), if_neg z, if_neg z]; exact h6 i (by omega)
    · rw [en] at ht
      by_cases z : t = n'.toNat
      · subst z
        rw [s0, last.1, ← h8]
        exact ⟨x0, xA, Or.inr ⟨f1, r1⟩⟩
      · exact Vd_c eo h7 t (by omega)
    · rw [en, St_drop f1, s0, last.1, ← h8]
      exact DE_m h4 Q Q2 Z y
    · rw [en, Ct_drop f1, Ct_c _ (fun t ht => (eo t ht).2), Z.1, h9]
/-! the reference's house -/
def nT (ad : List Nat) (δ : dp) (K i : Nat) : Int := (q_R δ (Ad ad 104) (1000 * K + i)).toInt
def cF (ad : List Nat) (δ : dp) (K i : Nat) : Int := (q_R δ (Ad ad 105) (1000 * K + i)).toInt
/-- house K of both is the same -/
def HE (ad : List Nat) (A : Int) (δ : dp) (K : Nat) : Prop := HEa A (cM ad δ K) (cR ad δ K) (cN ad δ K) (cC ad δ K) (hM ad δ K) (hR ad δ K) (hN ad δ K) (nT ad δ K) (cF ad δ K)
theorem mk_a {ad : List Nat} {K : Nat} {call x t : Int} {δ δ1 : dp} (m : mk ad K call x t δ δ1) : mka call x (cM ad δ K) (cR ad δ K) (cN ad δ K) (cC ad δ K) (cM ad δ1 K) (cR ad δ1 K) (cN ad δ1 K) (cC ad δ1 K) := by
  rcases m with ⟨k0, m1, m2, n1, n2, _⟩ | ⟨k0, m1, m2, n1, n2, _⟩ | ⟨k0, m1, m2, n1, n2, _⟩ | ⟨k0, m1, m2, n1, n2, _⟩
  · exact Or.inl ⟨k0, m1, m2, n1, fun i _ => n2 i⟩
  · exact Or.inr (Or.inl ⟨k0, m1, m2, n1, fun i _ => n2 i⟩)
  · exact Or.inr (Or.inr (Or.inl ⟨k0, m1, m2, n1, fun i _ => n2 i⟩))
  · exact Or.inr (Or.inr (Or.inr ⟨k0, m1, m2, n1, fun i _ => n2 i⟩))
/-- what a change of house K leaves of the reference's houses -/
def mfr (ad : List Nat) (K : Nat) (δ δ1 : dp) : Prop := (∀ J, J ≠ K → hM ad δ1 J = hM ad δ J ∧ hN ad δ1 J = hN ad δ J ∧ (∀ i, i < 2000 → hR ad δ1 J i = hR ad δ J i) ∧ ∀ i, i < 1000 → nT ad δ1 J i = nT ad δ J i ∧ cF ad δ1 J i = cF ad δ J i)
theorem mfr.r {ad : List Nat} {K : Nat} {δ : dp} : mfr ad K δ δ := fun _ _ => ⟨rfl, rfl, fun _ _ => rfl, fun _ _ => ⟨rfl, rfl⟩⟩
theorem mfr.t {ad : List Nat} {K : Nat} {δ δ1 δ2 : dp} (h : mfr ad K δ δ1) (k : mfr ad K δ1 δ2) : mfr ad K δ δ2 := fun J n => by
  obtain ⟨h1, h2, h3, h4⟩ := h J n
  obtain ⟨k1, k2, k3, k4⟩ := k J n
  exact ⟨k1.trans h1, k2.trans h2, fun i hi => (k3 i hi).trans (h3 i hi), fun i hi => ⟨(k4 i hi).1.trans (h4 i hi).1, (k4 i hi).2.trans (h4 i hi).2⟩⟩
def mr (ad : List Nat) (K : Nat) (call x : Int) (δ δ1 : dp) : Prop := mra call x (hM ad δ K) (hR ad δ K) (hN ad δ K) (nT ad δ K) (cF ad δ K) (hM ad δ1 K) (hR ad δ1 K) (hN ad δ1 K) (nT ad δ1 K) (cF ad δ1 K)
theorem IN_h {ad : List Nat} {δ δ1 : dp} {H p M : Nat} {x : Int32} (hM1 : hM ad δ H = (M : Int)) (hp : p ≤ M) (D : hin ad δ δ1 H x p M) : IN (hM ad δ H) (hR ad δ H) x.toInt p (hM ad δ1 H) (hR ad δ1 H) := by
  obtain ⟨d1, d2⟩ := D
  refine ⟨?_, fun i hi => ?_⟩
  · rw [hM1]
    show (q_R δ1 (Ad ad 103) H).toInt = _
    rw [d2 H, if_pos rfl]
  · rw [hM1] at hi
    show (q_R δ1 (Ad ad 102) (2000 * H + i)).toInt = _
    rw [d1]
    by_cases c : i < p
    · rw [if_neg (by omega), if_neg (by omega), if_pos c]; rfl
    · rw [if_neg c]
      by_cases c2 : i = p
      · rw [if_pos (by omega), if_pos c2]
      · rw [if_neg (by omega), if_pos (by omega), if_neg c2, show 2000 * H + i - 1 = 2000 * H + (i - 1) by omega]; rfl
theorem DE_h {ad : List Nat} {δ δ1 : dp} {H p M : Nat} (hM1 : hM ad δ H = (M : Int)) (D : hde ad δ δ1 H p M) : DE (hM ad δ H) (hR ad δ H) p (hM ad δ1 H) (hR ad δ1 H) := by
  obtain ⟨d1, d2⟩ := D
  refine ⟨?_, fun i hi => ?_⟩
  · rw [hM1]
    show (q_R δ1 (Ad ad 103) H).toInt = _
    rw [d2 H, if_pos rfl]
  · rw [hM1] at hi
    show (q_R δ1 (Ad ad 102) (2000 * H + i)).toInt = _
    rw [d1]
    by_cases c : i < p
    · rw [if_neg (by omega), if_pos c]; rfl
    · rw [if_neg c, if_pos (by omega)]; rfl
theorem hr_notes {ad : List Nat} {h : hp} (L : Lay TLx ad h) {N a0 H T : Nat} {x1 x2 x3 : Int32} (ka : q_K h.1 a0 = 12) (hx : x1.toInt = (H : Int)) (hh : H < 4) {δ : dp} (hT : hN ad δ H = (T : Int)) (hn : T < 1000) : hs (D_X12_notesDown N h.1 a0 x1 x2 x3 δ) (fun r => (∀ i, q_R r (Ad ad 104) i = if i = 1000 * H + T then x2 else q_R δ (Ad ad 104) i) ∧ (∀ i, q_R r (Ad ad 105) i = if i = 1000 * H + T then x3 else q_R δ (Ad ad 105) i) ∧ (∀ j, (q_R r (Ad ad 106) j).toInt = if j = H then (T : Int) + 1 else (q_R δ (Ad ad 106) j).toInt) ∧ (∀ b, b ≠ Ad ad 104 → b ≠ Ad ad 105 → b ≠ Ad ad 106 → q_R r b = q_R δ b) ∧ q_I r = q_I δ) := by
  have n45 : Ad ad 105 ≠ Ad ad 104 := ad_ne L (by decide) (by decide) (by decide)
  have n46 : Ad ad 106 ≠ Ad ad 104 := ad_ne L (by decide) (by decide) (by decide)
  have n56 : Ad ad 106 ≠ Ad ad 105 := ad_ne L (by decide) (by decide) (by decide)
  obtain ⟨b15, o15, _⟩ := gO_12_15 L ka
  obtain rfl := gS_12_15 L ka o15
  obtain ⟨b16, o16, _⟩ := gO_12_16 L ka
  obtain rfl := gS_12_16 L ka o16
  obtain ⟨b17, o17, _⟩ := gO_12_17 L ka
  obtain rfl := gS_12_17 L ka o17
  have tn := tnH hx
  unfold hN at hT
  have ix := (ix1 hx hh hT hn).2
  unfold D_X12_notesDown
  refine hs_at o15 (hs_at o17 (hs_gd (fun _ => hs_gd (fun _ => ?_))))
  rw [tn, ix]
  refine hs_bdv (fun d1 e1 => hs_at o16 (hs_at o17 (hs_gd (fun _ => hs_gd (fun _ => ?_)))))
  have q1 : q_R d1 (Ad ad 106) = q_R δ (Ad ad 106) := by rw [e1]; exact rR_o n46
  rw [q1, ix]
  refine hs_bdv (fun d2 e2 => hs_at o17 (hs_gd (fun _ => hs_gd (fun _ => ?_))))
  have q2 : q_R d2 (Ad ad 106) = q_R δ (Ad ad 106) := by rw [e2, rR_o n56, q1]
  rw [q2]
  have t1 := te_addc (c := 1) (n := 1) rfl (q_R δ (Ad ad 106) H) (by omega) (by omega)
  refine hs_bdv (fun d3 e3 => hs_some ⟨fun i => ?_, fun i => ?_, fun j => ?_, fun b m1 m2 m3 => ?_, ?_⟩)
  · rw [e3, rR_o n46.symm, e2, rR_o n45.symm, e1, qR_sR]
    by_cases z : i = 1000 * H + T
    · rw [if_pos ⟨rfl, z⟩, if_pos z]
    · rw [if_neg (fun y => z y.2), if_neg z]
  · rw [e3, rR_o n56.symm, e2, qR_sR]
    by_cases z : i = 1000 * H + T
    · rw [if_pos ⟨rfl, z⟩, if_pos z]
    · rw [if_neg (fun y => z y.2), if_neg z, e1, rR_o n45]
  · rw [e3, qR_sR, q2]
    by_cases z : j = H
    · rw [if_pos ⟨rfl, z⟩, if_pos z]; omega
    · rw [if_neg (fun y => z y.2), if_neg z]
  · rw [e3, rR_o m3, e2, rR_o m2, e1, rR_o m1]
  · rw [e3, e2, e1]; rfl
end
section
/-! the reference: refusals, what is asked, put and drop -/
theorem hr_within {ad : List Nat} {h : hp} (L : Lay TLx ad h) {δ0 : dp} {N : Nat} (hNN : 10000000 ≤ N) {x0 x1 x2 : Int32} {δ : dp} (I : RI ad h.1 δ0 δ) : hs (D_X12_within N h.1 x0 x1 x2 δ) (fun r => r.2 = δ ∧ ((r.1 = 1 ∧ x1.toInt ≤ x0.toInt ∧ x0.toInt ≤ x2.toInt) ∨ (r.1 = 0 ∧ (x0.toInt < x1.toInt ∨ x2.toInt < x0.toInt)))) := by
  refine hs_mono (ok_h (k_X12_within L hNN (x0 := x0) (x1 := x1) (x2 := x2) I)) (fun r hr => ?_)
  obtain ⟨e, b, g1, g2⟩ := hr
  refine ⟨e, ?_⟩
  rcases b with b | b
  · exact Or.inr ⟨b, g2 (by rw [b]; rfl)⟩
  · exact Or.inl ⟨b, g1 (by rw [b]; rfl)⟩
theorem hr_may {ad : List Nat} {h : hp} (L : Lay TLx ad h) {N : Nat} {a0 : Nat} {x1 x2 x3 : Int32} (ka : q_K h.1 a0 = 12) {δ : dp} (t0 : q_I δ 12 0 a0 = 0) (c0 : x2 ≠ 0) : hs (D_X12_may N h.1 a0 x1 x2 x3 δ) (fun r => (x1 ≠ 0 ∧ r.1 = 1 ∧ r.2 = δ) ∨ (x1 = 0 ∧ r.1 = 0 ∧ q_I r.2 12 0 a0 = x2 ∧ kr ad [100] δ r.2)) := by
  obtain ⟨b1, o1, _⟩ := gO_12_1 L ka
  obtain rfl := gS_12_1 L ka o1
  unfold D_X12_may
  refine hs_ite (fun c => ?_) (fun c => ?_)
  · refine hs_ite (fun _ => ?_) (fun z => absurd t0 z)
    refine hs_bdv (fun d1 e1 => hs_at o1 (hs_gd (fun _ => hs_gd (fun _ => hs_bdv (fun d2 e2 => ?_)))))
    have t2 : q_I d2 12 0 a0 = x2 := by rw [e2]; show q_I d1 12 0 a0 = x2; rw [e1, rI_s]
    unfold J_X12_may_26 J_X12_may_38
    refine hs_ite (fun z => absurd (t2.symm.trans z) c0) (fun _ => hs_gp (fun _ => hs_some (Or.inr ⟨c, rfl, t2, fun i h1 h2 h3 => ?_⟩)))
    rw [e2, rR_o (ad_ne L (by omega) (by decide) (fun z => h3 (by rw [z]; exact List.mem_cons_self))), e1]; rfl
  · unfold J_X12_may_26 J_X12_may_38
    refine hs_ite (fun _ => hs_gp (fun _ => hs_some (Or.inl ⟨c, rfl, rfl⟩))) (fun z => absurd t0 z)
theorem hr_isHouse {ad : List Nat} {h : hp} (L : Lay TLx ad h) {δ0 : dp} {N : Nat} (hNN : 10000000 ≤ N) {a0 : Nat} {x1 x2 : Int32} (ka : q_K h.1 a0 = 12) {δ : dp} (I : RI ad h.1 δ0 δ) (t0 : q_I δ 12 0 a0 = 0) (c0 : x2 ≠ 0) : hs (D_X12_isHouse N h.1 a0 x1 x2 δ) (fun r => (r.1 = 1 ∧ r.2 = δ ∧ ∃ H : Nat, H < 4 ∧ x1.toInt = (H : Int)) ∨ (r.1 = 0 ∧ (x1.toInt < 0 ∨ 3 < x1.toInt) ∧ q_I r.2 12 0 a0 = x2 ∧ kr ad [100] δ r.2)) := by
  have z3 : (3 : Int32).toInt = 3 := rfl
  have z0 : (0 : Int32).toInt = 0 := rfl
  unfold D_X12_isHouse
  refine hs_bind (hr_within L hNN (x0 := x1) (x1 := 0) (x2 := 3) I) (fun r hr => ?_)
  obtain ⟨e, hq⟩ := hr
  rw [e]
  refine hs_bind (hr_may L (x1 := r.1) (x2 := x2) (x3 := 0) ka t0 c0) (fun r2 h2 => hs_gp (fun _ => hs_some ?_))
  rcases h2 with ⟨n, e1, e2⟩ | ⟨n, e1, e2, e3⟩
  · rcases hq with ⟨_, q2, q3⟩ | ⟨q1, _⟩
    · exact Or.inl ⟨e1, e2, x1.toInt.toNat, by omega, by omega⟩
    · exact absurd q1 n
  · rcases hq with ⟨q1, _⟩ | ⟨_, q2⟩
    · rw [q1] at n; exact absurd n (by decide)
    · exact Or.inr ⟨e1, by omega, e2, e3⟩
theorem hr_isNumber {ad : List Nat} {h : hp} (L : Lay TLx ad h) {δ0 : dp} {N : Nat} (hNN : 10000000 ≤ N) {a0 : Nat} {x1 : Int32} (ka : q_K h.1 a0 = 12) {δ : dp} (I : RI ad h.1 δ0 δ) : hs (D_X12_isNumber N h.1 a0 x1 δ) (fun r => r.2 = δ ∧ ((r.1 = 1 ∧ 0 ≤ x1.toInt ∧ x1.toInt < shA a0 δ) ∨ (r.1 = 0 ∧ (x1.toInt < 0 ∨ shA a0 δ ≤ x1.toInt)))) := by
  have e0 : (0 : Int32).toInt = 0 := rfl
  have ab := all_b ka I
  unfold D_X12_isNumber
  rw [e_all, Option.bind_some]
  have t1 := te_subc (c := 1) (n := 1) rfl ((1 : Int32) <<< ((q_I δ 12 10 a0) &&& 31)) (by omega) (by omega)
  refine hs_bind (hr_within L hNN (x0 := x1) (x1 := 0) (x2 := (1 : Int32) <<< ((q_I δ 12 10 a0) &&& 31) - 1) I) (fun r hr => ?_)
  obtain ⟨e, hq⟩ := hr
  rw [e]
  refine hs_gp (fun _ => hs_some ⟨rfl, ?_⟩)
  rcases hq with ⟨q1, q2, q3⟩ | ⟨q1, q2⟩
  · exact Or.inl ⟨q1, by omega, by show _ < ((1 : Int32) <<< (q_I δ 12 10 a0 &&& 31)).toInt; omega⟩
  · exact Or.inr ⟨q1, by show _ ∨ ((1 : Int32) <<< (q_I δ 12 10 a0 &&& 31)).toInt ≤ _; omega⟩
/-- which x may be asked -/
def okA (A call x : Int) : Prop := (0 ≤ x ∧ x < A) ∨ (call = 3 ∧ x = -1) ∨ (call = 4 ∧ x = A)
theorem hr_mayAsk {ad : List Nat} {h : hp} (L : Lay TLx ad h) {δ0 : dp} {N : Nat} (hNN : 10000000 ≤ N) {a0 : Nat} {x1 x2 : Int32} (ka : q_K h.1 a0 = 12) {δ : dp} (I : RI ad h.1 δ0 δ) : hs (D_X12_mayAsk N h.1 a0 x1 x2 δ) (fun r => r.2 = δ ∧ ((r.1 = 1 ∧ okA (shA a0 δ) x1.toInt x2.toInt) ∨ (r.1 = 0 ∧ ¬ okA (shA a0 δ) x1.toInt x2.toInt))) := by
  have e0 : (0 : Int32).toInt = 0 := rfl
  have e3 : (3 : Int32).toInt = 3 := rfl
  have e4 : (4 : Int32).toInt = 4 := rfl
  have em : (-1 : Int32).toInt = -1 := by decide
  have ab := all_b ka I
  have eA : shA a0 δ = ((1 : Int32) <<< ((q_I δ 12 10 a0) &&& 31)).toInt := rfl
  unfold okA
  rw [eA]
  unfold D_X12_mayAsk J_X12_mayAsk_41
  refine hs_ite (fun c => ?_) (fun c => ?_)
  · have c1 := o_eq c
    rw [e_all, Option.bind_some]
    have t1 := te_subc (c := 1) (n := 1) rfl ((1 : Int32) <<< ((q_I δ 12 10 a0) &&& 31)) (by omega) (by omega)
    refine hs_bind (hr_within L hNN (x0 := x2) (x1 := -1) (x2 := (1 : Int32) <<< ((q_I δ 12 10 a0) &&& 31) - 1) I) (fun r hr => ?_)
    obtain ⟨e, hq⟩ := hr
    rw [e]
    refine hs_gp (fun _ => hs_some ⟨rfl, ?_⟩)
    rcases hq with ⟨q1, q2, q3⟩ | ⟨q1, q2⟩
    · exact Or.inl ⟨q1, by omega⟩
    · exact Or.inr ⟨q1, by omega⟩
  · have c1 := o_ne c
    refine hs_ite (fun d => ?_) (fun d => ?_)
    · have d1 := o_eq d
      rw [e_all, Option.bind_some]
      refine hs_bind (hr_within L hNN (x0 := x2) (x1 := 0) (x2 := (1 : Int32) <<< ((q_I δ 12 10 a0) &&& 31)) I) (fun r hr => ?_)
      obtain ⟨e, hq⟩ := hr
      rw [e]
      refine hs_gp (fun _ => hs_some ⟨rfl, ?_⟩)
      rcases hq with ⟨q1, q2, q3⟩ | ⟨q1, q2⟩
      · exact Or.inl ⟨q1, by omega⟩
      · exact Or.inr ⟨q1, by omega⟩
    · have d1 := o_ne d
      refine hs_bind (hr_isNumber L hNN (x1 := x2) ka I) (fun r hr => ?_)
      obtain ⟨e, hq⟩ := hr
      rw [e]
      rw [eA] at hq
      refine hs_gp (fun _ => hs_some ⟨rfl, ?_⟩)
      rcases hq with ⟨q1, q2, q3⟩ | ⟨q1, q2⟩
      · exact Or.inl ⟨q1, by omega⟩
      · exact Or.inr ⟨q1, by omega⟩
theorem hr_isThere {ad : List Nat} {h : hp} (L : Lay TLx ad h) {δ0 : dp} {N : Nat} (hNN : 10000000 ≤ N) {a0 H : Nat} {x1 x : Int32} (ka : q_K h.1 a0 = 12) (hx : x1.toInt = (H : Int)) (hh : H < 4) {δ : dp} (I : RI ad h.1 δ0 δ) (S : hsr ad δ H) : hs (D_X12_isThere N h.1 a0 x1 x δ) (fun r => r.2 = δ ∧ ((r.1 = 1 ∧ ME (hM ad δ H) (hR ad δ H) x.toInt) ∨ (r.1 = 0 ∧ ¬ ME (hM ad δ H) (hR ad δ H) x.toInt))) := ok_h (f12_isThere L hNN (x := x) ka hx hh I S)
theorem hr_place {ad : List Nat} {h : hp} (L : Lay TLx ad h) {δ0 : dp} {N : Nat} (hNN : 10000000 ≤ N) {a0 H : Nat} {x1 x : Int32} (ka : q_K h.1 a0 = 12) (hx : x1.toInt = (H : Int)) (hh : H < 4) {δ : dp} (I : RI ad h.1 δ0 δ) (S : hsr ad δ H) : hs (D_X12_place N h.1 a0 x1 x δ) (fun r => r.2 = δ ∧ ∃ p : Nat, r.1.toInt = (p : Int) ∧ PL (hM ad δ H) (hR ad δ H) x.toInt p) := ok_h (f12_place L hNN (x := x) ka hx hh I S)
theorem hr_numberAt {ad : List Nat} {h : hp} (L : Lay TLx ad h) {δ0 : dp} {N : Nat} (hNN : 10000000 ≤ N) {a0 H : Nat} {x1 x2 : Int32} (ka : q_K h.1 a0 = 12) (hx : x1.toInt = (H : Int)) (hh : H < 4) {δ : dp} (I : RI ad h.1 δ0 δ) : hs (D_X12_numberAt N h.1 a0 x1 x2 δ) (fun r => r.2 = δ ∧ AT (hM ad δ H) (hR ad δ H) x2.toInt r.1.toInt) := by
  have e0 : (0 : Int32).toInt = 0 := rfl
  have tn := tnH hx
  have hB := rb_103 L I H
  obtain ⟨bm, om, _⟩ := gO_12_14 L ka
  obtain rfl := gS_12_14 L ka om
  obtain ⟨br, ob, _⟩ := gO_12_13 L ka
  obtain rfl := gS_12_13 L ka ob
  have t1 := te_subc (c := 1) (n := 1) rfl (q_R δ (Ad ad 103) H) (by omega) (by omega)
  unfold D_X12_numberAt J_X12_numberAt_32
  refine hs_at om (hs_gd (fun _ => ?_))
  rw [tn]
  refine hs_bind (hr_within L hNN (x0 := x2) (x1 := 0) (x2 := q_R δ (Ad ad 103) H - 1) I) (fun r hr => ?_)
  obtain ⟨e, hq⟩ := hr
  rw [e]
  rcases hq with ⟨q1, q2, q3⟩ | ⟨q1, q2⟩
  · rw [q1]
    refine hs_ite (fun z => absurd z (by decide)) (fun _ => hs_at ob (hs_gd (fun _ => hs_some ⟨rfl, Or.inl ⟨x2.toInt.toNat, by omega, by unfold hM; omega, ?_⟩⟩)))
    have ix := (ix2 hx hh (m := x2) (k := x2.toInt.toNat) (by omega) (by omega)).2
    rw [ix]; rfl
  · rw [q1]
    refine hs_ite (fun _ => hs_some ⟨rfl, Or.inr ⟨by unfold hM; omega, rfl⟩⟩) (fun z => absurd rfl z)
theorem hr_answer {ad : List Nat} {h : hp} (L : Lay TLx ad h) {δ0 : dp} {N : Nat} (hNN : 10000000 ≤ N) {a0 H : Nat} {x1 c x : Int32} (ka : q_K h.1 a0 = 12) (hx : x1.toInt = (H : Int)) (hh : H < 4) {δ : dp} (I : RI ad h.1 δ0 δ) (S : hsr ad δ H) (h1 : x.toInt < 2147483647) : hs (D_X12_answer N h.1 a0 x1 c x δ) (fun r => r.2 = δ ∧ aAn (hM ad δ H) (hR ad δ H) c.toInt x.toInt r.1.toInt) := by
  have z3 : (3 : Int32).toInt = 3 := rfl
  have z4 : (4 : Int32).toInt = 4 := rfl
  unfold D_X12_answer J_X12_answer_52
  refine hs_ite (fun e => ?_) (fun e => ?_)
  · have e1 := o_eq e
    have bx := ti_b x
    have t := te_addc (c := 1) (n := 1) rfl x (by omega) (by omega)
    refine hs_bind (hr_place L hNN (x := x + 1) ka hx hh I S) (fun r hr => ?_)
    obtain ⟨q, p, hp, P⟩ := hr
    rw [q]
    refine hs_bind (hr_numberAt L hNN (x2 := r.1) ka hx hh I) (fun r2 h2 => hs_some ⟨h2.1, Or.inl ⟨by omega, p, ?_, ?_⟩⟩)
    · rw [t.1] at P; exact P
    · rw [← hp]; exact h2.2
  · have e1 := o_ne e
    refine hs_ite (fun f => ?_) (fun f => ?_)
    · have f1 := o_eq f
      refine hs_bind (hr_place L hNN (x := x) ka hx hh I S) (fun r hr => ?_)
      obtain ⟨q, p, hp, P⟩ := hr
      rw [q]
      have br := ti_b r.1
      have t := te_subc (c := 1) (n := 1) rfl r.1 (by omega) (by omega)
      refine hs_bind (hr_numberAt L hNN (x2 := r.1 - 1) ka hx hh I) (fun r2 h2 => hs_some ⟨h2.1, Or.inr (Or.inl ⟨by omega, p, P, ?_⟩)⟩)
      rw [← hp, ← t.1]; exact h2.2
    · have f1 := o_ne f
      refine hs_bind (hr_isThere L hNN (x := x) ka hx hh I S) (fun r hr => ?_)
      obtain ⟨q, hm⟩ := hr
      rcases hm with ⟨w, hm⟩ | ⟨w, hm⟩
      · rw [w]
        exact hs_ite (fun z => absurd z (by decide)) (fun _ => hs_some ⟨q, Or.inr (Or.inr ⟨by omega, by omega, Or.inl ⟨rfl, hm⟩⟩)⟩)
      · rw [w]
        exact hs_ite (fun _ => hs_some ⟨q, Or.inr (Or.inr ⟨by omega, by omega, Or.inr ⟨rfl, hm⟩⟩)⟩) (fun z => absurd rfl z)
/-- a NUMBER comes and is noted -/
theorem hr_come {ad : List Nat} {h : hp} (L : Lay TLx ad h) {δ0 : dp} {N : Nat} (hNN : 10000000 ≤ N) {a0 H : Nat} {x1 x : Int32} (ka : q_K h.1 a0 = 12) (hx : x1.toInt = (H : Int)) (hh : H < 4) {δ : dp} (I : RI ad h.1 δ0 δ) (S : hsr ad δ H) (m2 : hM ad δ H < 2000) (hn : hN ad δ H < 1000) (nm : ¬ ME (hM ad δ H) (hR ad δ H) x.toInt) {ρ : Type} {f : dp → Option ρ} {Q : ρ → Prop} (k : ∀ d, mr ad H 0 x.toInt δ d → mfr ad H δ d → (∀ c k a, q_I d c k a = q_I δ c k a) → kr ad [102, 103, 104, 105, 106] δ d → hs (f d) Q) : hs ((D_X12_comes N h.1 a0 x1 x δ).bind fun r => (D_X12_notesDown N h.1 a0 x1 x 1 r).bind f) Q := by
  have m0 := S.1
  have n0 : 0 ≤ hN ad δ H := (rb_106 L I H).1
  obtain ⟨M, hM1⟩ : ∃ M : Nat, hM ad δ H = (M : Int) := ⟨(hM ad δ H).toNat, by omega⟩
  obtain ⟨T, hT⟩ : ∃ T : Nat, hN ad δ H = (T : Int) := ⟨(hN ad δ H).toNat, by omega⟩
  have tn := tnH hx
  have vM : (q_R δ (Ad ad 103) x1.toNatClampNeg).toInt = hM ad δ H := by rw [tn]; rfl
  refine hs_bind (hs_and (ok_h (f12_comes L hNN (x := x) ka hx hh I S hM1 (by omega))) (ok_h (g_X12_comes L hNN (x2 := x) ka (by omega) (by omega) (by omega) I))) (fun d hd => ?_)
  obtain ⟨⟨p, P, D⟩, _, ⟨u, _, w, _⟩, _⟩ := hd
  have hTd : hN ad d H = (T : Int) := by unfold hN; rw [w 106 (by decide) (by decide) (by decide)]; exact hT
  refine hs_bind (hr_notes L (x2 := x) (x3 := 1) ka hx hh hTd (by omega)) (fun e he => ?_)
  obtain ⟨e4, e5, e6, eo, eI⟩ := he
  have p1 := P.1
  have n2 : ∀ i, i < 127 → 100 ≤ i → i ≠ 104 → i ≠ 105 → i ≠ 106 → q_R e (Ad ad i) = q_R d (Ad ad i) := fun i a b c1 c2 c3 => eo _ (ad_ne L (by omega) (by decide) c1) (ad_ne L (by omega) (by decide) c2) (ad_ne L (by omega) (by decide) c3)
  have r2 := n2 102 (by decide) (by decide) (by decide) (by decide) (by decide)
  have r3 := n2 103 (by decide) (by decide) (by decide) (by decide) (by decide)
  have d4 := w 104 (by decide) (by decide) (by decide)
  have d5 := w 105 (by decide) (by decide) (by decide)
  have d6 := w 106 (by decide) (by decide) (by decide)
  have hMe : ∀ J, hM ad e J = hM ad d J := fun J => by unfold hM; rw [r3]
  have hRe : ∀ J, hR ad e J = hR ad d J := fun J => by funext i; unfold hR; rw [r2]
  refine k e (Or.inr (Or.inl ⟨rfl, nm, ⟨p, P, ?_⟩, ?_, fun i hi => ⟨?_, ?_⟩⟩)) (fun J nJ => ⟨?_, ?_, fun i hi => ?_, fun i hi => ⟨?_, ?_⟩⟩) (fun c q a => by rw [eI]; exact u c q a (by simp)) (fun i a b c => ?_)
  · rw [hMe, hRe]; exact IN_h hM1 (by omega) D
  · show (q_R e (Ad ad 106) H).toInt = _
    rw [e6, if_pos rfl, hT]
  · show (q_R e (Ad ad 104) _).toInt = _
    rw [e4, d4]
    by_cases z : (i : Int) = hN ad δ H
    · rw [if_pos z, if_pos (by omega)]
    · rw [if_neg z, if_neg (by omega)]; rfl
  · show (q_R e (Ad ad 105) _).toInt = _
    rw [e5, d5]
    by_cases z : (i : Int) = hN ad δ H
    · rw [if_pos z, if_pos (by omega)]; rfl
    · rw [if_neg z, if_neg (by omega)]; rfl
  · rw [hMe]
    show (q_R d (Ad ad 103) J).toInt = _
    rw [D.2 J, if_neg nJ]; rfl
  · show (q_R e (Ad ad 106) J).toInt = _
    rw [e6, if_neg nJ, d6]; rfl
  · rw [hRe]
    show (q_R d (Ad ad 102) _).toInt = _
    rw [D.1, if_neg (by omega), if_neg (by omega)]; rfl
  · show (q_R e (Ad ad 104) _).toInt = _
    rw [e4, d4, if_neg (by omega)]; rfl
  · show (q_R e (Ad ad 105) _).toInt = _
    rw [e5, d5, if_neg (by omega)]; rfl
  · simp only [List.mem_cons, List.not_mem_nil, or_false] at c
    rw [n2 i b a (by omega) (by omega) (by omega)]
    exact w i a b (by simp only [List.mem_cons, List.not_mem_nil, or_false]; omega)
theorem hr_leave {ad : List Nat} {h : hp} (L : Lay TLx ad h) {δ0 : dp} {N : Nat} (hNN : 10000000 ≤ N) {a0 H : Nat} {x1 x : Int32} (ka : q_K h.1 a0 = 12) (hx : x1.toInt = (H : Int)) (hh : H < 4) {δ : dp} (I : RI ad h.1 δ0 δ) (S : hsr ad δ H) (hn : hN ad δ H < 1000) (mm : ME (hM ad δ H) (hR ad δ H) x.toInt) {ρ : Type} {f : dp → Option ρ} {Q : ρ → Prop} (k : ∀ d, mr ad H 1 x.toInt δ d → mfr ad H δ d → (∀ c k a, q_I d c k a = q_I δ c k a) → kr ad [102, 103, 104, 105, 106] δ d → hs (f d) Q) : hs ((D_X12_leaves N h.1 a0 x1 x δ).bind fun r => (D_X12_notesDown N h.1 a0 x1 x 0 r).bind f) Q := by
  have m0 := S.1
  have n0 : 0 ≤ hN ad δ H := (rb_106 L I H).1
  have m2 : hM ad δ H ≤ 2000 := (rb_103 L I H).2
  obtain ⟨M, hM1⟩ : ∃ M : Nat, hM ad δ H = (M : Int) := ⟨(hM ad δ H).toNat, by omega⟩
  obtain ⟨T, hT⟩ : ∃ T : Nat, hN ad δ H = (T : Int) := ⟨(hN ad δ H).toNat, by omega⟩
  have tn := tnH hx
  have vM : (q_R δ (Ad ad 103) x1.toNatClampNeg).toInt = hM ad δ H := by rw [tn]; rfl
  refine hs_bind (hs_and (ok_h (f12_leaves L hNN (x := x) ka hx hh I S hM1 mm)) (ok_h (g_X12_leaves L hNN (x2 := x) ka (by omega) (by omega) (by omega) I))) (fun d hd => ?_)
  obtain ⟨⟨p, P, P2, D⟩, _, ⟨u, _, w, _⟩, _⟩ := hd
  have hTd : hN ad d H = (T : Int) := by unfold hN; rw [w 106 (by decide) (by decide) (by decide)]; exact hT
  refine hs_bind (hr_notes L (x2 := x) (x3 := 0) ka hx hh hTd (by omega)) (fun e he => ?_)
  obtain ⟨e4, e5, e6, eo, eI⟩ := he
  have n2 : ∀ i, i < 127 → 100 ≤ i → i ≠ 104 → i ≠ 105 → i ≠ 106 → q_R e (Ad ad i) = q_R d (Ad ad i) := fun i a b c1 c2 c3 => eo _ (ad_ne L (by omega) (by decide) c1) (ad_ne L (by omega) (by decide) c2) (ad_ne L (by omega) (by decide) c3)
  have r2 := n2 102 (by decide) (by decide) (by decide) (by decide) (by decide)
  have r3 := n2 103 (by decide) (by decide) (by decide) (by decide) (by decide)
  have d4 := w 104 (by decide) (by decide) (by decide)
  have d5 := w 105 (by decide) (by decide) (by decide)
  have d6 := w 106 (by decide) (by decide) (by decide)
  have hMe : ∀ J, hM ad e J = hM ad d J := fun J => by unfold hM; rw [r3]
  have hRe : ∀ J, hR ad e J = hR ad d J := fun J => by funext i; unfold hR; rw [r2]
  refine k e (Or.inr (Or.inr (Or.inr ⟨rfl, mm, ⟨p, by omega, P2, ?_⟩, ?_, fun i hi => ⟨?_, ?_⟩⟩))) (fun J nJ => ⟨?_, ?_, fun i hi => ?_, fun i hi => ⟨?_, ?_⟩⟩) (fun c q a => by rw [eI]; exact u c q a (by simp)) (fun i a b c => ?_)
  · rw [hMe, hRe]; exact DE_h hM1 D
  · show (q_R e (Ad ad 106) H).toInt = _
    rw [e6, if_pos rfl, hT]
  · show (q_R e (Ad ad 104) _).toInt = _
    rw [e4, d4]
    by_cases z : (i : Int) = hN ad δ H
    · rw [if_pos z, if_pos (by omega)]
    · rw [if_neg z, if_neg (by omega)]; rfl
  · show (q_R e (Ad ad 105) _).toInt = _
    rw [e5, d5]
    by_cases z : (i : Int) = hN ad δ H
    · rw [if_pos z, if_pos (by omega)]; rfl
    · rw [if_neg z, if_neg (by omega)]; rfl
  · rw [hMe]
    show (q_R d (Ad ad 103) J).toInt = _
    rw [D.2 J, if_neg nJ]; rfl
  · show (q_R e (Ad ad 106) J).toInt = _
    rw [e6, if_neg nJ, d6]; rfl
  · rw [hRe]
    show (q_R d (Ad ad 102) _).toInt = _
    rw [D.1, if_neg (by omega)]; rfl
  · show (q_R e (Ad ad 104) _).toInt = _
    rw [e4, d4, if_neg (by omega)]; rfl
  · show (q_R e (Ad ad 105) _).toInt = _
    rw [e5, d5, if_neg (by omega)]; rfl
  · simp only [List.mem_cons, List.not_mem_nil, or_false] at c
    rw [n2 i b a (by omega) (by omega) (by omega)]
    exact w i a b (by simp only [List.mem_cons, List.not_mem_nil, or_false]; omega)
/-- what put (0) and drop (1) of the reference leave: what is thrown, answered, changed -/
def hRP (ad : List Nat) (a0 : Nat) (call : Int) (x1 x2 : Int32) (δ : dp) (b : Int32) (d : dp) : Prop :=
  ((x1.toInt < 0 ∨ 3 < x1.toInt) ∧ q_I d 12 0 a0 = 1 ∧ kr ad [100] δ d) ∨
  ∃ H : Nat, H < 4 ∧ x1.toInt = (H : Int) ∧
    (((x2.toInt < 0 ∨ shA a0 δ ≤ x2.toInt) ∧ q_I d 12 0 a0 = 2 ∧ kr ad [100] δ d) ∨
    (0 ≤ x2.toInt ∧ x2.toInt < shA a0 δ ∧ q_I d 12 0 a0 = 0 ∧ chA (hM ad δ H) (hR ad δ H) (hN ad δ H) call x2.toInt b.toInt ∧
      ((b.toInt ≠ 1 ∧ kr ad [100] δ d) ∨ (b.toInt = 1 ∧ mr ad H call x2.toInt δ d ∧ mfr ad H δ d))))
theorem hr_put {ad : List Nat} {h : hp} (L : Lay TLx ad h) {δ0 : dp} {N : Nat} (hNN : 10000000 ≤ N) {a0 : Nat} {x1 x2 : Int32} (ka : q_K h.1 a0 = 12) {δ : dp} (I : RI ad h.1 δ0 δ) (S : ∀ K, K < 4 → hsr ad δ K) : hs (D_X12_put N h.1 a0 x1 x2 δ) (fun r => hRP ad a0 0 x1 x2 δ r.1 r.2) := by
  have f1000 : (1000 : Int32).toInt = 1000 := rfl
  have f2000 : (2000 : Int32).toInt = 2000 := rfl
  obtain ⟨bm, om, _⟩ := gO_12_14 L ka
  obtain rfl := gS_12_14 L ka om
  obtain ⟨bt, ot, _⟩ := gO_12_17 L ka
  obtain rfl := gS_12_17 L ka ot
  unfold D_X12_put
  refine hs_bdv (fun d1 e1 => ?_)
  have i1 : RI ad h.1 δ0 d1 := by rw [e1]; exact cs_12_0 L I
  have t0 : q_I d1 12 0 a0 = 0 := by rw [e1]; exact rI_s
  have w1 : q_R d1 = q_R δ := by rw [e1]; rfl
  have kr1 : ∀ {d}, kr ad [100] d1 d → kr ad [100] δ d := fun k i a b c => by rw [k i a b c, w1]
  have A1 : shA a0 d1 = shA a0 δ := by unfold shA; rw [e1, rI_o (by decide)]
  have M1 : ∀ J, hM ad d1 J = hM ad δ J := fun J => by unfold hM; rw [w1]
  have R1 : ∀ J, hR ad d1 J = hR ad δ J := fun J => by funext i; unfold hR; rw [w1]
  have N1 : ∀ J, hN ad d1 J = hN ad δ J := fun J => by unfold hN; rw [w1]
  have T1 : ∀ J, nT ad d1 J = nT ad δ J := fun J => by funext i; unfold nT; rw [w1]
  have F1 : ∀ J, cF ad d1 J = cF ad δ J := fun J => by funext i; unfold cF; rw [w1]
  refine hs_bind (hr_isHouse L hNN (x1 := x1) (x2 := 1) ka i1 t0 (by decide)) (fun r hr => ?_)
  rcases hr with ⟨q1, q2, H, hH, hx⟩ | ⟨q1, q2, q3, q4⟩
  · rw [q1, q2]
    refine hs_ite (fun z => absurd z (by decide)) (fun _ => ?_)
    refine hs_bind (hr_isNumber L hNN (x1 := x2) ka i1) (fun r3 h3 => ?_)
    obtain ⟨e3, hq⟩ := h3
    rw [e3]
    refine hs_bind (hr_may L (x1 := r3.1) (x2 := 2) (x3 := 2) ka t0 (by decide)) (fun r4 h4 => ?_)
    rcases h4 with ⟨n4, g1, g2⟩ | ⟨n4, g1, g2, g3⟩
    · rcases hq with ⟨_, v1, v2⟩ | ⟨z, _⟩
      · rw [g1, g2]
        rw [A1] at v2
        have SA : hsr ad d1 H := by
          have := S H hH
          exact ⟨by rw [M1]; exact this.1, by rw [M1, R1]; exact this.2⟩
        have bM := rb_103 L i1 H
        have bN := rb_106 L i1 H
        have vM : (q_R d1 (Ad ad 103) H).toInt = hM ad δ H := M1 H
        have vN : (q_R d1 (Ad ad 106) H).toInt = hN ad δ H := N1 H
        have tn := tnH hx
        refine hs_ite (fun z => absurd z (by decide)) (fun _ => ?_)
        refine hs_bind (hr_isThere L hNN (x := x2) ka hx hH i1 SA) (fun r5 h5 => ?_)
        obtain ⟨e5, h5⟩ := h5
        rw [e5]
        rw [M1, R1] at h5
        rcases h5 with ⟨y1, y2⟩ | ⟨y1, y2⟩
        · rw [y1]
          refine hs_ite (fun z => absurd z (by decide)) (fun _ => hs_some ?_)
          exact Or.inr ⟨H, hH, hx, Or.inr ⟨v1, v2, t0, Or.inl ⟨rfl, y2, rfl⟩, Or.inl ⟨(by decide : (0 : Int32).toInt ≠ 1), kr1 (fun _ _ _ _ => rfl)⟩⟩⟩
        · rw [y1]
          refine hs_ite (fun _ => ?_) (fun z => absurd rfl z)
          refine hs_at om (hs_gd (fun _ => ?_))
          rw [tn]
          refine hs_ite (fun c => hs_some ?_) (fun c => ?_)
          · have c1 := o_eq c
            exact Or.inr ⟨H, hH, hx, Or.inr ⟨v1, v2, t0, Or.inr (Or.inr ⟨⟨fun _ => y2, fun _ => rfl⟩, Or.inl ⟨rfl, by omega, rfl⟩⟩), Or.inl ⟨(by decide : (-1 : Int32).toInt ≠ 1), kr1 (fun _ _ _ _ => rfl)⟩⟩⟩
          · have c1 := o_ne c
            refine hs_at ot (hs_gd (fun _ => ?_))
            refine hs_ite (fun c => hs_some ?_) (fun c => ?_)
            · have c2 := o_eq c
              exact Or.inr ⟨H, hH, hx, Or.inr ⟨v1, v2, t0, Or.inr (Or.inr ⟨⟨fun _ => y2, fun _ => rfl⟩, Or.inr (Or.inl ⟨by omega, by omega, rfl⟩)⟩), Or.inl ⟨(by decide : (-2 : Int32).toInt ≠ 1), kr1 (fun _ _ _ _ => rfl)⟩⟩⟩
            · have c2 := o_ne c
              refine hr_come L hNN ka hx hH i1 SA (by rw [M1]; omega) (by rw [N1]; omega) (by rw [M1, R1]; exact y2) (fun d m1 m2 m3 m4 => hs_some ?_)
              refine Or.inr ⟨H, hH, hx, Or.inr ⟨v1, v2, (m3 12 0 a0).trans t0, Or.inr (Or.inr ⟨⟨fun _ => y2, fun _ => rfl⟩, Or.inr (Or.inr ⟨by omega, by omega, rfl⟩)⟩), Or.inr ⟨rfl, ?_, fun J nJ => ?_⟩⟩⟩
              · unfold mr at m1 ⊢
                rw [M1, R1, N1, T1, F1] at m1; exact m1
              · have := m2 J nJ
                rw [M1, R1, N1, T1, F1] at this; exact this
      · exact absurd z n4
    · rw [g1]
      refine hs_ite (fun _ => ?_) (fun z => absurd rfl z)
      unfold J_X12_put_28
      rcases hq with ⟨z, _⟩ | ⟨_, v1⟩
      · rw [z] at n4; exact absurd n4 (by decide)
      · rw [A1] at v1
        exact hs_some (Or.inr ⟨H, hH, hx, Or.inl ⟨v1, g2, kr1 g3⟩⟩)
  · rw [q1]
    refine hs_ite (fun _ => ?_) (fun z => absurd rfl z)
    unfold J_X12_put_28
    exact hs_some (Or.inl ⟨q2, q3, kr1 q4⟩)
theorem hr_drop {ad : List Nat} {h : hp} (L : Lay TLx ad h) {δ0 : dp} {N : Nat} (hNN : 10000000 ≤ N) {a0 : Nat} {x1 x2 : Int32} (ka : q_K h.1 a0 = 12) {δ : dp} (I : RI ad h.1 δ0 δ) (S : ∀ K, K < 4 → hsr ad δ K) : hs (D_X12_drop N h.1 a0 x1 x2 δ) (fun r => hRP ad a0 1 x1 x2 δ r.1 r.2) := by
  have f1000 : (1000 : Int32).toInt = 1000 := rfl
  obtain ⟨bt, ot, _⟩ := gO_12_17 L ka
  obtain rfl := gS_12_17 L ka ot
  unfold D_X12_drop
  refine hs_bdv (fun d1 e1 => ?_)
  have i1 : RI ad h.1 δ0 d1 := by rw [e1]; exact cs_12_0 L I
  have t0 : q_I d1 12 0 a0 = 0 := by rw [e1]; exact rI_s
  have w1 : q_R d1 = q_R δ := by rw [e1]; rfl
  have kr1 : ∀ {d}, kr ad [100] d1 d → kr ad [100] δ d := fun k i a b c => by rw [k i a b c, w1]
  have A1 : shA a0 d1 = shA a0 δ := by unfold shA; rw [e1, rI_o (by decide)]
  have M1 : ∀ J, hM ad d1 J = hM ad δ J := fun J => by unfold hM; rw [w1]
  have R1 : ∀ J, hR ad d1 J = hR ad δ J := fun J => by funext i; unfold hR; rw [w1]
  have N1 : ∀ J, hN ad d1 J = hN ad δ J := fun J => by unfold hN; rw [w1]
  have T1 : ∀ J, nT ad d1 J = nT ad δ J := fun J => by funext i; unfold nT; rw [w1]
  have F1 : ∀ J, cF ad d1 J = cF ad δ J := fun J => by funext i; unfold cF; rw [w1]
  refine hs_bind (hr_isHouse L hNN (x1 := x1) (x2 := 1) ka i1 t0 (by decide)) (fun r hr => ?_)
  rcases hr with ⟨q1, q2, H, hH, hx⟩ | ⟨q1, q2, q3, q4⟩
  · rw [q1, q2]
    refine hs_ite (fun z => absurd z (by decide)) (fun _ => ?_)
    refine hs_bind (hr_isNumber L hNN (x1 := x2) ka i1) (fun r3 h3 => ?_)
    obtain ⟨e3, hq⟩ := h3
    rw [e3]
    refine hs_bind (hr_may L (x1 := r3.1) (x2 := 2) (x3 := 2) ka t0 (by decide)) (fun r4 h4 => ?_)
    rcases h4 with ⟨n4, g1, g2⟩ | ⟨n4, g1, g2, g3⟩
    · rcases hq with ⟨_, v1, v2⟩ | ⟨z, _⟩
      · rw [g1, g2]
        rw [A1] at v2
        have SA : hsr ad d1 H := by
          have := S H hH
          exact ⟨by rw [M1]; exact this.1, by rw [M1, R1]; exact this.2⟩
        have bN := rb_106 L i1 H
        have vN : (q_R d1 (Ad ad 106) H).toInt = hN ad δ H := N1 H
        have tn := tnH hx
        refine hs_ite (fun z => absurd z (by decide)) (fun _ => ?_)
        refine hs_bind (hr_isThere L hNN (x := x2) ka hx hH i1 SA) (fun r5 h5 => ?_)
        obtain ⟨e5, h5⟩ := h5
        rw [e5]
        rw [M1, R1] at h5
        rcases h5 with ⟨y1, y2⟩ | ⟨y1, y2⟩
        · rw [y1]
          refine hs_ite (fun z => absurd z (by decide)) (fun _ => ?_)
          refine hs_at ot (hs_gd (fun _ => ?_))
          rw [tn]
          refine hs_ite (fun c => hs_some ?_) (fun c => ?_)
          · have c2 := o_eq c
            exact Or.inr ⟨H, hH, hx, Or.inr ⟨v1, v2, t0, Or.inr (Or.inr ⟨⟨fun z => by omega, fun z => absurd y2 z⟩, Or.inr (Or.inl ⟨by omega, by omega, rfl⟩)⟩), Or.inl ⟨(by decide : (-2 : Int32).toInt ≠ 1), kr1 (fun _ _ _ _ => rfl)⟩⟩⟩
          · have c2 := o_ne c
            refine hr_leave L hNN ka hx hH i1 SA (by rw [N1]; omega) (by rw [M1, R1]; exact y2) (fun d m1 m2 m3 m4 => hs_some ?_)
            refine Or.inr ⟨H, hH, hx, Or.inr ⟨v1, v2, (m3 12 0 a0).trans t0, Or.inr (Or.inr ⟨⟨fun z => by omega, fun z => absurd y2 z⟩, Or.inr (Or.inr ⟨by omega, by omega, rfl⟩)⟩), Or.inr ⟨rfl, ?_, fun J nJ => ?_⟩⟩⟩
            · unfold mr at m1 ⊢
              rw [M1, R1, N1, T1, F1] at m1; exact m1
            · have := m2 J nJ
              rw [M1, R1, N1, T1, F1] at this; exact this
        · rw [y1]
          refine hs_ite (fun _ => hs_some ?_) (fun z => absurd rfl z)
          exact Or.inr ⟨H, hH, hx, Or.inr ⟨v1, v2, t0, Or.inr (Or.inl ⟨rfl, y2, rfl⟩), Or.inl ⟨(by decide : (0 : Int32).toInt ≠ 1), kr1 (fun _ _ _ _ => rfl)⟩⟩⟩
      · exact absurd z n4
    · rw [g1]
      refine hs_ite (fun _ => ?_) (fun z => absurd rfl z)
      unfold J_X12_drop_28
      rcases hq with ⟨z, _⟩ | ⟨_, v1⟩
      · rw [z] at n4; exact absurd n4 (by decide)
      · rw [A1] at v1
        exact hs_some (Or.inr ⟨H, hH, hx, Or.inl ⟨v1, g2, kr1 g3⟩⟩)
  · rw [q1]
    refine hs_ite (fun _ => ?_) (fun z => absurd rfl z)
    unfold J_X12_drop_28
    exact hs_some (Or.inl ⟨q2, q3, kr1 q4⟩)
end
section
/-! the class: refusals, what is asked, put and drop -/
/-- nothing but row 59 (refusals), counts of touches and a THIEF's scratch has changed -/
def csm (ad : List Nat) (δ δ1 : dp) : Prop := (∀ c k a, c ≠ 1 → c ≠ 4 → q_I δ1 c k a = q_I δ c k a) ∧ ∀ b, b ≠ Ad ad 59 → q_R δ1 b = q_R δ b
theorem csm.r {ad : List Nat} {δ : dp} : csm ad δ δ := ⟨fun _ _ _ _ _ => rfl, fun _ _ => rfl⟩
theorem hc_59 {ad : List Nat} {h : hp} (L : Lay TLx ad h) : q_O h.1 11 13 (Ad ad 0) = some (Ad ad 59) := fO_0_13 L
theorem hc_needHouse {ad : List Nat} {h : hp} (L : Lay TLx ad h) {N : Nat} {x1 : Int32} {δ : dp} : hs (D_X11_needHouse N h.1 (Ad ad 0) x1 δ) (fun r => (r.1 = .inl () ∧ r.2 = δ ∧ ∃ H : Nat, H < 4 ∧ x1.toInt = (H : Int)) ∨ (r.1 = .inr 0 ∧ csm ad δ r.2 ∧ (x1.toInt < 0 ∨ 3 < x1.toInt))) := by
  have z0 : (0 : Int32).toInt = 0 := rfl
  have z4 : (4 : Int32).toInt = 4 := rfl
  have J : (x1.toInt < 0 ∨ 3 < x1.toInt) → hs (J_X11_needHouse_9 N h.1 (Ad ad 0) x1 δ) (fun r => (r.1 = .inl () ∧ r.2 = δ ∧ ∃ H : Nat, H < 4 ∧ x1.toInt = (H : Int)) ∨ (r.1 = .inr 0 ∧ csm ad δ r.2 ∧ (x1.toInt < 0 ∨ 3 < x1.toInt))) := by
    intro hx
    unfold J_X11_needHouse_9
    exact hs_at (hc_59 L) (hs_gd (fun _ => hs_gd (fun _ => hs_bdv (fun d e => hs_some (Or.inr ⟨rfl, ⟨fun c k a _ _ => by rw [e]; rfl, fun b n => by rw [e]; exact rR_o n⟩, hx⟩)))))
  unfold D_X11_needHouse
  refine hs_ite (fun c => ?_) (fun c => ?_)
  · have c1 := o_lt c
    exact J (by omega)
  · have c1 := o_nlt c
    refine hs_ite (fun d => ?_) (fun d => ?_)
    · have d1 := o_lt d
      exact hs_some (Or.inl ⟨rfl, rfl, x1.toInt.toNat, by omega, by omega⟩)
    · have d1 := o_nlt d
      exact J (by omega)
theorem hc_need {ad : List Nat} {h : hp} (L : Lay TLx ad h) {N : Nat} {x1 : Int32} {δ : dp} : hs (D_X11_need N h.1 (Ad ad 0) x1 δ) (fun r => (r.1 = .inl () ∧ r.2 = δ ∧ x1 ≠ 0) ∨ (r.1 = .inr 2 ∧ csm ad δ r.2 ∧ x1 = 0)) := by
  unfold D_X11_need
  refine hs_ite (fun c => ?_) (fun c => hs_some (Or.inl ⟨rfl, rfl, c⟩))
  exact hs_at (hc_59 L) (hs_gd (fun _ => hs_gd (fun _ => hs_bdv (fun d e => hs_some (Or.inr ⟨rfl, ⟨fun c k a _ _ => by rw [e]; rfl, fun b n => by rw [e]; exact rR_o n⟩, c⟩)))))
/-- 2 to the W, of the class -/
abbrev scA (ad : List Nat) (δ : dp) : Int := ((1 : Int32) <<< (q_I δ 5 0 (Ad ad 3) &&& 31)).toInt
theorem scA_b {ad : List Nat} {h : hp} (L : Lay TLx ad h) {δ0 δ : dp} (I : CI ad h.1 δ0 δ) : 4 ≤ scA ad δ ∧ scA ad δ ≤ 65536 := by
  have s := sh_b _ (cb_5_0 I (a := Ad ad 3) ((lay_knd L (by decide)).trans (by decide)))
  exact ⟨s.1, s.2.1⟩
theorem hc_isNumber {ad : List Nat} {h : hp} (L : Lay TLx ad h) {δ0 : dp} {N : Nat} {x1 : Int32} {δ : dp} (I : CI ad h.1 δ0 δ) : hs (D_X11_isNumber N h.1 (Ad ad 0) x1 δ) (fun r => r.2 = δ ∧ ((r.1 = 1 ∧ 0 ≤ x1.toInt ∧ x1.toInt < scA ad δ) ∨ (r.1 = 0 ∧ (x1.toInt < 0 ∨ scA ad δ ≤ x1.toInt)))) := by
  have z0 : (0 : Int32).toInt = 0 := rfl
  have ab := scA_b L I
  have eA : scA ad δ = ((1 : Int32) <<< (q_I δ 5 0 (Ad ad 3) &&& 31)).toInt := rfl
  rw [eA] at ab ⊢
  have t1 := te_subc (c := 1) (n := 1) rfl ((1 : Int32) <<< (q_I δ 5 0 (Ad ad 3) &&& 31)) (by omega) (by omega)
  unfold D_X11_isNumber J_X11_isNumber_19 J_X11_isNumber_20
  refine hs_ite (fun c => ?_) (fun c => ?_)
  · have c1 := o_lt c
    exact hs_gp (fun _ => hs_some ⟨rfl, Or.inr ⟨rfl, by omega⟩⟩)
  · have c1 := o_nlt c
    refine hs_at (fO_0_1 L) ?_
    unfold D_X5_greatest
    rw [Option.bind_some]
    refine hs_ite (fun d => ?_) (fun d => ?_)
    · have d1 := o_lt d
      dsimp only at d1
      exact hs_gp (fun _ => hs_some ⟨rfl, Or.inr ⟨rfl, by omega⟩⟩)
    · have d1 := o_nlt d
      dsimp only at d1
      exact hs_gp (fun _ => hs_some ⟨rfl, Or.inl ⟨rfl, by omega, by omega⟩⟩)
theorem hc_needNumber {ad : List Nat} {h : hp} (L : Lay TLx ad h) {δ0 : dp} {N : Nat} {x1 : Int32} {δ : dp} (I : CI ad h.1 δ0 δ) : hs (D_X11_needNumber N h.1 (Ad ad 0) x1 δ) (fun r => (r.1 = .inl () ∧ r.2 = δ ∧ 0 ≤ x1.toInt ∧ x1.toInt < scA ad δ) ∨ (r.1 = .inr 2 ∧ csm ad δ r.2 ∧ (x1.toInt < 0 ∨ scA ad δ ≤ x1.toInt))) := by
  unfold D_X11_needNumber
  refine hs_bind (hc_isNumber L (x1 := x1) I) (fun r hr => ?_)
  obtain ⟨e, hq⟩ := hr
  rw [e]
  refine hs_bxv (hc_need L) (fun n d hn => ?_) (fun d hn => hs_some ?_)
  · rcases hn with ⟨z, _⟩ | ⟨z1, z2, z3⟩
    · cases z
    · rcases hq with ⟨q, _⟩ | ⟨_, q⟩
      · exact absurd (q.symm.trans z3) (by decide)
      · exact Or.inr ⟨z1, z2, q⟩
  · rcases hn with ⟨_, z2, z3⟩ | ⟨z, _⟩
    · rcases hq with ⟨_, q⟩ | ⟨q, _⟩
      · exact Or.inl ⟨rfl, z2, q⟩
      · exact absurd q z3
    · cases z
theorem hc_mayAsk {ad : List Nat} {h : hp} (L : Lay TLx ad h) {δ0 : dp} {N : Nat} {x1 x2 : Int32} {δ : dp} (I : CI ad h.1 δ0 δ) : hs (D_X11_mayAsk N h.1 (Ad ad 0) x1 x2 δ) (fun r => r.2 = δ ∧ ((r.1 = 1 ∧ okA (scA ad δ) x1.toInt x2.toInt) ∨ (r.1 = 0 ∧ ¬ okA (scA ad δ) x1.toInt x2.toInt))) := by
  have z3 : (3 : Int32).toInt = 3 := rfl
  have z4 : (4 : Int32).toInt = 4 := rfl
  have zm : (-1 : Int32).toInt = -1 := by decide
  have ab := scA_b L I
  have eA : scA ad δ = ((1 : Int32) <<< (q_I δ 5 0 (Ad ad 3) &&& 31)).toInt := rfl
  have t1 := te_subc (c := 1) (n := 1) rfl ((1 : Int32) <<< (q_I δ 5 0 (Ad ad 3) &&& 31)) (by omega) (by omega)
  have t2 := te_addc (c := 1) (n := 1) rfl ((1 : Int32) <<< (q_I δ 5 0 (Ad ad 3) &&& 31) - 1) (by omega) (by omega)
  have y : ∀ d, okA (scA ad δ) x1.toInt x2.toInt → d = δ → hs (J_X11_mayAsk_36 N h.1 (Ad ad 0) x1 x2 d) (fun r => r.2 = δ ∧ ((r.1 = 1 ∧ okA (scA ad δ) x1.toInt x2.toInt) ∨ (r.1 = 0 ∧ ¬ okA (scA ad δ) x1.toInt x2.toInt))) := fun d o e => by
    unfold J_X11_mayAsk_36 J_X11_mayAsk_41
    exact hs_gp (fun _ => hs_some ⟨e, Or.inl ⟨rfl, o⟩⟩)
  have n : ∀ d, ¬ okA (scA ad δ) x1.toInt x2.toInt → d = δ → hs (J_X11_mayAsk_40 N h.1 (Ad ad 0) x1 x2 d) (fun r => r.2 = δ ∧ ((r.1 = 1 ∧ okA (scA ad δ) x1.toInt x2.toInt) ∨ (r.1 = 0 ∧ ¬ okA (scA ad δ) x1.toInt x2.toInt))) := fun d o e => by
    unfold J_X11_mayAsk_40 J_X11_mayAsk_41
    exact hs_gp (fun _ => hs_some ⟨e, Or.inr ⟨rfl, o⟩⟩)
  have j18 : (x2.toInt < 0 ∨ scA ad δ ≤ x2.toInt) → ¬ (x1.toInt = 3 ∧ x2.toInt = -1) → hs (J_X11_mayAsk_18 N h.1 (Ad ad 0) x1 x2 δ) (fun r => r.2 = δ ∧ ((r.1 = 1 ∧ okA (scA ad δ) x1.toInt x2.toInt) ∨ (r.1 = 0 ∧ ¬ okA (scA ad δ) x1.toInt x2.toInt))) := fun o m => by
    unfold J_X11_mayAsk_18
    refine hs_ite (fun c => ?_) (fun c => ?_)
    · have c1 := o_eq c
      refine hs_at (fO_0_1 L) ?_
      unfold D_X5_greatest
      rw [Option.bind_some]
      refine hs_ite (fun d => ?_) (fun d => ?_)
      · have d1 := o_eq d
        dsimp only at d1
        exact y _ (by unfold okA; omega) rfl
      · have d1 := o_ne d
        dsimp only at d1
        exact n _ (by unfold okA; omega) rfl
    · have c1 := o_ne c
      exact n _ (by unfold okA; omega) rfl
  unfold D_X11_mayAsk
  refine hs_bind (hc_isNumber L (x1 := x2) I) (fun r hr => ?_)
  obtain ⟨e, hq⟩ := hr
  rw [e]
  rcases hq with ⟨q1, q2⟩ | ⟨q1, q2⟩
  · rw [q1]
    exact hs_ite (fun z => absurd z (by decide)) (fun _ => y _ (Or.inl q2) rfl)
  · rw [q1]
    refine hs_ite (fun _ => ?_) (fun z => absurd rfl z)
    refine hs_ite (fun c => ?_) (fun c => ?_)
    · have c1 := o_eq c
      refine hs_ite (fun d => ?_) (fun d => ?_)
      · have d1 := o_eq d
        exact y _ (by unfold okA; omega) rfl
      · have d1 := o_ne d
        exact j18 q2 (by omega)
    · have c1 := o_ne c
      exact j18 q2 (by omega)
theorem inrc {n m : Nat} (h : (Sum.inr n : Unit ⊕ Nat) = .inr m) : (Sum.inr n : Int32 ⊕ Nat) = .inr m := by cases h; rfl
/-- what put (0) and drop (1) of the class leave -/
def hCP (ad : List Nat) (N : Nat) (g : gp) (call : Int) (x0 x1 x2 : Int32) (δ : dp) (v : Int32 ⊕ Nat) (d : dp) : Prop :=
  ((x1.toInt < 0 ∨ 3 < x1.toInt) ∧ v = .inr 0 ∧ csm ad δ d) ∨
  ∃ H : Nat, H < 4 ∧ x1.toInt = (H : Int) ∧
    (((x2.toInt < 0 ∨ scA ad δ ≤ x2.toInt) ∧ v = .inr 2 ∧ csm ad δ d) ∨
    (0 ≤ x2.toInt ∧ x2.toInt < scA ad δ ∧ ∃ w : Int32, v = .inl w ∧ chA (cM ad δ H) (cR ad δ H) (cN ad δ H) call x2.toInt w.toInt ∧
      ((w.toInt ≠ 1 ∧ csm ad δ d) ∨ (w.toInt = 1 ∧ ∃ (d0 : dp) (tv : Int32) (d1 : dp), csm ad δ d0 ∧ mf ad H d0 d ∧ D_X1_touchesOf N g (Ad ad (80 + 6 * H)) x0 x2 d0 = some (tv, d1) ∧ mk ad H call x2.toInt tv.toInt d0 d))))
theorem csm_forget {ad : List Nat} {N : Nat} {g : gp} {a : Nat} {δ : dp} : hs (D_X4_forget N g a δ) (fun d => csm ad δ d) := by
  unfold D_X4_forget
  exact hs_bdv (fun d e => hs_some ⟨fun c k a n1 n2 => by rw [e]; exact rI_o (fun z => n2 z.1), fun b _ => by rw [e]; rfl⟩)
theorem hc_put {ad : List Nat} {h : hp} (L : Lay TLx ad h) {δ0 : dp} {N : Nat} (hN : 10000000 ≤ N) {x1 x2 : Int32} {δ : dp} (I : CI ad h.1 δ0 δ) (S : ∀ K, K < 4 → SR (cM ad δ K) (cR ad δ K)) : hs (D_X11_put N h.1 (Ad ad 0) x1 x2 δ) (fun r => hCP ad N h.1 0 0 x1 x2 δ r.1 r.2) := by
  have ab := scA_b L I
  unfold D_X11_put
  refine hs_bxv (hc_needHouse L (x1 := x1)) (fun n d hn => ?_) (fun d hn => ?_)
  · rcases hn with ⟨z, _⟩ | ⟨z1, z2, z3⟩
    · cases z
    · exact Or.inl ⟨z3, inrc z1, z2⟩
  rcases hn with ⟨_, e, H, hH, hx⟩ | ⟨z, _⟩
  rotate_left
  · cases z
  dsimp only at e
  subst e
  refine hs_bxv (hc_needNumber L (x1 := x2) I) (fun n d1 hn => ?_) (fun d1 hn => ?_)
  · rcases hn with ⟨z, _⟩ | ⟨z1, z2, z3⟩
    · cases z
    · exact Or.inr ⟨H, hH, hx, Or.inl ⟨z3, inrc z1, z2⟩⟩
  rcases hn with ⟨_, e, v1, v2⟩ | ⟨z, _⟩
  rotate_left
  · cases z
  dsimp only at e
  subst e
  refine hs_at (fO_0_8 L) (hs_bind (hs_and (csm_forget (ad := ad)) (ok_h (k_X4_forget L hN (a0 := Ad ad 13) ((lay_knd L (by decide)).trans (by decide)) I))) (fun r9 h9 => ?_))
  obtain ⟨f1, I9, _⟩ := h9
  have tx : x1.toNatClampNeg = H := tnH hx
  refine hs_at (fO_0_6 L) (hs_gd (fun _ => ?_))
  rw [tx]
  refine hs_at (lk_e L hH) ?_
  have eM : cM ad r9 H = cM ad d1 H := by unfold cM; rw [f1.1 3 1 _ (by decide) (by decide)]
  have eR : cR ad r9 H = cR ad d1 H := by funext i; unfold cR; rw [f1.2 _ (ad_ne L (by omega) (by decide) (by omega))]
  have eN : cN ad r9 H = cN ad d1 H := by unfold cN; rw [f1.1 2 4 _ (by decide) (by decide)]
  refine hs_bind (h2_change L hN hH (x1 := 0) (x2 := x2) I9 (by rw [eM, eR]; exact S H hH) (by decide) (by decide) v1 (by omega)) (fun r hr => hs_some ?_)
  obtain ⟨g1, g2⟩ := hr
  rw [eM, eR, eN] at g1
  refine Or.inr ⟨H, hH, hx, Or.inr ⟨v1, v2, r.1, rfl, g1, ?_⟩⟩
  rcases g2 with ⟨n1, e⟩ | ⟨n1, m1, t, d2, m2, m3⟩
  · exact Or.inl ⟨n1, by rw [e]; exact f1⟩
  · exact Or.inr ⟨n1, r9, t, d2, f1, m1, m2, m3⟩
theorem hc_drop {ad : List Nat} {h : hp} (L : Lay TLx ad h) {δ0 : dp} {N : Nat} (hN : 10000000 ≤ N) {x1 x2 : Int32} {δ : dp} (I : CI ad h.1 δ0 δ) (S : ∀ K, K < 4 → SR (cM ad δ K) (cR ad δ K)) : hs (D_X11_drop N h.1 (Ad ad 0) x1 x2 δ) (fun r => hCP ad N h.1 1 1 x1 x2 δ r.1 r.2) := by
  have ab := scA_b L I
  unfold D_X11_drop
  refine hs_bxv (hc_needHouse L (x1 := x1)) (fun n d hn => ?_) (fun d hn => ?_)
  · rcases hn with ⟨z, _⟩ | ⟨z1, z2, z3⟩
    · cases z
    · exact Or.inl ⟨z3, inrc z1, z2⟩
  rcases hn with ⟨_, e, H, hH, hx⟩ | ⟨z, _⟩
  rotate_left
  · cases z
  dsimp only at e
  subst e
  refine hs_bxv (hc_needNumber L (x1 := x2) I) (fun n d1 hn => ?_) (fun d1 hn => ?_)
  · rcases hn with ⟨z, _⟩ | ⟨z1, z2, z3⟩
    · cases z
    · exact Or.inr ⟨H, hH, hx, Or.inl ⟨z3, inrc z1, z2⟩⟩
  rcases hn with ⟨_, e, v1, v2⟩ | ⟨z, _⟩
  rotate_left
  · cases z
  dsimp only at e
  subst e
  refine hs_at (fO_0_8 L) (hs_bind (hs_and (csm_forget (ad := ad)) (ok_h (k_X4_forget L hN (a0 := Ad ad 13) ((lay_knd L (by decide)).trans (by decide)) I))) (fun r9 h9 => ?_))
  obtain ⟨f1, I9, _⟩ := h9
  have tx : x1.toNatClampNeg = H := tnH hx
  refine hs_at (fO_0_6 L) (hs_gd (fun _ => ?_))
  rw [tx]
  refine hs_at (lk_e L hH) ?_
  have eM : cM ad r9 H = cM ad d1 H := by unfold cM; rw [f1.1 3 1 _ (by decide) (by decide)]
  have eR : cR ad r9 H = cR ad d1 H := by funext i; unfold cR; rw [f1.2 _ (ad_ne L (by omega) (by decide) (by omega))]
  have eN : cN ad r9 H = cN ad d1 H := by unfold cN; rw [f1.1 2 4 _ (by decide) (by decide)]
  refine hs_bind (h2_change L hN hH (x1 := 1) (x2 := x2) I9 (by rw [eM, eR]; exact S H hH) (by decide) (by decide) v1 (by omega)) (fun r hr => hs_some ?_)
  obtain ⟨g1, g2⟩ := hr
  rw [eM, eR, eN] at g1
  refine Or.inr ⟨H, hH, hx, Or.inr ⟨v1, v2, r.1, rfl, g1, ?_⟩⟩
  rcases g2 with ⟨n1, e⟩ | ⟨n1, m1, t, d2, m2, m3⟩
  · exact Or.inl ⟨n1, by rw [e]; exact f1⟩
  · exact Or.inr ⟨n1, r9, t, d2, f1, m1, m2, m3⟩
end
section
/-! all houses and images alike -/
def iT (ad : List Nat) (δ : dp) (j K i : Nat) : Int := (q_R δ (Ad ad 109) (4000 * j + (1000 * K + i))).toInt
def iF (ad : List Nat) (δ : dp) (j K i : Nat) : Int := (q_R δ (Ad ad 110) (4000 * j + (1000 * K + i))).toInt
def iN (ad : List Nat) (δ : dp) (j K : Nat) : Int := (q_R δ (Ad ad 111) (4 * j + K)).toInt
def iM (ad : List Nat) (δ : dp) (j K : Nat) : Int := (q_R δ (Ad ad 108) (4 * j + K)).toInt
def iR (ad : List Nat) (δ : dp) (j K i : Nat) : Int := (q_R δ (Ad ad 107) (8000 * j + (2000 * K + i))).toInt
/-- an IMAGE of a house: a time of its PAST -/
def IEa (n : Int) (T F : Nat → Int) (m : Int) (T1 F1 : Nat → Int) (M : Int) (R : Nat → Int) : Prop := 0 ≤ m ∧ m ≤ n ∧ (∀ i : Nat, (i : Int) < m → T1 i = T i ∧ F1 i = F i) ∧ SR M R ∧ 0 ≤ M ∧ (∀ y, ME M R y ↔ St T F m.toNat y) ∧ M = Ct F m.toNat
theorem IEa.g {n m M n2 : Int} {T F T1 F1 R T2 F2 : Nat → Int} (h : IEa n T F m T1 F1 M R) (hn : m ≤ n2) (e : ∀ i : Nat, (i : Int) < m → T2 i = T i ∧ F2 i = F i) : IEa n2 T2 F2 m T1 F1 M R := by
  obtain ⟨h1, h2, h3, h4, h5, h6, h7⟩ := h
  refine ⟨h1, hn, fun i hi => ?_, h4, h5, fun y => ?_, ?_⟩
  · rw [(e i hi).1, (e i hi).2]; exact h3 i hi
  · rw [h6 y]; exact (St_c _ (fun t ht => e t (by omega)) y).symm
  · rw [h7]; exact (Ct_c _ (fun t ht => (e t (by omega)).2)).symm
def IE (ad : List Nat) (δ : dp) : Prop := ∀ j : Nat, (j : Int) < (q_I δ 12 18 (Ad ad 99)).toInt → ∀ K, K < 4 → (q_R δ (Ad ad (56 + j)) K).toInt = iN ad δ j K ∧ IEa (hN ad δ K) (nT ad δ K) (cF ad δ K) (iN ad δ j K) (iT ad δ j K) (iF ad δ j K) (iM ad δ j K) (iR ad δ j K) ∧ ∀ j' : Nat, j < j' → (j' : Int) < (q_I δ 12 18 (Ad ad 99)).toInt → iN ad δ j K ≤ iN ad δ j' K
def HX (ad : List Nat) (δ : dp) : Prop := (∀ K, K < 4 → HE ad (shA (Ad ad 99) δ) δ K) ∧ IE ad δ
/-- images: rows as they were, CHANGES at most more -/
theorem IE.g {ad : List Nat} {δ d : dp} (E : IE ad δ) (i3 : (q_I δ 12 18 (Ad ad 99)).toInt ≤ 3) (e18 : q_I d 12 18 (Ad ad 99) = q_I δ 12 18 (Ad ad 99)) (ec : ∀ j, j < 3 → q_R d (Ad ad (56 + j)) = q_R δ (Ad ad (56 + j))) (er : ∀ i, 107 ≤ i → i < 112 → q_R d (Ad ad i) = q_R δ (Ad ad i)) (eg : ∀ K, K < 4 → hN ad δ K ≤ hN ad d K ∧ ∀ i : Nat, (i : Int) < hN ad δ K → nT ad d K i = nT ad δ K i ∧ cF ad d K i = cF ad δ K i) : IE ad d := by
  have r7 := er 107 (by decide) (by decide)
  have r8 := er 108 (by decide) (by decide)
  have r9 := er 109 (by decide) (by decide)
  have r10 := er 110 (by decide) (by decide)
  have r11 := er 111 (by decide) (by decide)
  intro j hj K hK
  rw [e18] at hj ⊢
  obtain ⟨h1, h2, h3⟩ := E j hj K hK
  obtain ⟨g1, g2⟩ := eg K hK
  have eN : ∀ j, iN ad d j K = iN ad δ j K := fun j => by unfold iN; rw [r11]
  have eT : iT ad d j K = iT ad δ j K := by funext i; unfold iT; rw [r9]
  have eF : iF ad d j K = iF ad δ j K := by funext i; unfold iF; rw [r10]
  have eM : iM ad d j K = iM ad δ j K := by unfold iM; rw [r8]
  have eR : iR ad d j K = iR ad δ j K := by funext i; unfold iR; rw [r7]
  rw [eN, eT, eF, eM, eR, ec j (by omega)]
  exact ⟨h1, h2.g (Int.le_trans h2.2.1 g1) (fun i hi => g2 i (Int.lt_of_lt_of_le hi h2.2.1)), fun j' a b => by rw [eN]; exact h3 j' a b⟩
/-- the class's part untouched -/
def csk (ad : List Nat) (δ d : dp) : Prop := (∀ K, K < 4 → cM ad d K = cM ad δ K ∧ cR ad d K = cR ad δ K ∧ cN ad d K = cN ad δ K ∧ cC ad d K = cC ad δ K ∧ cT ad d K = cT ad δ K) ∧ ∀ j, j < 3 → q_R d (Ad ad (56 + j)) = q_R δ (Ad ad (56 + j))
theorem csk_G {v s : Bool} {ad : List Nat} {δ d : dp} (G : HG v s ad δ d) : csk ad δ d := by
  obtain ⟨⟨g1, g2, g3⟩, _⟩ := G
  refine ⟨fun K hK => ⟨?_, ?_, ?_, ?_, ?_⟩, fun j hj => ?_⟩
  · unfold cM; rw [g1 _ (k4 (P := fun K => 76 + 6 * K ∈ hcl) hK (by decide) (by decide) (by decide) (by decide))]
  · funext i; unfold cR; rw [g3 _ (k4 (P := fun K => 77 + 6 * K ∈ PRS) hK (by decide) (by decide) (by decide) (by decide))]
  · unfold cN; rw [g2]
  · funext i; unfold cC; rw [g3 _ (k4 (P := fun K => 78 + 6 * K ∈ PRS) hK (by decide) (by decide) (by decide) (by decide))]
  · funext i; unfold cT; rw [g3 _ (k4 (P := fun K => 79 + 6 * K ∈ PRS) hK (by decide) (by decide) (by decide) (by decide))]
  · rcases (show j = 0 ∨ j = 1 ∨ j = 2 by omega) with rfl | rfl | rfl
    · exact g3 56 (by decide)
    · exact g3 57 (by decide)
    · exact g3 58 (by decide)
theorem csk_m {ad : List Nat} {h : hp} (L : Lay TLx ad h) {δ d : dp} (G : csm ad δ d) : csk ad δ d := by
  obtain ⟨g1, g2⟩ := G
  refine ⟨fun K hK => ⟨?_, ?_, ?_, ?_, ?_⟩, fun j hj => ?_⟩
  · unfold cM; rw [g1 3 1 _ (by decide) (by decide)]
  · funext i; unfold cR; rw [g2 _ (ad_ne L (by omega) (by decide) (by omega))]
  · unfold cN; rw [g1 2 4 _ (by decide) (by decide)]
  · funext i; unfold cC; rw [g2 _ (ad_ne L (by omega) (by decide) (by omega))]
  · funext i; unfold cT; rw [g2 _ (ad_ne L (by omega) (by decide) (by omega))]
  · exact g2 _ (ad_ne L (by omega) (by decide) (by omega))
/-- the reference's part untouched -/
def rsk (ad : List Nat) (δ d : dp) : Prop := (∀ k, k = 10 ∨ k = 18 → q_I d 12 k (Ad ad 99) = q_I δ 12 k (Ad ad 99)) ∧ bak ad δ d ∧ ∀ i, 104 ≤ i → i < 112 → q_R d (Ad ad i) = q_R δ (Ad ad i)
theorem rsk_C {ad : List Nat} {g : gp} {δ d : dp} (C : CI ad g δ d) : rsk ad δ d := by
  obtain ⟨_, _, _, j4, j5⟩ := C
  exact ⟨fun k _ => j4 k _, bak_k (j5 102 (Or.inl (by decide)) (by decide)) (j5 103 (Or.inl (by decide)) (by decide)), fun i a b => j5 i (Or.inl (by omega)) (by omega)⟩
theorem csk_R {ad : List Nat} {g : gp} {δ d : dp} (R : RI ad g δ d) : csk ad δ d := by
  obtain ⟨_, _, j3, j4, _⟩ := R
  refine ⟨fun K hK => ⟨?_, ?_, ?_, ?_, ?_⟩, fun j hj => j4 _ (by omega)⟩
  · unfold cM; rw [j3 3 1 _ (by decide)]
  · funext i; unfold cR; rw [j4 _ (by omega)]
  · unfold cN; rw [j3 2 4 _ (by decide)]
  · funext i; unfold cC; rw [j4 _ (by omega)]
  · funext i; unfold cT; rw [j4 _ (by omega)]
theorem rsk_k {ad : List Nat} {W : List (Nat × Nat)} {V : List Nat} {δ d : dp} (u : kp W δ d) (w : kr ad V δ d) (h0 : (12, 10) ∉ W ∧ (12, 18) ∉ W) (hV : ∀ i ∈ [104, 105, 106, 107, 108, 109, 110, 111], i ∉ V) (B : bak ad δ d) : rsk ad δ d := ⟨fun k hk => by
  rcases hk with rfl | rfl
  · exact u 12 10 _ h0.1
  · exact u 12 18 _ h0.2, B, fun i a b => w i (by omega) (by omega) (hV i (by simp only [List.mem_cons, List.not_mem_nil, or_false]; omega))⟩
theorem HX.k {ad : List Nat} {δ d : dp} (H : HX ad δ) (i3 : (q_I δ 12 18 (Ad ad 99)).toInt ≤ 3) (c : csk ad δ d) (r : rsk ad δ d) : HX ad d := by
  obtain ⟨H1, H2⟩ := H
  obtain ⟨c1, c2⟩ := c
  obtain ⟨r1, r2, r3⟩ := r
  have eA : shA (Ad ad 99) d = shA (Ad ad 99) δ := by unfold shA; rw [r1 10 (Or.inl rfl)]
  have r4 := r3 104 (by decide) (by decide)
  have r5 := r3 105 (by decide) (by decide)
  have r6 := r3 106 (by decide) (by decide)
  have eT : ∀ K, nT ad d K = nT ad δ K := fun K => by funext i; unfold nT; rw [r4]
  have eF : ∀ K, cF ad d K = cF ad δ K := fun K => by funext i; unfold cF; rw [r5]
  have eN : ∀ K, hN ad d K = hN ad δ K := fun K => by unfold hN; rw [r6]
  refine ⟨fun K hK => ?_, H2.g i3 (r1 18 (Or.inr rfl)) c2 (fun i a b => r3 i (by omega) b) (fun K hK => ⟨by rw [eN]; exact Int.le_refl _, fun i _ => by rw [eT, eF]; exact ⟨rfl, rfl⟩⟩)⟩
  obtain ⟨q1, q2, q3, q4, _⟩ := c1 K hK
  obtain ⟨b1, b2⟩ := r2 K hK
  rw [eA]
  unfold HE
  rw [q1, q2, q3, q4, eT, eF, eN]
  exact (H1 K hK).c rfl RE.r rfl (fun _ _ => rfl) ⟨b1, b2⟩ rfl (fun _ _ => ⟨rfl, rfl⟩)
def IY (ad : List Nat) (g : gp) (δ : dp) : Prop := IX ad g δ ∧ HX ad δ
theorem IY.i3 {ad : List Nat} {h : hp} (km : q_K h.1 (Ad ad 99) = 12) {δ : dp} (R : RI ad h.1 δ δ) : (q_I δ 12 18 (Ad ad 99)).toInt ≤ 3 := (cb_12_18 R km).2
theorem i64 {v w : Int32} (h : v.toInt = w.toInt) : v.toInt64 = w.toInt64 := by rw [i_eq h]
/-- what the law's helper says of a call of the class -/
def OL (c1 c2 : Prop) (Q : Int → Prop) (o : Nat) (kk : Int32) (d : dp) : Prop := (c1 ∧ kk = 1) ∨ (¬ c1 ∧ c2 ∧ kk = 2) ∨ (¬ c1 ∧ ¬ c2 ∧ kk = 0 ∧ ∃ w : Int32, q_J d o 0 = w.toInt64 ∧ Q w.toInt)
/-- what a call of the reference says -/
def OM (c1 c2 : Prop) (Q : Int → Prop) (a0 : Nat) (b : Int32) (d : dp) : Prop := (c1 ∧ q_I d 12 0 a0 = 1) ∨ (¬ c1 ∧ c2 ∧ q_I d 12 0 a0 = 2) ∨ (¬ c1 ∧ ¬ c2 ∧ q_I d 12 0 a0 = 0 ∧ Q b.toInt)
theorem OLM {c1 c2 d1 d2 : Prop} {Q P : Int → Prop} {o a0 : Nat} {kk b : Int32} {δ1 d : dp} (eJ : q_J d = q_J δ1) (e1 : c1 ↔ d1) (e2 : ¬ c1 → (c2 ↔ d2)) (hq : ¬ c1 → ¬ c2 → ∀ v w, Q v → P w → v = w) (h : OL c1 c2 Q o kk δ1) (g : OM d1 d2 P a0 b d) : q_I d 12 0 a0 = kk ∧ (kk = 0 → q_J d o 0 = b.toInt64) := by
  rw [eJ]
  rcases h with ⟨h1, h2⟩ | ⟨h1, h3, h2⟩ | ⟨h1, h3, h2, w, h4, h5⟩ <;> rcases g with ⟨g1, g2⟩ | ⟨g1, g3, g2⟩ | ⟨g1, g3, g2, g4⟩
  · exact ⟨by rw [g2, h2], fun z => by rw [h2] at z; exact absurd z (by decide)⟩
  · exact absurd (e1.mp h1) g1
  · exact absurd (e1.mp h1) g1
  · exact absurd (e1.mpr g1) h1
  · exact ⟨by rw [g2, h2], fun z => by rw [h2] at z; exact absurd z (by decide)⟩
  · exact absurd ((e2 h1).mp h3) g3
  · exact absurd (e1.mpr g1) h1
  · exact absurd ((e2 h1).mpr g3) h3
  · exact ⟨by rw [g2, h2], fun _ => by rw [h4]; exact i64 (hq h1 h3 _ _ h5 g4)⟩
/-- a call that leaves the houses, compared -/
theorem stepR {ad : List Nat} {h : hp} (km : q_K h.1 (Ad ad 99) = 12) {δ : dp} (V : IY ad h.1 δ) {o1 : Option (Int32 × dp)} {f : dp → Option (Int32 × dp)} {v s : Bool} {c1 c2 : Prop} {d1 d2 : dp → Prop} {Q : Int → Prop} {P : dp → Int → Prop} {o : Nat}
    (C : ok o1 (fun r => CI ad h.1 δ r.2 ∧ (q_I r.2 7 1 (Ad ad 1)).toInt = (q_I δ 7 1 (Ad ad 1)).toInt ∧ ∀ a, q_I r.2 5 0 a = q_I δ 5 0 a ∧ q_I r.2 5 1 a = q_I δ 5 1 a ∧ q_I r.2 5 2 a = q_I δ 5 2 a ∧ q_I r.2 11 12 a = q_I δ 11 12 a))
    (G : hs o1 (fun r => HG v s ad δ r.2)) (GL : hs o1 (fun r => OL c1 c2 Q o r.1 r.2))
    (R : ∀ δ1, RI ad h.1 δ1 δ1 → OI ad (Ad ad 99) δ1 → ok (f δ1) (fun r => OR ad h.1 (Ad ad 99) δ1 δ1 r.2 ∧ q_I r.2 12 18 (Ad ad 99) = q_I δ1 12 18 (Ad ad 99)))
    (RS : ∀ δ1, RI ad h.1 δ1 δ1 → OI ad (Ad ad 99) δ1 → HX ad δ1 → hs (f δ1) (fun r => rsk ad δ1 r.2 ∧ OM (d1 δ1) (d2 δ1) (P δ1) (Ad ad 99) r.1 r.2))
    (U : ∀ δ1, HX ad δ1 → csk ad δ δ1 → scA ad δ = shA (Ad ad 99) δ1 → (q_I δ 5 0 (Ad ad 3) = q_I δ1 12 10 (Ad ad 99)) → (c1 ↔ d1 δ1) ∧ (¬ c1 → (c2 ↔ d2 δ1)) ∧ (¬ c1 → ¬ c2 → ∀ v w, Q v → P δ1 w → v = w)) :
    ∃ d, (∃ (kk b : Int32) (δ1 : dp), o1 = some (kk, δ1) ∧ f δ1 = some (b, d) ∧ q_I d 12 0 (Ad ad 99) = kk ∧ (kk = 0 → q_J d o 0 = b.toInt64)) ∧ IY ad h.1 d := by
  obtain ⟨⟨V, A⟩, X⟩ := V
  obtain ⟨⟨kk, δ1⟩, e1, ⟨⟨m1, m2, m3⟩, m4⟩, m5⟩ := ok_hs (ok_hs C G) GL
  dsimp only at m1 m2 m3 m4 m5
  have I1 := RI_re V.2.1 m1
  have O1 := OI_re V.2.2.1 m1
  have X1 : HX ad δ1 := X.k (IY.i3 km V.2.1) (csk_G m4) (rsk_C m1)
  obtain ⟨⟨b, d⟩, e2, ⟨⟨r1, r2, r3, r4, r5, r6, r7⟩, r8⟩, r9, r10⟩ := ok_hs (R δ1 I1 O1) (RS δ1 I1 O1 X1)
  dsimp only at r1 r2 r3 r4 r5 r6 r7 r8 r9 r10
  have F := m1.2.2.2.1
  have X2 : HX ad d := X1.k (IY.i3 km I1) (csk_R r1) r9
  have a4 : q_I δ 5 0 (Ad ad 3) = q_I δ1 12 10 (Ad ad 99) := A.2.2.2.1.trans (F 10 _).symm
  have eA : scA ad δ = shA (Ad ad 99) δ1 := by show ((1 : Int32) <<< (q_I δ 5 0 (Ad ad 3) &&& 31)).toInt = ((1 : Int32) <<< (q_I δ1 12 10 (Ad ad 99) &&& 31)).toInt; rw [a4]
  obtain ⟨u1, u2, u3⟩ := U δ1 X1 (csk_G m4) eA a4
  have fin := OLM (congrArg Prod.snd r1.2.2.2.2) u1 u2 u3 m5 r10
  refine ⟨d, ⟨kk, b, δ1, e1, e2, fin.1, fin.2⟩, ⟨IV_end V m1 r1 r2 ?_, ?_⟩, X2⟩
  · rw [m2, r3, F 2 (Ad ad 99)]; exact V.2.2.2
  · obtain ⟨t1, t2⟩ := AL_t A m1 r1 r4
    have G := r1.2.2.1
    obtain ⟨a1, a2, a3, a4, a5, a6⟩ := A
    refine ⟨t1, t2, ?_, ?_, ?_, ?_⟩
    · rw [G 11 12 _ (by decide), (m3 _).2.2.2, r8, F 18]; exact a3
    · rw [G 5 0 _ (by decide), (m3 _).1, r5, F 10]; exact a4
    · rw [G 5 1 _ (by decide), (m3 _).2.1, r7, F 12]; exact a5
    · rw [G 5 2 _ (by decide), (m3 _).2.2.1, r6, F 11]; exact a6
/-- a call that leaves the houses, not compared -/
theorem stepN {ad : List Nat} {h : hp} (km : q_K h.1 (Ad ad 99) = 12) {δ : dp} (V : IY ad h.1 δ) {o1 : Option (Int32 × dp)} {f : dp → Option (Int32 × dp)} {v s : Bool}
    (C : ok o1 (fun r => CI ad h.1 δ r.2 ∧ (q_I r.2 7 1 (Ad ad 1)).toInt = (q_I δ 7 1 (Ad ad 1)).toInt ∧ ∀ a, q_I r.2 5 0 a = q_I δ 5 0 a ∧ q_I r.2 5 1 a = q_I δ 5 1 a ∧ q_I r.2 5 2 a = q_I δ 5 2 a ∧ q_I r.2 11 12 a = q_I δ 11 12 a))
    (G : hs o1 (fun r => HG v s ad δ r.2))
    (R : ∀ δ1, RI ad h.1 δ1 δ1 → OI ad (Ad ad 99) δ1 → ok (f δ1) (fun r => OR ad h.1 (Ad ad 99) δ1 δ1 r.2 ∧ q_I r.2 12 18 (Ad ad 99) = q_I δ1 12 18 (Ad ad 99)))
    (RS : ∀ δ1, RI ad h.1 δ1 δ1 → OI ad (Ad ad 99) δ1 → hs (f δ1) (fun r => rsk ad δ1 r.2)) :
    ∃ d, (∃ (kk b : Int32) (δ1 : dp), o1 = some (kk, δ1) ∧ f δ1 = some (b, d)) ∧ IY ad h.1 d := by
  obtain ⟨⟨V, A⟩, X⟩ := V
  obtain ⟨⟨kk, δ1⟩, e1, ⟨m1, m2, m3⟩, m4⟩ := ok_hs C G
  dsimp only at m1 m2 m3 m4
  have I1 := RI_re V.2.1 m1
  have O1 := OI_re V.2.2.1 m1
  have X1 : HX ad δ1 := X.k (IY.i3 km V.2.1) (csk_G m4) (rsk_C m1)
  obtain ⟨⟨b, d⟩, e2, ⟨⟨r1, r2, r3, r4, r5, r6, r7⟩, r8⟩, r9⟩ := ok_hs (R δ1 I1 O1) (RS δ1 I1 O1)
  dsimp only at r1 r2 r3 r4 r5 r6 r7 r8 r9
  have F := m1.2.2.2.1
  have X2 : HX ad d := X1.k (IY.i3 km I1) (csk_R r1) r9
  refine ⟨d, ⟨kk, b, δ1, e1, e2⟩, ⟨IV_end V m1 r1 r2 ?_, ?_⟩, X2⟩
  · rw [m2, r3, F 2 (Ad ad 99)]; exact V.2.2.2
  · obtain ⟨t1, t2⟩ := AL_t A m1 r1 r4
    have G := r1.2.2.1
    obtain ⟨a1, a2, a3, a4, a5, a6⟩ := A
    refine ⟨t1, t2, ?_, ?_, ?_, ?_⟩
    · rw [G 11 12 _ (by decide), (m3 _).2.2.2, r8, F 18]; exact a3
    · rw [G 5 0 _ (by decide), (m3 _).1, r5, F 10]; exact a4
    · rw [G 5 1 _ (by decide), (m3 _).2.1, r7, F 12]; exact a5
    · rw [G 5 2 _ (by decide), (m3 _).2.2.1, r6, F 11]; exact a6
end
section
/-! put and drop: alike -/
theorem mra_g {call x M n M1 n1 : Int} {R T F R1 T1 F1 : Nat → Int} (r : mra call x M R n T F M1 R1 n1 T1 F1) : n ≤ n1 ∧ ∀ i : Nat, (i : Int) < n → T1 i = T i ∧ F1 i = F i := by
  rcases r with ⟨_, _, _, r3, r4⟩ | ⟨_, _, _, r3, r4⟩ | ⟨_, _, _, r3, r4⟩ | ⟨_, _, _, r3, r4⟩
  · exact ⟨by omega, r4⟩
  · refine ⟨by omega, fun i hi => ?_⟩
    have := r4 i (by omega)
    rw [if_neg (by omega), if_neg (by omega)] at this
    exact this
  · exact ⟨by omega, r4⟩
  · refine ⟨by omega, fun i hi => ?_⟩
    have := r4 i (by omega)
    rw [if_neg (by omega), if_neg (by omega)] at this
    exact this
theorem chA_u {M N n m c x v w : Int} {R Q : Nat → Int} (e : RE M R N Q) (en : m = n) (h : chA M R n c x v) (g : chA N Q m c x w) : v = w := by
  have mi := ME_i (x := x) e
  have e1 := e.1
  rcases h with ⟨h1, h2, h3⟩ | ⟨h1, h2, h3⟩ | ⟨h1, h2⟩ <;> rcases g with ⟨g1, g2, g3⟩ | ⟨g1, g2, g3⟩ | ⟨g1, g2⟩
  · rw [h3, g3]
  · rw [h3, g3]
  · exact absurd (mi.mp h2) (g1.mp h1)
  · rw [h3, g3]
  · rw [h3, g3]
  · exact absurd (g1.mpr (fun z => h2 (mi.mpr z))) (by omega)
  · exact absurd (mi.mpr g2) (h1.mp g1)
  · exact absurd (h1.mpr (fun z => g2 (mi.mp z))) (by omega)
  · rcases h2 with ⟨a, b, c⟩ | ⟨a, b, c⟩ | ⟨a, b, c⟩ <;> rcases g2 with ⟨a', b', c'⟩ | ⟨a', b', c'⟩ | ⟨a', b', c'⟩ <;> omega
theorem chA_k {M n c x v : Int} {R : Nat → Int} (h : chA M R n c x v) (hv : v = 1) : n < 1000 := by
  rcases h with ⟨_, _, h3⟩ | ⟨_, _, h3⟩ | ⟨_, ⟨_, _, h3⟩ | ⟨_, _, h3⟩ | ⟨_, h3, _⟩⟩ <;> omega
theorem HX_m {ad : List Nat} {δ d : dp} {H : Nat} {call x : Int} (X : HX ad δ) (i3 : (q_I δ 12 18 (Ad ad 99)).toInt ≤ 3) (hH : H < 4) (x0 : 0 ≤ x) (xA : x < shA (Ad ad 99) δ) (bN : ∀ K, K < 4 → hN ad δ K ≤ 1000) (bM : ∀ K, K < 4 → hM ad δ K ≤ 2000)
    (cm : mka call x (cM ad δ H) (cR ad δ H) (cN ad δ H) (cC ad δ H) (cM ad d H) (cR ad d H) (cN ad d H) (cC ad d H)) (co : ∀ K, K < 4 → K ≠ H → cM ad d K = cM ad δ K ∧ cR ad d K = cR ad δ K ∧ cN ad d K = cN ad δ K ∧ cC ad d K = cC ad δ K) (ci : ∀ j, j < 3 → q_R d (Ad ad (56 + j)) = q_R δ (Ad ad (56 + j)))
    (rm : mr ad H call x δ d) (ro : mfr ad H δ d) (r18 : q_I d 12 18 (Ad ad 99) = q_I δ 12 18 (Ad ad 99)) (r10 : q_I d 12 10 (Ad ad 99) = q_I δ 12 10 (Ad ad 99)) (ri : ∀ i, 107 ≤ i → i < 112 → q_R d (Ad ad i) = q_R δ (Ad ad i)) : HX ad d := by
  obtain ⟨X1, X2⟩ := X
  have eA : shA (Ad ad 99) d = shA (Ad ad 99) δ := by unfold shA; rw [r10]
  refine ⟨fun K hK => ?_, X2.g i3 r18 ci ri (fun K hK => ?_)⟩
  · rw [eA]
    by_cases c : K = H
    · subst c
      exact (X1 K hK).m x0 xA cm rm
    · obtain ⟨o1, o2, o3, o4⟩ := co K hK c
      obtain ⟨p1, p2, p3, p4⟩ := ro K c
      unfold HE
      rw [o1, o2, o3, o4]
      have b1 := bN K hK
      have b2 := bM K hK
      exact (X1 K hK).c rfl RE.r rfl (fun _ _ => rfl) ⟨p1, fun i hi => p3 i (by omega)⟩ p2 (fun i hi => p4 i (by omega))
  · by_cases c : K = H
    · subst c
      exact mra_g rm
    · obtain ⟨p1, p2, p3, p4⟩ := ro K c
      have b1 := bN K hK
      exact ⟨by rw [p2]; exact Int.le_refl _, fun i hi => p4 i (by omega)⟩
theorem mf_o {ad : List Nat} {h : hp} (L : Lay TLx ad h) {H : Nat} (hH : H < 4) {δ d : dp} (m : mf ad H δ d) : (∀ K, K < 4 → K ≠ H → cM ad d K = cM ad δ K ∧ cR ad d K = cR ad δ K ∧ cN ad d K = cN ad δ K ∧ cC ad d K = cC ad δ K ∧ cT ad d K = cT ad δ K) ∧ ∀ j, j < 3 → q_R d (Ad ad (56 + j)) = q_R δ (Ad ad (56 + j)) := by
  obtain ⟨m1, m2⟩ := m
  refine ⟨fun K hK n => ⟨?_, ?_, ?_, ?_, ?_⟩, fun j hj => m2 _ (ad_ne L (by omega) (by decide) (by omega)) (ad_ne L (by omega) (by omega) (by omega)) (ad_ne L (by omega) (by omega) (by omega)) (ad_ne L (by omega) (by omega) (by omega))⟩
  · unfold cM; rw [m1 3 1 _ (by decide) (by decide) (fun z => ad_ne L (by omega) (by omega) (by omega) z.2.2) (fun z => by omega)]
  · funext i; unfold cR; rw [m2 _ (ad_ne L (by omega) (by decide) (by omega)) (ad_ne L (by omega) (by omega) (by omega)) (ad_ne L (by omega) (by omega) (by omega)) (ad_ne L (by omega) (by omega) (by omega))]
  · unfold cN; rw [m1 2 4 _ (by decide) (by decide) (fun z => by omega) (fun z => ad_ne L (by omega) (by omega) (by omega) z.2.2)]
  · funext i; unfold cC; rw [m2 _ (ad_ne L (by omega) (by decide) (by omega)) (ad_ne L (by omega) (by omega) (by omega)) (ad_ne L (by omega) (by omega) (by omega)) (ad_ne L (by omega) (by omega) (by omega))]
  · funext i; unfold cT; rw [m2 _ (ad_ne L (by omega) (by decide) (by omega)) (ad_ne L (by omega) (by omega) (by omega)) (ad_ne L (by omega) (by omega) (by omega)) (ad_ne L (by omega) (by omega) (by omega))]
/-- what the law's helper says of put and drop of the class -/
def hLP (ad : List Nat) (N : Nat) (g : gp) (call : Int) (x0 x1 x2 : Int32) (o : Nat) (δ : dp) (kk : Int32) (d : dp) : Prop :=
  ((x1.toInt < 0 ∨ 3 < x1.toInt) ∧ kk = 1 ∧ csm ad δ d) ∨
  ∃ H : Nat, H < 4 ∧ x1.toInt = (H : Int) ∧
    (((x2.toInt < 0 ∨ scA ad δ ≤ x2.toInt) ∧ kk = 2 ∧ csm ad δ d) ∨
    (0 ≤ x2.toInt ∧ x2.toInt < scA ad δ ∧ kk = 0 ∧ ∃ w : Int32, q_J d o 0 = w.toInt64 ∧ chA (cM ad δ H) (cR ad δ H) (cN ad δ H) call x2.toInt w.toInt ∧
      ((w.toInt ≠ 1 ∧ csm ad δ d) ∨ (w.toInt = 1 ∧ ∃ (d0 : dp) (tv : Int32) (d1 : dp), csm ad δ d0 ∧ mf ad H d0 d ∧ D_X1_touchesOf N g (Ad ad (80 + 6 * H)) x0 x2 d0 = some (tv, d1) ∧ mk ad H call x2.toInt tv.toInt d0 d))))
theorem jup {δ : dp} {o : Nat} {v : Int64} : q_J (s_J δ o 0 v) o 0 = v := by
  show va_up (q_J δ) o (vp_updL (q_J δ o) 0 v) o 0 = _
  simp [va_up, vp_updL]
theorem hLP_of {ad : List Nat} {N : Nat} {g : gp} {call : Int} {x0 x1 x2 : Int32} {o : Nat} {δ : dp} {X : Option ((Int32 ⊕ Nat) × dp)} (H : hs X (fun r => hCP ad N g call x0 x1 x2 δ r.1 r.2)) {f : (Int32 ⊕ Nat) × dp → Option (Int32 × dp)} (hf1 : ∀ v d, hs (f (.inl v, d)) (fun r => r = (0, s_J d o 0 v.toInt64))) (hf2 : ∀ d, hs (f (.inr 0, d)) (fun r => r = (1, d))) (hf3 : ∀ d, hs (f (.inr 2, d)) (fun r => r = (2, d))) : hs (X.bind f) (fun r => hLP ad N g call x0 x1 x2 o δ r.1 r.2) := by
  refine hs_bind H (fun r hr => ?_)
  obtain ⟨v, d⟩ := r
  rcases hr with ⟨h1, h2, h3⟩ | ⟨K, hK, hx, ⟨h1, h2, h3⟩ | ⟨h1, h2, w, h3, h4, h5⟩⟩
  · dsimp only at h2 h3
    subst h2
    exact hs_mono (hf2 d) (fun r e => by rw [e]; exact Or.inl ⟨h1, rfl, h3⟩)
  · dsimp only at h2 h3
    subst h2
    exact hs_mono (hf3 d) (fun r e => by rw [e]; exact Or.inr ⟨K, hK, hx, Or.inl ⟨h1, rfl, h3⟩⟩)
  · dsimp only at h3 h5
    subst h3
    refine hs_mono (hf1 w d) (fun r e => by rw [e]; exact Or.inr ⟨K, hK, hx, Or.inr ⟨h1, h2, rfl, w, jup, h4, h5⟩⟩)
theorem hL_put {ad : List Nat} {h : hp} (L : Lay TLx ad h) {δ0 : dp} {N : Nat} (hN : 10000000 ≤ N) {x1 x2 : Int32} {o : Nat} {δ : dp} (I : CI ad h.1 δ0 δ) (S : ∀ K, K < 4 → SR (cM ad δ K) (cR ad δ K)) : hs (D_L_put N h.1 (Ad ad 0) x1 x2 o δ) (fun r => hLP ad N h.1 0 0 x1 x2 o δ r.1 r.2) := by
  unfold D_L_put
  refine hLP_of (hc_put L hN (x1 := x1) (x2 := x2) I S) (fun v d => ?_) (fun d => ?_) (fun d => ?_)
  · exact hs_gd (fun _ => hs_some rfl)
  · exact hs_ite (fun _ => hs_some rfl) (fun z => absurd rfl z)
  · exact hs_ite (fun z => absurd z (by decide)) (fun _ => hs_ite (fun z => absurd z (by decide)) (fun _ => hs_some rfl))
theorem hL_drop {ad : List Nat} {h : hp} (L : Lay TLx ad h) {δ0 : dp} {N : Nat} (hN : 10000000 ≤ N) {x1 x2 : Int32} {o : Nat} {δ : dp} (I : CI ad h.1 δ0 δ) (S : ∀ K, K < 4 → SR (cM ad δ K) (cR ad δ K)) : hs (D_L_drop N h.1 (Ad ad 0) x1 x2 o δ) (fun r => hLP ad N h.1 1 1 x1 x2 o δ r.1 r.2) := by
  unfold D_L_drop
  refine hLP_of (hc_drop L hN (x1 := x1) (x2 := x2) I S) (fun v d => ?_) (fun d => ?_) (fun d => ?_)
  · exact hs_gd (fun _ => hs_some rfl)
  · exact hs_ite (fun _ => hs_some rfl) (fun z => absurd rfl z)
  · exact hs_ite (fun z => absurd z (by decide)) (fun _ => hs_ite (fun z => absurd z (by decide)) (fun _ => hs_some rfl))
theorem HX.S {ad : List Nat} {δ : dp} (X : HX ad δ) {K : Nat} (hK : K < 4) : SR (cM ad δ K) (cR ad δ K) := by
  obtain ⟨h1, _, _, h4, _⟩ := X.1 K hK
  exact SR_c h1 h4
theorem HX.T {ad : List Nat} {δ : dp} (X : HX ad δ) {K : Nat} (hK : K < 4) : hsr ad δ K := by
  obtain ⟨_, _, _, h4, h5, _⟩ := X.1 K hK
  exact ⟨h5, h4⟩
/-- put and drop -/
theorem stepP {ad : List Nat} {h : hp} (L : Lay TLx ad h) {N : Nat} (km : q_K h.1 (Ad ad 99) = 12) {δ : dp} (V : IY ad h.1 δ) {o1 : Option (Int32 × dp)} {f : dp → Option (Int32 × dp)} {call : Int} {x0 x1 x2 : Int32} {o : Nat} {V12 : List Nat} (hV : ∀ i ∈ [107, 108, 109, 110, 111], i ∉ V12)
    (C : ok o1 (fun r => CI ad h.1 δ r.2 ∧ (q_I r.2 7 1 (Ad ad 1)).toInt = (q_I δ 7 1 (Ad ad 1)).toInt ∧ ∀ a, q_I r.2 5 0 a = q_I δ 5 0 a ∧ q_I r.2 5 1 a = q_I δ 5 1 a ∧ q_I r.2 5 2 a = q_I δ 5 2 a ∧ q_I r.2 11 12 a = q_I δ 11 12 a))
    (GL : hs o1 (fun r => hLP ad N h.1 call x0 x1 x2 o δ r.1 r.2))
    (R : ∀ δ1, RI ad h.1 δ1 δ1 → OI ad (Ad ad 99) δ1 → ok (f δ1) (fun r => OR ad h.1 (Ad ad 99) δ1 δ1 r.2 ∧ q_I r.2 12 18 (Ad ad 99) = q_I δ1 12 18 (Ad ad 99)))
    (RS : ∀ δ1, RI ad h.1 δ1 δ1 → OI ad (Ad ad 99) δ1 → hs (f δ1) (fun r => hRP ad (Ad ad 99) call x1 x2 δ1 r.1 r.2 ∧ kr ad V12 δ1 r.2)) :
    ∃ d, (∃ (kk b : Int32) (δ1 : dp), o1 = some (kk, δ1) ∧ f δ1 = some (b, d) ∧ q_I d 12 0 (Ad ad 99) = kk ∧ (kk = 0 → q_J d o 0 = b.toInt64)) ∧ IY ad h.1 d := by
  obtain ⟨⟨V, A⟩, X⟩ := V
  obtain ⟨⟨kk, δ1⟩, e1, ⟨m1, m2, m3⟩, m5⟩ := ok_hs C GL
  dsimp only at m1 m2 m3 m5
  have I1 := RI_re V.2.1 m1
  have O1 := OI_re V.2.2.1 m1
  obtain ⟨⟨b, d⟩, e2, ⟨⟨r1, r2, r3, r4, r5, r6, r7⟩, r8⟩, r9, r10⟩ := ok_hs (R δ1 I1 O1) (RS δ1 I1 O1)
  dsimp only at r1 r2 r3 r4 r5 r6 r7 r8 r9 r10
  have F := m1.2.2.2.1
  have FR := m1.2.2.2.2
  have i3 := IY.i3 (ad := ad) km V.2.1
  have a4 : q_I δ 5 0 (Ad ad 3) = q_I δ1 12 10 (Ad ad 99) := A.2.2.2.1.trans (F 10 _).symm
  have eA : scA ad δ = shA (Ad ad 99) δ1 := by show ((1 : Int32) <<< (q_I δ 5 0 (Ad ad 3) &&& 31)).toInt = ((1 : Int32) <<< (q_I δ1 12 10 (Ad ad 99) &&& 31)).toInt; rw [a4]
  have eA0 : shA (Ad ad 99) δ1 = shA (Ad ad 99) δ := by unfold shA; rw [F 10]
  have w2 : q_R δ1 (Ad ad 102) = q_R δ (Ad ad 102) := FR 102 (Or.inl (by decide)) (by decide)
  have w3 : q_R δ1 (Ad ad 103) = q_R δ (Ad ad 103) := FR 103 (Or.inl (by decide)) (by decide)
  have w4 : q_R δ1 (Ad ad 104) = q_R δ (Ad ad 104) := FR 104 (Or.inl (by decide)) (by decide)
  have w5 : q_R δ1 (Ad ad 105) = q_R δ (Ad ad 105) := FR 105 (Or.inl (by decide)) (by decide)
  have w6 : q_R δ1 (Ad ad 106) = q_R δ (Ad ad 106) := FR 106 (Or.inl (by decide)) (by decide)
  have M1 : ∀ J, hM ad δ1 J = hM ad δ J := fun J => by unfold hM; rw [w3]
  have R1 : ∀ J, hR ad δ1 J = hR ad δ J := fun J => by funext i; unfold hR; rw [w2]
  have N1 : ∀ J, hN ad δ1 J = hN ad δ J := fun J => by unfold hN; rw [w6]
  have T1 : ∀ J, nT ad δ1 J = nT ad δ J := fun J => by funext i; unfold nT; rw [w4]
  have F1 : ∀ J, cF ad δ1 J = cF ad δ J := fun J => by funext i; unfold cF; rw [w5]
  have eJ : q_J d = q_J δ1 := congrArg Prod.snd r1.2.2.2.2
  have K2 := csk_R r1
  have fin : (q_I d 12 0 (Ad ad 99) = kk ∧ (kk = 0 → q_J d o 0 = b.toInt64)) ∧ HX ad d := by
    have same : csm ad δ δ1 → kr ad [100] δ1 d → HX ad d := fun c k => by
      have X1 : HX ad δ1 := X.k i3 (csk_m L c) (rsk_C m1)
      exact X1.k (by rw [F 18]; exact i3) K2 ⟨fun q hq => by rcases hq with rfl | rfl; exact r5; exact r8, bak_k (k 102 (by decide) (by decide) (by decide)) (k 103 (by decide) (by decide) (by decide)), fun i a b => k i (by omega) (by omega) (by simp only [List.mem_cons, List.not_mem_nil, or_false]; omega)⟩
    rcases m5 with ⟨g1, g2, g3⟩ | ⟨H, hH, hx, g⟩
    · rcases r9 with ⟨s1, s2, s3⟩ | ⟨H, hH, hx, _⟩
      · exact ⟨⟨by rw [s2, g2], fun z => by rw [g2] at z; exact absurd z (by decide)⟩, same g3 s3⟩
      · exfalso; omega
    · rcases r9 with ⟨s1, _⟩ | ⟨H', hH', hx', s⟩
      · exfalso; omega
      · obtain rfl : H' = H := by omega
        rw [← eA, M1, R1, N1] at s
        obtain ⟨q1, q2, q3, q4, q5, q6, q7, q8, q9⟩ := X.1 H' hH
        rcases g with ⟨g1, g2, g3⟩ | ⟨g1, g1', g2, w, g3, g4, g5⟩ <;> rcases s with ⟨s1, s2, s3⟩ | ⟨s1, s1', s2, s3, s4⟩
        · exact ⟨⟨by rw [s2, g2], fun z => by rw [g2] at z; exact absurd z (by decide)⟩, same g3 s3⟩
        · exfalso; omega
        · exfalso; omega
        · have vw : w.toInt = b.toInt := chA_u q1.s (by omega) g4 s3
          refine ⟨⟨by rw [s2, g2], fun _ => by rw [eJ, g3]; exact i64 vw⟩, ?_⟩
          rcases g5 with ⟨n1, c⟩ | ⟨n1, d0, tv, d1, c0, c1, c2, c3⟩ <;> rcases s4 with ⟨n2, k⟩ | ⟨n2, k1, k2⟩
          · exact same c k
          · exfalso; omega
          · exfalso; omega
          · have co := mf_o L hH c1
            have cc := csk_m L c0
            obtain ⟨z1, z2, z3, z4, _⟩ := cc.1 H' hH
            obtain ⟨y1, y2, y3, y4, _⟩ := K2.1 H' hH
            have mm := mk_a c3
            rw [z1, z2, z3, z4] at mm
            refine HX_m X i3 hH g1 (by rw [← eA0, ← eA]; exact g1') (fun K _ => (rb_106 L V.2.1 K).2) (fun K _ => (rb_103 L V.2.1 K).2) (by rw [y1, y2, y3, y4]; exact mm) (fun K hK n => ?_) (fun j hj => ?_) ?_ (fun J nJ => ?_) (by rw [r8, F 18]) (by rw [r5, F 10]) (fun i a b => ?_)
            · obtain ⟨a1, a2, a3, a4, _⟩ := K2.1 K hK
              obtain ⟨b1, b2, b3, b4, _⟩ := co.1 K hK n
              obtain ⟨e1, e2, e3, e4, _⟩ := cc.1 K hK
              exact ⟨by rw [a1, b1, e1], by rw [a2, b2, e2], by rw [a3, b3, e3], by rw [a4, b4, e4]⟩
            · rw [K2.2 j hj, co.2 j hj, cc.2 j hj]
            · unfold mr at k1 ⊢
              rw [M1, R1, N1, T1, F1] at k1; exact k1
            · have := k2 J nJ
              rw [M1, R1, N1, T1, F1] at this; exact this
            · rw [r10 i (by omega) (by omega) (hV i (by simp only [List.mem_cons, List.not_mem_nil, or_false]; omega)), FR i (Or.inl (by omega)) (by omega)]
  refine ⟨d, ⟨kk, b, δ1, e1, e2, fin.1.1, fin.1.2⟩, ⟨IV_end V m1 r1 r2 ?_, ?_⟩, fin.2⟩
  · rw [m2, r3, F 2 (Ad ad 99)]; exact V.2.2.2
  · obtain ⟨t1, t2⟩ := AL_t A m1 r1 r4
    have G := r1.2.2.1
    obtain ⟨a1, a2, a3, a4, a5, a6⟩ := A
    refine ⟨t1, t2, ?_, ?_, ?_, ?_⟩
    · rw [G 11 12 _ (by decide), (m3 _).2.2.2, r8, F 18]; exact a3
    · rw [G 5 0 _ (by decide), (m3 _).1, r5, F 10]; exact a4
    · rw [G 5 1 _ (by decide), (m3 _).2.1, r7, F 12]; exact a5
    · rw [G 5 2 _ (by decide), (m3 _).2.2.1, r6, F 11]; exact a6
end
section
/-! the reference's shape: what is thrown, and the houses (by gen_frame12.py) -/
def KG (ad : List Nat) (δ δ1 : dp) : Prop := (∀ a, q_I δ1 12 0 a = q_I δ 12 0 a) ∧ q_R δ1 (Ad ad 103) = q_R δ (Ad ad 103) ∧ q_R δ1 (Ad ad 106) = q_R δ (Ad ad 106)
theorem KG_r {ad : List Nat} {δ : dp} : KG ad δ δ := ⟨fun _ => rfl, rfl, rfl⟩
theorem KG.t {ad : List Nat} {δ δ1 δ2 : dp} (h : KG ad δ δ1) (k : KG ad δ1 δ2) : KG ad δ δ2 := ⟨fun a => (k.1 a).trans (h.1 a), k.2.1.trans h.2.1, k.2.2.trans h.2.2⟩
theorem KG.I {ad : List Nat} {δ δ1 δ2 : dp} {k a : Nat} {x : Int32} (h : KG ad δ δ1) (e : δ2 = s_I δ1 12 (k + 1) a x) (_ : ¬ (3 = 12 ∧ 1 = k + 1)) (_ : ¬ (2 = 12 ∧ 4 = k + 1)) : KG ad δ δ2 := h.t ⟨fun a => by rw [e]; exact rI_o (fun z => by omega), by rw [e]; rfl, by rw [e]; rfl⟩
theorem KG.R {ad : List Nat} {δ δ1 δ2 : dp} {b i : Nat} {x : Int32} (h : KG ad δ δ1) (e : δ2 = s_R δ1 b i x) (n : Ad ad 103 ≠ b ∧ Ad ad 106 ≠ b) : KG ad δ δ2 := h.t ⟨fun a => by rw [e]; rfl, by rw [e]; exact rR_o n.1, by rw [e]; exact rR_o n.2⟩
/-- how shape ends: refused, houses as they were; or taken, houses empty -/
def FIN (ad : List Nat) (δ : dp) (r : Int32 × dp) : Prop := (∀ a, q_I r.2 12 0 a = q_I δ 12 0 a) ∧ ((r.1 = q_I r.2 12 6 (Ad ad 99) - 10 ∧ q_R r.2 (Ad ad 103) = q_R δ (Ad ad 103) ∧ q_R r.2 (Ad ad 106) = q_R δ (Ad ad 106)) ∨ (r.1 = q_I r.2 12 10 (Ad ad 99) ∧ ∀ K, K < 4 → (q_R r.2 (Ad ad 103) K).toInt = 0 ∧ (q_R r.2 (Ad ad 106) K).toInt = 0))
theorem FIN_t {ad : List Nat} {δ δ1 : dp} {r : Int32 × dp} (h : KG ad δ δ1) (k : FIN ad δ1 r) : FIN ad δ r := by
  obtain ⟨k1, k2⟩ := k
  refine ⟨fun a => (k1 a).trans (h.1 a), ?_⟩
  rcases k2 with ⟨a, b, c⟩ | k2
  · exact Or.inl ⟨a, b.trans h.2.1, c.trans h.2.2⟩
  · exact Or.inr k2
theorem fin_299 {ad : List Nat} {h : hp} (L : Lay TLx ad h) {N : Nat} {x1 : Int32} : ∀ (m i : Nat) (y : Int32) (δ : dp), y.toInt = (i : Int) → i ≤ 4 → q_I δ 12 5 (Ad ad 99) = -1 → (∀ K, K < i → (q_R δ (Ad ad 103) K).toInt = 0 ∧ (q_R δ (Ad ad 106) K).toInt = 0) → hs (L_X12_shape_299 N h.1 (Ad ad 99) x1 m y δ) (fun r => (∀ a, q_I r.2 12 0 a = q_I δ 12 0 a) ∧ r.1 = q_I r.2 12 10 (Ad ad 99) ∧ ∀ K, K < 4 → (q_R r.2 (Ad ad 103) K).toInt = 0 ∧ (q_R r.2 (Ad ad 106) K).toInt = 0) := by
  have ka : q_K h.1 (Ad ad 99) = 12 := (lay_knd L (by decide)).trans (by decide)
  obtain ⟨b14, o14, _⟩ := gO_12_14 L ka
  obtain rfl := gS_12_14 L ka o14
  obtain ⟨b17, o17, _⟩ := gO_12_17 L ka
  obtain rfl := gS_12_17 L ka o17
  have n36 : Ad ad 103 ≠ Ad ad 106 := ad_ne L (by decide) (by decide) (by decide)
  have e4 : (4 : Int32).toInt = 4 := rfl
  intro m
  induction m with
  | zero => intro i y δ _ _ _ _; exact hs_none
  | succ m ih =>
    intro i y δ hy hi hf hz
    unfold L_X12_shape_299
    refine hs_ite (fun c => ?_) (fun c => ?_)
    · have c1 := o_le c
      refine hs_bdv (fun d e => ?_)
      have d5 : q_I d 12 5 (Ad ad 99) = -1 := by rw [e, rI_o (by decide)]; exact hf
      have d10 : q_I d 12 10 (Ad ad 99) = q_I δ 12 10 (Ad ad 99) := by rw [e, rI_o (by decide)]
      refine hs_bind (P := fun r => r.1 = q_I d 12 10 (Ad ad 99) ∧ (∀ a, q_I r.2 12 0 a = q_I δ 12 0 a) ∧ q_I r.2 12 10 (Ad ad 99) = q_I δ 12 10 (Ad ad 99) ∧ q_R r.2 = q_R δ) ?_ (fun r hr => hs_some ?_)
      · unfold D_X12_result J_X12_result_26
        refine hs_bdv (fun d2 e2 => ?_)
        have f5 : q_I d2 12 5 (Ad ad 99) = -1 := by rw [e2, rI_o (by decide)]; exact d5
        refine hs_bind r_fine (fun r hr => ?_)
        obtain ⟨f1, f2⟩ := hr
        rw [f1]
        have all : (∀ a, q_I d2 12 0 a = q_I δ 12 0 a) ∧ q_I d2 12 10 (Ad ad 99) = q_I δ 12 10 (Ad ad 99) ∧ q_R d2 = q_R δ := ⟨fun a => by rw [e2, rI_o (by decide), e, rI_o (by decide)], by rw [e2, rI_o (by decide)]; exact d10, by rw [e2, e]; rfl⟩
        refine hs_ite (fun z => ?_) (fun z => hs_some ⟨rfl, all⟩)
        rcases f2 with ⟨a, _⟩ | ⟨_, b⟩
        · rw [a] at z; exact absurd z (by decide)
        · exact absurd f5 b
      · obtain ⟨h1, h2, h3, h4⟩ := hr
        exact ⟨h2, by show r.1 = q_I r.2 12 10 (Ad ad 99); rw [h1, h3, d10], fun K hK => by show (q_R r.2 (Ad ad 103) K).toInt = 0 ∧ (q_R r.2 (Ad ad 106) K).toInt = 0; rw [h4]; exact hz K (by omega)⟩
    · have c1 := o_nle c
      have ty := ti_tn y
      refine hs_at o14 (hs_gd (fun _ => hs_bdv (fun d1 e1 => hs_at o17 (hs_gd (fun _ => hs_bdv (fun d2 e2 => hs_biv (fun w ew => ?_)))))))
      have y1 := te_addc (c := 1) (n := 1) rfl y (by omega) (by omega)
      rw [← ew] at y1
      refine hs_mono (ih (i + 1) w d2 (by omega) (by omega) (by rw [e2, e1]; exact hf) (fun K hK => ?_)) (fun r hr => ⟨fun a => by rw [hr.1 a, e2, e1]; rfl, hr.2⟩)
      have q3 : q_R d2 (Ad ad 103) K = if K = i then 0 else q_R δ (Ad ad 103) K := by
        rw [e2, rR_o n36, e1, qR_sR]
        by_cases z : K = i
        · rw [if_pos ⟨rfl, by omega⟩, if_pos z]
        · rw [if_neg (fun y => z (by omega)), if_neg z]
      have q6 : q_R d2 (Ad ad 106) K = if K = i then 0 else q_R δ (Ad ad 106) K := by
        rw [e2, qR_sR]
        by_cases z : K = i
        · rw [if_pos ⟨rfl, by omega⟩, if_pos z]
        · rw [if_neg (fun y => z (by omega)), if_neg z, e1, rR_o n36.symm]
      rw [q3, q6]
      by_cases z : K = i
      · rw [if_pos z, if_pos z]; exact ⟨rfl, rfl⟩
      · rw [if_neg z, if_neg z]; exact hz K (by omega)
theorem hj_X12_shape_267 {ad : List Nat} {h : hp} (L : Lay TLx ad h) {N : Nat} {x1 x2 x3 x4 : Int32} {δ : dp} : hs (J_X12_shape_267 N h.1 (Ad ad 99) x1 x2 x3 x4 δ) (fun r => FIN ad δ r) := by
  unfold J_X12_shape_267
  refine hs_bind r_fine (fun r hr => ?_)
  obtain ⟨f1, f2⟩ := hr
  rw [f1]
  refine hs_ite (fun z => ?_) (fun z => ?_)
  · refine hs_bind (P := fun r => r.1 = q_I r.2 12 6 (Ad ad 99) - 10 ∧ (∀ a, q_I r.2 12 0 a = q_I δ 12 0 a) ∧ q_R r.2 = q_R δ) ?_ (fun r hr => hs_some ⟨hr.2.1, Or.inl ⟨hr.1, by show q_R r.2 _ = _; rw [hr.2.2], by show q_R r.2 _ = _; rw [hr.2.2]⟩⟩)
    unfold D_X12_result J_X12_result_26
    refine hs_bdv (fun d2 e2 => ?_)
    have e5 : q_I d2 12 5 (Ad ad 99) = q_I δ 12 5 (Ad ad 99) := by rw [e2, rI_o (by decide)]
    refine hs_bind r_fine (fun r hr => ?_)
    obtain ⟨g1, g2⟩ := hr
    rw [g1]
    refine hs_ite (fun y => hs_some ⟨rfl, fun a => by show q_I d2 12 0 a = _; rw [e2, rI_o (by decide)], by show q_R d2 = _; rw [e2]; rfl⟩) (fun y => ?_)
    rcases f2 with ⟨a, _⟩ | ⟨_, b⟩
    · rw [a] at z; exact absurd z (by decide)
    · rcases g2 with ⟨_, c⟩ | ⟨c, _⟩
      · exact absurd (e5.symm.trans c) b
      · exact absurd c y
  · refine hs_bdv (fun d1 e1 => hs_bdv (fun d2 e2 => hs_gp (fun _ => hs_bdv (fun d3 e3 => ?_))))
    have e5 : q_I d3 12 5 (Ad ad 99) = -1 := by
      rw [e3, rI_o (by decide), e2, rI_o (by decide), e1, rI_o (by decide)]
      rcases f2 with ⟨_, b⟩ | ⟨a, _⟩
      · exact b
      · exact absurd a z
    refine hs_mono (fin_299 L N 0 0 d3 rfl (by omega) e5 (fun K hK => by omega)) (fun r hr => ⟨fun a => ?_, Or.inr hr.2⟩)
    rw [hr.1 a, e3, rI_o (by decide), e2, rI_o (by decide), e1, rI_o (by decide)]
theorem hj_X12_fine_13 {ad : List Nat} {h : hp} (L : Lay TLx ad h) {N : Nat} {a0 : Nat} {xs0 : Int32}  {δ : dp} : hs (J_X12_fine_13 N h.1 a0 xs0 δ) (fun r => KG ad δ r.2) := by
  unfold J_X12_fine_13
  refine hs_gp (fun gk1 => ?_)
  exact hs_some KG_r
theorem hf_X12_fine {ad : List Nat} {h : hp} (L : Lay TLx ad h) {N : Nat} {a0 : Nat}  {δ : dp} : hs (D_X12_fine N h.1 a0 δ) (fun r => KG ad δ r.2) := by
  unfold D_X12_fine
  refine hs_ite (fun _ => ?_) (fun _ => ?_)
  · skip
    exact hj_X12_fine_13 L
  · skip
    exact hj_X12_fine_13 L
theorem hj_X12_here_62 {ad : List Nat} {h : hp} (L : Lay TLx ad h) {N : Nat} {a0 : Nat} {xs0 : Int32}  {δ : dp} : hs (J_X12_here_62 N h.1 a0 xs0 δ) (fun r => KG ad δ r.2) := by
  unfold J_X12_here_62
  exact hs_some KG_r
theorem hj_X12_here_38 {ad : List Nat} {h : hp} (L : Lay TLx ad h) {N : Nat} {a0 : Nat}  {δ : dp} : hs (J_X12_here_38 N h.1 a0 δ) (fun r => KG ad δ r.2) := by
  unfold J_X12_here_38
  refine hs_ite (fun _ => ?_) (fun _ => ?_)
  · skip
    exact hj_X12_here_62 L
  · skip
    refine hs_ob (fun b_3 hb_3 => ?_)
    refine hs_gd (fun gz1 => ?_)
    exact hj_X12_here_62 L
theorem hl_X12_here_0 {ad : List Nat} {h : hp} (L : Lay TLx ad h) {N : Nat} {a0 : Nat}  : ∀ (n : Nat) (δ : dp), hs (L_X12_here_0 N h.1 a0 n δ) (fun r => KG ad δ r.2) := by
  intro n
  induction n with
  | zero => intro δ; unfold L_X12_here_0; exact hs_none
  | succ n ih =>
    intro δ
    unfold L_X12_here_0
    refine hs_ite (fun _ => ?_) (fun _ => ?_)
    · skip
      exact hj_X12_here_38 L
    · skip
      refine hs_ob (fun b_5 hb_5 => ?_)
      refine hs_gd (fun gz1 => ?_)
      refine hs_ite (fun _ => ?_) (fun _ => ?_)
      · skip
        refine hs_bdv (fun δ_8 e2 => ?_)
        have u2 : KG ad δ δ_8 := KG.I KG_r e2 (by decide) (by decide)
        exact hs_mono (ih δ_8) (fun _ hr => u2.t (hr))
      · skip
        exact hj_X12_here_38 L
theorem hf_X12_here {ad : List Nat} {h : hp} (L : Lay TLx ad h) {N : Nat} {a0 : Nat}  {δ : dp} : hs (D_X12_here N h.1 a0 δ) (fun r => KG ad δ r.2) := by
  unfold D_X12_here
  exact hl_X12_here_0 L N δ
theorem hj_X12_isMore_21 {ad : List Nat} {h : hp} (L : Lay TLx ad h) {N : Nat} {a0 : Nat} {xs0 : Int32}  {δ : dp} : hs (J_X12_isMore_21 N h.1 a0 xs0 δ) (fun r => KG ad δ r.2) := by
  unfold J_X12_isMore_21
  refine hs_gp (fun gk1 => ?_)
  exact hs_some KG_r
theorem hf_X12_isMore {ad : List Nat} {h : hp} (L : Lay TLx ad h) {N : Nat} {a0 : Nat}  {δ : dp} : hs (D_X12_isMore N h.1 a0 δ) (fun r => KG ad δ r.2) := by
  unfold D_X12_isMore
  refine hs_bind (hf_X12_here L) (fun r_1 u1' => ?_)
  have u1 : KG ad δ r_1.2 := u1'
  refine hs_ite (fun _ => ?_) (fun _ => ?_)
  · skip
    exact hs_mono (hj_X12_isMore_21 L) (fun _ hr => u1.t (hr))
  · skip
    exact hs_mono (hj_X12_isMore_21 L) (fun _ hr => u1.t (hr))
theorem khj_J0_isLatin1_aae02_18 {ad : List Nat} {h : hp} (L : Lay TLx ad h) {N : Nat} {a0 : Nat} {xs0 : Int32}  {δ : dp} : hs (J_J0_isLatin1_aae02_18 N h.1 a0 xs0 δ) (fun r => KG ad δ r.2) := by
  unfold J_J0_isLatin1_aae02_18
  refine hs_gp (fun gk1 => ?_)
  exact hs_some KG_r
theorem khj_J0_isLatin1_aae02_17 {ad : List Nat} {h : hp} (L : Lay TLx ad h) {N : Nat} {a0 : Nat}  {δ : dp} : hs (J_J0_isLatin1_aae02_17 N h.1 a0 δ) (fun r => KG ad δ r.2) := by
  unfold J_J0_isLatin1_aae02_17
  exact khj_J0_isLatin1_aae02_18 L
theorem khf_J0_isLatin1_aae02 {ad : List Nat} {h : hp} (L : Lay TLx ad h) {N : Nat} {a0 : Nat}  {δ : dp} : hs (D_J0_isLatin1_aae02 N h.1 a0 δ) (fun r => KG ad δ r.2) := by
  unfold D_J0_isLatin1_aae02
  refine hs_ite (fun _ => ?_) (fun _ => ?_)
  · skip
    exact khj_J0_isLatin1_aae02_17 L
  · skip
    refine hs_ite (fun _ => ?_) (fun _ => ?_)
    · skip
      exact khj_J0_isLatin1_aae02_18 L
    · skip
      exact khj_J0_isLatin1_aae02_17 L
theorem khf_J3_checkIndex_8e157 {ad : List Nat} {h : hp} (L : Lay TLx ad h) {N : Nat} {x0 : Int32} {x1 : Int32}  {δ : dp} : hs (D_J3_checkIndex_8e157 N h.1 x0 x1 δ) (fun r => KG ad δ r.2) := by
  unfold D_J3_checkIndex_8e157
  refine hs_gd (fun gz1 => ?_)
  refine hs_gp (fun gk2 => ?_)
  exact hs_some KG_r
theorem khf_J0_checkIndex_df160 {ad : List Nat} {h : hp} (L : Lay TLx ad h) {N : Nat} {x0 : Int32} {x1 : Int32}  {δ : dp} : hs (D_J0_checkIndex_df160 N h.1 x0 x1 δ) (fun r => KG ad δ r) := by
  unfold D_J0_checkIndex_df160
  refine hs_bind (khf_J3_checkIndex_8e157 L) (fun r_2 u1' => ?_)
  have u1 : KG ad δ r_2.2 := u1'
  exact hs_some u1
theorem khf_J1_charAt_3b067 {ad : List Nat} {h : hp} (L : Lay TLx ad h) {N : Nat} {a0 : Nat} {x1 : Int32}  {δ : dp} : hs (D_J1_charAt_3b067 N h.1 a0 x1 δ) (fun r => KG ad δ r.2) := by
  unfold D_J1_charAt_3b067
  refine hs_bind (khf_J0_checkIndex_df160 L) (fun r_1 u1' => ?_)
  have u1 : KG ad δ r_1 := u1'
  refine hs_gd (fun gz2 => ?_)
  refine hs_gp (fun gk3 => ?_)
  exact hs_some u1
theorem khf_J0_charAt_5068e {ad : List Nat} {h : hp} (L : Lay TLx ad h) {N : Nat} {a0 : Nat} {x1 : Int32}  {δ : dp} : hs (D_J0_charAt_5068e N h.1 a0 x1 δ) (fun r => KG ad δ r.2) := by
  unfold D_J0_charAt_5068e
  refine hs_bind (khf_J0_isLatin1_aae02 L) (fun r_1 u1' => ?_)
  have u1 : KG ad δ r_1.2 := u1'
  refine hs_gd (fun gz2 => ?_)
  refine hs_bind (khf_J1_charAt_3b067 L) (fun r_3 u3' => ?_)
  have u3 : KG ad δ r_3.2 := u1.t (u3')
  refine hs_gp (fun gk4 => ?_)
  exact hs_some u3
theorem khj_J0_coder_7d493_14 {ad : List Nat} {h : hp} (L : Lay TLx ad h) {N : Nat} {a0 : Nat} {xs0 : Int32}  {δ : dp} : hs (J_J0_coder_7d493_14 N h.1 a0 xs0 δ) (fun r => KG ad δ r.2) := by
  unfold J_J0_coder_7d493_14
  refine hs_gp (fun gk1 => ?_)
  exact hs_some KG_r
theorem khf_J0_coder_7d493 {ad : List Nat} {h : hp} (L : Lay TLx ad h) {N : Nat} {a0 : Nat}  {δ : dp} : hs (D_J0_coder_7d493 N h.1 a0 δ) (fun r => KG ad δ r.2) := by
  unfold D_J0_coder_7d493
  refine hs_ite (fun _ => ?_) (fun _ => ?_)
  · skip
    exact khj_J0_coder_7d493_14 L
  · skip
    exact khj_J0_coder_7d493_14 L
theorem khf_J0_length_8abf5 {ad : List Nat} {h : hp} (L : Lay TLx ad h) {N : Nat} {a0 : Nat}  {δ : dp} : hs (D_J0_length_8abf5 N h.1 a0 δ) (fun r => KG ad δ r.2) := by
  unfold D_J0_length_8abf5
  refine hs_bind (khf_J0_coder_7d493 L) (fun r_1 u1' => ?_)
  have u1 : KG ad δ r_1.2 := u1'
  exact hs_some u1
theorem hl_X12_of_4 {ad : List Nat} {h : hp} (L : Lay TLx ad h) {N : Nat} {a0 : Nat}  : ∀ (n : Nat) (x1v : Int32) (x2v : Int32) (δ : dp), hs (L_X12_of_4 N h.1 a0 n x1v x2v δ) (fun r => KG ad δ r.2) := by
  intro n
  induction n with
  | zero => intro x1v x2v δ; unfold L_X12_of_4; exact hs_none
  | succ n ih =>
    intro x1v x2v δ
    unfold L_X12_of_4
    refine hs_bind (khf_J0_length_8abf5 L) (fun r_1 u1' => ?_)
    have u1 : KG ad δ r_1.2 := u1'
    refine hs_ite (fun _ => ?_) (fun _ => ?_)
    · skip
      exact hs_some u1
    · skip
      refine hs_bind (khf_J0_charAt_5068e L) (fun r_3 u2' => ?_)
      have u2 : KG ad δ r_3.2 := u1.t (u2')
      refine hs_biv (fun x_4 _ => ?_)
      refine hs_biv (fun x_6 _ => ?_)
      exact hs_mono (ih x_4 x_6 r_3.2) (fun _ hr => u2.t (hr))
theorem hf_X12_of {ad : List Nat} {h : hp} (L : Lay TLx ad h) {N : Nat} {a0 : Nat}  {δ : dp} : hs (D_X12_of N h.1 a0 δ) (fun r => KG ad δ r.2) := by
  unfold D_X12_of
  exact hl_X12_of_4 L N 0 0 δ
theorem hj_X12_isSmall_17 {ad : List Nat} {h : hp} (L : Lay TLx ad h) {N : Nat} {x0 : Int32} {xs0 : Int32}  {δ : dp} : hs (J_X12_isSmall_17 N h.1 x0 xs0 δ) (fun r => KG ad δ r.2) := by
  unfold J_X12_isSmall_17
  refine hs_gp (fun gk1 => ?_)
  exact hs_some KG_r
theorem hj_X12_isSmall_16 {ad : List Nat} {h : hp} (L : Lay TLx ad h) {N : Nat} {x0 : Int32}  {δ : dp} : hs (J_X12_isSmall_16 N h.1 x0 δ) (fun r => KG ad δ r.2) := by
  unfold J_X12_isSmall_16
  exact hj_X12_isSmall_17 L
theorem hf_X12_isSmall {ad : List Nat} {h : hp} (L : Lay TLx ad h) {N : Nat} {x0 : Int32}  {δ : dp} : hs (D_X12_isSmall N h.1 x0 δ) (fun r => KG ad δ r.2) := by
  unfold D_X12_isSmall
  refine hs_ite (fun _ => ?_) (fun _ => ?_)
  · skip
    exact hj_X12_isSmall_16 L
  · skip
    refine hs_ite (fun _ => ?_) (fun _ => ?_)
    · skip
      exact hj_X12_isSmall_16 L
    · skip
      exact hj_X12_isSmall_17 L
theorem hj_X12_word_57 {ad : List Nat} {h : hp} (L : Lay TLx ad h) {N : Nat} {a0 : Nat} {kt14 : Int32 → Int32 → Int32 → dp → Option (Int32 × dp)} {xs0 : Int32} {x2v : Int32} {x3v : Int32} (h_kt14 : ∀ (y0 : Int32) (y1 : Int32) (y2 : Int32) (δ1 : dp), hs (kt14 y0 y1 y2 δ1) (fun r => KG ad δ1 r.2)) {δ : dp} : hs (J_X12_word_57 N h.1 a0 kt14 xs0 x2v x3v δ) (fun r => KG ad δ r.2) := by
  unfold J_X12_word_57
  refine hs_biv (fun x_11 _ => ?_)
  refine hs_biv (fun x_13 _ => ?_)
  exact h_kt14 xs0 x_11 x_13 δ
theorem hj_X12_word_78 {ad : List Nat} {h : hp} (L : Lay TLx ad h) {N : Nat} {a0 : Nat} {xs0 : Int32}  {δ : dp} : hs (J_X12_word_78 N h.1 a0 xs0 δ) (fun r => KG ad δ r.2) := by
  unfold J_X12_word_78
  exact hs_some KG_r
theorem hj_X12_word_67 {ad : List Nat} {h : hp} (L : Lay TLx ad h) {N : Nat} {a0 : Nat} {x1v : Int32} {x2v : Int32}  {δ : dp} : hs (J_X12_word_67 N h.1 a0 x1v x2v δ) (fun r => KG ad δ r.2) := by
  unfold J_X12_word_67
  refine hs_ite (fun _ => ?_) (fun _ => ?_)
  · skip
    exact hj_X12_word_78 L
  · skip
    exact hj_X12_word_78 L
theorem hl_X12_word_14 {ad : List Nat} {h : hp} (L : Lay TLx ad h) {N : Nat} {a0 : Nat}  : ∀ (n : Nat) (x1v : Int32) (x2v : Int32) (x3v : Int32) (δ : dp), hs (L_X12_word_14 N h.1 a0 n x1v x2v x3v δ) (fun r => KG ad δ r.2) := by
  intro n
  induction n with
  | zero => intro x1v x2v x3v δ; unfold L_X12_word_14; exact hs_none
  | succ n ih =>
    intro x1v x2v x3v δ
    unfold L_X12_word_14
    refine hs_ite (fun _ => ?_) (fun _ => ?_)
    · skip
      exact hj_X12_word_67 L
    · skip
      refine hs_ob (fun b_6 hb_6 => ?_)
      refine hs_gd (fun gz1 => ?_)
      refine hs_bind (hf_X12_isSmall L) (fun r_8 u2' => ?_)
      have u2 : KG ad δ r_8.2 := u2'
      refine hs_ite (fun _ => ?_) (fun _ => ?_)
      · skip
        exact hs_mono (hj_X12_word_67 L) (fun _ hr => u2.t (hr))
      · skip
        refine hs_ite (fun _ => ?_) (fun _ => ?_)
        · skip
          exact hs_mono (hj_X12_word_57 L ih) (fun _ hr => u2.t (hr))
        · skip
          refine hs_ob (fun b_15 hb_15 => ?_)
          refine hs_gd (fun gz3 => ?_)
          exact hs_mono (hj_X12_word_57 L ih) (fun _ hr => u2.t (hr))
theorem hf_X12_word {ad : List Nat} {h : hp} (L : Lay TLx ad h) {N : Nat} {a0 : Nat}  {δ : dp} : hs (D_X12_word N h.1 a0 δ) (fun r => KG ad δ r.2) := by
  unfold D_X12_word
  refine hs_bind (hf_X12_here L) (fun r_1 u1' => ?_)
  have u1 : KG ad δ r_1.2 := u1'
  refine hs_biv (fun x_2 _ => ?_)
  exact hs_mono (hl_X12_word_14 L N 0 0 x_2 r_1.2) (fun _ hr => u1.t (hr))
theorem hf_X12_wrong {ad : List Nat} {h : hp} (L : Lay TLx ad h) {N : Nat} {a0 : Nat} {x1 : Int32} {x2 : Int32}  {δ : dp} : hs (D_X12_wrong N h.1 a0 x1 x2 δ) (fun r => KG ad δ r) := by
  unfold D_X12_wrong
  refine hs_ite (fun _ => ?_) (fun _ => ?_)
  · skip
    refine hs_bdv (fun δ_2 e1 => ?_)
    have u1 : KG ad δ δ_2 := KG.I KG_r e1 (by decide) (by decide)
    refine hs_bdv (fun δ_4 e2 => ?_)
    have u2 : KG ad δ δ_4 := KG.I u1 e2 (by decide) (by decide)
    exact hs_some u2
  · skip
    exact hs_some KG_r
theorem hj_X12_pass_39 {ad : List Nat} {h : hp} (L : Lay TLx ad h) {N : Nat} {a0 : Nat}  {δ : dp} : hs (J_X12_pass_39 N h.1 a0 δ) (fun r => KG ad δ r) := by
  unfold J_X12_pass_39
  exact hs_some KG_r
theorem hl_X12_pass_0 {ad : List Nat} {h : hp} (L : Lay TLx ad h) {N : Nat} {a0 : Nat}  : ∀ (n : Nat) (δ : dp), hs (L_X12_pass_0 N h.1 a0 n δ) (fun r => KG ad δ r) := by
  intro n
  induction n with
  | zero => intro δ; unfold L_X12_pass_0; exact hs_none
  | succ n ih =>
    intro δ
    unfold L_X12_pass_0
    refine hs_ite (fun _ => ?_) (fun _ => ?_)
    · skip
      exact hj_X12_pass_39 L
    · skip
      refine hs_ob (fun b_2 hb_2 => ?_)
      refine hs_gd (fun gz1 => ?_)
      refine hs_bind (hf_X12_isSmall L) (fun r_4 u2' => ?_)
      have u2 : KG ad δ r_4.2 := u2'
      refine hs_ite (fun _ => ?_) (fun _ => ?_)
      · skip
        exact hs_mono (hj_X12_pass_39 L) (fun _ hr => u2.t (hr))
      · skip
        refine hs_bdv (fun δ_6 e3 => ?_)
        have u3 : KG ad δ δ_6 := KG.I u2 e3 (by decide) (by decide)
        exact hs_mono (ih δ_6) (fun _ hr => u3.t (hr))
theorem hf_X12_pass {ad : List Nat} {h : hp} (L : Lay TLx ad h) {N : Nat} {a0 : Nat}  {δ : dp} : hs (D_X12_pass N h.1 a0 δ) (fun r => KG ad δ r) := by
  unfold D_X12_pass
  exact hl_X12_pass_0 L N δ
theorem hj_X12_isDigit_17 {ad : List Nat} {h : hp} (L : Lay TLx ad h) {N : Nat} {x0 : Int32} {xs0 : Int32}  {δ : dp} : hs (J_X12_isDigit_17 N h.1 x0 xs0 δ) (fun r => KG ad δ r.2) := by
  unfold J_X12_isDigit_17
  refine hs_gp (fun gk1 => ?_)
  exact hs_some KG_r
theorem hj_X12_isDigit_16 {ad : List Nat} {h : hp} (L : Lay TLx ad h) {N : Nat} {x0 : Int32}  {δ : dp} : hs (J_X12_isDigit_16 N h.1 x0 δ) (fun r => KG ad δ r.2) := by
  unfold J_X12_isDigit_16
  exact hj_X12_isDigit_17 L
theorem hf_X12_isDigit {ad : List Nat} {h : hp} (L : Lay TLx ad h) {N : Nat} {x0 : Int32}  {δ : dp} : hs (D_X12_isDigit N h.1 x0 δ) (fun r => KG ad δ r.2) := by
  unfold D_X12_isDigit
  refine hs_ite (fun _ => ?_) (fun _ => ?_)
  · skip
    exact hj_X12_isDigit_16 L
  · skip
    refine hs_ite (fun _ => ?_) (fun _ => ?_)
    · skip
      exact hj_X12_isDigit_16 L
    · skip
      exact hj_X12_isDigit_17 L
theorem hj_X12_readNumber_124 {ad : List Nat} {h : hp} (L : Lay TLx ad h) {N : Nat} {a0 : Nat} {x1 : Int32} {x2 : Int32} {x4v : Int32}  {δ : dp} : hs (J_X12_readNumber_124 N h.1 a0 x1 x2 x4v δ) (fun r => KG ad δ r.2) := by
  unfold J_X12_readNumber_124
  refine hs_bind (hf_X12_wrong L) (fun r_10 u1' => ?_)
  have u1 : KG ad δ r_10 := u1'
  exact hs_some u1
theorem hj_X12_readNumber_112 {ad : List Nat} {h : hp} (L : Lay TLx ad h) {N : Nat} {a0 : Nat} {x1 : Int32} {x2 : Int32} {x4v : Int32} {x5v : Int32}  {δ : dp} : hs (J_X12_readNumber_112 N h.1 a0 x1 x2 x4v x5v δ) (fun r => KG ad δ r.2) := by
  unfold J_X12_readNumber_112
  refine hs_ite (fun _ => ?_) (fun _ => ?_)
  · skip
    exact hj_X12_readNumber_124 L
  · skip
    refine hs_ite (fun _ => ?_) (fun _ => ?_)
    · skip
      exact hs_some KG_r
    · skip
      exact hj_X12_readNumber_124 L
theorem hj_X12_readNumber_97 {ad : List Nat} {h : hp} (L : Lay TLx ad h) {N : Nat} {a0 : Nat} {x1 : Int32} {x2 : Int32} {kt41 : Int32 → Int32 → dp → Option (Int32 × dp)} {xs0 : Int32} {x4v : Int32} (h_kt41 : ∀ (y0 : Int32) (y1 : Int32) (δ1 : dp), hs (kt41 y0 y1 δ1) (fun r => KG ad δ1 r.2)) {δ : dp} : hs (J_X12_readNumber_97 N h.1 a0 x1 x2 kt41 xs0 x4v δ) (fun r => KG ad δ r.2) := by
  unfold J_X12_readNumber_97
  refine hs_bdv (fun δ_19 e1 => ?_)
  have u1 : KG ad δ δ_19 := KG.I KG_r e1 (by decide) (by decide)
  exact hs_mono (h_kt41 x4v xs0 δ_19) (fun _ hr => u1.t (hr))
theorem hl_X12_readNumber_41 {ad : List Nat} {h : hp} (L : Lay TLx ad h) {N : Nat} {a0 : Nat} {x1 : Int32} {x2 : Int32}  : ∀ (n : Nat) (x4v : Int32) (x5v : Int32) (δ : dp), hs (L_X12_readNumber_41 N h.1 a0 x1 x2 n x4v x5v δ) (fun r => KG ad δ r.2) := by
  intro n
  induction n with
  | zero => intro x4v x5v δ; unfold L_X12_readNumber_41; exact hs_none
  | succ n ih =>
    intro x4v x5v δ
    unfold L_X12_readNumber_41
    refine hs_ite (fun _ => ?_) (fun _ => ?_)
    · skip
      exact hj_X12_readNumber_112 L
    · skip
      refine hs_ob (fun b_12 hb_12 => ?_)
      refine hs_gd (fun gz1 => ?_)
      refine hs_bind (hf_X12_isDigit L) (fun r_14 u2' => ?_)
      have u2 : KG ad δ r_14.2 := u2'
      refine hs_ite (fun _ => ?_) (fun _ => ?_)
      · skip
        exact hs_mono (hj_X12_readNumber_112 L) (fun _ hr => u2.t (hr))
      · skip
        refine hs_ite (fun _ => ?_) (fun _ => ?_)
        · skip
          refine hs_ob (fun b_17 hb_17 => ?_)
          refine hs_gd (fun gz3 => ?_)
          exact hs_mono (hj_X12_readNumber_97 L ih) (fun _ hr => u2.t (hr))
        · skip
          exact hs_mono (hj_X12_readNumber_97 L ih) (fun _ hr => u2.t (hr))
theorem hf_X12_readNumber {ad : List Nat} {h : hp} (L : Lay TLx ad h) {N : Nat} {a0 : Nat} {x1 : Int32} {x2 : Int32}  {δ : dp} : hs (D_X12_readNumber N h.1 a0 x1 x2 δ) (fun r => KG ad δ r.2) := by
  unfold D_X12_readNumber
  refine hs_bind (hf_X12_fine L) (fun r_1 u1' => ?_)
  have u1 : KG ad δ r_1.2 := u1'
  refine hs_ite (fun _ => ?_) (fun _ => ?_)
  · skip
    exact hs_some u1
  · skip
    refine hs_bind (hf_X12_here L) (fun r_3 u2' => ?_)
    have u2 : KG ad δ r_3.2 := u1.t (u2')
    refine hs_biv (fun x_4 _ => ?_)
    refine hs_bind (hf_X12_isDigit L) (fun r_6 u3' => ?_)
    have u3 : KG ad δ r_6.2 := u2.t (u3')
    refine hs_ite (fun _ => ?_) (fun _ => ?_)
    · skip
      refine hs_bind (hf_X12_wrong L) (fun r_21 u4' => ?_)
      have u4 : KG ad δ r_21 := u3.t (u4')
      exact hs_some u4
    · skip
      exact hs_mono (hl_X12_readNumber_41 L N x_4 0 r_6.2) (fun _ hr => u3.t (hr))
theorem hj_X12_sign_41 {ad : List Nat} {h : hp} (L : Lay TLx ad h) {N : Nat} {a0 : Nat} {x1 : Int32}  {δ : dp} : hs (J_X12_sign_41 N h.1 a0 x1 δ) (fun r => KG ad δ r) := by
  unfold J_X12_sign_41
  exact hs_some KG_r
theorem hj_X12_sign_24 {ad : List Nat} {h : hp} (L : Lay TLx ad h) {N : Nat} {a0 : Nat} {x1 : Int32}  {δ : dp} : hs (J_X12_sign_24 N h.1 a0 x1 δ) (fun r => KG ad δ r) := by
  unfold J_X12_sign_24
  refine hs_bind (hf_X12_fine L) (fun r_3 u1' => ?_)
  have u1 : KG ad δ r_3.2 := u1'
  refine hs_ite (fun _ => ?_) (fun _ => ?_)
  · skip
    exact hs_mono (hj_X12_sign_41 L) (fun _ hr => u1.t (hr))
  · skip
    refine hs_bdv (fun δ_5 e2 => ?_)
    have u2 : KG ad δ δ_5 := KG.I u1 e2 (by decide) (by decide)
    exact hs_mono (hj_X12_sign_41 L) (fun _ hr => u2.t (hr))
theorem hf_X12_sign {ad : List Nat} {h : hp} (L : Lay TLx ad h) {N : Nat} {a0 : Nat} {x1 : Int32}  {δ : dp} : hs (D_X12_sign N h.1 a0 x1 δ) (fun r => KG ad δ r) := by
  unfold D_X12_sign
  refine hs_bind (hf_X12_fine L) (fun r_1 u1' => ?_)
  have u1 : KG ad δ r_1.2 := u1'
  refine hs_ite (fun _ => ?_) (fun _ => ?_)
  · skip
    exact hs_mono (hj_X12_sign_24 L) (fun _ hr => u1.t (hr))
  · skip
    refine hs_bind (hf_X12_here L) (fun r_7 u2' => ?_)
    have u2 : KG ad δ r_7.2 := u1.t (u2')
    refine hs_ite (fun _ => ?_) (fun _ => ?_)
    · skip
      exact hs_mono (hj_X12_sign_24 L) (fun _ hr => u2.t (hr))
    · skip
      refine hs_bind (hf_X12_wrong L) (fun r_9 u3' => ?_)
      have u3 : KG ad δ r_9 := u2.t (u3')
      exact hs_mono (hj_X12_sign_24 L) (fun _ hr => u3.t (hr))
theorem hj_X12_shape_258 {ad : List Nat} {h : hp} (L : Lay TLx ad h) {N : Nat} {x1 : Int32} {kt49 : Int32 → Int32 → Int32 → Int32 → dp → Option (Int32 × dp)} {x2v : Int32} {x3v : Int32} {x4v : Int32} {x5v : Int32} (h_kt49 : ∀ (y0 : Int32) (y1 : Int32) (y2 : Int32) (y3 : Int32) (δ1 : dp), hs (kt49 y0 y1 y2 y3 δ1) (fun r => FIN ad δ1 r)) {δ : dp} : hs (J_X12_shape_258 N h.1 (Ad ad 99) x1 kt49 x2v x3v x4v x5v δ) (fun r => FIN ad δ r) := by
  unfold J_X12_shape_258
  refine hs_bind (hf_X12_sign L) (fun r_59 u1' => ?_)
  have u1 : KG ad δ r_59 := u1'
  exact hs_mono (h_kt49 x2v x3v x4v x5v r_59) (fun _ hr => FIN_t u1 hr)
theorem hj_X12_shape_247 {ad : List Nat} {h : hp} (L : Lay TLx ad h) {N : Nat} {x1 : Int32} {kt49 : Int32 → Int32 → Int32 → Int32 → dp → Option (Int32 × dp)} {x2v : Int32} {x3v : Int32} {x4v : Int32} {x5v : Int32} (h_kt49 : ∀ (y0 : Int32) (y1 : Int32) (y2 : Int32) (y3 : Int32) (δ1 : dp), hs (kt49 y0 y1 y2 y3 δ1) (fun r => FIN ad δ1 r)) {δ : dp} : hs (J_X12_shape_247 N h.1 (Ad ad 99) x1 kt49 x2v x3v x4v x5v δ) (fun r => FIN ad δ r) := by
  unfold J_X12_shape_247
  refine hs_bind (hf_X12_fine L) (fun r_57 u1' => ?_)
  have u1 : KG ad δ r_57.2 := u1'
  refine hs_ite (fun _ => ?_) (fun _ => ?_)
  · skip
    exact hs_mono (hj_X12_shape_258 L h_kt49) (fun _ hr => FIN_t u1 hr)
  · skip
    refine hs_bind (hf_X12_pass L) (fun r_60 u2' => ?_)
    have u2 : KG ad δ r_60 := u1.t (u2')
    exact hs_mono (hj_X12_shape_258 L h_kt49) (fun _ hr => FIN_t u2 hr)
theorem hj_X12_shape_219 {ad : List Nat} {h : hp} (L : Lay TLx ad h) {N : Nat} {x1 : Int32} {kt49 : Int32 → Int32 → Int32 → Int32 → dp → Option (Int32 × dp)} {xs0 : Int32} {x2v : Int32} {x3v : Int32} {x5v : Int32} (h_kt49 : ∀ (y0 : Int32) (y1 : Int32) (y2 : Int32) (y3 : Int32) (δ1 : dp), hs (kt49 y0 y1 y2 y3 δ1) (fun r => FIN ad δ1 r)) {δ : dp} : hs (J_X12_shape_219 N h.1 (Ad ad 99) x1 kt49 xs0 x2v x3v x5v δ) (fun r => FIN ad δ r) := by
  unfold J_X12_shape_219
  refine hs_ite (fun _ => ?_) (fun _ => ?_)
  · skip
    refine hs_bind (hf_X12_word L) (fun r_61 u1' => ?_)
    have u1 : KG ad δ r_61.2 := u1'
    refine hs_bind (hf_X12_of L) (fun r_62 u2' => ?_)
    have u2 : KG ad δ r_62.2 := u1.t (u2')
    refine hs_ite (fun _ => ?_) (fun _ => ?_)
    · skip
      exact hs_mono (hj_X12_shape_247 L h_kt49) (fun _ hr => FIN_t u2 hr)
    · skip
      refine hs_bind (hf_X12_wrong L) (fun r_64 u3' => ?_)
      have u3 : KG ad δ r_64 := u2.t (u3')
      exact hs_mono (hj_X12_shape_247 L h_kt49) (fun _ hr => FIN_t u3 hr)
  · skip
    exact hj_X12_shape_247 L h_kt49
theorem hj_X12_shape_148 {ad : List Nat} {h : hp} (L : Lay TLx ad h) {N : Nat} {x1 : Int32} {kt49 : Int32 → Int32 → Int32 → Int32 → dp → Option (Int32 × dp)} {x2v : Int32} {x3v : Int32} {x4v : Int32} {x5v : Int32} {x6v : Int32} (h_kt49 : ∀ (y0 : Int32) (y1 : Int32) (y2 : Int32) (y3 : Int32) (δ1 : dp), hs (kt49 y0 y1 y2 y3 δ1) (fun r => FIN ad δ1 r)) {δ : dp} : hs (J_X12_shape_148 N h.1 (Ad ad 99) x1 kt49 x2v x3v x4v x5v x6v δ) (fun r => FIN ad δ r) := by
  unfold J_X12_shape_148
  refine hs_bind (hf_X12_fine L) (fun r_46 u1' => ?_)
  have u1 : KG ad δ r_46.2 := u1'
  refine hs_ite (fun _ => ?_) (fun _ => ?_)
  · skip
    exact hs_mono (hj_X12_shape_267 L) (fun _ hr => FIN_t u1 hr)
  · skip
    refine hs_biv (fun x_48 _ => ?_)
    refine hs_bind (hf_X12_pass L) (fun r_50 u2' => ?_)
    have u2 : KG ad δ r_50 := u1.t (u2')
    refine hs_ite (fun _ => ?_) (fun _ => ?_)
    · skip
      refine hs_bind (hf_X12_readNumber L) (fun r_66 u3' => ?_)
      have u3 : KG ad δ r_66.2 := u2.t (u3')
      exact hs_mono (hj_X12_shape_258 L h_kt49) (fun _ hr => FIN_t u3 hr)
    · skip
      refine hs_ite (fun _ => ?_) (fun _ => ?_)
      · skip
        refine hs_bind (hf_X12_readNumber L) (fun r_65 u4' => ?_)
        have u4 : KG ad δ r_65.2 := u2.t (u4')
        exact hs_mono (hj_X12_shape_258 L h_kt49) (fun _ hr => FIN_t u4 hr)
      · skip
        refine hs_bind (hf_X12_word L) (fun r_53 u5' => ?_)
        have u5 : KG ad δ r_53.2 := u2.t (u5')
        refine hs_bind (hf_X12_of L) (fun r_54 u6' => ?_)
        have u6 : KG ad δ r_54.2 := u5.t (u6')
        refine hs_ite (fun _ => ?_) (fun _ => ?_)
        · skip
          exact hs_mono (hj_X12_shape_219 L h_kt49) (fun _ hr => FIN_t u6 hr)
        · skip
          exact hs_mono (hj_X12_shape_219 L h_kt49) (fun _ hr => FIN_t u6 hr)
theorem hj_X12_shape_112 {ad : List Nat} {h : hp} (L : Lay TLx ad h) {N : Nat} {x1 : Int32} {kt49 : Int32 → Int32 → Int32 → Int32 → dp → Option (Int32 × dp)} {xs0 : Int32} {x2v : Int32} {x3v : Int32} {x4v : Int32} {x5v : Int32} (h_kt49 : ∀ (y0 : Int32) (y1 : Int32) (y2 : Int32) (y3 : Int32) (δ1 : dp), hs (kt49 y0 y1 y2 y3 δ1) (fun r => FIN ad δ1 r)) {δ : dp} : hs (J_X12_shape_112 N h.1 (Ad ad 99) x1 kt49 xs0 x2v x3v x4v x5v δ) (fun r => FIN ad δ r) := by
  unfold J_X12_shape_112
  refine hs_ite (fun _ => ?_) (fun _ => ?_)
  · skip
    refine hs_bind (hf_X12_wrong L) (fun r_68 u1' => ?_)
    have u1 : KG ad δ r_68 := u1'
    exact hs_mono (hj_X12_shape_148 L h_kt49) (fun _ hr => FIN_t u1 hr)
  · skip
    refine hs_ite (fun _ => ?_) (fun _ => ?_)
    · skip
      exact hj_X12_shape_148 L h_kt49
    · skip
      refine hs_bind (hf_X12_wrong L) (fun r_67 u2' => ?_)
      have u2 : KG ad δ r_67 := u2'
      exact hs_mono (hj_X12_shape_148 L h_kt49) (fun _ hr => FIN_t u2 hr)
theorem hl_X12_shape_49 {ad : List Nat} {h : hp} (L : Lay TLx ad h) {N : Nat} {x1 : Int32}  : ∀ (n : Nat) (x2v : Int32) (x3v : Int32) (x4v : Int32) (x5v : Int32) (δ : dp), hs (L_X12_shape_49 N h.1 (Ad ad 99) x1 n x2v x3v x4v x5v δ) (fun r => FIN ad δ r) := by
  intro n
  induction n with
  | zero => intro x2v x3v x4v x5v δ; unfold L_X12_shape_49; exact hs_none
  | succ n ih =>
    intro x2v x3v x4v x5v δ
    unfold L_X12_shape_49
    refine hs_bind (hf_X12_fine L) (fun r_7 u1' => ?_)
    have u1 : KG ad δ r_7.2 := u1'
    refine hs_ite (fun _ => ?_) (fun _ => ?_)
    · skip
      exact hs_mono (hj_X12_shape_267 L) (fun _ hr => FIN_t u1 hr)
    · skip
      refine hs_bind (hf_X12_isMore L) (fun r_33 u2' => ?_)
      have u2 : KG ad δ r_33.2 := u1.t (u2')
      refine hs_ite (fun _ => ?_) (fun _ => ?_)
      · skip
        exact hs_mono (hj_X12_shape_267 L) (fun _ hr => FIN_t u2 hr)
      · skip
        refine hs_bind (hf_X12_word L) (fun r_35 u3' => ?_)
        have u3 : KG ad δ r_35.2 := u2.t (u3')
        refine hs_bind (hf_X12_of L) (fun r_36 u4' => ?_)
        have u4 : KG ad δ r_36.2 := u3.t (u4')
        refine hs_ite (fun _ => ?_) (fun _ => ?_)
        · skip
          exact hs_mono (hj_X12_shape_112 L ih) (fun _ hr => FIN_t u4 hr)
        · skip
          refine hs_bind (hf_X12_word L) (fun r_38 u5' => ?_)
          have u5 : KG ad δ r_38.2 := u4.t (u5')
          refine hs_bind (hf_X12_of L) (fun r_39 u6' => ?_)
          have u6 : KG ad δ r_39.2 := u5.t (u6')
          refine hs_ite (fun _ => ?_) (fun _ => ?_)
          · skip
            exact hs_mono (hj_X12_shape_112 L ih) (fun _ hr => FIN_t u6 hr)
          · skip
            refine hs_bind (hf_X12_word L) (fun r_41 u7' => ?_)
            have u7 : KG ad δ r_41.2 := u6.t (u7')
            refine hs_bind (hf_X12_of L) (fun r_42 u8' => ?_)
            have u8 : KG ad δ r_42.2 := u7.t (u8')
            refine hs_ite (fun _ => ?_) (fun _ => ?_)
            · skip
              exact hs_mono (hj_X12_shape_112 L ih) (fun _ hr => FIN_t u8 hr)
            · skip
              exact hs_mono (hj_X12_shape_112 L ih) (fun _ hr => FIN_t u8 hr)
theorem hf_X12_begins {ad : List Nat} {h : hp} (L : Lay TLx ad h) {N : Nat} {a0 : Nat} {x1 : Int32}  {δ : dp} : hs (D_X12_begins N h.1 a0 x1 δ) (fun r => KG ad δ r) := by
  unfold D_X12_begins
  refine hs_bdv (fun δ_1 e1 => ?_)
  have u1 : KG ad δ δ_1 := KG.I KG_r e1 (by decide) (by decide)
  refine hs_bdv (fun δ_3 e2 => ?_)
  have u2 : KG ad δ δ_3 := KG.I u1 e2 (by decide) (by decide)
  refine hs_bdv (fun δ_5 e3 => ?_)
  have u3 : KG ad δ δ_5 := KG.I u2 e3 (by decide) (by decide)
  refine hs_bdv (fun δ_7 e4 => ?_)
  have u4 : KG ad δ δ_7 := KG.I u3 e4 (by decide) (by decide)
  refine hs_bdv (fun δ_9 e5 => ?_)
  have u5 : KG ad δ δ_9 := KG.I u4 e5 (by decide) (by decide)
  refine hs_bdv (fun δ_11 e6 => ?_)
  have u6 : KG ad δ δ_11 := KG.I u5 e6 (by decide) (by decide)
  exact hs_some u6
end
section
/-! shape: houses and images alike behind it -/
theorem rZ_le {β : Nat → Int32} {n : Nat} : ∀ (k : Nat) (x : PS) (e : Nat), rZ β n k x = .inl e → e ≤ 4 := by
  have sg : ∀ {q : Nat} {f : Nat → PS} {e : Nat}, sG β n q f = .inl e → e ≤ 4 := by
    intro q f e h
    unfold sG at h
    split at h
    · cases h
    · cases h; decide
  have ng : ∀ {q lo hi : Nat} {f : Nat → Nat → PS} {e : Nat}, nG β n q lo hi f = .inl e → e ≤ 4 := by
    intro q lo hi f e h
    unfold nG nM at h
    split at h
    · rename_i k hk
      split at hk
      · cases hk; cases h; decide
      · split at hk
        · cases hk; cases h; decide
        · cases hk
    · exact sg h
  have ug : ∀ {p q : Nat} {f : Nat → Int32 → PS} {e : Nat}, uG β n p q f = .inl e → e ≤ 4 := by
    intro p q f e h
    unfold uG at h
    split at h
    · exact sg h
    · split at h
      · exact sg h
      · cases h; decide
  have cz : ∀ {p q m : Nat} {w u v : Int32} {e : Nat}, cZ β n p q m w u v = .inl e → e ≤ 4 := by
    intro p q m w u v e h
    unfold cZ at h
    split at h
    · split at h
      · cases h; decide
      · exact ng h
    · split at h
      · split at h
        · cases h; decide
        · exact ug h
      · split at h
        · split at h
          · cases h; decide
          · exact ng h
        · cases h; decide
  intro k
  induction k with
  | zero => intro x e h; cases h
  | succ k ih =>
    intro x e h
    unfold rZ at h
    split at h
    · split at h
      · rename_i e' he
        cases h
        exact cz he
      · exact ih _ e h
    · cases h
/-- the class's houses are emptied -/
theorem hl_77h {ad : List Nat} {h : hp} (L : Lay TLx ad h) {δ0 : dp} {N : Nat} (hN : 10000000 ≤ N) {x1 : Int32} : ∀ (m i : Nat) (y : Int32) (δ : dp), y.toInt = (i : Int) → i ≤ 4 → CI ad h.1 δ0 δ → (∀ K, K < i → cM ad δ K = 0 ∧ cN ad δ K = 0) → hs (L_X11_shape_77 N h.1 (Ad ad 0) x1 m y δ) (fun r => ∀ K, K < 4 → cM ad r.2 K = 0 ∧ cN ad r.2 K = 0) := by
  have k0 : q_K h.1 (Ad ad 0) = 11 := (lay_knd L (by decide)).trans (by decide)
  intro m
  induction m with
  | zero => intro i y δ _ _ _ _; exact hs_none
  | succ m ih =>
    intro i y δ hy hi I hz
    have e4 : (4 : Int32).toInt = 4 := rfl
    unfold L_X11_shape_77
    refine hs_ite (fun c => ?_) (fun c => ?_)
    · have c1 := o_le c
      refine hs_bdv (fun d e => ?_)
      have gd : HG true true ad δ d := HG.I HG_r e (by decide) (by decide)
      obtain ⟨b8, o8, q8⟩ := gO_11_8 L k0
      refine hs_at o8 (hs_bind (hf_X4_forget L) (fun d2 h2 => ?_))
      obtain ⟨b9, o9, q9⟩ := gO_11_9 L k0
      refine hs_at o9 (hs_bind (hf_X10_forget L q9) (fun d3 h3 => ?_))
      obtain ⟨b10, o10, q10⟩ := gO_11_10 L k0
      refine hs_at o10 (hs_bind (hf_X0_forget L) (fun d4 h4 => ?_))
      refine hs_at (fO_0_1 L) (hs_some (fun K hK => ?_))
      have s := (csk_G (((gd.t h2).t h3).t h4)).1 K hK
      have := hz K (by omega)
      exact ⟨by show cM ad d4 K = 0; rw [s.1]; exact this.1, by show cN ad d4 K = 0; rw [s.2.2.1]; exact this.2⟩
    · have c1 := o_nle c
      have ty := ti_tn y
      refine hs_at (fO_0_6 L) (hs_gd (fun _ => ?_))
      rw [show y.toNatClampNeg = i by omega]
      refine hs_at (lk_e L (by omega)) ?_
      refine hs_bind (hs_and (ok_h (k_X2_clear L hN (kk_2 L (by omega)) I)) (Q := fun r => (∀ a, a ≠ Ad ad (76 + 6 * i) → q_I r 3 1 a = q_I δ 3 1 a) ∧ (∀ a, a ≠ Ad ad (75 + 6 * i) → q_I r 2 4 a = q_I δ 2 4 a) ∧ q_I r 3 1 (Ad ad (76 + 6 * i)) = 0 ∧ q_I r 2 4 (Ad ad (75 + 6 * i)) = 0) ?_) (fun d2 h2 => ?_)
      · unfold D_X2_clear D_X3_clear
        refine hs_at (lk_0 L (by omega)) (hs_bind (P := fun d => d = s_I δ 3 1 (Ad ad (76 + 6 * i)) 0) (hs_bdv (fun d e => hs_some e)) (fun d e => hs_bdv (fun d2 e2 => hs_some ⟨fun a n => ?_, fun a n => ?_, ?_, ?_⟩)))
        · rw [e2, rI_o (by decide), e, qI_sI, if_neg (fun z => n z.2.2)]
        · rw [e2, qI_sI, if_neg (fun z => n z.2.2), e, rI_o (by decide)]
        · rw [e2, rI_o (by decide), e, rI_s]
        · rw [e2, rI_s]
      obtain ⟨⟨i2, _⟩, s1, s2, s3, s4⟩ := h2
      refine hs_biv (fun w ew => ?_)
      have y1 := te_addc (c := 1) (n := 1) rfl y (by omega) (by omega)
      rw [← ew] at y1
      refine ih (i + 1) w d2 (by omega) (by omega) i2 (fun K hK => ?_)
      by_cases z : K = i
      · subst z
        exact ⟨by unfold cM; rw [s3]; rfl, by unfold cN; rw [s4]; rfl⟩
      · have := hz K (by omega)
        exact ⟨by unfold cM; rw [s1 _ (ad_ne L (by omega) (by omega) (by omega))]; exact this.1, by unfold cN; rw [s2 _ (ad_ne L (by omega) (by omega) (by omega))]; exact this.2⟩
set_option maxHeartbeats 4000000 in
theorem hc_shapeH {ad : List Nat} {h : hp} (L : Lay TLx ad h) {δ0 : dp} {N : Nat} (hN : 10000000 ≤ N) {x1 : Int32} {δ : dp} (I : CI ad h.1 δ0 δ) (hβ : ∀ i : Nat, (i : Int) < (q_I δ 7 1 (Ad ad 1)).toInt → 0 ≤ (q_R δ (Ad ad 2) i).toInt) : hs (D_X11_shape N h.1 (Ad ad 0) x1 δ) (fun r => match r.1 with | .inl _ => (match rZ (q_R δ (Ad ad 2)) x1.toInt.toNat 501 (0, 0, 8, 1, 1) with | .inl _ => csk ad δ r.2 | .inr _ => ∀ K, K < 4 → cM ad r.2 K = 0 ∧ cN ad r.2 K = 0) | .inr _ => csk ad δ r.2) := by
  have k0 : q_K h.1 (Ad ad 0) = 11 := (lay_knd L (by decide)).trans (by decide)
  have k1 : q_K h.1 (Ad ad 1) = 7 := (lay_knd L (by decide)).trans (by decide)
  have k3 : q_K h.1 (Ad ad 3) = 5 := (lay_knd L (by decide)).trans (by decide)
  have k4 : q_K h.1 (Ad ad 4) = 6 := (lay_knd L (by decide)).trans (by decide)
  have z0 : (0 : Int32).toInt = 0 := rfl
  have b71 := cb_7_1 I k1
  have no : hs (J_X11_shape_20 N h.1 (Ad ad 0) x1 (Ad ad 0) δ) (fun r => match r.1 with | .inl _ => (match rZ (q_R δ (Ad ad 2)) x1.toInt.toNat 501 (0, 0, 8, 1, 1) with | .inl _ => csk ad δ r.2 | .inr _ => ∀ K, K < 4 → cM ad r.2 K = 0 ∧ cN ad r.2 K = 0) | .inr _ => csk ad δ r.2) := by
    unfold J_X11_shape_20 J_X11_shape_21
    refine hs_bxv (hc_need L (x1 := 0)) (fun n d hd => ?_) (fun d hd => ?_)
    · rcases hd with ⟨z, _⟩ | ⟨_, z, _⟩
      · cases z
      · exact csk_m L z
    · rcases hd with ⟨_, _, z⟩ | ⟨z, _⟩
      · exact absurd rfl z
      · cases z
  unfold D_X11_shape
  refine hs_ite (fun _ => no) (fun c1 => ?_)
  have c2 := o_nlt c1
  refine hs_at (fO_0_0 L) (hs_ite (fun _ => no) (fun c3 => ?_))
  have c4 := o_nlt c3
  unfold J_X11_shape_21
  refine hs_bxv (hs_and (ok_h (k_X11_need L hN (x1 := 1) k0 I)) (hf_X11_need L (x1 := 1) k0)) (fun n d hd => ?_) (fun d hd => ?_)
  · exact csk_G hd.2
  obtain ⟨⟨id, ⟨ud, _⟩, _⟩, gd⟩ := hd
  have r2 : ∀ e, CI ad h.1 δ0 e → q_R e (Ad ad 2) = q_R δ (Ad ad 2) := fun e ie => (ie.2.2.2.2 2 (Or.inr rfl) (by decide)).trans (I.2.2.2.2 2 (Or.inr rfl) (by decide)).symm
  refine hs_at (fO_0_0 L) (hs_bind (hs_and (hs_and (ok_h (k_X7_open L hN (x1 := x1) k1 (by omega) (by omega) id)) (hf_X7_open L)) (Q := fun r => q_I r 7 2 (Ad ad 1) = x1 ∧ (q_I r 7 3 (Ad ad 1)).toInt = 0) ?_) (fun e he => ?_))
  · unfold D_X7_open
    refine hs_bdv (fun d1 e1 => hs_bdv (fun d2 e2 => hs_bdv (fun d3 e3 => hs_bdv (fun d4 e4 => hs_bdv (fun d5 e5 => hs_some ⟨?_, ?_⟩)))))
    · rw [e5, rI_o (by decide), e4, rI_o (by decide), e3, rI_o (by decide), e2, rI_s]
    · rw [e5, rI_o (by decide), e4, rI_o (by decide), e3, rI_s]; rfl
  obtain ⟨⟨⟨ie, ⟨ue, _, _⟩, e5, _⟩, ge⟩, e2, e3⟩ := he
  refine hs_at (fO_0_2 L) (hs_at (fO_0_0 L) ?_)
  have nb : Ad ad 2 ≠ Ad ad 5 := ad_ne L (by decide) (by decide) (by decide)
  refine hs_bind (hs_and (hs_and (ok_h (k_X6_read L hN k4 k1 ie)) (hf_X6_read L k4)) (hD_read6 (n := x1.toInt.toNat) (by omega) (fO_1_0 L) (fO_4_3 L) nb (fun j hj => by rw [r2 e ie]; exact hβ j (by omega)) e3 (by rw [e2]; omega) (i_eq e5))) (fun f hf => ?_)
  obtain ⟨⟨⟨jf, ⟨uf, _⟩, sf⟩, gf⟩, ce⟩ := hf
  rw [r2 e ie] at ce
  have gK : csk ad δ f := csk_G (v := false) (s := false) (((gd.w (by decide) (by decide)).t (ge.w (by decide) (by decide))).t (gf.w (by decide) (by decide)))
  refine hs_at (fO_0_0 L) ?_
  refine hs_bind (P := fun r => r.2 = f ∧ (r.1 = 1 ∧ q_I f 7 5 (Ad ad 1) = 0 ∨ r.1 = 0 ∧ q_I f 7 5 (Ad ad 1) ≠ 0)) ?_ (fun r hr => ?_)
  · unfold D_X7_isSound J_X7_isSound_12
    exact hs_ite (fun c => hs_gp (fun _ => hs_some ⟨rfl, Or.inl ⟨rfl, c⟩⟩)) (fun c => hs_gp (fun _ => hs_some ⟨rfl, Or.inr ⟨rfl, c⟩⟩))
  obtain ⟨g1, g2⟩ := hr
  rw [g1]
  refine hs_ite (fun c => ?_) (fun c => ?_)
  · refine hs_at (fO_0_0 L) (hs_some ?_)
    rcases g2 with ⟨a, _⟩ | ⟨_, b⟩
    · rw [a] at c; exact absurd c (by decide)
    cases hz : rZ (q_R δ (Ad ad 2)) x1.toInt.toNat 501 (0, 0, 8, 1, 1) with
    | inl k => exact gK
    | inr y =>
      rw [hz] at ce
      exact absurd ce.1 b
  · have f0 : q_I f 7 5 (Ad ad 1) = 0 := by
      rcases g2 with ⟨_, b⟩ | ⟨a, _⟩
      · exact b
      · exact absurd a c
    cases hz : rZ (q_R δ (Ad ad 2)) x1.toInt.toNat 501 (0, 0, 8, 1, 1) with
    | inl k =>
      rw [hz] at ce
      have := ce.1
      rw [f0] at this
      exact absurd (show (0 : Int) = k from this) (by have := ce.2; omega)
    | inr y =>
      obtain ⟨s1, s2, s3, s4⟩ := sf (by rw [f0]; rfl)
      refine hs_at (fO_0_1 L) (hs_at (fO_0_2 L) (hs_bind (ok_h (k_X5_take L hN k3 k4 s1 s2 s3 s4 jf)) (fun q hq => ?_)))
      refine hs_mono (hs_and (hl_77 L hN N 0 0 q rfl (by omega) hq.1) (hl_77h L hN N 0 0 q rfl (by omega) hq.1 (fun K hK => by omega))) (fun r hr => ?_)
      obtain ⟨⟨v, a1, _⟩, hr⟩ := hr
      rw [a1]
      exact hr
/-- the reference's shape: what is thrown, the houses -/
theorem hr_shapeH {ad : List Nat} {h : hp} (L : Lay TLx ad h) {δ0 : dp} {N : Nat} {x1 : Int32} {δ : dp} (I : RI ad h.1 δ0 δ) : hs (D_X12_shape N h.1 (Ad ad 99) x1 δ) (fun r => (0 ≤ x1.toInt ∧ x1.toInt ≤ (q_I δ 12 2 (Ad ad 99)).toInt ∧ q_I r.2 12 0 (Ad ad 99) = 0 ∧ ((r.1 = q_I r.2 12 6 (Ad ad 99) - 10 ∧ q_R r.2 (Ad ad 103) = q_R δ (Ad ad 103) ∧ q_R r.2 (Ad ad 106) = q_R δ (Ad ad 106)) ∨ (r.1 = q_I r.2 12 10 (Ad ad 99) ∧ ∀ K, K < 4 → (q_R r.2 (Ad ad 103) K).toInt = 0 ∧ (q_R r.2 (Ad ad 106) K).toInt = 0))) ∨ ((x1.toInt < 0 ∨ (q_I δ 12 2 (Ad ad 99)).toInt < x1.toInt) ∧ q_I r.2 12 0 (Ad ad 99) = 1 ∧ kr ad [100] δ r.2)) := by
  have ka : q_K h.1 (Ad ad 99) = 12 := (lay_knd L (by decide)).trans (by decide)
  have z0 : (0 : Int32).toInt = 0 := rfl
  unfold D_X12_shape
  refine hs_bdv (fun d e => ?_)
  have t0 : q_I d 12 0 (Ad ad 99) = 0 := by rw [e]; exact rI_s
  have dR : q_R d = q_R δ := by rw [e]; rfl
  have d2 : q_I d 12 2 (Ad ad 99) = q_I δ 12 2 (Ad ad 99) := by rw [e, rI_o (by decide)]
  have kr1 : ∀ {q}, kr ad [100] d q → kr ad [100] δ q := fun k i a b c => by rw [k i a b c, dR]
  have no : x1.toInt < 0 ∨ (q_I δ 12 2 (Ad ad 99)).toInt < x1.toInt → hs (J_X12_shape_22 N h.1 (Ad ad 99) x1 (Ad ad 99) d) (fun r => (0 ≤ x1.toInt ∧ x1.toInt ≤ (q_I δ 12 2 (Ad ad 99)).toInt ∧ q_I r.2 12 0 (Ad ad 99) = 0 ∧ ((r.1 = q_I r.2 12 6 (Ad ad 99) - 10 ∧ q_R r.2 (Ad ad 103) = q_R δ (Ad ad 103) ∧ q_R r.2 (Ad ad 106) = q_R δ (Ad ad 106)) ∨ (r.1 = q_I r.2 12 10 (Ad ad 99) ∧ ∀ K, K < 4 → (q_R r.2 (Ad ad 103) K).toInt = 0 ∧ (q_R r.2 (Ad ad 106) K).toInt = 0))) ∨ ((x1.toInt < 0 ∨ (q_I δ 12 2 (Ad ad 99)).toInt < x1.toInt) ∧ q_I r.2 12 0 (Ad ad 99) = 1 ∧ kr ad [100] δ r.2)) := by
    intro hx
    unfold J_X12_shape_22 J_X12_shape_23
    refine hs_bind (hr_may L (x1 := 0) (x2 := 1) (x3 := 2) ka t0 (by decide)) (fun r hr => ?_)
    rcases hr with ⟨z, _⟩ | ⟨_, g1, g2, g3⟩
    · exact absurd rfl z
    · rw [g1]
      exact hs_ite (fun _ => hs_some (Or.inr ⟨hx, g2, kr1 g3⟩)) (fun z => absurd rfl z)
  refine hs_ite (fun c => no (by have := o_lt c; omega)) (fun c1 => ?_)
  rw [d2]
  refine hs_ite (fun c => no (by have := o_lt c; omega)) (fun c2 => ?_)
  have c3 := o_nlt c1
  have c4 := o_nlt c2
  unfold J_X12_shape_23
  refine hs_bind (hr_may L (x1 := 1) (x2 := 1) (x3 := 2) ka t0 (by decide)) (fun r hr => ?_)
  rcases hr with ⟨_, g1, g2⟩ | ⟨z, _⟩
  · rw [g1, g2]
    refine hs_ite (fun z => absurd z (by decide)) (fun _ => ?_)
    refine hs_bind (hf_X12_begins L) (fun q hq => ?_)
    refine hs_mono (hl_X12_shape_49 L N 8 1 1 0 q) (fun r hr => ?_)
    obtain ⟨f1, f2⟩ := FIN_t hq hr
    refine Or.inl ⟨by omega, by omega, by rw [f1]; exact t0, ?_⟩
    rw [dR] at f2
    exact f2
  · exact absurd z (by decide)
theorem HE_0 {ad : List Nat} {A : Int} {δ : dp} {K : Nat} (c1 : cM ad δ K = 0) (c2 : cN ad δ K = 0) (r1 : hM ad δ K = 0) (r2 : hN ad δ K = 0) : HE ad A δ K := by
  unfold HE
  rw [c1, c2, r1, r2]
  refine ⟨⟨rfl, fun i hi => by omega⟩, rfl, Int.le_refl _, fun i j _ hj => by omega, Int.le_refl _, fun i hi => by omega, fun t ht => absurd ht (by show ¬ t < (0 : Int).toNat; omega), fun y => ⟨fun ⟨i, hi, _⟩ => by omega, fun z => z.elim⟩, rfl⟩
/-- shape -/
theorem stepS2 {ad : List Nat} {h : hp} (L : Lay TLx ad h) {N : Nat} (hN : 10000000 ≤ N) (kx : q_K h.1 (Ad ad 0) = 11) (km : q_K h.1 (Ad ad 99) = 12) (no : q_N h.1 (Ad ad 127) = 1) {δ : dp} (V : IY ad h.1 δ) {x : Int32} : ∃ d, (∃ (kk b : Int32) (δ1 : dp), D_L_shape N h.1 (Ad ad 0) x (Ad ad 127) δ = some (kk, δ1) ∧ D_X12_shape N h.1 (Ad ad 99) x δ1 = some (b, d) ∧ q_I d 12 0 (Ad ad 99) = kk ∧ (kk = 0 → q_J d (Ad ad 127) 0 = b.toInt64)) ∧ IY ad h.1 d := by
  obtain ⟨V, X⟩ := V
  obtain ⟨d, ⟨kk, b, δ1, e1, e2, e3⟩, W⟩ := stepS L hN kx km no V (x := x)
  obtain ⟨⟨V1, V2, V3, V4⟩, A⟩ := id V
  have i3 := IY.i3 (ad := ad) km V2
  have hβ : ∀ i : Nat, 0 ≤ (q_R δ (Ad ad 2) i).toInt := fun i => by rw [A.1]; exact A.2.1 i
  obtain ⟨c1, c2⟩ := ok_h (k_L_shape L hN (x1 := x) kx no V1) _ e1
  dsimp only at c1 c2
  have I1 := RI_re V2 c1
  have F := c1.2.2.2.1
  have cls : (0 ≤ x.toInt ∧ x.toInt ≤ (q_I δ 7 1 (Ad ad 1)).toInt ∧ kk = 0 ∧ (∃ v : Int32, q_J δ1 (Ad ad 127) 0 = v.toInt64 ∧ SE ad δ (rZ (q_R δ (Ad ad 2)) x.toInt.toNat 501 (0, 0, 8, 1, 1)) v δ1) ∧ (match rZ (q_R δ (Ad ad 2)) x.toInt.toNat 501 (0, 0, 8, 1, 1) with | .inl _ => csk ad δ δ1 | .inr _ => ∀ K, K < 4 → cM ad δ1 K = 0 ∧ cN ad δ1 K = 0)) ∨ ((x.toInt < 0 ∨ (q_I δ 7 1 (Ad ad 1)).toInt < x.toInt) ∧ kk = 1 ∧ csk ad δ δ1) := by
    have h1 := hL_shape L hN (x := x) kx no V1 (fun i => hβ i) _ e1
    dsimp only at h1
    have h2 : hs (D_L_shape N h.1 (Ad ad 0) x (Ad ad 127) δ) (fun r => (r.1 = 0 → match rZ (q_R δ (Ad ad 2)) x.toInt.toNat 501 (0, 0, 8, 1, 1) with | .inl _ => csk ad δ r.2 | .inr _ => ∀ K, K < 4 → cM ad r.2 K = 0 ∧ cN ad r.2 K = 0) ∧ (r.1 ≠ 0 → csk ad δ r.2)) := by
      unfold D_L_shape
      refine hs_bind (hs_and (ok_h (k_X11_shape L hN (x1 := x) kx V1)) (hc_shapeH L hN (x1 := x) V1 (fun i _ => hβ i))) (fun r hr => ?_)
      obtain ⟨⟨_, _, q1⟩, q2⟩ := hr
      obtain ⟨v | n, q⟩ := r
      · dsimp only at q2 ⊢
        exact hs_gd (fun _ => hs_some ⟨fun _ => q2, fun z => absurd rfl z⟩)
      · dsimp only at q1 q2 ⊢
        have e : n = 2 := q1.1
        subst e
        exact hs_gd (fun _ => hs_gd (fun _ => hs_some ⟨fun z => absurd z (by decide : ¬ ((1 : Int32) = 0)), fun _ => q2⟩))
    have h3 := h2 _ e1
    dsimp only at h3
    rcases h1 with ⟨a1, a2, a3, a4⟩ | ⟨a1, a2, _⟩
    · exact Or.inl ⟨a1, a2, a3, a4, h3.1 a3⟩
    · exact Or.inr ⟨a1, a2, h3.2 (by rw [a2]; decide)⟩
  obtain ⟨r1, ⟨u, _, w⟩, _⟩ := ok_h (k_X12_shape L hN (x1 := x) km I1) _ e2
  dsimp only at r1 u w
  have rs := hr_shape L hN (x1 := x) km I1 _ e2
  have rh := hr_shapeH L (N := N) (x1 := x) I1 _ e2
  dsimp only at rs rh
  obtain ⟨rs1, rs2⟩ := rs
  have e72 : (q_I δ1 12 2 (Ad ad 99)).toInt = (q_I δ 7 1 (Ad ad 1)).toInt := by rw [F 2]; exact V4.symm
  rw [e72] at rs1 rs2 rh
  have eb : q_R δ1 (Ad ad 101) = q_R δ (Ad ad 2) := (c1.2.2.2.2 101 (Or.inl (by decide)) (by decide)).trans A.1.symm
  rw [eb] at rs1
  have K2 := csk_R r1
  have b10 := cb_12_10 r1 km
  have b6 := cb_12_6 r1 km
  have eJ : q_J d = q_J δ1 := congrArg Prod.snd r1.2.2.2.2
  have old : csk ad δ δ1 → q_I d 12 18 (Ad ad 99) = q_I δ1 12 18 (Ad ad 99) → q_I d 12 10 (Ad ad 99) = q_I δ1 12 10 (Ad ad 99) → q_R d (Ad ad 103) = q_R δ1 (Ad ad 103) → q_R d (Ad ad 106) = q_R δ1 (Ad ad 106) → HX ad d := fun c s18 s10 s3 s6 =>
    (X.k i3 c (rsk_C c1)).k (by rw [F 18]; exact i3) K2 ⟨fun k hk => by rcases hk with rfl | rfl; exact s10; exact s18, bak_k (w 102 (by decide) (by decide) (by decide)) s3, fun i a b => by
      by_cases z : i = 106
      · rw [z]; exact s6
      · exact w i (by omega) (by omega) (by simp only [List.mem_cons, List.not_mem_nil, or_false]; omega)⟩
  have fin : q_I d 12 0 (Ad ad 99) = kk ∧ HX ad d := by
    rcases cls with ⟨x0, x1, k0, ⟨v, jv, se⟩, hh⟩ | ⟨xo, k1, hh⟩
    · rcases rh with ⟨_, _, t0, fh⟩ | ⟨z, _⟩
      · have rf := rs1 ⟨x0, x1⟩
        refine ⟨by rw [t0, k0], ?_⟩
        cases hz : rZ (q_R δ (Ad ad 2)) x.toInt.toNat 501 (0, 0, 8, 1, 1) with
        | inl k =>
          rw [hz] at se rf hh
          have kl := rZ_le _ _ _ hz
          obtain ⟨f1, f2, _, _, f5⟩ := rf
          dsimp only at f1 f2 f5
          rcases fh with ⟨_, s3, s6⟩ | ⟨s1, _⟩
          · exact old hh f5 f2 s3 s6
          · rw [s1] at f1; exfalso; omega
        | inr y =>
          rw [hz] at se rf hh
          obtain ⟨f1, f2, _, _, f5⟩ := rf
          dsimp only at f1 f2 f5
          rcases fh with ⟨s1, _⟩ | ⟨_, s2⟩
          · have t6 := te_subc (c := 10) (n := 10) rfl (q_I d 12 6 (Ad ad 99)) (by omega) (by omega)
            have : (q_I d 12 10 (Ad ad 99)).toInt = (q_I d 12 6 (Ad ad 99)).toInt - 10 := by rw [f2, ← f1, s1]; exact t6.1
            exfalso; omega
          · refine ⟨fun K hK => ?_, fun j hj => by rw [f5] at hj; exact absurd hj (by show ¬ (j : Int) < 0; omega)⟩
            obtain ⟨q1, q2, q3, q4, _⟩ := K2.1 K hK
            exact HE_0 (by rw [q1]; exact (hh K hK).1) (by rw [q3]; exact (hh K hK).2) (s2 K hK).1 (s2 K hK).2
      · exfalso; omega
    · rcases rh with ⟨z1, z2, _⟩ | ⟨_, t1, kr1⟩
      · exfalso; omega
      · obtain ⟨s10, _, _, s18⟩ := rs2 xo
        exact ⟨by rw [t1, k1], old hh s18 s10 (kr1 103 (by decide) (by decide) (by decide)) (kr1 106 (by decide) (by decide) (by decide))⟩
  exact ⟨d, ⟨kk, b, δ1, e1, e2, fin.1, fun z => by rw [eJ]; exact e3 z⟩, W, fin.2⟩
end
section
/-! the PAST of a house of the class, forward and back -/
/-- what comes or goes when a CHANGE is made again or undone -/
def rpA (M : Int) (R : Nat → Int) (len x : Int) (M1 : Int) (R1 : Nat → Int) : Prop := (RE M R M1 R1 ∧ (len ≤ M ∨ ME M R x)) ∨ (¬ ME M R x ∧ ∃ p : Nat, PL M R x p ∧ IN M R x p M1 R1)
def rpR (M : Int) (R : Nat → Int) (x : Int) (M1 : Int) (R1 : Nat → Int) : Prop := (RE M R M1 R1 ∧ ¬ ME M R x) ∨ ∃ p : Nat, (p : Int) < M ∧ R p = x ∧ DE M R p M1 R1
theorem h2_replay {ad : List Nat} {h : hp} (L : Lay TLx ad h) {δ0 : dp} {N : Nat} (hN : 10000000 ≤ N) {K : Nat} (hK : K < 4) {a b t : Nat} {x2 x3 : Int32} (ka : q_K h.1 a = 3) (hb : q_O h.1 3 0 a = some b) {δ : dp} (I : CI ad h.1 δ0 δ) (S : SR (mM δ a) (mR δ b)) (ht : x2.toInt = (t : Int)) {X f : Int} (hc : cC ad δ K t = 2 * X + (1 - f)) (f01 : f = 0 ∨ f = 1) (X0 : 0 ≤ X) (h3 : x3 = 0 ∨ x3 = 1) : hs (D_X2_replay N h.1 (Ad ad (75 + 6 * K)) a x2 x3 δ) (fun r => fr3 a b δ r ∧ CI ad h.1 δ0 r ∧ q_V r = q_V δ ∧ (((f = 1 ↔ x3 = 0) ∧ rpA (mM δ a) (mR δ b) (q_N h.1 b) X (mM r a) (mR r b)) ∨ (¬ (f = 1 ↔ x3 = 0) ∧ rpR (mM δ a) (mR δ b) X (mM r a) (mR r b)))) := by
  have ix : x2.toNatClampNeg = t := by have := ti_tn x2; omega
  unfold cC at hc
  generalize hv : q_R δ (Ad ad (78 + 6 * K)) t = c at hc
  have bc := ti_b c
  have z2 : (2 : Int32).toInt = 2 := rfl
  have d1 := ti_div (c := 2) (n := 2) rfl (by decide) c (by omega)
  have d2 := te_mulr (c := 2) (n := 2) rfl (c / 2) (by omega) (by omega)
  have d3 := te_sub c (c / 2 * 2) (by omega) (by omega)
  have eX : (c / 2).toInt = X := by omega
  have add : (f = 1 ↔ x3 = 0) → hs ((D_X3_add N h.1 a (c / 2) δ).bind fun r_10 => J_X2_replay_53 N h.1 (Ad ad (75 + 6 * K)) a x2 x3 r_10.2) (fun r => fr3 a b δ r ∧ CI ad h.1 δ0 r ∧ q_V r = q_V δ ∧ (((f = 1 ↔ x3 = 0) ∧ rpA (mM δ a) (mR δ b) (q_N h.1 b) X (mM r a) (mR r b)) ∨ (¬ (f = 1 ↔ x3 = 0) ∧ rpR (mM δ a) (mR δ b) X (mM r a) (mR r b)))) := by
    intro hh
    refine hs_bind (h3_add L hN (x := c / 2) ka hb I S) (fun r hr => ?_)
    obtain ⟨g1, g2, g3, g4⟩ := hr
    rw [eX] at g4
    unfold J_X2_replay_53
    refine hs_some ⟨g1, g2, g3, Or.inl ⟨hh, ?_⟩⟩
    rcases g4 with ⟨_, e, q⟩ | ⟨_, q⟩
    · rw [e]; exact Or.inl ⟨RE.r, q⟩
    · exact Or.inr q
  have rem : ¬ (f = 1 ↔ x3 = 0) → hs ((D_X3_remove N h.1 a (c / 2) δ).bind fun r_10 => J_X2_replay_53 N h.1 (Ad ad (75 + 6 * K)) a x2 x3 r_10.2) (fun r => fr3 a b δ r ∧ CI ad h.1 δ0 r ∧ q_V r = q_V δ ∧ (((f = 1 ↔ x3 = 0) ∧ rpA (mM δ a) (mR δ b) (q_N h.1 b) X (mM r a) (mR r b)) ∨ (¬ (f = 1 ↔ x3 = 0) ∧ rpR (mM δ a) (mR δ b) X (mM r a) (mR r b)))) := by
    intro hh
    refine hs_bind (h3_remove L hN (x := c / 2) ka hb I S) (fun r hr => ?_)
    obtain ⟨g1, g2, g3, g4⟩ := hr
    rw [eX] at g4
    unfold J_X2_replay_53
    refine hs_some ⟨g1, g2, g3, Or.inr ⟨hh, ?_⟩⟩
    rcases g4 with ⟨_, e, q⟩ | ⟨_, q⟩
    · rw [e]; exact Or.inl ⟨RE.r, q⟩
    · exact Or.inr q
  unfold D_X2_replay
  refine hs_at (lk_2 L hK) (hs_gd (fun _ => ?_))
  rw [ix, hv]
  refine hs_ite (fun w => ?_) (fun w => ?_)
  · have w1 : (c - c / 2 * 2).toInt = 0 := by rw [w]; rfl
    have f1 : f = 1 := by omega
    unfold J_X2_replay_16
    refine hs_ite (fun y => ?_) (fun y => ?_)
    · refine hs_at (lk_2 L hK) (hs_gd (fun _ => ?_))
      rw [ix, hv]
      exact rem (fun z => by rw [← y] at z; exact absurd (z.mp f1) (by decide))
    · refine hs_at (lk_2 L hK) (hs_gd (fun _ => ?_))
      rw [ix, hv]
      exact add ⟨fun _ => by rcases h3 with h3 | h3; exact h3; exact absurd h3.symm y, fun _ => f1⟩
  · have w1 : (c - c / 2 * 2).toInt ≠ 0 := fun z => w (i_eq z)
    have f0 : f = 0 := by omega
    unfold J_X2_replay_16
    refine hs_ite (fun y => ?_) (fun y => ?_)
    · refine hs_at (lk_2 L hK) (hs_gd (fun _ => ?_))
      rw [ix, hv]
      exact rem (fun z => by have := z.mpr y.symm; omega)
    · refine hs_at (lk_2 L hK) (hs_gd (fun _ => ?_))
      rw [ix, hv]
      exact add ⟨fun z => by omega, fun z => absurd z.symm y⟩
/-- a row that holds what the first t CHANGES make -/
def SH (T F : Nat → Int) (t : Nat) (M : Int) (R : Nat → Int) : Prop := SR M R ∧ 0 ≤ M ∧ (∀ y, ME M R y ↔ St T F t y) ∧ M = Ct F t
theorem SH.u {T F : Nat → Int} {t : Nat} {M N : Int} {R Q : Nat → Int} (h : SH T F t M R) (g : SH T F t N Q) : RE M R N Q := rows_u h.1 g.1 h.2.1 g.2.1 (fun y => (h.2.2.1 y).trans (g.2.2.1 y).symm)
theorem SH.c {T F : Nat → Int} {t : Nat} {M N : Int} {R Q : Nat → Int} (h : SH T F t M R) (e : RE M R N Q) : SH T F t N Q := ⟨SR_c e h.1, by rw [e.1]; exact h.2.1, fun y => (ME_i e).symm.trans (h.2.2.1 y), by rw [e.1]; exact h.2.2.2⟩
theorem SH_0 {T F : Nat → Int} {M : Int} {R : Nat → Int} (h : M = 0) : SH T F 0 M R := ⟨fun i j _ hj => by omega, by omega, fun y => ⟨fun ⟨i, hi, _⟩ => by omega, fun z => z.elim⟩, h⟩
/-- one CHANGE on -/
theorem SH.f {T F : Nat → Int} {A : Int} {n t : Nat} (V : Vd A T F n) (ht : t < n) {M len N : Int} {R Q : Nat → Int} (h : SH T F t M R) (hl : (t : Int) < len) (g : (F t = 1 ∧ rpA M R len (T t) N Q) ∨ (F t = 0 ∧ rpR M R (T t) N Q)) : SH T F (t + 1) N Q := by
  obtain ⟨h1, h2, h3, h4⟩ := h
  have cl := Ct_le (cm := F) t
  obtain ⟨_, _, v⟩ := V t ht
  rcases g with ⟨f1, g⟩ | ⟨f0, g⟩
  · have nm : ¬ ME M R (T t) := by
      rcases v with ⟨_, v⟩ | ⟨z, _⟩
      · rw [h3]; exact v
      · omega
    rcases g with ⟨_, z | z⟩ | ⟨_, p, P, J⟩
    · omega
    · exact absurd z nm
    · exact ⟨IN_s h1 P nm J, by rw [J.1]; omega, fun y => by rw [St_put f1, ← h3]; exact IN_m P.1 J y, by rw [Ct_put f1, J.1, h4]⟩
  · have mm : ME M R (T t) := by
      rcases v with ⟨z, _⟩ | ⟨_, v⟩
      · omega
      · rw [h3]; exact v
    rcases g with ⟨_, z⟩ | ⟨p, P1, P2, J⟩
    · exact absurd mm z
    · exact ⟨DE_s h1 J, by rw [J.1]; omega, fun y => by rw [St_drop f0, ← h3]; exact DE_m h1 P1 P2 J y, by rw [Ct_drop f0, J.1, h4]⟩
/-- one CHANGE back -/
theorem SH.b {T F : Nat → Int} {A : Int} {n t : Nat} (V : Vd A T F n) (ht : t < n) {M len N : Int} {R Q : Nat → Int} (h : SH T F (t + 1) M R) (hl : (t : Int) + 1 < len) (g : (F t = 0 ∧ rpA M R len (T t) N Q) ∨ (F t = 1 ∧ rpR M R (T t) N Q)) : SH T F t N Q := by
  obtain ⟨h1, h2, h3, h4⟩ := h
  have cl := Ct_le (cm := F) (t + 1)
  obtain ⟨_, _, v⟩ := V t ht
  rcases g with ⟨f0, g⟩ | ⟨f1, g⟩
  · have vm : St T F t (T t) := by
      rcases v with ⟨z, _⟩ | ⟨_, v⟩
      · omega
      · exact v
    have nm : ¬ ME M R (T t) := by rw [h3, St_drop f0]; exact fun z => z.1 rfl
    rcases g with ⟨_, z | z⟩ | ⟨_, p, P, J⟩
    · omega
    · exact absurd z nm
    · rw [Ct_drop f0] at h4
      refine ⟨IN_s h1 P nm J, by rw [J.1]; omega, fun y => ?_, by rw [J.1, h4]; omega⟩
      rw [IN_m P.1 J y, h3, St_drop f0]
      constructor
      · rintro (z | ⟨_, z⟩)
        · rw [z]; exact vm
        · exact z
      · intro z
        by_cases e : y = T t
        · exact Or.inl e
        · exact Or.inr ⟨e, z⟩
  · have vn : ¬ St T F t (T t) := by
      rcases v with ⟨_, v⟩ | ⟨z, _⟩
      · exact v
      · omega
    have mm : ME M R (T t) := by rw [h3, St_put f1]; exact Or.inl rfl
    rcases g with ⟨_, z⟩ | ⟨p, P1, P2, J⟩
    · exact absurd mm z
    · rw [Ct_put f1] at h4
      refine ⟨DE_s h1 J, by rw [J.1]; omega, fun y => ?_, by rw [J.1, h4]; omega⟩
      rw [DE_m h1 P1 P2 J y, h3, St_put f1]
      constructor
      · rintro ⟨a, z | z⟩
        · exact absurd z a
        · exact z
      · intro z
        exact ⟨fun e => vn (by rw [← e]; exact z), Or.inr z⟩
/-- what house K is behind: its CHANGES are those of T, F -/
def HC (ad : List Nat) (A : Int) (T F : Nat → Int) (n : Nat) (δ : dp) (K : Nat) : Prop := Vd A T F n ∧ ∀ i : Nat, i < n → cC ad δ K i = 2 * T i + (1 - F i)
theorem HC.f {ad : List Nat} {A : Int} {T F : Nat → Int} {n : Nat} {δ : dp} {K t : Nat} (h : HC ad A T F n δ K) (ht : t < n) : F t = 0 ∨ F t = 1 := by
  rcases (h.1 t ht).2.2 with ⟨z, _⟩ | ⟨z, _⟩ <;> omega
/-- the PAST laid into row b -/
theorem h2_fill {ad : List Nat} {h : hp} (L : Lay TLx ad h) {δ0 : dp} {N : Nat} (hN : 10000000 ≤ N) {K : Nat} (hK : K < 4) {a b : Nat} {x2 : Int32} (ka : q_K h.1 a = 3) (hb : q_O h.1 3 0 a = some b) (nb : b ≠ Ad ad (78 + 6 * K)) (ln : q_N h.1 b = 2000) {A : Int} {T F : Nat → Int} {n : Nat} (hn : n ≤ 1000) (h2 : x2.toInt ≤ (n : Int)) : ∀ (m t : Nat) (x3 : Int32) (δ : dp), x3.toInt = (t : Int) → (t : Int) ≤ x2.toInt → CI ad h.1 δ0 δ → HC ad A T F n δ K → SH T F t (mM δ a) (mR δ b) → hs (L_X2_fillPast_6 N h.1 (Ad ad (75 + 6 * K)) a x2 m x3 δ) (fun r => fr3 a b δ r ∧ CI ad h.1 δ0 r ∧ SH T F x2.toInt.toNat (mM r a) (mR r b)) := by
  intro m
  induction m with
  | zero => intro t x3 δ _ _ _ _ _; exact hs_none
  | succ m ih =>
    intro t x3 δ ht h3 I C S
    unfold L_X2_fillPast_6
    refine hs_ite (fun c => ?_) (fun c => ?_)
    · have c1 := o_le c
      rw [show x2.toInt.toNat = t by omega]
      exact hs_some ⟨fr3.r, I, S⟩
    · have c1 := o_nle c
      have f := C.f (t := t) (by omega)
      refine hs_bind (h2_replay L hN hK (x2 := x3) (x3 := 0) ka hb I S.1 ht (C.2 t (by omega)) f (C.1 t (by omega)).1 (Or.inl rfl)) (fun r hr => ?_)
      obtain ⟨g1, g2, _, g4⟩ := hr
      refine hs_biv (fun w ew => ?_)
      have y1 := te_addc (c := 1) (n := 1) rfl x3 (by omega) (by omega)
      rw [← ew] at y1
      have C2 : HC ad A T F n r K := ⟨C.1, fun i hi => by unfold cC; rw [g1.2 _ nb.symm]; exact C.2 i hi⟩
      refine hs_mono (ih (t + 1) w r (by omega) (by omega) g2 C2 (S.f C.1 (by omega) (len := 2000) (by omega) ?_)) (fun q hq => ⟨g1.t hq.1, hq.2⟩)
      rw [ln] at g4
      rcases g4 with ⟨z, q⟩ | ⟨z, q⟩
      · exact Or.inl ⟨z.mpr rfl, q⟩
      · refine Or.inr ⟨?_, q⟩
        rcases f with f | f
        · exact f
        · exact absurd ⟨fun _ => rfl, fun _ => f⟩ z
theorem hD_fill {ad : List Nat} {h : hp} (L : Lay TLx ad h) {δ0 : dp} {N : Nat} (hN : 10000000 ≤ N) {K : Nat} (hK : K < 4) {a b : Nat} {x2 : Int32} (ka : q_K h.1 a = 3) (hb : q_O h.1 3 0 a = some b) (nb : b ≠ Ad ad (78 + 6 * K)) (ln : q_N h.1 b = 2000) {A : Int} {T F : Nat → Int} {n : Nat} (hn : n ≤ 1000) (h2 : x2.toInt ≤ (n : Int)) (h0 : 0 ≤ x2.toInt) {δ : dp} (I : CI ad h.1 δ0 δ) (C : HC ad A T F n δ K) : hs (D_X2_fillPast N h.1 (Ad ad (75 + 6 * K)) a x2 δ) (fun r => fr3 a b δ r ∧ CI ad h.1 δ0 r ∧ SH T F x2.toInt.toNat (mM r a) (mR r b)) := by
  unfold D_X2_fillPast
  refine hs_bind (hs_and (ok_h (k_X3_clear L hN ka I)) (Q := fun r => fr3 a b δ r) ?_) (fun r hr => ?_)
  · unfold D_X3_clear
    exact hs_bdv (fun d e => hs_some (fr3.M e))
  · obtain ⟨⟨g1, _, g3⟩, g4⟩ := hr
    refine hs_mono (h2_fill L hN hK ka hb nb ln hn h2 N 0 0 r rfl (by omega) g1 ⟨C.1, fun i hi => by unfold cC; rw [g4.2 _ nb.symm]; exact C.2 i hi⟩ (SH_0 g3)) (fun q hq => ⟨g4.t hq.1, hq.2⟩)
/-- house K goes back -/
theorem h2_back {ad : List Nat} {h : hp} (L : Lay TLx ad h) {δ0 : dp} {N : Nat} (hN : 10000000 ≤ N) {K : Nat} (hK : K < 4) {x1 : Int32} {A : Int} {T F : Nat → Int} {n : Nat} (hn : n ≤ 1000) (h0 : 0 ≤ x1.toInt) : ∀ (m t : Nat) (δ : dp), t ≤ n → x1.toInt ≤ (t : Int) → cN ad δ K = (t : Int) → CI ad h.1 δ0 δ → HC ad A T F n δ K → SH T F t (cM ad δ K) (cR ad δ K) → hs (L_X2_goBack_0 N h.1 (Ad ad (75 + 6 * K)) x1 m δ) (fun r => mf ad K δ r ∧ CI ad h.1 δ0 r ∧ cN ad r K = x1.toInt ∧ (∀ i, cC ad r K i = cC ad δ K i) ∧ SH T F x1.toInt.toNat (cM ad r K) (cR ad r K)) := by
  intro m
  induction m with
  | zero => intro t δ _ _ _ _ _ _; exact hs_none
  | succ m ih =>
    intro t δ htn h1 hc I C S
    have hc' : (q_I δ 2 4 (Ad ad (75 + 6 * K))).toInt = (t : Int) := hc
    unfold L_X2_goBack_0
    refine hs_ite (fun c => ?_) (fun c => ?_)
    · have c1 := o_le c
      rw [show x1.toInt.toNat = t by omega]
      exact hs_some ⟨mf.r, I, by rw [hc]; omega, fun _ => rfl, S⟩
    · have c1 := o_nle c
      have t1 := te_subc (c := 1) (n := 1) rfl (q_I δ 2 4 (Ad ad (75 + 6 * K))) (by omega) (by omega)
      refine hs_bdv (fun d e => hs_at (lk_0 L hK) ?_)
      have id : CI ad h.1 δ0 d := by rw [e]; exact cs_2_4 L I (kk_2 L hK) (by omega) (by omega)
      have md : mf ad K δ d := ⟨fun c k a _ _ _ m3 => by rw [e, qI_sI, if_neg m3], fun _ _ _ _ _ => by rw [e]; rfl⟩
      have e24 : (q_I d 2 4 (Ad ad (75 + 6 * K))).toInt = ((t - 1 : Nat) : Int) := by rw [e, rI_s]; omega
      have eM : mM d (Ad ad (76 + 6 * K)) = cM ad δ K := by unfold mM; rw [e, rI_o (by decide)]; rfl
      have eR : mR d (Ad ad (77 + 6 * K)) = cR ad δ K := by funext i; unfold mR; rw [e]; rfl
      have Sd : SH T F t (mM d (Ad ad (76 + 6 * K))) (mR d (Ad ad (77 + 6 * K))) := by rw [eM, eR]; exact S
      have Cd : ∀ i, cC ad d K i = cC ad δ K i := fun i => by unfold cC; rw [e]; rfl
      have f := C.f (t := t - 1) (by omega)
      refine hs_bind (h2_replay L hN hK (x2 := q_I d 2 4 (Ad ad (75 + 6 * K))) (x3 := 1) (kk_3 L hK) (lk_r L hK) id Sd.1 e24 (by rw [Cd]; exact C.2 (t - 1) (by omega)) f (C.1 (t - 1) (by omega)).1 (Or.inr rfl)) (fun r hr => ?_)
      obtain ⟨g1, g2, _, g4⟩ := hr
      have mr : mf ad K δ r := md.t ⟨fun c k a _ _ m2 _ => g1.1 c k a m2, fun b _ m1 _ _ => g1.2 b m1⟩
      have r24 : cN ad r K = ((t - 1 : Nat) : Int) := by unfold cN; rw [g1.1 2 4 _ (by omega)]; exact e24
      have rC : ∀ i, cC ad r K i = cC ad δ K i := fun i => by rw [← Cd]; unfold cC; rw [g1.2 _ (ad_ne L (by omega) (by omega) (by omega))]
      rw [show t = (t - 1) + 1 by omega] at Sd
      rw [lk_n L hK] at g4
      have Sr : SH T F (t - 1) (cM ad r K) (cR ad r K) := by
        refine Sd.b C.1 (by omega) (len := 2000) (by omega) ?_
        rcases g4 with ⟨z, q⟩ | ⟨z, q⟩
        · refine Or.inl ⟨?_, q⟩
          rcases f with f | f
          · exact f
          · exact absurd (z.mp f) (by decide)
        · refine Or.inr ⟨?_, q⟩
          rcases f with f | f
          · exact absurd ⟨fun y => by omega, fun y => absurd y (by decide)⟩ z
          · exact f
      refine hs_mono (ih (t - 1) r (by omega) (by omega) r24 g2 ⟨C.1, fun i hi => by rw [rC]; exact C.2 i hi⟩ Sr) (fun q hq => ?_)
      obtain ⟨q1, q2, q3, q4, q5⟩ := hq
      exact ⟨mr.t q1, q2, q3, fun i => by rw [q4, rC], q5⟩
end
