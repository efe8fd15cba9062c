/-! the class's houses: how they lie, what a change does -/
theorem k4 {K : Nat} (hK : K < 4) {P : Nat → Prop} (h0 : P 0) (h1 : P 1) (h2 : P 2) (h3 : P 3) : P K := by
  rcases (show K = 0 ∨ K = 1 ∨ K = 2 ∨ K = 3 by omega) with rfl | rfl | rfl | rfl
  · exact h0
  · exact h1
  · exact h2
  · exact h3
section LK
variable {ad : List Nat} {h : hp} {K : Nat}
theorem lk_e (L : Lay TLx ad h) (hK : K < 4) : q_E h.1 (Ad ad 10) K = some (Ad ad (75 + 6 * K)) := k4 (P := fun K => q_E h.1 (Ad ad 10) K = some (Ad ad (75 + 6 * K))) hK (fE_10_0 L) (fE_10_1 L) (fE_10_2 L) (fE_10_3 L)
theorem lk_0 (L : Lay TLx ad h) (hK : K < 4) : q_O h.1 2 0 (Ad ad (75 + 6 * K)) = some (Ad ad (76 + 6 * K)) := k4 (P := fun K => q_O h.1 2 0 (Ad ad (75 + 6 * K)) = some (Ad ad (76 + 6 * K))) hK (fO_75_0 L) (fO_81_0 L) (fO_87_0 L) (fO_93_0 L)
theorem lk_1 (L : Lay TLx ad h) (hK : K < 4) : q_O h.1 2 1 (Ad ad (75 + 6 * K)) = some (Ad ad (80 + 6 * K)) := k4 (P := fun K => q_O h.1 2 1 (Ad ad (75 + 6 * K)) = some (Ad ad (80 + 6 * K))) hK (fO_75_1 L) (fO_81_1 L) (fO_87_1 L) (fO_93_1 L)
theorem lk_2 (L : Lay TLx ad h) (hK : K < 4) : q_O h.1 2 2 (Ad ad (75 + 6 * K)) = some (Ad ad (78 + 6 * K)) := k4 (P := fun K => q_O h.1 2 2 (Ad ad (75 + 6 * K)) = some (Ad ad (78 + 6 * K))) hK (fO_75_2 L) (fO_81_2 L) (fO_87_2 L) (fO_93_2 L)
theorem lk_3 (L : Lay TLx ad h) (hK : K < 4) : q_O h.1 2 3 (Ad ad (75 + 6 * K)) = some (Ad ad (79 + 6 * K)) := k4 (P := fun K => q_O h.1 2 3 (Ad ad (75 + 6 * K)) = some (Ad ad (79 + 6 * K))) hK (fO_75_3 L) (fO_81_3 L) (fO_87_3 L) (fO_93_3 L)
theorem lk_r (L : Lay TLx ad h) (hK : K < 4) : q_O h.1 3 0 (Ad ad (76 + 6 * K)) = some (Ad ad (77 + 6 * K)) := k4 (P := fun K => q_O h.1 3 0 (Ad ad (76 + 6 * K)) = some (Ad ad (77 + 6 * K))) hK (fO_76_0 L) (fO_82_0 L) (fO_88_0 L) (fO_94_0 L)
theorem lk_h (L : Lay TLx ad h) (hK : K < 4) : q_O h.1 1 1 (Ad ad (80 + 6 * K)) = some (Ad ad (76 + 6 * K)) := k4 (P := fun K => q_O h.1 1 1 (Ad ad (80 + 6 * K)) = some (Ad ad (76 + 6 * K))) hK (fO_80_1 L) (fO_86_1 L) (fO_92_1 L) (fO_98_1 L)
theorem lk_n (L : Lay TLx ad h) (hK : K < 4) : q_N h.1 (Ad ad (77 + 6 * K)) = 2000 := k4 (P := fun K => q_N h.1 (Ad ad (77 + 6 * K)) = 2000) hK (fN_77 L) (fN_83 L) (fN_89 L) (fN_95 L)
theorem kk_2 (L : Lay TLx ad h) (hK : K < 4) : q_K h.1 (Ad ad (75 + 6 * K)) = 2 := k4 (P := fun K => q_K h.1 (Ad ad (75 + 6 * K)) = 2) hK ((lay_knd L (by decide)).trans (by decide)) ((lay_knd L (by decide)).trans (by decide)) ((lay_knd L (by decide)).trans (by decide)) ((lay_knd L (by decide)).trans (by decide))
theorem kk_3 (L : Lay TLx ad h) (hK : K < 4) : q_K h.1 (Ad ad (76 + 6 * K)) = 3 := k4 (P := fun K => q_K h.1 (Ad ad (76 + 6 * K)) = 3) hK ((lay_knd L (by decide)).trans (by decide)) ((lay_knd L (by decide)).trans (by decide)) ((lay_knd L (by decide)).trans (by decide)) ((lay_knd L (by decide)).trans (by decide))
theorem kk_1 (L : Lay TLx ad h) (hK : K < 4) : q_K h.1 (Ad ad (80 + 6 * K)) = 1 := k4 (P := fun K => q_K h.1 (Ad ad (80 + 6 * K)) = 1) hK ((lay_knd L (by decide)).trans (by decide)) ((lay_knd L (by decide)).trans (by decide)) ((lay_knd L (by decide)).trans (by decide)) ((lay_knd L (by decide)).trans (by decide))
end LK
def cM (ad : List Nat) (δ : dp) (K : Nat) : Int := (q_I δ 3 1 (Ad ad (76 + 6 * K))).toInt
def cR (ad : List Nat) (δ : dp) (K i : Nat) : Int := (q_R δ (Ad ad (77 + 6 * K)) i).toInt
def cN (ad : List Nat) (δ : dp) (K : Nat) : Int := (q_I δ 2 4 (Ad ad (75 + 6 * K))).toInt
def cC (ad : List Nat) (δ : dp) (K i : Nat) : Int := (q_R δ (Ad ad (78 + 6 * K)) i).toInt
def cT (ad : List Nat) (δ : dp) (K i : Nat) : Int := (q_R δ (Ad ad (79 + 6 * K)) i).toInt
theorem cM_b {ad : List Nat} {h : hp} (L : Lay TLx ad h) {δ0 δ : dp} (I : CI ad h.1 δ0 δ) {K : Nat} (hK : K < 4) : 0 ≤ cM ad δ K ∧ cM ad δ K ≤ 2000 := by
  have b := cb_3_1 I (kk_3 L hK) (lk_r L hK)
  rw [lk_n L hK] at b
  exact b
theorem cN_b {ad : List Nat} {h : hp} (L : Lay TLx ad h) {δ0 δ : dp} (I : CI ad h.1 δ0 δ) {K : Nat} (hK : K < 4) : 0 ≤ cN ad δ K ∧ cN ad δ K ≤ 1000 := cb_2_4 I (kk_2 L hK)
/-- what a change of house K leaves: all but counts of touches, and what is K's -/
def mf (ad : List Nat) (K : Nat) (δ δ1 : dp) : Prop := (∀ c k a, c ≠ 1 → c ≠ 4 → ¬ (c = 3 ∧ k = 1 ∧ a = Ad ad (76 + 6 * K)) → ¬ (c = 2 ∧ k = 4 ∧ a = Ad ad (75 + 6 * K)) → q_I δ1 c k a = q_I δ c k a) ∧ (∀ b, b ≠ Ad ad 59 → b ≠ Ad ad (77 + 6 * K) → b ≠ Ad ad (78 + 6 * K) → b ≠ Ad ad (79 + 6 * K) → q_R δ1 b = q_R δ b)
theorem mf.r {ad : List Nat} {K : Nat} {δ : dp} : mf ad K δ δ := ⟨fun _ _ _ _ _ _ _ => rfl, fun _ _ _ _ _ => rfl⟩
theorem mf.t {ad : List Nat} {K : Nat} {δ δ1 δ2 : dp} (h : mf ad K δ δ1) (k : mf ad K δ1 δ2) : mf ad K δ δ2 := ⟨fun c q a n1 n4 n2 n3 => (k.1 c q a n1 n4 n2 n3).trans (h.1 c q a n1 n4 n2 n3), fun b n4 n1 n2 n3 => (k.2 b n4 n1 n2 n3).trans (h.2 b n4 n1 n2 n3)⟩
/-- the same CHANGES, or one more -/
def nsm (ad : List Nat) (K : Nat) (δ δ1 : dp) : Prop := cN ad δ1 K = cN ad δ K ∧ (∀ i, cC ad δ1 K i = cC ad δ K i) ∧ ∀ i, cT ad δ1 K i = cT ad δ K i
def nmo (ad : List Nat) (K : Nat) (call x t : Int) (δ δ1 : dp) : Prop := cN ad δ1 K = cN ad δ K + 1 ∧ (∀ i : Nat, cC ad δ1 K i = if (i : Int) = cN ad δ K then 2 * x + call else cC ad δ K i) ∧ ∀ i : Nat, cT ad δ1 K i = if (i : Int) = cN ad δ K then t else cT ad δ K i
/-- what becomes of house K -/
def mk (ad : List Nat) (K : Nat) (call x t : Int) (δ δ1 : dp) : Prop :=
  (call = 0 ∧ ME (cM ad δ K) (cR ad δ K) x ∧ RE (cM ad δ K) (cR ad δ K) (cM ad δ1 K) (cR ad δ1 K) ∧ nsm ad K δ δ1) ∨
  (call = 0 ∧ ¬ ME (cM ad δ K) (cR ad δ K) x ∧ (∃ p : Nat, PL (cM ad δ K) (cR ad δ K) x p ∧ IN (cM ad δ K) (cR ad δ K) x p (cM ad δ1 K) (cR ad δ1 K)) ∧ nmo ad K call x t δ δ1) ∨
  (call = 1 ∧ ¬ ME (cM ad δ K) (cR ad δ K) x ∧ RE (cM ad δ K) (cR ad δ K) (cM ad δ1 K) (cR ad δ1 K) ∧ nsm ad K δ δ1) ∨
  (call = 1 ∧ ME (cM ad δ K) (cR ad δ K) x ∧ (∃ p : Nat, (p : Int) < cM ad δ K ∧ cR ad δ K p = x ∧ DE (cM ad δ K) (cR ad δ K) p (cM ad δ1 K) (cR ad δ1 K)) ∧ nmo ad K call x t δ δ1)
theorem h2_refusal {ad : List Nat} {h : hp} (L : Lay TLx ad h) {δ0 : dp} {N K : Nat} (hK : K < 4) {x1 x2 : Int32} {δ : dp} (I : CI ad h.1 δ0 δ) (a1 : 0 ≤ x1.toInt) (a2 : x1.toInt ≤ 2000) (b1 : 0 ≤ x2.toInt) (b2 : x2.toInt ≤ 2000) : hs (D_X2_refusal N h.1 (Ad ad (75 + 6 * K)) x1 x2 δ) (fun r => r.2 = δ ∧ ((cM ad δ K + x1.toInt ≤ 2000 ∧ cN ad δ K + x1.toInt + x2.toInt ≤ 1000 ∧ r.1 = 0) ∨ (cM ad δ K + x1.toInt ≤ 2000 ∧ 1000 < cN ad δ K + x1.toInt + x2.toInt ∧ r.1 = -2) ∨ (2000 < cM ad δ K + x1.toInt ∧ r.1 = -1))) := by
  have m := cM_b L I hK
  have n := cN_b L I hK
  unfold cM at m
  unfold cN at n
  have z2 : (2000 : Int32).toInt = 2000 := rfl
  have z1 : (1000 : Int32).toInt = 1000 := rfl
  have t1 := te_add (q_I δ 3 1 (Ad ad (76 + 6 * K))) x1 (by omega) (by omega)
  have t2 := te_add (q_I δ 2 4 (Ad ad (75 + 6 * K))) x1 (by omega) (by omega)
  have t3 := te_add (q_I δ 2 4 (Ad ad (75 + 6 * K)) + x1) x2 (by omega) (by omega)
  unfold D_X2_refusal J_X2_refusal_37 cM cN
  refine hs_at (lk_0 L hK) (hs_ite (fun c => ?_) (fun c => ?_))
  · have c1 := o_le c
    refine hs_ite (fun d => ?_) (fun d => ?_)
    · have d1 := o_le d
      exact hs_some ⟨rfl, Or.inl ⟨by omega, by omega, rfl⟩⟩
    · have d1 := o_nle d
      exact hs_some ⟨rfl, Or.inr (Or.inl ⟨by omega, by omega, rfl⟩)⟩
  · have c1 := o_nle c
    exact hs_some ⟨rfl, Or.inr (Or.inr ⟨by omega, rfl⟩)⟩
theorem cell_ne {ad : List Nat} {h : hp} (L : Lay TLx ad h) {i j : Nat} (hi : i < 128) (hj : j < 128) (n : i ≠ j) : Ad ad i ≠ Ad ad j := ad_ne L hi hj n
/-- the CHANGE is noted, if there was one -/
theorem h2_make33 {ad : List Nat} {h : hp} (L : Lay TLx ad h) {N K : Nat} (hK : K < 4) {x1 x2 w t : Int32} {δ : dp} (c0 : 0 ≤ x1.toInt) (c1 : x1.toInt ≤ 1) (a1 : 0 ≤ x2.toInt) (a2 : x2.toInt ≤ 65536) (nb : 0 ≤ cN ad δ K) (nn : w ≠ 0 → cN ad δ K < 1000) : hs (J_X2_make_33 N h.1 (Ad ad (75 + 6 * K)) x1 x2 w t δ) (fun r => r.1 = t ∧ mf ad K δ r.2 ∧ cM ad r.2 K = cM ad δ K ∧ (∀ i, cR ad r.2 K i = cR ad δ K i) ∧ ((w = 0 ∧ nsm ad K δ r.2) ∨ (w ≠ 0 ∧ nmo ad K x1.toInt x2.toInt t.toInt δ r.2))) := by
  unfold J_X2_make_33 J_X2_make_84
  refine hs_ite (fun c => ?_) (fun c => ?_)
  · exact hs_some ⟨rfl, mf.r, rfl, fun _ => rfl, Or.inl ⟨c, rfl, fun _ => rfl, fun _ => rfl⟩⟩
  · have n1 := nn c
    unfold cN at n1 nb
    have z1 : (1000 : Int32).toInt = 1000 := rfl
    have z2 : (2 : Int32).toInt = 2 := rfl
    refine hs_ite (fun d => by have := o_le d; omega) (fun d => ?_)
    refine hs_at (lk_2 L hK) (hs_gd (fun _ => hs_bdv (fun d1 e1 => hs_at (lk_3 L hK) (hs_gd (fun _ => hs_bdv (fun d2 e2 => hs_bdv (fun d3 e3 => hs_some ?_)))))))
    have q1 : q_I d1 2 4 (Ad ad (75 + 6 * K)) = q_I δ 2 4 (Ad ad (75 + 6 * K)) := by rw [e1]; rfl
    have q2 : q_I d2 2 4 (Ad ad (75 + 6 * K)) = q_I δ 2 4 (Ad ad (75 + 6 * K)) := by rw [e2, ← q1]; rfl
    have ne1 : Ad ad (79 + 6 * K) ≠ Ad ad (78 + 6 * K) := ad_ne L (by omega) (by omega) (by omega)
    have tn := ti_tn (q_I δ 2 4 (Ad ad (75 + 6 * K)))
    have t1 := te_addc (c := 1) (n := 1) rfl (q_I δ 2 4 (Ad ad (75 + 6 * K))) (by omega) (by omega)
    have t2 := te_mulr (c := 2) (n := 2) rfl x2 (by omega) (by omega)
    have t3 := te_add (x2 * 2) x1 (by omega) (by omega)
    have fr : mf ad K δ d3 := ⟨fun c k a _ _ _ m3 => by rw [e3, qI_sI, if_neg m3, e2, e1]; rfl, fun b _ m1 m2 m3 => by rw [e3]; show q_R d2 b = _; rw [e2, rR_o m3, e1, rR_o m2]⟩
    refine ⟨rfl, fr, ?_, fun i => ?_, Or.inr ⟨c, ?_, fun i => ?_, fun i => ?_⟩⟩
    · unfold cM; rw [e3, rI_o (by decide), e2, e1]; rfl
    · unfold cR; rw [e3]; show (q_R d2 _ i).toInt = _; rw [e2, rR_o (ad_ne L (by omega) (by omega) (by omega)), e1, rR_o (ad_ne L (by omega) (by omega) (by omega))]
    · unfold cN; rw [e3, rI_s, q2]; exact t1.1
    · have : q_R d3 (Ad ad (78 + 6 * K)) = q_R d1 (Ad ad (78 + 6 * K)) := by rw [e3]; show q_R d2 _ = _; rw [e2]; exact rR_o ne1.symm
      unfold cC cN
      rw [this, e1, qR_sR]
      by_cases z : (i : Int) = (q_I δ 2 4 (Ad ad (75 + 6 * K))).toInt
      · rw [if_pos ⟨rfl, by omega⟩, if_pos z]; omega
      · rw [if_neg (fun y => z (by omega)), if_neg z]
    · have : q_R d3 (Ad ad (79 + 6 * K)) = q_R d2 (Ad ad (79 + 6 * K)) := by rw [e3]; rfl
      unfold cT cN
      rw [this, e2, qR_sR, q1]
      by_cases z : (i : Int) = (q_I δ 2 4 (Ad ad (75 + 6 * K))).toInt
      · rw [if_pos ⟨rfl, by omega⟩, if_pos z]
      · rw [if_neg (fun y => z (by omega)), if_neg z, e1]
        show (q_R (s_R δ _ _ _) _ _).toInt = _
        rw [rR_o ne1]
theorem h2_make {ad : List Nat} {h : hp} (L : Lay TLx ad h) {δ0 : dp} {N : Nat} (hN : 10000000 ≤ N) {K : Nat} (hK : K < 4) {x1 x2 : Int32} {δ : dp} (I : CI ad h.1 δ0 δ) (S : SR (cM ad δ K) (cR ad δ K)) (c0 : 0 ≤ x1.toInt) (c1 : x1.toInt ≤ 1) (a1 : 0 ≤ x2.toInt) (a2 : x2.toInt ≤ 65536) (mm : x1.toInt = 0 → ¬ ME (cM ad δ K) (cR ad δ K) x2.toInt → cM ad δ K < 2000) (nn : (x1.toInt = 0 ↔ ¬ ME (cM ad δ K) (cR ad δ K) x2.toInt) → cN ad δ K < 1000) : hs (D_X2_make N h.1 (Ad ad (75 + 6 * K)) x1 x2 δ) (fun r => mf ad K δ r.2 ∧ (∃ d, D_X1_touchesOf N h.1 (Ad ad (80 + 6 * K)) x1 x2 δ = some (r.1, d)) ∧ mk ad K x1.toInt x2.toInt r.1.toInt δ r.2) := by
  have z0 : (0 : Int32).toInt = 0 := rfl
  have nb := (cN_b L I hK).1
  unfold D_X2_make
  refine hs_at (lk_1 L hK) ?_
  cases et : D_X1_touchesOf N h.1 (Ad ad (80 + 6 * K)) x1 x2 δ with
  | none => exact hs_none
  | some r3 =>
    obtain ⟨t, d3⟩ := r3
    have ht := ok_h (k_X1_touchesOf L hN (x1 := x1) (x2 := x2) (kk_1 L hK) (lk_h L hK) (kk_3 L hK) I) _ et
    obtain ⟨I3, ⟨u3, _, w3⟩⟩ := ht
    dsimp only at I3 u3 w3
    show hs (if x1 = 0 then _ else _) _
    have f3 : mf ad K δ d3 := ⟨fun c k a n1 _ _ _ => u3 c k a (fun z => n1 (by simp only [List.mem_cons, List.not_mem_nil, or_false, Prod.mk.injEq] at z; omega)), fun b _ _ _ _ => by rw [w3]⟩
    have eM : cM ad d3 K = cM ad δ K := by unfold cM; rw [u3 3 1 _ (by decide)]
    have eR : cR ad d3 K = cR ad δ K := by funext i; unfold cR; rw [w3]
    have eN : cN ad d3 K = cN ad δ K := by unfold cN; rw [u3 2 4 _ (by decide)]
    have eC : cC ad d3 K = cC ad δ K := by funext i; unfold cC; rw [w3]
    have eT : cT ad d3 K = cT ad δ K := by funext i; unfold cT; rw [w3]
    have S3 : SR (mM d3 (Ad ad (76 + 6 * K))) (mR d3 (Ad ad (77 + 6 * K))) := by
      show SR (cM ad d3 K) (cR ad d3 K)
      rw [eM, eR]; exact S
    have fr : ∀ d4, fr3 (Ad ad (76 + 6 * K)) (Ad ad (77 + 6 * K)) d3 d4 → mf ad K δ d4 ∧ cN ad d4 K = cN ad δ K ∧ cC ad d4 K = cC ad δ K ∧ cT ad d4 K = cT ad δ K := fun d4 f => by
      refine ⟨f3.t ⟨fun c k a _ _ n2 _ => f.1 c k a n2, fun b _ n1 _ _ => f.2 b n1⟩, ?_, ?_, ?_⟩
      · rw [← eN]; unfold cN; rw [f.1 2 4 _ (by omega)]
      · rw [← eC]; funext i; unfold cC; rw [f.2 _ (ad_ne L (by omega) (by omega) (by omega))]
      · rw [← eT]; funext i; unfold cT; rw [f.2 _ (ad_ne L (by omega) (by omega) (by omega))]
    refine hs_ite (fun c => ?_) (fun c => ?_)
    · have x0 : x1.toInt = 0 := by rw [c]; rfl
      refine hs_at (lk_0 L hK) (hs_bind (h3_add L hN (x := x2) (kk_3 L hK) (lk_r L hK) I3 S3) (fun r4 h4 => ?_))
      obtain ⟨f4, i4, _, q4⟩ := h4
      obtain ⟨m4, n4, c4, t4⟩ := fr _ f4
      change (_ ∧ _ ∧ (_ ≤ cM ad d3 K ∨ ME (cM ad d3 K) (cR ad d3 K) _)) ∨ (_ ∧ ¬ ME (cM ad d3 K) (cR ad d3 K) _ ∧ ∃ p : Nat, PL (cM ad d3 K) (cR ad d3 K) _ p ∧ IN (cM ad d3 K) (cR ad d3 K) _ p (cM ad r4.2 K) (cR ad r4.2 K)) at q4
      rw [eM, eR, lk_n L hK] at q4
      rcases q4 with ⟨w4, s4, y4⟩ | ⟨w4, ne4, p, P, J⟩
      · have me : ME (cM ad δ K) (cR ad δ K) x2.toInt := by
          rcases y4 with y4 | y4
          · exact Classical.byContradiction fun z => by have := mm x0 z; omega
          · exact y4
        refine hs_mono (h2_make33 L hK c0 c1 a1 a2 (by rw [n4]; exact nb) (fun z => absurd w4 z)) (fun r hr => ?_)
        obtain ⟨g1, g2, g3, g4, g5⟩ := hr
        rw [w4] at g5
        rcases g5 with ⟨_, g6, g7, g8⟩ | ⟨z, _⟩
        · refine ⟨m4.t g2, ⟨d3, by rw [g1]⟩, Or.inl ⟨x0, me, ⟨by rw [g3, s4, eM], fun i _ => by rw [g4, s4, eR]⟩, by rw [g6, n4], fun i => by rw [g7, c4], fun i => by rw [g8, t4]⟩⟩
        · exact absurd rfl z
      · refine hs_mono (h2_make33 L hK c0 c1 a1 a2 (by rw [n4]; exact nb) (fun _ => by rw [n4]; exact nn ⟨fun _ => ne4, fun _ => x0⟩)) (fun r hr => ?_)
        obtain ⟨g1, g2, g3, g4, g5⟩ := hr
        rw [w4] at g5
        rcases g5 with ⟨z, _⟩ | ⟨_, g6, g7, g8⟩
        · exact absurd z (by decide)
        · refine ⟨m4.t g2, ⟨d3, by rw [g1]⟩, Or.inr (Or.inl ⟨x0, ne4, ⟨p, P, ?_⟩, by rw [g6, n4], fun i => by rw [g7, n4, c4], fun i => by rw [g8, n4, t4, g1]⟩)⟩
          rw [g3, show cR ad r.2 K = cR ad r4.2 K from funext g4]; exact J
    · have x0 : x1.toInt = 1 := by have := o_ne c; omega
      refine hs_at (lk_0 L hK) (hs_bind (h3_remove L hN (x := x2) (kk_3 L hK) (lk_r L hK) I3 S3) (fun r4 h4 => ?_))
      obtain ⟨f4, i4, _, q4⟩ := h4
      obtain ⟨m4, n4, c4, t4⟩ := fr _ f4
      change (_ ∧ _ ∧ ¬ ME (cM ad d3 K) (cR ad d3 K) _) ∨ (_ ∧ ∃ p : Nat, (p : Int) < cM ad d3 K ∧ cR ad d3 K p = _ ∧ DE (cM ad d3 K) (cR ad d3 K) p (cM ad r4.2 K) (cR ad r4.2 K)) at q4
      rw [eM, eR] at q4
      rcases q4 with ⟨w4, s4, y4⟩ | ⟨w4, p, P1, P2, J⟩
      · refine hs_mono (h2_make33 L hK c0 c1 a1 a2 (by rw [n4]; exact nb) (fun z => absurd w4 z)) (fun r hr => ?_)
        obtain ⟨g1, g2, g3, g4, g5⟩ := hr
        rw [w4] at g5
        rcases g5 with ⟨_, g6, g7, g8⟩ | ⟨z, _⟩
        · refine ⟨m4.t g2, ⟨d3, by rw [g1]⟩, Or.inr (Or.inr (Or.inl ⟨x0, y4, ⟨by rw [g3, s4, eM], fun i _ => by rw [g4, s4, eR]⟩, by rw [g6, n4], fun i => by rw [g7, c4], fun i => by rw [g8, t4]⟩))⟩
        · exact absurd rfl z
      · have me : ME (cM ad δ K) (cR ad δ K) x2.toInt := ⟨p, P1, P2⟩
        refine hs_mono (h2_make33 L hK c0 c1 a1 a2 (by rw [n4]; exact nb) (fun _ => by rw [n4]; exact nn ⟨fun z => by omega, fun z => absurd me z⟩)) (fun r hr => ?_)
        obtain ⟨g1, g2, g3, g4, g5⟩ := hr
        rw [w4] at g5
        rcases g5 with ⟨z, _⟩ | ⟨_, g6, g7, g8⟩
        · exact absurd z (by decide)
        · refine ⟨m4.t g2, ⟨d3, by rw [g1]⟩, Or.inr (Or.inr (Or.inr ⟨x0, me, ⟨p, P1, P2, ?_⟩, by rw [g6, n4], fun i => by rw [g7, n4, c4], fun i => by rw [g8, n4, t4, g1]⟩))⟩
          rw [g3, show cR ad r.2 K = cR ad r4.2 K from funext g4]; exact J
/-- what put and drop answer of house K -/
def chA (M : Int) (R : Nat → Int) (n call x v : Int) : Prop := (call = 0 ∧ ME M R x ∧ v = 0) ∨ (call = 1 ∧ ¬ ME M R x ∧ v = 0) ∨ ((call = 0 ↔ ¬ ME M R x) ∧ ((call = 0 ∧ 2000 ≤ M ∧ v = -1) ∨ (¬ (call = 0 ∧ 2000 ≤ M) ∧ 1000 ≤ n ∧ v = -2) ∨ (¬ (call = 0 ∧ 2000 ≤ M) ∧ n < 1000 ∧ v = 1)))
theorem h2_change {ad : List Nat} {h : hp} (L : Lay TLx ad h) {δ0 : dp} {N : Nat} (hN : 10000000 ≤ N) {K : Nat} (hK : K < 4) {x1 x2 : Int32} {δ : dp} (I : CI ad h.1 δ0 δ) (S : SR (cM ad δ K) (cR ad δ K)) (c0 : 0 ≤ x1.toInt) (c1 : x1.toInt ≤ 1) (a1 : 0 ≤ x2.toInt) (a2 : x2.toInt ≤ 65536) : hs (D_X2_change N h.1 (Ad ad (75 + 6 * K)) x1 x2 δ) (fun r => chA (cM ad δ K) (cR ad δ K) (cN ad δ K) x1.toInt x2.toInt r.1.toInt ∧ ((r.1.toInt ≠ 1 ∧ r.2 = δ) ∨ (r.1.toInt = 1 ∧ mf ad K δ r.2 ∧ ∃ t d, D_X1_touchesOf N h.1 (Ad ad (80 + 6 * K)) x1 x2 δ = some (t, d) ∧ mk ad K x1.toInt x2.toInt t.toInt δ r.2))) := by
  have z0 : (0 : Int32).toInt = 0 := rfl
  have mb := cM_b L I hK
  have nb := cN_b L I hK
  have tail : ∀ (w u : Int32), (x1.toInt = 0 ↔ ¬ ME (cM ad δ K) (cR ad δ K) x2.toInt) → (x1.toInt = 0 ∧ w = 0 ∧ u = 1 ∨ x1.toInt = 1 ∧ w = 1 ∧ u = 0) → hs (J_X2_change_43 N h.1 (Ad ad (75 + 6 * K)) x1 x2 w u (Ad ad (75 + 6 * K)) δ) (fun r => chA (cM ad δ K) (cR ad δ K) (cN ad δ K) x1.toInt x2.toInt r.1.toInt ∧ ((r.1.toInt ≠ 1 ∧ r.2 = δ) ∨ (r.1.toInt = 1 ∧ mf ad K δ r.2 ∧ ∃ t d, D_X1_touchesOf N h.1 (Ad ad (80 + 6 * K)) x1 x2 δ = some (t, d) ∧ mk ad K x1.toInt x2.toInt t.toInt δ r.2))) := by
    intro w u hc hw
    have w1 : w.toInt = x1.toInt ∧ u.toInt = 1 - x1.toInt := by
      rcases hw with ⟨q1, q2, q3⟩ | ⟨q1, q2, q3⟩
      · rw [q2, q3, q1]; exact ⟨rfl, rfl⟩
      · rw [q2, q3, q1]; exact ⟨rfl, rfl⟩
    unfold J_X2_change_43
    refine hs_bind (h2_refusal L hK (x1 := u) (x2 := w) I (by omega) (by omega) (by omega) (by omega)) (fun r hr => ?_)
    obtain ⟨e, hq⟩ := hr
    rw [e]
    have ub : u.toInt = 0 ∨ u.toInt = 1 := by omega
    rcases hq with ⟨q1, q2, q3⟩ | ⟨q1, q2, q3⟩ | ⟨q1, q3⟩
    · rw [q3]
      refine hs_ite (fun _ => ?_) (fun z => absurd (by decide) z)
      refine hs_bind (h2_make L hN hK (x1 := x1) (x2 := x2) I S c0 c1 a1 a2 (fun z _ => by omega) (fun _ => by omega)) (fun r2 h2 => ?_)
      obtain ⟨g1, ⟨d, g2⟩, g3⟩ := h2
      exact hs_some ⟨Or.inr (Or.inr ⟨hc, Or.inr (Or.inr ⟨by omega, by omega, rfl⟩)⟩), Or.inr ⟨rfl, g1, _, d, g2, g3⟩⟩
    · rw [q3]
      refine hs_ite (fun z => absurd z (by decide)) (fun _ => ?_)
      exact hs_some ⟨Or.inr (Or.inr ⟨hc, Or.inr (Or.inl ⟨by omega, by omega, rfl⟩)⟩), Or.inl ⟨(by decide : (-2 : Int32).toInt ≠ 1), rfl⟩⟩
    · rw [q3]
      refine hs_ite (fun z => absurd z (by decide)) (fun _ => ?_)
      exact hs_some ⟨Or.inr (Or.inr ⟨hc, Or.inl ⟨by omega, by omega, rfl⟩⟩), Or.inl ⟨(by decide : (-1 : Int32).toInt ≠ 1), rfl⟩⟩
  unfold D_X2_change J_X2_change_9
  refine hs_ite (fun c => ?_) (fun c => ?_)
  · have x0 : x1.toInt = 0 := by rw [c]; rfl
    refine hs_at (lk_0 L hK) (hs_bind (h3_holds L hN (x := x2) (kk_3 L hK) (lk_r L hK) I S) (fun r hr => ?_))
    obtain ⟨e, hm⟩ := hr
    rw [e]
    change (_ ∧ ME (cM ad δ K) (cR ad δ K) _) ∨ (_ ∧ ¬ ME (cM ad δ K) (cR ad δ K) _) at hm
    rcases hm with ⟨w, hm⟩ | ⟨w, hm⟩
    · rw [w]
      refine hs_ite (fun _ => hs_some ⟨Or.inl ⟨x0, hm, rfl⟩, Or.inl ⟨(by decide : (0 : Int32).toInt ≠ 1), rfl⟩⟩) (fun z => absurd rfl z)
    · rw [w]
      refine hs_ite (fun z => absurd z (by decide)) (fun _ => ?_)
      refine hs_ite (fun z => absurd z (by decide)) (fun _ => ?_)
      unfold J_X2_change_34
      refine hs_ite (fun z => absurd z (by decide)) (fun _ => ?_)
      exact tail 0 1 ⟨fun _ => hm, fun _ => x0⟩ (Or.inl ⟨x0, rfl, rfl⟩)
  · have x0 : x1.toInt = 1 := by have := o_ne c; omega
    refine hs_at (lk_0 L hK) (hs_bind (h3_holds L hN (x := x2) (kk_3 L hK) (lk_r L hK) I S) (fun r hr => ?_))
    obtain ⟨e, hm⟩ := hr
    rw [e]
    change (_ ∧ ME (cM ad δ K) (cR ad δ K) _) ∨ (_ ∧ ¬ ME (cM ad δ K) (cR ad δ K) _) at hm
    rcases hm with ⟨w, hm⟩ | ⟨w, hm⟩
    · rw [w]
      refine hs_ite (fun z => absurd z (by decide)) (fun _ => ?_)
      refine hs_ite (fun _ => ?_) (fun z => absurd rfl z)
      unfold J_X2_change_34
      refine hs_ite (fun _ => ?_) (fun z => absurd rfl z)
      exact tail 1 0 ⟨fun z => by omega, fun z => absurd hm z⟩ (Or.inr ⟨x0, rfl, rfl⟩)
    · rw [w]
      refine hs_ite (fun _ => hs_some ⟨Or.inr (Or.inl ⟨x0, hm, rfl⟩), Or.inl ⟨(by decide : (0 : Int32).toInt ≠ 1), rfl⟩⟩) (fun z => absurd rfl z)
