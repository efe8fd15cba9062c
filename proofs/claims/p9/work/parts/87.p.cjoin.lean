/-! joins of the class: what is counted, made, dropped -/
def sCl (ad : List Nat) (δ : dp) (K : Nat) : CSt := (cM ad δ K, cR ad δ K, cN ad δ K, cC ad δ K, cT ad δ K)
def sRf (ad : List Nat) (δ : dp) (K : Nat) : RSt := (hM ad δ K, hR ad δ K, hN ad δ K, nT ad δ K, cF ad δ K)
/-- the class's SHAPE untouched -/
def f5 (ad : List Nat) (δ d : dp) : Prop := ∀ k, q_I d 5 k (Ad ad 3) = q_I δ 5 k (Ad ad 3)
theorem f5.t {ad : List Nat} {δ d e : dp} (h : f5 ad δ d) (k : f5 ad d e) : f5 ad δ e := fun q => (k q).trans (h q)
theorem f5_mf {ad : List Nat} {K : Nat} {δ d : dp} (m : mf ad K δ d) : f5 ad δ d := fun k => m.1 5 k _ (by decide) (by decide) (fun z => by omega) (fun z => by omega)
/-- the class's count of TOUCHES says τ -/
def HTc (ad : List Nat) (N : Nat) (h : hp) (δ0 δb : dp) (K : Nat) (τ : TAU) : Prop := ∀ (c x : Int32) (d d1 : dp) (t : Int32), CI ad h.1 δ0 d → SR (cM ad d K) (cR ad d K) → f5 ad δb d → D_X1_touchesOf N h.1 (Ad ad (80 + 6 * K)) c x d = some (t, d1) → τ c.toInt x.toInt (cM ad d K) (cR ad d K) t
theorem mk_st {ad : List Nat} {τ : TAU} {K : Nat} {call x : Int} {t : Int32} {δ δ1 : dp} (m : mk ad K call x t.toInt δ δ1) (ht : τ call x (cM ad δ K) (cR ad δ K) t) : stC τ call x t (sCl ad δ K) (sCl ad δ1 K) := by
  refine ⟨mk_a m, ?_, ht⟩
  rcases m with ⟨_, _, _, n1, _, n3⟩ | ⟨_, _, _, n1, _, n3⟩ | ⟨_, _, _, n1, _, n3⟩ | ⟨_, _, _, n1, _, n3⟩
  · exact ⟨fun i _ => n3 i, fun z => by have : cN ad δ1 K = cN ad δ K + 1 := z; omega⟩
  · exact ⟨fun i hi => by show cT ad δ1 K i = _; rw [n3 i, if_neg (by have : (i : Int) < cN ad δ K := hi; omega)]; rfl, fun _ i hi => by show cT ad δ1 K i = _; rw [n3 i, if_pos (show (i : Int) = cN ad δ K from hi)]⟩
  · exact ⟨fun i _ => n3 i, fun z => by have : cN ad δ1 K = cN ad δ K + 1 := z; omega⟩
  · exact ⟨fun i hi => by show cT ad δ1 K i = _; rw [n3 i, if_neg (by have : (i : Int) < cN ad δ K := hi; omega)]; rfl, fun _ i hi => by show cT ad δ1 K i = _; rw [n3 i, if_pos (show (i : Int) = cN ad δ K from hi)]⟩
theorem mk_S {ad : List Nat} {K : Nat} {call x t : Int} {δ δ1 : dp} (m : mk ad K call x t δ δ1) (S : SR (cM ad δ K) (cR ad δ K)) : SR (cM ad δ1 K) (cR ad δ1 K) := by
  rcases m with ⟨_, _, e, _⟩ | ⟨_, n, ⟨p, P, J⟩, _⟩ | ⟨_, _, e, _⟩ | ⟨_, _, ⟨p, P, P2, J⟩, _⟩
  · exact SR_c e S
  · exact IN_s S P n J
  · exact SR_c e S
  · exact DE_s S J
/-- whether a call would change -/
def chg (call M : Int) (R : Nat → Int) (x : Int) : Prop := call = 0 ↔ ¬ ME M R x
theorem mk_n {ad : List Nat} {K : Nat} {call x t : Int} {δ δ1 : dp} (m : mk ad K call x t δ δ1) (S : SR (cM ad δ K) (cR ad δ K)) : (chg call (cM ad δ K) (cR ad δ K) x ∧ cN ad δ1 K = cN ad δ K + 1 ∨ ¬ chg call (cM ad δ K) (cR ad δ K) x ∧ cN ad δ1 K = cN ad δ K) ∧ (call = 0 → chg call (cM ad δ K) (cR ad δ K) x ∧ cM ad δ1 K = cM ad δ K + 1 ∨ ¬ chg call (cM ad δ K) (cR ad δ K) x ∧ cM ad δ1 K = cM ad δ K) ∧ ∀ y, y ≠ x → (chg call (cM ad δ1 K) (cR ad δ1 K) y ↔ chg call (cM ad δ K) (cR ad δ K) y) := by
  unfold chg
  rcases m with ⟨k, q, e, n⟩ | ⟨k, q, ⟨p, P, J⟩, n⟩ | ⟨k, q, e, n⟩ | ⟨k, q, ⟨p, P, P2, J⟩, n⟩
  · exact ⟨Or.inr ⟨fun z => z.mp k q, n.1⟩, fun _ => Or.inr ⟨fun z => z.mp k q, e.1⟩, fun y _ => by rw [← ME_i (x := y) e]⟩
  · refine ⟨Or.inl ⟨⟨fun _ => q, fun _ => k⟩, n.1⟩, fun _ => Or.inl ⟨⟨fun _ => q, fun _ => k⟩, J.1⟩, fun y hy => ?_⟩
    rw [IN_m P.1 J y]
    have : (y = x ∨ ME (cM ad δ K) (cR ad δ K) y) ↔ ME (cM ad δ K) (cR ad δ K) y := ⟨fun z => z.resolve_left hy, Or.inr⟩
    rw [this]
  · exact ⟨Or.inr ⟨fun z => by have := z.mpr q; omega, n.1⟩, fun z => by omega, fun y _ => by rw [← ME_i (x := y) e]⟩
  · refine ⟨Or.inl ⟨⟨fun z => by omega, fun z => absurd q z⟩, n.1⟩, fun z => by omega, fun y hy => ?_⟩
    rw [DE_m S P P2 J y]
    have : (y ≠ x ∧ ME (cM ad δ K) (cR ad δ K) y) ↔ ME (cM ad δ K) (cR ad δ K) y := ⟨fun z => z.2, fun z => ⟨hy, z⟩⟩
    rw [this]
/-- one call and the row goes on: what there is room for -/
theorem room_s {ad : List Nat} {K : Nat} {call t : Int} {Y : Nat → Int} {i n : Nat} {δ δ1 : dp} (m : mk ad K call (Y i) t δ δ1) (S : SR (cM ad δ K) (cR ad δ K)) (inj : ∀ j, i < j → j < i + (n + 1) → Y j ≠ Y i) (B1 : call = 0 → cM ad δ K + (cn (fun j => chg call (cM ad δ K) (cR ad δ K) (Y j)) i (n + 1) : Nat) ≤ 2000) (B2 : cN ad δ K + (cn (fun j => chg call (cM ad δ K) (cR ad δ K) (Y j)) i (n + 1) : Nat) ≤ 1000) : (call = 0 → cM ad δ1 K + (cn (fun j => chg call (cM ad δ1 K) (cR ad δ1 K) (Y j)) (i + 1) n : Nat) ≤ 2000) ∧ cN ad δ1 K + (cn (fun j => chg call (cM ad δ1 K) (cR ad δ1 K) (Y j)) (i + 1) n : Nat) ≤ 1000 := by
  obtain ⟨a, b, c⟩ := mk_n m S
  have e : cn (fun j => chg call (cM ad δ1 K) (cR ad δ1 K) (Y j)) (i + 1) n = cn (fun j => chg call (cM ad δ K) (cR ad δ K) (Y j)) (i + 1) n := cn_congr n (i + 1) (fun j h1 h2 => c (Y j) (inj j (by omega) (by omega)))
  rw [e]
  have l := cn_0 (P := fun j => chg call (cM ad δ K) (cR ad δ K) (Y j)) i n
  refine ⟨fun z => ?_, ?_⟩
  · have B := B1 z
    rcases b z with ⟨h1, h2⟩ | ⟨_, h2⟩
    · rw [cn_1 i n h1] at B; omega
    · omega
  · rcases a with ⟨h1, h2⟩ | ⟨_, h2⟩
    · rw [cn_1 i n h1] at B2; omega
    · omega
theorem room_0 {ad : List Nat} {K : Nat} {call : Int} {Y : Nat → Int} {i n : Nat} {δ : dp} (B1 : call = 0 → cM ad δ K + (cn (fun j => chg call (cM ad δ K) (cR ad δ K) (Y j)) i (n + 1) : Nat) ≤ 2000) (B2 : cN ad δ K + (cn (fun j => chg call (cM ad δ K) (cR ad δ K) (Y j)) i (n + 1) : Nat) ≤ 1000) : (call = 0 → ¬ ME (cM ad δ K) (cR ad δ K) (Y i) → cM ad δ K < 2000) ∧ (chg call (cM ad δ K) (cR ad δ K) (Y i) → cN ad δ K < 1000) := by
  refine ⟨fun z y => ?_, fun y => ?_⟩
  · have B := B1 z
    rw [cn_1 i n (show chg call _ _ _ from ⟨fun _ => y, fun _ => z⟩)] at B; omega
  · rw [cn_1 i n y] at B2; omega
/-- all of a row's numbers are put, or dropped -/
theorem h2_makeAll {ad : List Nat} {h : hp} (L : Lay TLx ad h) {δ0 δb : dp} {N : Nat} (hN : 10000000 ≤ N) {K a2 b2 m : Nat} (hK : K < 4) {τ : TAU} (HT : HTc ad N h δ0 δb K τ) {x1 : Int32} (c0 : 0 ≤ x1.toInt) (c1 : x1.toInt ≤ 1) (o2 : q_O h.1 3 0 a2 = some b2) (na : a2 ≠ Ad ad (76 + 6 * K)) (nb : b2 ≠ Ad ad 59 ∧ b2 ≠ Ad ad (77 + 6 * K) ∧ b2 ≠ Ad ad (78 + 6 * K) ∧ b2 ≠ Ad ad (79 + 6 * K)) {Y : Nat → Int} (hY : ∀ j, j < m → 0 ≤ Y j ∧ Y j ≤ 65536) (sY : ∀ i j : Nat, i < j → j < m → Y i < Y j) (hm : m ≤ 2000) : ∀ (f i : Nat) (x3 x4 : Int32) (δ : dp), x4.toInt = (i : Int) → i ≤ m → CI ad h.1 δ0 δ → f5 ad δb δ → SR (cM ad δ K) (cR ad δ K) → mM δ a2 = (m : Int) → (∀ j, j < m → mR δ b2 j = Y j) → (x1.toInt = 0 → cM ad δ K + (cn (fun j => chg x1.toInt (cM ad δ K) (cR ad δ K) (Y j)) i (m - i) : Nat) ≤ 2000) → cN ad δ K + (cn (fun j => chg x1.toInt (cM ad δ K) (cR ad δ K) (Y j)) i (m - i) : Nat) ≤ 1000 → hs (L_X2_makeAll_5 N h.1 (Ad ad (75 + 6 * K)) x1 a2 f x3 x4 δ) (fun r => mf ad K δ r.2 ∧ ∃ ts, chn (stC τ) (lst x1.toInt Y (m - i) i) (sCl ad δ K) (sCl ad r.2 K) ts ∧ r.1 = smt x3 ts) := by
  intro f
  induction f with
  | zero => intro i x3 x4 δ _ _ _ _ _ _ _ _ _; exact hs_none
  | succ f ih =>
    intro i x3 x4 δ h4 hi I F5 S hM hR B1 B2
    have hM' : (q_I δ 3 1 a2).toInt = (m : Int) := hM
    unfold L_X2_makeAll_5
    refine hs_ite (fun c => ?_) (fun c => ?_)
    · have c1 := o_le c
      rw [show m - i = 0 by omega]
      exact hs_some ⟨mf.r, [], ⟨rfl, rfl⟩, rfl⟩
    · have c1' := o_nle c
      refine hs_bind (h3_at (x := x4) o2) (fun r2 hr2 => ?_)
      obtain ⟨e2, at2⟩ := hr2
      have y2 : r2.1.toInt = Y i := by
        rcases at2 with ⟨q, q1, q2, q3⟩ | ⟨q1, _⟩
        · obtain rfl : q = i := by omega
          rw [q3]; exact hR q (by omega)
        · exfalso; rw [hM] at q1; omega
      rw [e2]
      have hy := hY i (by omega)
      rw [show m - i = (m - (i + 1)) + 1 by omega] at B1 B2
      obtain ⟨R1, R2⟩ := room_0 B1 B2
      refine hs_bind (hs_and (h2_make L hN hK (x1 := x1) (x2 := r2.1) I S c0 c1 (by omega) (by omega) (fun z y => R1 z (by rw [← y2]; exact y)) (fun y => R2 (by rw [← y2]; exact y))) (ok_h (k_X2_make L hN (x1 := x1) (x2 := r2.1) (kk_2 L hK) I))) (fun r3 hr3 => ?_)
      obtain ⟨⟨g1, ⟨d, g2⟩, g3⟩, I3, _⟩ := hr3
      have st := mk_st (τ := τ) g3 (HT x1 r2.1 δ d r3.1 I S F5 g2)
      rw [y2] at g3 st
      refine hs_biv (fun x3' e3' => hs_biv (fun x4' e4' => ?_))
      have t4 := te_addc (c := 1) (n := 1) rfl x4 (by omega) (by omega)
      rw [← e4'] at t4
      obtain ⟨N1, N2⟩ := room_s g3 S (fun j a b => by have := sY i j a (by omega); omega) B1 B2
      rw [show m - i = (m - (i + 1)) + 1 by omega]
      refine hs_mono (ih (i + 1) x3' x4' r3.2 (by omega) (by omega) I3 (F5.t (f5_mf g1)) (mk_S g3 S) (by unfold mM; rw [g1.1 3 1 a2 (by decide) (by decide) (fun z => na z.2.2) (fun z => by omega)]; exact hM') (fun j hj => by unfold mR; rw [g1.2 b2 nb.1 nb.2.1 nb.2.2.1 nb.2.2.2]; exact hR j hj) N1 N2) (fun r hr => ?_)
      obtain ⟨k1, ts, k2, k3⟩ := hr
      exact ⟨g1.t k1, r3.1 :: ts, ⟨_, _, _, st, k2, rfl⟩, by rw [k3, e3']; rfl⟩
/-- a row's numbers that the other has not are dropped -/
theorem h2_dropBut {ad : List Nat} {h : hp} (L : Lay TLx ad h) {δ0 δb : dp} {N : Nat} (hN : 10000000 ≤ N) {K a2 b2 m : Nat} (hK : K < 4) {τ : TAU} (HT : HTc ad N h δ0 δb K τ) (k2 : q_K h.1 a2 = 3) (o2 : q_O h.1 3 0 a2 = some b2) (na : a2 ≠ Ad ad (76 + 6 * K)) (nb : b2 ≠ Ad ad 59 ∧ b2 ≠ Ad ad (77 + 6 * K) ∧ b2 ≠ Ad ad (78 + 6 * K) ∧ b2 ≠ Ad ad (79 + 6 * K)) {Y : Nat → Int} (hY : ∀ j, j < m → 0 ≤ Y j ∧ Y j ≤ 65536) (sY : ∀ i j : Nat, i < j → j < m → Y i < Y j) (hm : m ≤ 2000) {P : Int → Prop} {x4 : Int32} (h4 : x4.toInt = (m : Int)) : ∀ (f i p : Nat) (x2 x3 x5 : Int32) (δ : dp), x3.toInt = (p : Int) → x5.toInt = (i : Int) → i ≤ m → p ≤ i → CI ad h.1 δ0 δ → f5 ad δb δ → SR (cM ad δ K) (cR ad δ K) → SR (mM δ a2) (mR δ b2) → (∀ y, ME (mM δ a2) (mR δ b2) y ↔ P y) → cM ad δ K = (p : Int) + ((m - i : Nat) : Int) → (∀ j, i ≤ j → j < m → cR ad δ K (p + (j - i)) = Y j) → cN ad δ K + (cn (fun j => ¬ P (Y j)) i (m - i) : Nat) ≤ 1000 → hs (L_X2_dropAllBut_16 N h.1 (Ad ad (75 + 6 * K)) a2 f x2 x3 x4 x5 δ) (fun r => mf ad K δ r.2 ∧ ∃ ts, chn (stC τ) (lsf (fun j => P (Y j)) Y (m - i) i) (sCl ad δ K) (sCl ad r.2 K) ts ∧ r.1 = smt x2 ts) := by
  intro f
  induction f with
  | zero => intro i p x2 x3 x5 δ _ _ _ _ _ _ _ _ _ _ _ _; exact hs_none
  | succ f ih =>
    intro i p x2 x3 x5 δ h3 h5 hi hp I F5 S S2 HP hM hR B2
    unfold L_X2_dropAllBut_16 J_X2_dropAllBut_58
    refine hs_ite (fun c => ?_) (fun c => ?_)
    · have c1 := o_le c
      rw [show m - i = 0 by omega]
      exact hs_some ⟨mf.r, [], ⟨rfl, rfl⟩, rfl⟩
    · have c1 := o_nle c
      have hi' : i < m := by omega
      refine hs_at (lk_0 L hK) (hs_bind (h3_at (x := x3) (lk_r L hK)) (fun r2 hr2 => ?_))
      obtain ⟨e2, at2⟩ := hr2
      change AT (cM ad δ K) (cR ad δ K) _ _ at at2
      have cp : cR ad δ K p = Y i := by have := hR i (Nat.le_refl _) hi'; rw [show p + (i - i) = p by omega] at this; exact this
      have y2 : r2.1.toInt = Y i := by
        rcases at2 with ⟨q, q1, q2, q3⟩ | ⟨q1, _⟩
        · obtain rfl : q = p := by omega
          rw [q3, cp]
        · exfalso; rw [hM] at q1; omega
      rw [e2]
      have hy := hY i hi'
      have t5 := te_addc (c := 1) (n := 1) rfl x5 (by omega) (by omega)
      rw [show m - i = (m - (i + 1)) + 1 by omega] at B2
      refine hs_bind (h3_holds L hN (x := r2.1) k2 o2 I S2) (fun r3 hr3 => ?_)
      obtain ⟨e3, hm3⟩ := hr3
      rw [HP, y2] at hm3
      rw [e3, show m - i = (m - (i + 1)) + 1 by omega, lsf]
      rcases hm3 with ⟨w, pp⟩ | ⟨w, pp⟩
      · rw [w, if_pos pp]
        refine hs_ite (fun z => absurd z (by decide)) (fun _ => hs_biv (fun x3' e3' => hs_biv (fun x5' e5' => ?_)))
        have t3 := te_addc (c := 1) (n := 1) rfl x3 (by omega) (by omega)
        rw [← e3'] at t3
        rw [← e5'] at t5
        have l := cn_0 (P := fun j => ¬ P (Y j)) i (m - (i + 1))
        exact ih (i + 1) (p + 1) x2 x3' x5' δ (by omega) (by omega) (by omega) (by omega) I F5 S S2 HP (by omega) (fun j a b => by rw [show p + 1 + (j - (i + 1)) = p + (j - i) by omega]; exact hR j (by omega) b) (by omega)
      · rw [w, if_neg pp]
        refine hs_ite (fun _ => ?_) (fun z => absurd rfl z)
        rw [cn_1 i _ pp] at B2
        have me : ME (cM ad δ K) (cR ad δ K) r2.1.toInt := ⟨p, by omega, by rw [y2]; exact cp⟩
        refine hs_bind (hs_and (h2_make L hN hK (x1 := 1) (x2 := r2.1) I S (by decide) (by decide) (by omega) (by omega) (fun z => absurd z (by decide)) (fun _ => by omega)) (ok_h (k_X2_make L hN (x1 := 1) (x2 := r2.1) (kk_2 L hK) I))) (fun r4 hr4 => ?_)
        obtain ⟨⟨g1, ⟨d, g2⟩, g3⟩, I3, _⟩ := hr4
        have st := mk_st (τ := τ) g3 (HT 1 r2.1 δ d r4.1 I S F5 g2)
        have g3' := g3
        rw [show (1 : Int32).toInt = 1 from rfl, y2] at st
        rcases g3' with ⟨z, _⟩ | ⟨z, _⟩ | ⟨_, z, _⟩ | ⟨_, _, ⟨q, Q, Q2, D⟩, nn⟩
        · exact absurd z (by decide)
        · exact absurd z (by decide)
        · exact absurd me z
        · have qp : q = p := by
            rcases (show q < p ∨ q = p ∨ p < q by omega) with z | z | z
            · have := S q p z (by omega); omega
            · exact z
            · have := S p q z Q; omega
          subst qp
          refine hs_biv (fun x2' e2' => hs_biv (fun x5' e5' => ?_))
          rw [← e5'] at t5
          have eM : mM r4.2 a2 = mM δ a2 := by unfold mM; rw [g1.1 3 1 a2 (by decide) (by decide) (fun z => na z.2.2) (fun z => by omega)]
          have eR : mR r4.2 b2 = mR δ b2 := by funext j; unfold mR; rw [g1.2 b2 nb.1 nb.2.1 nb.2.2.1 nb.2.2.2]
          refine hs_mono (ih (i + 1) q x2' x3 x5' r4.2 h3 (by omega) (by omega) (by omega) I3 (F5.t (f5_mf g1)) (mk_S g3 S) (by rw [eM, eR]; exact S2) (by rw [eM, eR]; exact HP) (by rw [D.1]; omega) (fun j a b => ?_) (by rw [nn.1]; omega)) (fun r hr => ?_)
          · rw [D.2 _ (by omega), if_neg (by omega), show q + (j - (i + 1)) + 1 = q + (j - i) by omega]
            exact hR j (by omega) b
          · obtain ⟨k1, ts, k2', k3⟩ := hr
            exact ⟨g1.t k1, r4.1 :: ts, ⟨_, _, _, st, k2', rfl⟩, by rw [k3, e2']; rfl⟩
/-- how many are in the other row, too -/
theorem h3_common {ad : List Nat} {h : hp} (L : Lay TLx ad h) {δ0 : dp} {N : Nat} (hN : 10000000 ≤ N) {a b a2 b2 m : Nat} {x1 : Int32} (hb : q_O h.1 3 0 a = some b) (k2 : q_K h.1 a2 = 3) (o2 : q_O h.1 3 0 a2 = some b2) {δ : dp} (I : CI ad h.1 δ0 δ) (S2 : SR (mM δ a2) (mR δ b2)) (hM : mM δ a = (m : Int)) (hm : m ≤ 2000) : ∀ (f i z : Nat) (x3 x4 : Int32), x3.toInt = (z : Int) → z ≤ 2000 → x4.toInt = (i : Int) → i ≤ m → z ≤ i → hs (L_X3_commonFrom_5 N h.1 a x1 a2 f x3 x4 δ) (fun r => r.2 = δ ∧ r.1.toInt = (z : Int) + (cn (fun j => ME (mM δ a2) (mR δ b2) (mR δ b j)) i (m - i) : Nat)) := by
  intro f
  induction f with
  | zero => intro i z x3 x4 _ _ _ _ _; exact hs_none
  | succ f ih =>
    intro i z x3 x4 h3 hz h4 hi zi
    have hM' : (q_I δ 3 1 a).toInt = (m : Int) := hM
    unfold L_X3_commonFrom_5 J_X3_commonFrom_31
    refine hs_ite (fun c => ?_) (fun c => ?_)
    · have c1 := o_le c
      rw [show m - i = 0 by omega]
      exact hs_some ⟨rfl, by rw [h3]; rfl⟩
    · have c1 := o_nle c
      have tx := ti_tn x4
      refine hs_at hb (hs_gd (fun _ => ?_))
      rw [show x4.toNatClampNeg = i by omega]
      refine hs_bind (h3_holds L hN (x := q_R δ b i) k2 o2 I S2) (fun r hr => ?_)
      obtain ⟨e, hm3⟩ := hr
      rw [e, show m - i = (m - (i + 1)) + 1 by omega]
      have t4 := te_addc (c := 1) (n := 1) rfl x4 (by omega) (by omega)
      rcases hm3 with ⟨w, pp⟩ | ⟨w, pp⟩
      · rw [w, cn_1 i _ (show ME (mM δ a2) (mR δ b2) (mR δ b i) from pp)]
        refine hs_ite (fun z => absurd z (by decide)) (fun _ => hs_biv (fun x3' e3' => hs_biv (fun x4' e4' => ?_)))
        have t3 := te_addc (c := 1) (n := 1) rfl x3 (by omega) (by omega)
        rw [← e3'] at t3
        rw [← e4'] at t4
        refine hs_mono (ih (i + 1) (z + 1) x3' x4' (by omega) (by omega) (by omega) (by omega) (by omega)) (fun r hr => ⟨hr.1, by rw [hr.2]; omega⟩)
      · rw [w]
        refine hs_ite (fun _ => hs_biv (fun x4' e4' => ?_)) (fun z => absurd rfl z)
        rw [← e4'] at t4
        refine hs_mono (ih (i + 1) z x3 x4' h3 hz (by omega) (by omega) (by omega)) (fun r hr => ⟨hr.1, ?_⟩)
        rw [hr.2]
        show _ = _ + (((@ite Nat (ME (mM δ a2) (mR δ b2) (mR δ b i)) (Classical.propDecidable _) 1 0) + cn _ (i + 1) (m - (i + 1)) : Nat) : Int)
        rw [if_neg (show ¬ ME (mM δ a2) (mR δ b2) (mR δ b i) from pp)]
        omega
