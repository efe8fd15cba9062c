/-! joins and split of the reference, whole -/
/-- the reference's SHAPE untouched -/
def r3s (δ d : dp) (a0 : Nat) : Prop := q_I d 12 10 a0 = q_I δ 12 10 a0 ∧ q_I d 12 11 a0 = q_I δ 12 11 a0 ∧ q_I d 12 12 a0 = q_I δ 12 12 a0
theorem r3s_k {W : List (Nat × Nat)} {δ d : dp} {a0 : Nat} (u : kp W δ d) (h : (12, 10) ∉ W ∧ (12, 11) ∉ W ∧ (12, 12) ∉ W) : r3s δ d a0 := ⟨u 12 10 _ h.1, u 12 11 _ h.2.1, u 12 12 _ h.2.2⟩
theorem r3s.t {δ d e : dp} {a0 : Nat} (h : r3s δ d a0) (k : r3s d e a0) : r3s δ e a0 := ⟨k.1.trans h.1, k.2.1.trans h.2.1, k.2.2.trans h.2.2⟩
/-- the reference's count of TOUCHES says τ -/
def HTr (ad : List Nat) (N : Nat) (h : hp) (δ0 δb : dp) (H : Nat) (τ : TAU) : Prop := ∀ (x1 c x : Int32) (d d1 : dp) (t : Int32), x1.toInt = (H : Int) → RI ad h.1 δ0 d → hsr ad d H → r3s δb d (Ad ad 99) → D_X12_halves N h.1 (Ad ad 99) x1 c x d = some (t, d1) → τ c.toInt x.toInt (hM ad d H) (hR ad d H) t
theorem hs_ex {α β : Type} {o : Option α} {f : α → Option β} {Q : β → Prop} (k : ∀ r, o = some r → hs (f r) Q) : hs (o.bind f) Q := by
  cases o with
  | none => exact hs_none
  | some r => exact k r rfl
theorem hr_same {ad : List Nat} {V : List Nat} {δ d : dp} (w : kr ad V δ d) (hV : ∀ i ∈ [102, 103, 104, 105, 106], i ∉ V) : (∀ J, hM ad d J = hM ad δ J) ∧ (∀ J, hR ad d J = hR ad δ J) ∧ (∀ J, hN ad d J = hN ad δ J) ∧ (∀ J, nT ad d J = nT ad δ J) ∧ ∀ J, cF ad d J = cF ad δ J := by
  have e2 := w 102 (by decide) (by decide) (hV 102 (by decide))
  have e3 := w 103 (by decide) (by decide) (hV 103 (by decide))
  have e4 := w 104 (by decide) (by decide) (hV 104 (by decide))
  have e5 := w 105 (by decide) (by decide) (hV 105 (by decide))
  have e6 := w 106 (by decide) (by decide) (hV 106 (by decide))
  exact ⟨fun J => by unfold hM; rw [e3], fun J => by funext i; unfold hR; rw [e2], fun J => by unfold hN; rw [e6], fun J => by funext i; unfold nT; rw [e4], fun J => by funext i; unfold cF; rw [e5]⟩
theorem mr_eq {ad : List Nat} {δ δ1 d : dp} {H : Nat} {c x : Int} (eM : ∀ J, hM ad δ1 J = hM ad δ J) (eR : ∀ J, hR ad δ1 J = hR ad δ J) (eN : ∀ J, hN ad δ1 J = hN ad δ J) (eT : ∀ J, nT ad δ1 J = nT ad δ J) (eF : ∀ J, cF ad δ1 J = cF ad δ J) (m : mr ad H c x δ1 d) : mr ad H c x δ d := by
  unfold mr at m ⊢
  rw [eM, eR, eN, eT, eF] at m; exact m
theorem mfr_eq {ad : List Nat} {δ δ1 d : dp} {H : Nat} (eM : ∀ J, hM ad δ1 J = hM ad δ J) (eR : ∀ J, hR ad δ1 J = hR ad δ J) (eN : ∀ J, hN ad δ1 J = hN ad δ J) (eT : ∀ J, nT ad δ1 J = nT ad δ J) (eF : ∀ J, cF ad δ1 J = cF ad δ J) (m : mfr ad H δ1 d) : mfr ad H δ d := fun J n => by
  have := m J n
  rw [eM, eR, eN, eT, eF] at this; exact this
/-- a call that is kept -/
theorem hr_calls {ad : List Nat} {h : hp} (L : Lay TLx ad h) {δ0 δb : dp} {N : Nat} (hNN : 10000000 ≤ N) {H : Nat} {x1 c x : Int32} (hx : x1.toInt = (H : Int)) (hh : H < 4) (hc : c = 0 ∨ c = 1) {τ : TAU} (HT : HTr ad N h δ0 δb H τ) {δ : dp} (I : RI ad h.1 δ0 δ) (S : hsr ad δ H) (B3 : r3s δb δ (Ad ad 99)) (R1 : c.toInt = 0 → ¬ ME (hM ad δ H) (hR ad δ H) x.toInt → hM ad δ H < 2000) (R2 : chg c.toInt (hM ad δ H) (hR ad δ H) x.toInt → hN ad δ H < 1000) : hs (D_X12_calls N h.1 (Ad ad 99) x1 c x δ) (fun r => RI ad h.1 δ0 r.2 ∧ kp [(12, 36)] δ r.2 ∧ kr ad [102, 103, 104, 105, 106, 119] δ r.2 ∧ hsr ad r.2 H ∧ mfr ad H δ r.2 ∧ mr ad H c.toInt x.toInt δ r.2 ∧ τ c.toInt x.toInt (hM ad δ H) (hR ad δ H) r.1) := by
  have ka : q_K h.1 (Ad ad 99) = 12 := (lay_knd L (by decide)).trans (by decide)
  have old : hs (D_X12_calls N h.1 (Ad ad 99) x1 c x δ) (fun r => RI ad h.1 δ0 r.2 ∧ kp [(12, 36)] δ r.2 ∧ kr ad [102, 103, 104, 105, 106, 119] δ r.2 ∧ hsr ad r.2 H) := by
    rcases hc with rfl | rfl
    · exact hs_mono (ok_h (f12_cput L hNN (x := x) ka hx hh I S (fun z => ⟨R1 rfl z, R2 ⟨fun _ => z, fun _ => rfl⟩⟩))) (fun r hr => ⟨hr.1, hr.2.1, hr.2.2.1, hr.2.2.2.1⟩)
    · exact hs_mono (ok_h (f12_cdrop L hNN (x := x) ka hx hh I S (fun z => R2 ⟨fun q => absurd q (by decide), fun q => absurd z q⟩))) (fun r hr => ⟨hr.1, hr.2.1, hr.2.2.1, hr.2.2.2.1⟩)
  refine hs_mono (hs_and old (Q := fun r => mfr ad H δ r.2 ∧ mr ad H c.toInt x.toInt δ r.2 ∧ τ c.toInt x.toInt (hM ad δ H) (hR ad δ H) r.1) ?_) (fun r hr => ⟨hr.1.1, hr.1.2.1, hr.1.2.2.1, hr.1.2.2.2, hr.2⟩)
  unfold D_X12_calls
  refine hs_ex (fun r1 e1 => ?_)
  obtain ⟨t, d⟩ := r1
  have tt := HT x1 c x δ d t hx I S B3 e1
  obtain ⟨I1, ⟨u1, _, w1⟩⟩ := ok_h (k_X12_halves L hNN (x1 := x1) (x2 := c) (x3 := x) ka (by omega) (by omega) I) _ e1
  dsimp only at I1 u1 w1 ⊢
  obtain ⟨eM, eR, eN, eT, eF⟩ := hr_same w1 (by decide)
  have S1 : hsr ad d H := ⟨by rw [eM]; exact S.1, by rw [eM, eR]; exact S.2⟩
  refine hs_bind (hr_isThere L hNN (x := x) ka hx hh I1 S1) (fun r2 h2 => ?_)
  obtain ⟨e2, hm⟩ := h2
  rw [e2]
  rw [eM, eR] at hm
  have same : ∀ J, J ≠ H → hM ad d J = hM ad δ J ∧ hN ad d J = hN ad δ J ∧ (∀ i, i < 2000 → hR ad d J i = hR ad δ J i) ∧ ∀ i, i < 1000 → nT ad d J i = nT ad δ J i ∧ cF ad d J i = cF ad δ J i := fun J _ => ⟨eM J, eN J, fun i _ => by rw [eR], fun i _ => by rw [eT, eF]; exact ⟨rfl, rfl⟩⟩
  have keep : ∀ {cc : Int}, (cc = 0 ∧ ME (hM ad δ H) (hR ad δ H) x.toInt ∨ cc = 1 ∧ ¬ ME (hM ad δ H) (hR ad δ H) x.toInt) → mr ad H cc x.toInt δ d := fun {cc} z => by
    unfold mr
    rw [eM, eR, eN, eT, eF]
    rcases z with ⟨a, b⟩ | ⟨a, b⟩
    · exact Or.inl ⟨a, b, RE.r, rfl, fun _ _ => ⟨rfl, rfl⟩⟩
    · exact Or.inr (Or.inr (Or.inl ⟨a, b, RE.r, rfl, fun _ _ => ⟨rfl, rfl⟩⟩))
  rcases hc with rfl | rfl
  · refine hs_ite (fun _ => ?_) (fun z => absurd rfl z)
    rcases hm with ⟨w, me⟩ | ⟨w, me⟩
    · rw [w]
      refine hs_ite (fun z => absurd z (by decide)) (fun _ => ?_)
      unfold J_X12_calls_39 J_X12_calls_62
      exact hs_ite (fun z => absurd z (by decide)) (fun _ => hs_some ⟨same, keep (Or.inl ⟨rfl, me⟩), tt⟩)
    · rw [w]
      refine hs_ite (fun _ => ?_) (fun z => absurd rfl z)
      refine hr_come L hNN ka hx hh I1 S1 (by rw [eM]; exact R1 rfl me) (by rw [eN]; exact R2 ⟨fun _ => me, fun _ => rfl⟩) (by rw [eM, eR]; exact me) (fun e m1 m2 _ _ => ?_)
      unfold J_X12_calls_39 J_X12_calls_62
      exact hs_ite (fun z => absurd z (by decide)) (fun _ => hs_some ⟨mfr_eq eM eR eN eT eF m2, mr_eq eM eR eN eT eF m1, tt⟩)
  · refine hs_ite (fun z => absurd z (by decide)) (fun _ => ?_)
    unfold J_X12_calls_39 J_X12_calls_62
    refine hs_ite (fun _ => ?_) (fun z => absurd rfl z)
    rcases hm with ⟨w, me⟩ | ⟨w, me⟩
    · rw [w]
      refine hs_ite (fun z => absurd z (by decide)) (fun _ => ?_)
      refine hr_leave L hNN ka hx hh I1 S1 (by rw [eN]; exact R2 ⟨fun z => absurd z (by decide), fun z => absurd me z⟩) (by rw [eM, eR]; exact me) (fun e m1 m2 _ _ => hs_some ⟨mfr_eq eM eR eN eT eF m2, mr_eq eM eR eN eT eF m1, tt⟩)
    · rw [w]
      exact hs_ite (fun _ => hs_some ⟨same, keep (Or.inr ⟨rfl, me⟩), tt⟩) (fun z => absurd rfl z)
theorem mr_n {ad : List Nat} {K : Nat} {call x : Int} {δ δ1 : dp} (m : mr ad K call x δ δ1) (S : SR (hM ad δ K) (hR ad δ K)) : (chg call (hM ad δ K) (hR ad δ K) x ∧ hN ad δ1 K = hN ad δ K + 1 ∨ ¬ chg call (hM ad δ K) (hR ad δ K) x ∧ hN ad δ1 K = hN ad δ K) ∧ (call = 0 → chg call (hM ad δ K) (hR ad δ K) x ∧ hM ad δ1 K = hM ad δ K + 1 ∨ ¬ chg call (hM ad δ K) (hR ad δ K) x ∧ hM ad δ1 K = hM ad δ K) ∧ ∀ y, y ≠ x → (chg call (hM ad δ1 K) (hR ad δ1 K) y ↔ chg call (hM ad δ K) (hR ad δ K) y) := by
  unfold chg
  rcases m with ⟨k, q, e, n, _⟩ | ⟨k, q, ⟨p, P, J⟩, n, _⟩ | ⟨k, q, e, n, _⟩ | ⟨k, q, ⟨p, P, P2, J⟩, n, _⟩
  · exact ⟨Or.inr ⟨fun z => z.mp k q, n⟩, fun _ => Or.inr ⟨fun z => z.mp k q, e.1⟩, fun y _ => by rw [← ME_i (x := y) e]⟩
  · refine ⟨Or.inl ⟨⟨fun _ => q, fun _ => k⟩, n⟩, fun _ => Or.inl ⟨⟨fun _ => q, fun _ => k⟩, J.1⟩, fun y hy => ?_⟩
    rw [IN_m P.1 J y]
    have : (y = x ∨ ME (hM ad δ K) (hR ad δ K) y) ↔ ME (hM ad δ K) (hR ad δ K) y := ⟨fun z => z.resolve_left hy, Or.inr⟩
    rw [this]
  · exact ⟨Or.inr ⟨fun z => by have := z.mpr q; omega, n⟩, fun z => by omega, fun y _ => by rw [← ME_i (x := y) e]⟩
  · refine ⟨Or.inl ⟨⟨fun z => by omega, fun z => absurd q z⟩, n⟩, fun z => by omega, fun y hy => ?_⟩
    rw [DE_m S P P2 J y]
    have : (y ≠ x ∧ ME (hM ad δ K) (hR ad δ K) y) ↔ ME (hM ad δ K) (hR ad δ K) y := ⟨fun z => z.2, fun z => ⟨hy, z⟩⟩
    rw [this]
theorem rroom_s {ad : List Nat} {K : Nat} {call : Int} {Y : Nat → Int} {i n : Nat} {δ δ1 : dp} (m : mr ad K call (Y i) δ δ1) (S : SR (hM ad δ K) (hR ad δ K)) (inj : ∀ j, i < j → j < i + (n + 1) → Y j ≠ Y i) (B1 : call = 0 → hM ad δ K + (cn (fun j => chg call (hM ad δ K) (hR ad δ K) (Y j)) i (n + 1) : Nat) ≤ 2000) (B2 : hN ad δ K + (cn (fun j => chg call (hM ad δ K) (hR ad δ K) (Y j)) i (n + 1) : Nat) ≤ 1000) : (call = 0 → hM ad δ1 K + (cn (fun j => chg call (hM ad δ1 K) (hR ad δ1 K) (Y j)) (i + 1) n : Nat) ≤ 2000) ∧ hN ad δ1 K + (cn (fun j => chg call (hM ad δ1 K) (hR ad δ1 K) (Y j)) (i + 1) n : Nat) ≤ 1000 := by
  obtain ⟨a, b, c⟩ := mr_n m S
  have e : cn (fun j => chg call (hM ad δ1 K) (hR ad δ1 K) (Y j)) (i + 1) n = cn (fun j => chg call (hM ad δ K) (hR ad δ K) (Y j)) (i + 1) n := cn_congr n (i + 1) (fun j h1 h2 => c (Y j) (inj j (by omega) (by omega)))
  rw [e]
  have l := cn_0 (P := fun j => chg call (hM ad δ K) (hR ad δ K) (Y j)) i n
  refine ⟨fun z => ?_, ?_⟩
  · have B := B1 z
    rcases b z with ⟨h1, h2⟩ | ⟨_, h2⟩
    · rw [cn_1 i n h1] at B; omega
    · omega
  · rcases a with ⟨h1, h2⟩ | ⟨_, h2⟩
    · rw [cn_1 i n h1] at B2; omega
    · omega
theorem rroom_0 {ad : List Nat} {K : Nat} {call : Int} {Y : Nat → Int} {i n : Nat} {δ : dp} (B1 : call = 0 → hM ad δ K + (cn (fun j => chg call (hM ad δ K) (hR ad δ K) (Y j)) i (n + 1) : Nat) ≤ 2000) (B2 : hN ad δ K + (cn (fun j => chg call (hM ad δ K) (hR ad δ K) (Y j)) i (n + 1) : Nat) ≤ 1000) : (call = 0 → ¬ ME (hM ad δ K) (hR ad δ K) (Y i) → hM ad δ K < 2000) ∧ (chg call (hM ad δ K) (hR ad δ K) (Y i) → hN ad δ K < 1000) := by
  refine ⟨fun z y => ?_, fun y => ?_⟩
  · have B := B1 z
    rw [cn_1 i n (show chg call _ _ _ from ⟨fun _ => y, fun _ => z⟩)] at B; omega
  · rw [cn_1 i n y] at B2; omega
/-- what is told -/
def tl (ad : List Nat) (δ : dp) (j : Nat) : Int := (q_R δ (Ad ad 125) j).toInt
/-- what stays behind the calls -/
def fJ (ad : List Nat) (δ d : dp) : Prop := kp [(12, 36)] δ d ∧ kr ad [102, 103, 104, 105, 106, 119] δ d
theorem fJ.t {ad : List Nat} {δ d e : dp} (h : fJ ad δ d) (k : fJ ad d e) : fJ ad δ e := ⟨kp_w (by decide) (kp_t h.1 k.1), kr_w (by decide) (kr_t h.2 k.2)⟩
theorem fJ.r {ad : List Nat} {δ : dp} : fJ ad δ δ := ⟨kp_w (by decide) kp_r, kr_w (by decide) kr_r⟩
theorem hr_219 {ad : List Nat} {h : hp} (L : Lay TLx ad h) {δ0 δb : dp} {N : Nat} (hNN : 10000000 ≤ N) {A n0 : Nat} (hA : A < 4) {τ : TAU} (HT : HTr ad N h δ0 δb A τ) {x1 x2 x3 x4 : Int32} (hx : x1.toInt = (A : Int)) {cl : Int} (hcl : x3 = 0 ∧ cl = 0 ∨ x3 ≠ 0 ∧ cl = 1) (h4 : x4.toInt = (n0 : Int)) (hn : n0 ≤ 2000) {Y : Nat → Int} (sY : ∀ i j : Nat, i < j → j < n0 → Y i ≠ Y j) : ∀ (f i : Nat) (x7 x8 : Int32) (δ : dp), x8.toInt = (i : Int) → i ≤ n0 → RI ad h.1 δ0 δ → r3s δb δ (Ad ad 99) → hsr ad δ A → (∀ j, j < n0 → tl ad δ j = Y j) → (cl = 0 → hM ad δ A + (cn (fun j => chg cl (hM ad δ A) (hR ad δ A) (Y j)) i (n0 - i) : Nat) ≤ 2000) → hN ad δ A + (cn (fun j => chg cl (hM ad δ A) (hR ad δ A) (Y j)) i (n0 - i) : Nat) ≤ 1000 → hs (L_X12_joins_219 N h.1 (Ad ad 99) x1 x2 x3 f x4 x7 x8 δ) (fun r => fJ ad δ r.2 ∧ mfr ad A δ r.2 ∧ ∃ ts, chn (stR τ) (lst cl Y (n0 - i) i) (sRf ad δ A) (sRf ad r.2 A) ts ∧ r.1 = smt x7 ts) := by
  have ka : q_K h.1 (Ad ad 99) = 12 := (lay_knd L (by decide)).trans (by decide)
  obtain ⟨b48, o48, _⟩ := gO_12_48 L ka
  obtain rfl := gS_12_48 L ka o48
  intro f
  induction f with
  | zero => intro i x7 x8 δ _ _ _ _ _ _ _ _; exact hs_none
  | succ f ih =>
    intro i x7 x8 δ h8 hi I B3 S hT B1 B2
    unfold L_X12_joins_219
    refine hs_ite (fun c => ?_) (fun c => ?_)
    · have c1 := o_le c
      rw [show n0 - i = 0 by omega]
      exact hs_some ⟨fJ.r, mfr.r, [], ⟨rfl, rfl⟩, rfl⟩
    · have c1 := o_nle c
      have t8 := ti_tn x8
      have run : ∀ (ci : Int32), ci.toInt = cl → (ci = 0 ∨ ci = 1) → hs (J_X12_joins_239 N h.1 (Ad ad 99) x1 x2 x3 (L_X12_joins_219 N h.1 (Ad ad 99) x1 x2 x3 f) ci x1 (Ad ad 99) x7 x4 x8 δ) (fun r => fJ ad δ r.2 ∧ mfr ad A δ r.2 ∧ ∃ ts, chn (stR τ) (lst cl Y (n0 - i) i) (sRf ad δ A) (sRf ad r.2 A) ts ∧ r.1 = smt x7 ts) := by
        intro ci eci hci
        rw [show n0 - i = (n0 - (i + 1)) + 1 by omega] at B1 B2 ⊢
        obtain ⟨R1, R2⟩ := rroom_0 B1 B2
        have yi : (q_R δ (Ad ad 125) i).toInt = Y i := hT i (by omega)
        unfold J_X12_joins_239
        refine hs_at o48 (hs_gd (fun _ => ?_))
        rw [show x8.toNatClampNeg = i by omega]
        refine hs_bind (hr_calls L hNN (x := q_R δ (Ad ad 125) i) hx hA hci HT I S B3 (fun z y => R1 (by omega) (by rw [← yi]; exact y)) (fun y => R2 (by rw [← yi, ← eci]; exact y))) (fun r hr => ?_)
        obtain ⟨I1, u1, w1, S1, m1, g1, t1⟩ := hr
        rw [yi, eci] at g1 t1
        refine hs_biv (fun x7' e7 => hs_biv (fun x8' e8 => ?_))
        have y8 := te_addc (c := 1) (n := 1) rfl x8 (by omega) (by omega)
        rw [← e8] at y8
        obtain ⟨N1, N2⟩ := rroom_s g1 S.2 (fun j a b => fun z => sY i j a (by omega) z.symm) B1 B2
        have w125 : q_R r.2 (Ad ad 125) = q_R δ (Ad ad 125) := w1 125 (by decide) (by decide) (by decide)
        refine hs_mono (ih (i + 1) x7' x8' r.2 (by omega) (by omega) I1 (B3.t (r3s_k u1 (by decide))) S1 (fun j hj => by unfold tl; rw [w125]; exact hT j hj) N1 N2) (fun q hq => ?_)
        obtain ⟨k1, k2, ts, k3, k4⟩ := hq
        exact ⟨fJ.t ⟨u1, w1⟩ k1, m1.t k2, r.1 :: ts, ⟨sRf ad r.2 A, r.1, ts, ⟨g1, t1⟩, k3, rfl⟩, by rw [k4, e7]; rfl⟩
      rcases hcl with ⟨e, ec⟩ | ⟨e, ec⟩
      · exact hs_ite (fun _ => run 0 (by rw [ec]; rfl) (Or.inl rfl)) (fun z => absurd e z)
      · exact hs_ite (fun z => absurd z e) (fun _ => run 1 (by rw [ec]; rfl) (Or.inr rfl))
/-- what joins of the reference answers and leaves -/
def rJ3 (ad : List Nat) (τ : TAU) (how : Int) (A B : Nat) (δ : dp) (w : Int32) (d : dp) : Prop :=
  (how = 0 ∧ 2000 < hM ad δ A + (JF how (hM ad δ A) (hR ad δ A) (hM ad δ B) (hR ad δ B) : Int) ∧ w = -1 ∧ kr ad [125] δ d) ∨
  (¬ (how = 0 ∧ 2000 < hM ad δ A + (JF how (hM ad δ A) (hR ad δ A) (hM ad δ B) (hR ad δ B) : Int)) ∧ 1000 < hN ad δ A + (JF how (hM ad δ A) (hR ad δ A) (hM ad δ B) (hR ad δ B) : Int) ∧ w = -2 ∧ kr ad [125] δ d) ∨
  (¬ (how = 0 ∧ 2000 < hM ad δ A + (JF how (hM ad δ A) (hR ad δ A) (hM ad δ B) (hR ad δ B) : Int)) ∧ hN ad δ A + (JF how (hM ad δ A) (hR ad δ A) (hM ad δ B) (hR ad δ B) : Int) ≤ 1000 ∧ kr ad [102, 103, 104, 105, 106, 119, 125] δ d ∧ mfr ad A δ d ∧ ∃ ts, chn (stR τ) (JL how (hM ad δ A) (hR ad δ A) (hM ad δ B) (hR ad δ B)) (sRf ad δ A) (sRf ad d A) ts ∧ w = smt 0 ts)
/-- whether the k-th counts -/
def QJ (how M : Int) (R : Nat → Int) (N : Int) (Q : Nat → Int) (k : Nat) : Prop := (how = 0 ∧ ¬ ME M R (Q k)) ∨ (how = 1 ∧ ¬ ME N Q (R k)) ∨ (how ≠ 0 ∧ how ≠ 1 ∧ ME M R (Q k))
/-- the lists told so far -/
def TJ (how M : Int) (R : Nat → Int) (N : Int) (Q : Nat → Int) (m k : Nat) (T : Nat → Int) : Prop := (how ≠ 1 ∧ m = k ∧ ∀ j, j < k → T j = Q j) ∨ (how = 1 ∧ m = cn (QJ how M R N Q) 0 k ∧ m ≤ k ∧ lst 1 T m 0 ++ lsf (fun j => ME N Q (R j)) R (M.toNat - k) k = lsf (fun j => ME N Q (R j)) R M.toNat 0 ∧ (∀ i j, i < j → j < m → T i < T j) ∧ ∀ j, j < m → ∃ i, i < k ∧ T j = R i)
theorem TJ_c {how M N : Int} {R Q : Nat → Int} {m k : Nat} {T U : Nat → Int} (h : TJ how M R N Q m k T) (e : ∀ j, j < m → U j = T j) : TJ how M R N Q m k U := by
  rcases h with ⟨a, b, c⟩ | ⟨a, b, c, d, f, g⟩
  · exact Or.inl ⟨a, b, fun j hj => (e j (by omega)).trans (c j hj)⟩
  · refine Or.inr ⟨a, b, c, ?_, fun i j h1 h2 => by rw [e i (by omega), e j h2]; exact f i j h1 h2, fun j hj => by rw [e j hj]; exact g j hj⟩
    rw [lst_c m 0 (fun j _ hj => e j (by omega))]
    exact d
theorem hr_74 {ad : List Nat} {h : hp} (L : Lay TLx ad h) {δ0 δb : dp} {N : Nat} (hNN : 10000000 ≤ N) {A B : Nat} (hA : A < 4) (hB : B < 4) {τ : TAU} (HT : HTr ad N h δ0 δb A τ) {x1 x2 x3 x6 : Int32} (hx : x1.toInt = (A : Int)) (hy : x2.toInt = (B : Int)) (y0 : 0 ≤ x3.toInt) (y2 : x3.toInt ≤ 2) (h6 : x3.toInt = 1 ∧ x6 = x1 ∨ x3.toInt ≠ 1 ∧ x6 = x2) (SA : hsr ad δb A) (SB : hsr ad δb B) : ∀ (f k m : Nat) (x4 x5 x7 : Int32) (d : dp), x4.toInt = (m : Int) → x7.toInt = (k : Int) → x5.toInt = (cn (QJ x3.toInt (hM ad δb A) (hR ad δb A) (hM ad δb B) (hR ad δb B)) 0 k : Int) → (x3.toInt = 1 → (k : Int) ≤ hM ad δb A) → (x3.toInt ≠ 1 → (k : Int) ≤ hM ad δb B) → RI ad h.1 δ0 d → kp [] δb d → kr ad [125] δb d → TJ x3.toInt (hM ad δb A) (hR ad δb A) (hM ad δb B) (hR ad δb B) m k (tl ad d) → hs (L_X12_joins_74 N h.1 (Ad ad 99) x1 x2 x3 f x4 x5 x6 x7 d) (fun r => kp [(12, 36)] δb r.2 ∧ rJ3 ad τ x3.toInt A B δb r.1 r.2) := by
  have ka : q_K h.1 (Ad ad 99) = 12 := (lay_knd L (by decide)).trans (by decide)
  obtain ⟨b48, o48, _⟩ := gO_12_48 L ka
  obtain rfl := gS_12_48 L ka o48
  obtain ⟨b14, o14, _⟩ := gO_12_14 L ka
  obtain rfl := gS_12_14 L ka o14
  obtain ⟨b17, o17, _⟩ := gO_12_17 L ka
  obtain rfl := gS_12_17 L ka o17
  have z0 : (0 : Int32).toInt = 0 := rfl
  have z1 : (1 : Int32).toInt = 1 := rfl
  have z2 : (2 : Int32).toInt = 2 := rfl
  have z1000 : (1000 : Int32).toInt = 1000 := rfl
  have z2000 : (2000 : Int32).toInt = 2000 := rfl
  have tx1 := tnH hx
  have tx2 := tnH hy
  intro f
  induction f with
  | zero => intro k m x4 x5 x7 d _ _ _ _ _ _ _ _ _; exact hs_none
  | succ f ih =>
    intro k m x4 x5 x7 d h4 h7 h5 hkA hkB I u w T
    obtain ⟨eM, eR, eN, eT, eF⟩ := hr_same w (by decide)
    have SAd : hsr ad d A := ⟨by rw [eM]; exact SA.1, by rw [eM, eR]; exact SA.2⟩
    have SBd : hsr ad d B := ⟨by rw [eM]; exact SB.1, by rw [eM, eR]; exact SB.2⟩
    have bA := rb_103 L I A
    have bB := rb_103 L I B
    have bN := rb_106 L I A
    have vA : (q_R d (Ad ad 103) A).toInt = hM ad δb A := eM A
    have vB : (q_R d (Ad ad 103) B).toInt = hM ad δb B := eM B
    have vN : (q_R d (Ad ad 106) A).toInt = hN ad δb A := eN A
    have a0 := SA.1
    have b0 := SB.1
    have cnl := cn_le (P := QJ x3.toInt (hM ad δb A) (hR ad δb A) (hM ad δb B) (hR ad δb B)) k 0
    unfold L_X12_joins_74
    refine hs_at o14 (hs_gd (fun _ => ?_))
    refine hs_ite (fun c => ?_) (fun c => ?_)
    · -- the end
      have c1 := o_le c
      have kz : (x3.toInt = 1 ∧ (k : Int) = hM ad δb A) ∨ (x3.toInt ≠ 1 ∧ (k : Int) = hM ad δb B) := by
        rcases h6 with ⟨q, e⟩ | ⟨q, e⟩
        · rw [e, tx1] at c1; have := hkA q; exact Or.inl ⟨q, by omega⟩
        · rw [e, tx2] at c1; have := hkB q; exact Or.inr ⟨q, by omega⟩
      have jf : (JF x3.toInt (hM ad δb A) (hR ad δb A) (hM ad δb B) (hR ad δb B) : Int) = x5.toInt := by
        rw [h5]
        unfold JF
        rcases kz with ⟨q, e⟩ | ⟨q, e⟩
        · rw [if_neg (by omega), if_pos q, show (hM ad δb A).toNat = k by omega]
          exact congrArg Int.ofNat (cn_congr k 0 (fun j _ _ => ⟨fun z => Or.inr (Or.inl ⟨q, z⟩), fun z => by rcases z with ⟨z, _⟩ | ⟨_, z⟩ | ⟨_, z, _⟩; exact absurd z (by omega); exact z; exact absurd q z⟩))
        · by_cases q0 : x3.toInt = 0
          · rw [if_pos q0, show (hM ad δb B).toNat = k by omega]
            exact congrArg Int.ofNat (cn_congr k 0 (fun j _ _ => ⟨fun z => Or.inl ⟨q0, z⟩, fun z => by rcases z with ⟨_, z⟩ | ⟨z, _⟩ | ⟨z, _⟩; exact z; exact absurd z q; exact absurd q0 z⟩))
          · rw [if_neg q0, if_neg q, show (hM ad δb B).toNat = k by omega]
            exact congrArg Int.ofNat (cn_congr k 0 (fun j _ _ => ⟨fun z => Or.inr (Or.inr ⟨q0, q, z⟩), fun z => by rcases z with ⟨z, _⟩ | ⟨z, _⟩ | ⟨_, _, z⟩; exact absurd z q0; exact absurd z q; exact z⟩))
      have fin : ∀ cl : Int, (x3 = 0 ∧ cl = 0 ∨ x3 ≠ 0 ∧ cl = 1) → ¬ (x3.toInt = 0 ∧ 2000 < hM ad δb A + x5.toInt) → hs (J_X12_joins_195 N h.1 (Ad ad 99) x1 x2 x3 x4 x5 d) (fun r => kp [(12, 36)] δb r.2 ∧ rJ3 ad τ x3.toInt A B δb r.1 r.2) := by
        intro cl hcl nb
        unfold J_X12_joins_195
        refine hs_at o17 (hs_gd (fun _ => ?_))
        rw [tx1]
        have t1 := te_add (q_R d (Ad ad 106) A) x5 (by omega) (by omega)
        refine hs_ite (fun c2 => ?_) (fun c2 => ?_)
        · have c3 := o_le c2
          -- told, and the calls
          have tt : (∀ i j : Nat, i < j → j < m → tl ad d i < tl ad d j) ∧ (JL x3.toInt (hM ad δb A) (hR ad δb A) (hM ad δb B) (hR ad δb B) = lst cl (tl ad d) (m - 0) 0) ∧ cn (fun j => chg cl (hM ad d A) (hR ad d A) (tl ad d j)) 0 (m - 0) ≤ x5.toInt.toNat := by
            rw [Nat.sub_zero, eM, eR]
            rcases T with ⟨q, e, g⟩ | ⟨q, e, g, l, s, t⟩
            · subst e
              rcases kz with ⟨z, _⟩ | ⟨_, kz⟩
              · exact absurd z q
              refine ⟨fun i j a b => by rw [g i (by omega), g j b]; exact SB.2 i j a (by omega), ?_, ?_⟩
              · unfold JL
                rcases hcl with ⟨e0, ec⟩ | ⟨e0, ec⟩
                · rw [if_pos (by rw [e0]; rfl), ec, show (hM ad δb B).toNat = m by omega]
                  exact (lst_c m 0 (fun j _ hj => g j (by omega))).symm
                · rw [if_neg (show ¬ x3.toInt = 0 from fun z => e0 (i_eq (b := 0) z)), if_neg q, ec, show (hM ad δb B).toNat = m by omega]
                  exact (lst_c m 0 (fun j _ hj => g j (by omega))).symm
              · have : cn (fun j => chg cl (hM ad δb A) (hR ad δb A) (tl ad d j)) 0 m = cn (QJ x3.toInt (hM ad δb A) (hR ad δb A) (hM ad δb B) (hR ad δb B)) 0 m := cn_congr m 0 (fun j _ hj => by
                  rw [g j (by omega)]
                  unfold chg QJ
                  rcases hcl with ⟨e0, ec⟩ | ⟨e0, ec⟩
                  · have e0' : x3.toInt = 0 := by rw [e0]; rfl
                    exact ⟨fun z => Or.inl ⟨e0', z.mp ec⟩, fun z => by rcases z with ⟨_, z⟩ | ⟨z, _⟩ | ⟨z, _⟩; exact ⟨fun _ => z, fun _ => ec⟩; exact absurd z q; exact absurd e0' z⟩
                  · have e0' : x3.toInt ≠ 0 := fun z => e0 (i_eq z)
                    exact ⟨fun z => Or.inr (Or.inr ⟨e0', q, Classical.byContradiction fun y => by have := z.mpr y; omega⟩), fun z => by rcases z with ⟨z, _⟩ | ⟨z, _⟩ | ⟨_, _, z⟩; exact absurd z e0'; exact absurd z q; exact ⟨fun y => by omega, fun y => absurd z y⟩⟩)
                rw [this]; omega
            · rcases kz with ⟨_, kz⟩ | ⟨z, _⟩
              · have ec : cl = 1 := by
                  rcases hcl with ⟨e0, _⟩ | ⟨_, ec⟩
                  · rw [e0] at q; exact absurd q (by decide)
                  · exact ec
                refine ⟨s, ?_, ?_⟩
                · unfold JL
                  rw [if_neg (by omega), if_pos q, ← l, show (hM ad δb A).toNat - k = 0 by omega, ec]
                  exact List.append_nil _
                · have := cn_le (P := fun j => chg cl (hM ad δb A) (hR ad δb A) (tl ad d j)) m 0
                  omega
              · exact absurd q z
          obtain ⟨t2, t3, t4⟩ := tt
          have mk2 : (m : Int) ≤ 2000 := by
            rcases T with ⟨q, e, _⟩ | ⟨q, e, g, _⟩ <;> rcases kz with ⟨z, kz⟩ | ⟨z, kz⟩ <;> omega
          refine hs_mono (hr_219 L hNN (n0 := m) (Y := tl ad d) hA (δb := δb) HT hx hcl h4 (by omega) (fun i j a b z => by have := t2 i j a b; omega) N 0 0 0 d rfl (Nat.zero_le _) I (r3s_k u (by decide)) SAd (fun _ _ => rfl) (fun z => ?_) ?_) (fun r hr => ?_)
          · have eMA := eM A
            rcases hcl with ⟨e0, _⟩ | ⟨_, ec⟩
            · have e0' : x3.toInt = 0 := by rw [e0]; rfl
              omega
            · omega
          · rw [eN]; omega
          · obtain ⟨k1, k2, ts, k3, k4⟩ := hr
            refine ⟨kp_w (by decide) (kp_t u k1.1), Or.inr (Or.inr ⟨by rw [jf]; exact nb, by rw [jf]; omega, kr_w (by decide) (kr_t w k1.2), mfr_eq eM eR eN eT eF k2, ts, ?_, k4⟩)⟩
            rw [t3, show sRf ad δb A = sRf ad d A by unfold sRf; rw [eM, eR, eN, eT, eF]]
            exact k3
        · have c3 := o_nle c2
          exact hs_some ⟨kp_w (by decide) u, Or.inr (Or.inl ⟨by rw [jf]; exact nb, by rw [jf]; omega, rfl, w⟩)⟩
      refine hs_ite (fun c2 => ?_) (fun c2 => ?_)
      · have c3 : x3.toInt = 0 := by rw [c2]; rfl
        refine hs_at o14 (hs_gd (fun _ => ?_))
        rw [tx1]
        have t1 := te_add (q_R d (Ad ad 103) A) x5 (by omega) (by omega)
        refine hs_ite (fun c4 => ?_) (fun c4 => ?_)
        · have c5 := o_le c4
          exact fin 0 (Or.inl ⟨c2, rfl⟩) (by omega)
        · have c5 := o_nle c4
          exact hs_some ⟨kp_w (by decide) u, Or.inl ⟨c3, by rw [jf]; omega, rfl, w⟩⟩
      · have c3 := o_ne c2
        exact fin 1 (Or.inr ⟨c2, rfl⟩) (by omega)
    · -- one more
      have c1 := o_nle c
      have t7 := te_addc (c := 1) (n := 1) rfl x7 (by omega) (by omega)
      have kz : (x3.toInt = 1 ∧ (k : Int) < hM ad δb A) ∨ (x3.toInt ≠ 1 ∧ (k : Int) < hM ad δb B) := by
        rcases h6 with ⟨q, e⟩ | ⟨q, e⟩
        · rw [e, tx1] at c1; exact Or.inl ⟨q, by omega⟩
        · rw [e, tx2] at c1; exact Or.inr ⟨q, by omega⟩
      have mk : m ≤ k := by rcases T with ⟨_, e, _⟩ | ⟨_, _, e, _⟩ <;> omega
      -- the write and what follows
      have put : ∀ (v z : Int32) (dd : Nat), ((∀ m', m' = cn (QJ x3.toInt (hM ad δb A) (hR ad δb A) (hM ad δb B) (hR ad δb B)) 0 (k + 1) → m' = cn (QJ x3.toInt (hM ad δb A) (hR ad δb A) (hM ad δb B) (hR ad δb B)) 0 k + dd)) → (x3.toInt = 0 ∧ ((z = 0 ∧ dd = 1) ∨ (z ≠ 0 ∧ dd = 0)) ∨ x3.toInt = 1 ∧ dd = 1 ∨ x3.toInt = 2 ∧ ((z = 0 ∧ dd = 0) ∨ (z ≠ 0 ∧ dd = 1))) → (∀ d2, (∀ j, j < m → tl ad d2 j = tl ad d j) → tl ad d2 m = v.toInt → TJ x3.toInt (hM ad δb A) (hR ad δb A) (hM ad δb B) (hR ad δb B) (m + 1) (k + 1) (tl ad d2)) → hs (J_X12_joins_127 N h.1 (Ad ad 99) x1 x2 x3 (L_X12_joins_74 N h.1 (Ad ad 99) x1 x2 x3 f) x4 x5 x6 x7 v z d) (fun r => kp [(12, 36)] δb r.2 ∧ rJ3 ad τ x3.toInt A B δb r.1 r.2) := by
        intro v z dd hd hz hT
        have tx4 := ti_tn x4
        have cs := hd _ rfl
        have t4 := te_addc (c := 1) (n := 1) rfl x4 (by omega) (by omega)
        unfold J_X12_joins_127
        refine hs_at o48 (hs_gd (fun _ => ?_))
        rw [show x4.toNatClampNeg = m by omega]
        refine hs_bdv (fun d2 e2 => hs_biv (fun x4' e4 => ?_))
        rw [← e4] at t4
        have go : ∀ (q : Int32), q.toInt = (dd : Int) → hs (J_X12_joins_165 N h.1 (Ad ad 99) x1 x2 x3 (L_X12_joins_74 N h.1 (Ad ad 99) x1 x2 x3 f) q x5 x4' x6 x7 d2) (fun r => kp [(12, 36)] δb r.2 ∧ rJ3 ad τ x3.toInt A B δb r.1 r.2) := by
          intro q hq
          have t5 := te_add x5 q (by omega) (by omega)
          unfold J_X12_joins_165 J_X12_joins_168
          refine hs_biv (fun x5' e5 => hs_biv (fun x7' e7 => ?_))
          rw [← e5] at t5
          rw [← e7] at t7
          have I2 : RI ad h.1 δ0 d2 := by rw [e2]; exact I.sR L ⟨125, by decide, by decide, by decide, rfl⟩
          refine ih (k + 1) (m + 1) x4' x5' x7' d2 (by omega) (by omega) (by omega) (fun y => by rcases kz with ⟨_, kz⟩ | ⟨kz, _⟩; omega; exact absurd y kz) (fun y => by rcases kz with ⟨kz, _⟩ | ⟨_, kz⟩; exact absurd kz y; omega) I2 (fun c k a _ => by rw [e2]; exact u c k a (by simp)) (fun i a b c => by rw [e2, rR_o (ad_ne L (by omega) (by decide) (fun z => c (by rw [z]; exact List.mem_cons_self)))]; exact w i a b c) (hT d2 (fun j hj => ?_) ?_)
          · unfold tl; rw [sR_at e2 j, if_neg (by omega)]
          · unfold tl; rw [sR_at e2 m, if_pos rfl]
        refine hs_ite (fun c2 => ?_) (fun c2 => ?_)
        · have c3 : x3.toInt = 0 := by rw [c2]; rfl
          refine hs_ite (fun c4 => ?_) (fun c4 => ?_)
          · unfold J_X12_joins_150 J_X12_joins_164
            refine hs_ite (fun c5 => by have := o_eq c5; omega) (fun _ => go 1 ?_)
            rcases hz with ⟨_, ⟨_, e⟩ | ⟨e, _⟩⟩ | ⟨e, _⟩ | ⟨e, _⟩
            · omega
            · exact absurd c4 e
            · omega
            · omega
          · unfold J_X12_joins_160
            refine go 0 ?_
            rcases hz with ⟨_, ⟨e, _⟩ | ⟨_, e⟩⟩ | ⟨e, _⟩ | ⟨e, _⟩
            · exact absurd e c4
            · omega
            · omega
            · omega
        · have c3 := o_ne c2
          unfold J_X12_joins_150 J_X12_joins_164 J_X12_joins_160
          refine hs_ite (fun c5 => ?_) (fun c5 => ?_)
          · have c6 := o_eq c5
            refine hs_ite (fun c4 => go 0 ?_) (fun c4 => go 1 ?_)
            · rcases hz with ⟨e, _⟩ | ⟨e, _⟩ | ⟨_, ⟨_, e⟩ | ⟨e, _⟩⟩
              · omega
              · omega
              · omega
              · exact absurd c4 e
            · rcases hz with ⟨e, _⟩ | ⟨e, _⟩ | ⟨_, ⟨e, _⟩ | ⟨_, e⟩⟩
              · omega
              · omega
              · exact absurd e c4
              · omega
          · have c6 := o_ne c5
            refine go 1 ?_
            rcases hz with ⟨e, _⟩ | ⟨_, e⟩ | ⟨e, _⟩
            · omega
            · omega
            · omega
      have cl1 := cn_last (P := QJ x3.toInt (hM ad δb A) (hR ad δb A) (hM ad δb B) (hR ad δb B)) k 0
      rw [Nat.zero_add] at cl1
      rcases h6 with ⟨q, e6⟩ | ⟨q, e6⟩
      · -- meet
        rcases kz with ⟨_, kz⟩ | ⟨z, _⟩
        rotate_left
        · exact absurd q z
        have c3 : x3 = 1 := i_eq q
        refine hs_bind (hr_numberAt L hNN (x1 := x6) (x2 := x7) (H := A) ka (by rw [e6]; exact hx) hA I) (fun r hr => ?_)
        obtain ⟨e, at1⟩ := hr
        rw [e]
        rw [eM, eR] at at1
        have vk : r.1.toInt = hR ad δb A k := by
          rcases at1 with ⟨i, a1, a2, a3⟩ | ⟨a1, _⟩
          · obtain rfl : i = k := by omega
            exact a3
          · exfalso; omega
        refine hs_ite (fun _ => ?_) (fun z => absurd c3 z)
        unfold J_X12_joins_107
        refine hs_bind (hr_isThere L hNN (x := r.1) ka hy hB I SBd) (fun r2 h2 => ?_)
        obtain ⟨e2, hm⟩ := h2
        rw [e2]
        rw [eM, eR, vk] at hm
        refine hs_ite (fun _ => ?_) (fun z => absurd c3 z)
        rcases T with ⟨z, _⟩ | ⟨_, em, mk', l, s, t⟩
        · exact absurd q z
        have lsf1 : lsf (fun j => ME (hM ad δb B) (hR ad δb B) (hR ad δb A j)) (hR ad δb A) ((hM ad δb A).toNat - k) k = @ite _ (ME (hM ad δb B) (hR ad δb B) (hR ad δb A k)) (Classical.propDecidable _) (lsf (fun j => ME (hM ad δb B) (hR ad δb B) (hR ad δb A j)) (hR ad δb A) ((hM ad δb A).toNat - (k + 1)) (k + 1)) ((1, hR ad δb A k) :: lsf (fun j => ME (hM ad δb B) (hR ad δb B) (hR ad δb A j)) (hR ad δb A) ((hM ad δb A).toNat - (k + 1)) (k + 1)) := by
          rw [show (hM ad δb A).toNat - k = ((hM ad δb A).toNat - (k + 1)) + 1 by omega]; rfl
        rcases hm with ⟨g, me⟩ | ⟨g, me⟩
        · rw [g]
          refine hs_ite (fun z => absurd z (by decide)) (fun _ => ?_)
          have nq : ¬ QJ x3.toInt (hM ad δb A) (hR ad δb A) (hM ad δb B) (hR ad δb B) k := fun z => by rcases z with ⟨z, _⟩ | ⟨_, z⟩ | ⟨_, z, _⟩; omega; exact z me; exact z q
          rw [if_neg nq] at cl1
          unfold J_X12_joins_168
          refine hs_biv (fun x7' e7 => ?_)
          rw [← e7] at t7
          skip
          refine ih (k + 1) m x4 x5 x7' d h4 (by omega) (by omega) (fun _ => by omega) (fun y => absurd q y) I u w (Or.inr ⟨q, by omega, by omega, ?_, s, fun j hj => by obtain ⟨i, a, b⟩ := t j hj; exact ⟨i, by omega, b⟩⟩)
          rw [← l, lsf1, if_pos me]
        · rw [g]
          refine hs_ite (fun _ => ?_) (fun z => absurd rfl z)
          have yq : QJ x3.toInt (hM ad δb A) (hR ad δb A) (hM ad δb B) (hR ad δb B) k := Or.inr (Or.inl ⟨q, me⟩)
          rw [if_pos yq] at cl1
          skip
          refine put r.1 0 1 (fun m' hm' => by omega) (Or.inr (Or.inl ⟨q, rfl⟩)) (fun d2 hd2 hdm => Or.inr ⟨q, by omega, by omega, ?_, fun i j a b => ?_, fun j hj => ?_⟩)
          · rw [← l, lsf1, if_neg me, lst_s, lst_c m 0 (fun j _ hj => hd2 j (by omega)), Nat.zero_add, hdm, vk, List.append_assoc]; rfl
          · by_cases z : j = m
            · subst z
              rw [hdm, vk, hd2 i a]
              obtain ⟨i', a', b'⟩ := t i a
              rw [b']
              exact SA.2 i' k a' kz
            · rw [hd2 i (by omega), hd2 j (by omega)]; exact s i j a (by omega)
          · by_cases z : j = m
            · subst z
              exact ⟨k, by omega, by rw [hdm, vk]⟩
            · obtain ⟨i', a', b'⟩ := t j (by omega)
              exact ⟨i', by omega, by rw [hd2 j (by omega)]; exact b'⟩
      · -- join, part
        rcases kz with ⟨z, _⟩ | ⟨_, kz⟩
        · exact absurd z q
        have c3 : x3 ≠ 1 := fun z => q (by rw [z]; rfl)
        refine hs_bind (hr_numberAt L hNN (x1 := x6) (x2 := x7) (H := B) ka (by rw [e6]; exact hy) hB I) (fun r hr => ?_)
        obtain ⟨e, at1⟩ := hr
        rw [e]
        rw [eM, eR] at at1
        have vk : r.1.toInt = hR ad δb B k := by
          rcases at1 with ⟨i, a1, a2, a3⟩ | ⟨a1, _⟩
          · obtain rfl : i = k := by omega
            exact a3
          · exfalso; omega
        refine hs_ite (fun z => absurd z c3) (fun _ => ?_)
        unfold J_X12_joins_107
        refine hs_bind (hr_isThere L hNN (x := r.1) ka hx hA I SAd) (fun r2 h2 => ?_)
        obtain ⟨e2, hm⟩ := h2
        rw [e2]
        rw [eM, eR, vk] at hm
        refine hs_ite (fun z => absurd z c3) (fun _ => ?_)
        rcases T with ⟨_, em, g⟩ | ⟨z, _⟩
        rotate_left
        · exact absurd z q
        subst em
        have tj : ∀ d2, (∀ j, j < m → tl ad d2 j = tl ad d j) → tl ad d2 m = r.1.toInt → TJ x3.toInt (hM ad δb A) (hR ad δb A) (hM ad δb B) (hR ad δb B) (m + 1) (m + 1) (tl ad d2) := fun d2 hd2 hdm => Or.inl ⟨q, rfl, fun j hj => by
          by_cases z : j = m
          · subst z; rw [hdm, vk]
          · rw [hd2 j (by omega)]; exact g j (by omega)⟩
        skip
        by_cases q0 : x3.toInt = 0
        · rcases hm with ⟨g1, me⟩ | ⟨g1, me⟩
          · have nq : ¬ QJ x3.toInt (hM ad δb A) (hR ad δb A) (hM ad δb B) (hR ad δb B) m := fun z => by rcases z with ⟨_, z⟩ | ⟨z, _⟩ | ⟨z, _⟩; exact z me; exact q z; exact z q0
            rw [if_neg nq] at cl1
            exact put r.1 r2.1 0 (fun m' hm' => by omega) (Or.inl ⟨q0, Or.inr ⟨by rw [g1]; decide, rfl⟩⟩) tj
          · have yq : QJ x3.toInt (hM ad δb A) (hR ad δb A) (hM ad δb B) (hR ad δb B) m := Or.inl ⟨q0, me⟩
            rw [if_pos yq] at cl1
            exact put r.1 r2.1 1 (fun m' hm' => by omega) (Or.inl ⟨q0, Or.inl ⟨g1, rfl⟩⟩) tj
        · rcases hm with ⟨g1, me⟩ | ⟨g1, me⟩
          · have yq : QJ x3.toInt (hM ad δb A) (hR ad δb A) (hM ad δb B) (hR ad δb B) m := Or.inr (Or.inr ⟨q0, q, me⟩)
            rw [if_pos yq] at cl1
            exact put r.1 r2.1 1 (fun m' hm' => by omega) (Or.inr (Or.inr ⟨by omega, Or.inr ⟨by rw [g1]; decide, rfl⟩⟩)) tj
          · have nq : ¬ QJ x3.toInt (hM ad δb A) (hR ad δb A) (hM ad δb B) (hR ad δb B) m := fun z => by rcases z with ⟨z, _⟩ | ⟨z, _⟩ | ⟨_, _, z⟩; exact q0 z; exact q z; exact me z
            rw [if_neg nq] at cl1
            exact put r.1 r2.1 0 (fun m' hm' => by omega) (Or.inr (Or.inr ⟨by omega, Or.inl ⟨g1, rfl⟩⟩)) tj
