section
/-! houses joined, met, parted, split -/
noncomputable def cn (P : Nat → Prop) : Nat → Nat → Nat
  | _, 0 => 0
  | k, m + 1 => (@ite Nat (P k) (Classical.propDecidable _) 1 0) + cn P (k + 1) m
theorem cn_mono {P Q : Nat → Prop} : ∀ m k, (∀ j, k ≤ j → j < k + m → P j → Q j) → cn P k m ≤ cn Q k m := by
  intro m
  induction m with
  | zero => intro k _; exact Nat.le_refl _
  | succ m ih =>
    intro k h
    have i1 := ih (k + 1) (fun j a b => h j (by omega) (by omega))
    have i2 := h k (Nat.le_refl _) (by omega)
    show (@ite Nat (P k) (Classical.propDecidable _) 1 0) + cn P (k + 1) m ≤ (@ite Nat (Q k) (Classical.propDecidable _) 1 0) + cn Q (k + 1) m
    by_cases c : P k
    · rw [if_pos c, if_pos (i2 c)]; omega
    · rw [if_neg c]
      by_cases c2 : Q k
      · rw [if_pos c2]; omega
      · rw [if_neg c2]; omega
theorem cn_congr {P Q : Nat → Prop} (m k : Nat) (h : ∀ j, k ≤ j → j < k + m → (P j ↔ Q j)) : cn P k m = cn Q k m := Nat.le_antisymm (cn_mono m k (fun j a b => (h j a b).mp)) (cn_mono m k (fun j a b => (h j a b).mpr))
theorem cn_last {P : Nat → Prop} : ∀ m k, cn P k (m + 1) = cn P k m + (@ite Nat (P (k + m)) (Classical.propDecidable _) 1 0) := by
  intro m
  induction m with
  | zero =>
    intro k
    show (@ite Nat (P k) (Classical.propDecidable _) 1 0) + 0 = 0 + (@ite Nat (P (k + 0)) (Classical.propDecidable _) 1 0)
    rw [Nat.add_zero, Nat.add_zero, Nat.zero_add]
  | succ m ih =>
    intro k
    show (@ite Nat (P k) (Classical.propDecidable _) 1 0) + cn P (k + 1) (m + 1) = (@ite Nat (P k) (Classical.propDecidable _) 1 0) + cn P (k + 1) m + (@ite Nat (P (k + (m + 1))) (Classical.propDecidable _) 1 0)
    rw [ih (k + 1), show k + 1 + m = k + (m + 1) by omega]
    omega
theorem cn_le {P : Nat → Prop} : ∀ m k, cn P k m ≤ m := by
  intro m
  induction m with
  | zero => intro k; exact Nat.le_refl _
  | succ m ih =>
    intro k
    have := ih (k + 1)
    show (@ite Nat (P k) (Classical.propDecidable _) 1 0) + cn P (k + 1) m ≤ m + 1
    by_cases c : P k
    · rw [if_pos c]; omega
    · rw [if_neg c]; omega
theorem cn_1 {P : Nat → Prop} (k m : Nat) (h : P k) : cn P k (m + 1) = cn P (k + 1) m + 1 := by
  show (@ite Nat (P k) (Classical.propDecidable _) 1 0) + cn P (k + 1) m = _
  rw [if_pos h]; omega
theorem cn_0 {P : Nat → Prop} (k m : Nat) : cn P (k + 1) m ≤ cn P k (m + 1) := by
  show _ ≤ (@ite Nat (P k) (Classical.propDecidable _) 1 0) + cn P (k + 1) m
  omega
def tol (ad : List Nat) (δ : dp) (j : Nat) : Int32 := q_R δ (Ad ad 125) j
/-- the numbers told come into a house -/
theorem fl_jput {ad : List Nat} {h : hp} (L : Lay TLx ad h) {δ0 : dp} {N : Nat} (hNN : 10000000 ≤ N) {a0 A n0 : Nat} {x1 x2 x3 x4 : Int32} (ka : q_K h.1 a0 = 12) (hx : x1.toInt = (A : Int)) (hA : A < 4) (h3 : x3 = 0) (h4 : x4.toInt = (n0 : Int)) (hn0 : n0 ≤ 2000) : ∀ (n k : Nat) (s x8 : Int32) (δ : dp), x8.toInt = (k : Int) → k ≤ n0 → RI ad h.1 δ0 δ → hsr ad δ A → hM ad δ A + (cn (fun j => ¬ hmem ad δ A (tol ad δ j)) k (n0 - k) : Nat) ≤ 2000 → hN ad δ A + (cn (fun j => ¬ hmem ad δ A (tol ad δ j)) k (n0 - k) : Nat) ≤ 1000 → (∀ j, j < n0 → rg a0 δ (tol ad δ j)) → n0 - k < n → ok (L_X12_joins_219 N h.1 a0 x1 x2 x3 n x4 s x8 δ) (fun r => RI ad h.1 δ0 r.2 ∧ kp [(12, 36)] δ r.2 ∧ kr ad [102, 103, 104, 105, 106, 119] δ r.2 ∧ hsr ad r.2 A ∧ hkeep ad δ r.2 A ∧ ∀ y, hmem ad r.2 A y → hmem ad δ A y ∨ rg a0 δ y) := by
  intro n
  induction n with
  | zero => intro k s x8 δ h1 h2 I S c1 c2 tg hn; exfalso; omega
  | succ n ih =>
    intro k s x8 δ h1 h2 I S c1 c2 tg hn
    have e0 : (0 : Int32).toInt = 0 := rfl
    unfold L_X12_joins_219
    refine ok_ite (fun c => ?_) (fun c => ?_)
    · exact ok_some ⟨I, kp_w (by decide) kp_r, kr_w (by decide) kr_r, S, hkeep.r, fun y hy => Or.inl hy⟩
    · have g1 := o_nle c
      refine ok_ite (fun _ => ?_) (fun c => absurd h3 c)
      unfold J_X12_joins_239
      obtain ⟨b, ob, _, nb, _⟩ := gO_12_48 L ka
      obtain rfl := gS_12_48 L ka ob
      have t8 := ti_tn x8
      refine ok_at ob ?_
      refine ok_gd (fun z => ?_) ?_
      · rcases z with z | z
        · have := o_lt z; omega
        · omega
      have ek : x8.toNatClampNeg = k := by omega
      rw [ek]
      have em : n0 - k = (n0 - (k + 1)) + 1 := by omega
      refine ok_bind (f12_cput L hNN (x := tol ad δ k) ka hx hA I S (fun nm => ?_)) (fun r hr => ?_)
      · rw [em, cn_1 k _ nm] at c1 c2
        omega
      obtain ⟨i1, u1, w1, S1, k1, mm, mb, hc⟩ := hr
      have eg : ∀ y, rg a0 r.2 y ↔ rg a0 δ y := fun y => rg_k (u1 12 10 a0 (by decide))
      refine ok_biv (fun s2 _ => ?_)
      refine ok_biv (fun y ey => ?_)
      have hy : y.toInt = x8.toInt + 1 := by rw [ey]; exact (te_addc (c := 1) (n := 1) rfl x8 (by omega) (by omega)).1
      have tl : ∀ j, tol ad r.2 j = tol ad δ j := fun j => by unfold tol; rw [w1 125 (by decide) (by decide) (by decide)]
      have cm : cn (fun j => ¬ hmem ad r.2 A (tol ad r.2 j)) (k + 1) (n0 - (k + 1)) ≤ cn (fun j => ¬ hmem ad δ A (tol ad δ j)) (k + 1) (n0 - (k + 1)) := cn_mono _ _ (fun j _ _ hj hm => hj (by rw [tl]; exact mm _ hm))
      have c0 := cn_0 (P := fun j => ¬ hmem ad δ A (tol ad δ j)) k (n0 - (k + 1))
      rw [em] at c1 c2
      refine ok_mono (ih (k + 1) s2 y r.2 (by omega) (by omega) i1 S1 ?_ ?_ (fun j hj => by rw [eg, tl]; exact tg j hj) (by omega)) (fun r2 hr2 => ?_)
      · rcases hc with ⟨_, e1, _⟩ | ⟨nm, _, e1, _⟩
        · omega
        · rw [cn_1 k _ nm] at c1; omega
      · rcases hc with ⟨_, _, e1⟩ | ⟨nm, _, _, e1⟩
        · omega
        · rw [cn_1 k _ nm] at c2; omega
      · obtain ⟨i2, u2, w2, S2, k2, b2⟩ := hr2
        refine ⟨i2, kp_w (by decide) (kp_t u1 u2), kr_w (by decide) (kr_t w1 w2), S2, k1.t k2, fun y hy => ?_⟩
        rcases b2 y hy with z | z
        · rcases mb y z with z | z
          · exact Or.inl z
          · rw [z]; exact Or.inr (tg k (by omega))
        · exact Or.inr ((eg y).mp z)
/-- the numbers told leave a house -/
theorem fl_jdrop {ad : List Nat} {h : hp} (L : Lay TLx ad h) {δ0 : dp} {N : Nat} (hNN : 10000000 ≤ N) {a0 A n0 : Nat} {x1 x2 x3 x4 : Int32} (ka : q_K h.1 a0 = 12) (hx : x1.toInt = (A : Int)) (hA : A < 4) (h3 : x3 ≠ 0) (h4 : x4.toInt = (n0 : Int)) (hn0 : n0 ≤ 2000) : ∀ (n k : Nat) (s x8 : Int32) (δ : dp), x8.toInt = (k : Int) → k ≤ n0 → RI ad h.1 δ0 δ → hsr ad δ A → hN ad δ A + (cn (fun j => hmem ad δ A (tol ad δ j)) k (n0 - k) : Nat) ≤ 1000 → n0 - k < n → ok (L_X12_joins_219 N h.1 a0 x1 x2 x3 n x4 s x8 δ) (fun r => RI ad h.1 δ0 r.2 ∧ kp [(12, 36)] δ r.2 ∧ kr ad [102, 103, 104, 105, 106, 119] δ r.2 ∧ hsr ad r.2 A ∧ hkeep ad δ r.2 A ∧ ∀ y, hmem ad r.2 A y → hmem ad δ A y ∨ rg a0 δ y) := by
  intro n
  induction n with
  | zero => intro k s x8 δ h1 h2 I S c2 hn; exfalso; omega
  | succ n ih =>
    intro k s x8 δ h1 h2 I S c2 hn
    have e0 : (0 : Int32).toInt = 0 := rfl
    unfold L_X12_joins_219
    refine ok_ite (fun c => ?_) (fun c => ?_)
    · exact ok_some ⟨I, kp_w (by decide) kp_r, kr_w (by decide) kr_r, S, hkeep.r, fun y hy => Or.inl hy⟩
    · have g1 := o_nle c
      refine ok_ite (fun c => absurd c h3) (fun _ => ?_)
      unfold J_X12_joins_239
      obtain ⟨b, ob, _, nb, _⟩ := gO_12_48 L ka
      obtain rfl := gS_12_48 L ka ob
      have t8 := ti_tn x8
      refine ok_at ob ?_
      refine ok_gd (fun z => ?_) ?_
      · rcases z with z | z
        · have := o_lt z; omega
        · omega
      have ek : x8.toNatClampNeg = k := by omega
      rw [ek]
      have em : n0 - k = (n0 - (k + 1)) + 1 := by omega
      refine ok_bind (f12_cdrop L hNN (x := tol ad δ k) ka hx hA I S (fun hm => ?_)) (fun r hr => ?_)
      · rw [em, cn_1 k _ hm] at c2
        omega
      obtain ⟨i1, u1, w1, S1, k1, mm, hc⟩ := hr
      have eg : ∀ y, rg a0 r.2 y ↔ rg a0 δ y := fun y => rg_k (u1 12 10 a0 (by decide))
      refine ok_biv (fun s2 _ => ?_)
      refine ok_biv (fun y ey => ?_)
      have hy : y.toInt = x8.toInt + 1 := by rw [ey]; exact (te_addc (c := 1) (n := 1) rfl x8 (by omega) (by omega)).1
      have tl : ∀ j, tol ad r.2 j = tol ad δ j := fun j => by unfold tol; rw [w1 125 (by decide) (by decide) (by decide)]
      have cm : cn (fun j => hmem ad r.2 A (tol ad r.2 j)) (k + 1) (n0 - (k + 1)) ≤ cn (fun j => hmem ad δ A (tol ad δ j)) (k + 1) (n0 - (k + 1)) := cn_mono _ _ (fun j _ _ hj => by rw [tl] at hj; exact mm _ hj)
      have c0 := cn_0 (P := fun j => hmem ad δ A (tol ad δ j)) k (n0 - (k + 1))
      rw [em] at c2
      refine ok_mono (ih (k + 1) s2 y r.2 (by omega) (by omega) i1 S1 ?_ (by omega)) (fun r2 hr2 => ?_)
      · rcases hc with ⟨_, _, e1⟩ | ⟨hm, _, e1⟩
        · omega
        · rw [cn_1 k _ hm] at c2; omega
      · obtain ⟨i2, u2, w2, S2, k2, b2⟩ := hr2
        exact ⟨i2, kp_w (by decide) (kp_t u1 u2), kr_w (by decide) (kr_t w1 w2), S2, k1.t k2, fun y hy => (b2 y hy).imp (mm y) (eg y).mp⟩
theorem h_all {ad : List Nat} {δ δ1 : dp} (h2 : q_R δ1 (Ad ad 102) = q_R δ (Ad ad 102)) (h3 : q_R δ1 (Ad ad 103) = q_R δ (Ad ad 103)) {K : Nat} : (hsr ad δ K → hsr ad δ1 K) ∧ ∀ y, hmem ad δ1 K y ↔ hmem ad δ K y := by
  have g := h_rows h2 h3 K
  refine ⟨fun S => ⟨by rw [g.1]; exact S.1, fun i j a b => by rw [g.1] at b; rw [g.2, g.2]; exact S.2 i j a b⟩, fun y => ?_⟩
  unfold hmem
  rw [g.1]
  constructor
  · rintro ⟨i, a, b⟩; exact ⟨i, a, by rw [← g.2]; exact b⟩
  · rintro ⟨i, a, b⟩; exact ⟨i, a, by rw [g.2]; exact b⟩
set_option maxHeartbeats 4000000 in
theorem fl_j74 {ad : List Nat} {h : hp} (L : Lay TLx ad h) {δ0 : dp} {N : Nat} (hNN : 10000000 ≤ N) {a0 A B F : Nat} {x1 x2 x3 x6 : Int32} (ka : q_K h.1 a0 = 12) (hx : x1.toInt = (A : Int)) (hA : A < 4) (hy : x2.toInt = (B : Int)) (hB : B < 4) (hf : x6.toInt = (F : Int)) (hF : F < 4) {Q : Int32 → Prop} {δb : dp} (S : ∀ K, K < 4 → hok ad a0 δb K) (q0 : x3 = 0 → ∀ y, Q y ↔ ¬ hmem ad δb A y) (q1 : x3 = 1 → ∀ y, Q y) (q2 : x3 ≠ 0 → x3 ≠ 1 → x3 = 2 ∧ ∀ y, Q y ↔ hmem ad δb A y) : ∀ (n m k : Nat) (x4 x5 x7 : Int32) (δ : dp), x4.toInt = (m : Int) → m ≤ k → x7.toInt = (k : Int) → k ≤ 2000 → x5.toInt = ((cn (fun j => Q (tol ad δ j)) 0 m : Nat) : Int) → RI ad h.1 δ0 δ → kp [] δb δ → kr ad [125] δb δ → (∀ j, j < m → rg a0 δ (tol ad δ j)) → 2000 - k < n → ok (L_X12_joins_74 N h.1 a0 x1 x2 x3 n x4 x5 x6 x7 δ) (fun r => RI ad h.1 δ0 r.2 ∧ kp [(12, 36)] δb r.2 ∧ kr ad [102, 103, 104, 105, 106, 119, 125] δb r.2 ∧ ∀ K, K < 4 → hok ad a0 r.2 K) := by
  intro n
  induction n with
  | zero => intro m k x4 x5 x7 δ h4 hm h7 hk h5 I u w tg hn; exfalso; omega
  | succ n ih =>
    intro m k x4 x5 x7 δ h4 hm h7 hk h5 I u w tg hn
    have e0 : (0 : Int32).toInt = 0 := rfl
    have tf := tnH hf
    have tx := tnH hx
    have b2 := w 102 (by decide) (by decide) (by decide)
    have b3 := w 103 (by decide) (by decide) (by decide)
    have b6 := w 106 (by decide) (by decide) (by decide)
    have SA : ∀ K, K < 4 → hsr ad δ K := fun K hK => (h_all b2 b3).1 (S K hK).1
    have eg : ∀ y, rg a0 δ y ↔ rg a0 δb y := fun y => rg_k (u 12 10 a0 (by decide))
    have mA : ∀ K y, hmem ad δ K y ↔ hmem ad δb K y := fun K y => (h_all b2 b3).2 y
    have SO : ∀ K, K < 4 → hok ad a0 δ K := fun K hK => ⟨SA K hK, fun y hy => (eg y).mpr ((S K hK).2 y ((mA K y).mp hy))⟩
    have cl := cn_le (P := fun j => Q (tol ad δ j)) m 0
    obtain ⟨bm, om, _, nm⟩ := gO_12_14 L ka
    obtain rfl := gS_12_14 L ka om
    obtain ⟨bt, ot, _, nt⟩ := gO_12_17 L ka
    obtain rfl := gS_12_17 L ka ot
    obtain ⟨bo', oo, _, no, wo⟩ := gO_12_48 L ka
    obtain rfl := gS_12_48 L ka oo
    have hBF : -1000 ≤ hM ad δ F ∧ hM ad δ F ≤ 2000 := rb_103 L I F
    have hBA : -1000 ≤ hM ad δ A ∧ hM ad δ A ≤ 2000 := rb_103 L I A
    have hNA : 0 ≤ hN ad δ A ∧ hN ad δ A ≤ 1000 := rb_106 L I A
    have vA : (q_R δ (Ad ad 103) A).toInt = hM ad δ A := rfl
    have vN : (q_R δ (Ad ad 106) A).toInt = hN ad δ A := rfl
    have vF : (q_R δ (Ad ad 103) F).toInt = hM ad δ F := rfl
    have fin : ∀ v : Int32, ok (some (v, δ)) (fun r => RI ad h.1 δ0 r.2 ∧ kp [(12, 36)] δb r.2 ∧ kr ad [102, 103, 104, 105, 106, 119, 125] δb r.2 ∧ ∀ K, K < 4 → hok ad a0 r.2 K) := fun v => ok_some ⟨I, kp_w (by decide) u, kr_w (by decide) w, SO⟩
    unfold L_X12_joins_74
    refine ok_at om ?_
    refine ok_gd (fun z => ?_) ?_
    · rcases z with z | z
      · have := o_lt z; omega
      · omega
    rw [tf]
    refine ok_ite (fun c => ?_) (fun c => ?_)
    · -- all told: the calls
      have t1 := te_add (q_R δ (Ad ad 103) A) x5 (by omega) (by omega)
      have t2 := te_add (q_R δ (Ad ad 106) A) x5 (by omega) (by omega)
      have J : (x3 = 0 → hM ad δ A + x5.toInt ≤ 2000) → ok (J_X12_joins_195 N h.1 a0 x1 x2 x3 x4 x5 δ) (fun r => RI ad h.1 δ0 r.2 ∧ kp [(12, 36)] δb r.2 ∧ kr ad [102, 103, 104, 105, 106, 119, 125] δb r.2 ∧ ∀ K, K < 4 → hok ad a0 r.2 K) := fun hp => by
        unfold J_X12_joins_195
        refine ok_at ot ?_
        refine ok_gd (fun z => ?_) ?_
        · rcases z with z | z
          · have := o_lt z; omega
          · omega
        rw [tx]
        have f1000 : (1000 : Int32).toInt = 1000 := rfl
        refine ok_ite (fun c2 => ?_) (fun c2 => fin _)
        have c3 := o_le c2
        have last : ∀ r : Int32 × dp, (RI ad h.1 δ0 r.2 ∧ kp [(12, 36)] δ r.2 ∧ kr ad [102, 103, 104, 105, 106, 119] δ r.2 ∧ hsr ad r.2 A ∧ hkeep ad δ r.2 A ∧ ∀ y, hmem ad r.2 A y → hmem ad δ A y ∨ rg a0 δ y) → RI ad h.1 δ0 r.2 ∧ kp [(12, 36)] δb r.2 ∧ kr ad [102, 103, 104, 105, 106, 119, 125] δb r.2 ∧ ∀ K, K < 4 → hok ad a0 r.2 K := fun r hr => by
          obtain ⟨i2, u2, w2, S2, k2, b2⟩ := hr
          have eg2 : ∀ y, rg a0 r.2 y ↔ rg a0 δ y := fun y => rg_k (u2 12 10 a0 (by decide))
          refine ⟨i2, kp_w (by decide) (kp_t u u2), kr_w (by decide) (kr_t w w2), fun K hK => ?_⟩
          by_cases e : K = A
          · rw [e]; exact ⟨S2, fun y hy => (eg2 y).mpr ((b2 y hy).elim (fun z => (SO A hA).2 y z) id)⟩
          · have hBK : -1000 ≤ hM ad δ K ∧ hM ad δ K ≤ 2000 := rb_103 L I K
            exact ⟨hsr_k (k2 K hK e).1 hBK.2 (k2 K hK e).2.2 (SA K hK), fun y hy => (eg2 y).mpr ((SO K hK).2 y ((hmem_k (k2 K hK e).1 hBK.2 (k2 K hK e).2.2).mp hy))⟩
        by_cases e3 : x3 = 0
        · have ec : cn (fun j => ¬ hmem ad δ A (tol ad δ j)) 0 m = cn (fun j => Q (tol ad δ j)) 0 m := cn_congr m 0 (fun j _ _ => by rw [q0 e3, mA])
          have hp2 := hp e3
          exact ok_mono (fl_jput L hNN ka hx hA e3 h4 (by omega) N 0 0 0 δ (by omega) (by omega) I (SA A hA) (by rw [Nat.sub_zero, ec]; omega) (by rw [Nat.sub_zero, ec]; omega) tg (by omega)) last
        · have ec : cn (fun j => hmem ad δ A (tol ad δ j)) 0 m ≤ cn (fun j => Q (tol ad δ j)) 0 m := cn_mono m 0 (fun j _ _ hj => by
            by_cases e4 : x3 = 1
            · exact q1 e4 _
            · exact ((q2 e3 e4).2 _).mpr ((mA A _).mp hj))
          exact ok_mono (fl_jdrop L hNN ka hx hA e3 h4 (by omega) N 0 0 0 δ (by omega) (by omega) I (SA A hA) (by rw [Nat.sub_zero]; omega) (by omega)) last
      refine ok_ite (fun e3 => ?_) (fun e3 => J (fun z => absurd z e3))
      refine ok_at om ?_
      refine ok_gd (fun z => ?_) ?_
      · rcases z with z | z
        · have := o_lt z; omega
        · omega
      rw [tx]
      have f2000 : (2000 : Int32).toInt = 2000 := rfl
      refine ok_ite (fun c2 => ?_) (fun c2 => fin _)
      have c3 := o_le c2
      exact J (fun _ => by omega)
    · have c1 := o_nle c
      have kk : k < 2000 := by omega
      have t7 := te_addc (c := 1) (n := 1) rfl x7 (by omega) (by omega)
      have t4 := te_addc (c := 1) (n := 1) rfl x4 (by omega) (by omega)
      have tt4 := ti_tn x4
      refine ok_bind (f12_numberAt L hNN ka hf hF h7 I (by omega)) (fun r hr => ?_)
      obtain ⟨hr, hv⟩ := hr
      have rgr : rg a0 δ r.1 := (SO F hF).2 _ ⟨k, by omega, by rw [hv]; rfl⟩
      rw [hr]
      -- nothing told
      have skip : ok (J_X12_joins_168 N h.1 a0 x1 x2 x3 (L_X12_joins_74 N h.1 a0 x1 x2 x3 n) x4 x5 x6 x7 δ) (fun r => RI ad h.1 δ0 r.2 ∧ kp [(12, 36)] δb r.2 ∧ kr ad [102, 103, 104, 105, 106, 119, 125] δb r.2 ∧ ∀ K, K < 4 → hok ad a0 r.2 K) := by
        unfold J_X12_joins_168
        refine ok_biv (fun y ey => ?_)
        exact ih m (k + 1) x4 x5 y δ h4 (by omega) (by rw [ey]; omega) (by omega) h5 I u w tg (by omega)
      -- one told
      have tell : ∀ x9 : Int32, (x9 = 0 ∨ x9 = 1) → (x3 = 0 → (Q r.1 ↔ x9 = 0)) → (x3 ≠ 0 → x3 ≠ 1 → (Q r.1 ↔ x9 = 1)) → ok (J_X12_joins_127 N h.1 a0 x1 x2 x3 (L_X12_joins_74 N h.1 a0 x1 x2 x3 n) x4 x5 x6 x7 r.1 x9 δ) (fun r => RI ad h.1 δ0 r.2 ∧ kp [(12, 36)] δb r.2 ∧ kr ad [102, 103, 104, 105, 106, 119, 125] δb r.2 ∧ ∀ K, K < 4 → hok ad a0 r.2 K) := fun x9 b9 g0 g2 => by
        unfold J_X12_joins_127
        refine ok_at oo ?_
        refine ok_gd (fun z => ?_) ?_
        · rcases z with z | z
          · have := o_lt z; omega
          · omega
        refine ok_bdv (fun d e => ?_)
        have em : x4.toNatClampNeg = m := by omega
        rw [em] at e
        refine ok_biv (fun y ey => ?_)
        have i2 : RI ad h.1 δ0 d := by rw [e]; exact RI.sR L I wo
        have u2 := kp_N u (show q_I d = q_I δ by rw [e]; rfl)
        have w2 := kr_s L (by decide) w e
        have tm : tol ad d m = r.1 := by unfold tol; rw [e, qR_sR, if_pos ⟨rfl, rfl⟩]
        have to : ∀ j, j < m → tol ad d j = tol ad δ j := fun j hj => by unfold tol; rw [e, qR_sR, if_neg (fun z => by omega)]
        have ec : cn (fun j => Q (tol ad d j)) 0 m = cn (fun j => Q (tol ad δ j)) 0 m := cn_congr m 0 (fun j _ hj => by rw [to j (by omega)])
        have go : ∀ v : Int32, (v = 0 ∧ ¬ Q r.1 ∨ v = 1 ∧ Q r.1) → ok (J_X12_joins_165 N h.1 a0 x1 x2 x3 (L_X12_joins_74 N h.1 a0 x1 x2 x3 n) v x5 y x6 x7 d) (fun r => RI ad h.1 δ0 r.2 ∧ kp [(12, 36)] δb r.2 ∧ kr ad [102, 103, 104, 105, 106, 119, 125] δb r.2 ∧ ∀ K, K < 4 → hok ad a0 r.2 K) := fun v hv => by
          unfold J_X12_joins_165
          refine ok_biv (fun z ez => ?_)
          unfold J_X12_joins_168
          refine ok_biv (fun y7 e7 => ?_)
          have hz : z.toInt = ((cn (fun j => Q (tol ad d j)) 0 (m + 1) : Nat) : Int) := by
            rw [cn_last, ec, Nat.zero_add]
            have f1 : (1 : Int32).toInt = 1 := rfl
            rcases hv with ⟨e9, nq⟩ | ⟨e9, qq⟩
            · rw [if_neg (by rw [tm]; exact nq), ez, e9]
              have := te_addc (c := 0) (n := 0) rfl x5 (by omega) (by omega)
              omega
            · rw [if_pos (by rw [tm]; exact qq), ez, e9]
              have := te_addc (c := 1) (n := 1) rfl x5 (by omega) (by omega)
              omega
          exact ih (m + 1) (k + 1) y z y7 d (by rw [ey]; omega) (by omega) (by rw [e7]; omega) (by omega) hz i2 (kp_w (by decide) u2) (kr_w (by decide) w2) (fun j hj => by
            rw [rg_k (show q_I d 12 10 a0 = q_I δ 12 10 a0 by rw [e]; rfl)]
            by_cases c9 : j = m
            · rw [c9, tm]; exact rgr
            · rw [to j (by omega)]; exact tg j (by omega)) (by omega)
        refine ok_ite (fun e3 => ?_) (fun e3 => ?_)
        · refine ok_ite (fun e9 => ?_) (fun e9 => ?_)
          · unfold J_X12_joins_150
            refine ok_ite (fun c2 => absurd (e3.symm.trans c2) (by decide)) (fun _ => ?_)
            unfold J_X12_joins_164
            exact go 1 (Or.inr ⟨rfl, (g0 e3).mpr e9⟩)
          · unfold J_X12_joins_160
            exact go 0 (Or.inl ⟨rfl, fun z => e9 ((g0 e3).mp z)⟩)
        · unfold J_X12_joins_150
          refine ok_ite (fun c2 => ?_) (fun c2 => ?_)
          · have n1 : x3 ≠ 1 := fun z => absurd (z.symm.trans c2) (by decide)
            refine ok_ite (fun e9 => ?_) (fun e9 => ?_)
            · unfold J_X12_joins_160
              exact go 0 (Or.inl ⟨rfl, fun z => by have := (g2 e3 n1).mp z; rw [e9] at this; exact absurd this (by decide)⟩)
            · unfold J_X12_joins_164
              exact go 1 (Or.inr ⟨rfl, (g2 e3 n1).mpr (b9.resolve_left e9)⟩)
          · unfold J_X12_joins_164
            have n1 : x3 = 1 := Classical.byContradiction fun z => c2 (q2 e3 z).1
            exact go 1 (Or.inr ⟨rfl, q1 n1 _⟩)
      refine ok_ite (fun e3 => ?_) (fun e3 => ?_)
      · unfold J_X12_joins_107
        refine ok_bind (f12_isThere L hNN (x := r.1) ka hy hB I (SA B hB)) (fun r2 hr2 => ?_)
        obtain ⟨e, hm2⟩ := hr2
        rw [e]
        refine ok_ite (fun _ => ?_) (fun c2 => absurd e3 c2)
        refine ok_ite (fun e9 => ?_) (fun _ => skip)
        exact tell r2.1 (hm2.elim (fun z => Or.inr z.1) (fun z => Or.inl z.1)) (fun z => absurd (z.symm.trans e3) (by decide)) (fun _ z => absurd e3 z)
      · unfold J_X12_joins_107
        refine ok_bind (f12_isThere L hNN (x := r.1) ka hx hA I (SA A hA)) (fun r2 hr2 => ?_)
        obtain ⟨e, hm2⟩ := hr2
        rw [e]
        refine ok_ite (fun c2 => absurd c2 e3) (fun _ => ?_)
        refine tell r2.1 (hm2.elim (fun z => Or.inr z.1) (fun z => Or.inl z.1)) (fun z => ?_) (fun z z1 => ?_)
        · rw [q0 z, ← mA]
          rcases hm2 with ⟨e9, hm9⟩ | ⟨e9, hm9⟩
          · exact ⟨fun c => absurd hm9 c, fun c => absurd (e9.symm.trans c) (by decide)⟩
          · exact ⟨fun _ => e9, fun _ => hm9⟩
        · rw [(q2 z z1).2, ← mA]
          rcases hm2 with ⟨e9, hm9⟩ | ⟨e9, hm9⟩
          · exact ⟨fun _ => e9, fun _ => hm9⟩
          · exact ⟨fun c => absurd c hm9, fun c => absurd (e9.symm.trans c) (by decide)⟩
/-- what an op of the reference leaves -/
def HO (ad : List Nat) (a0 : Nat) (g : gp) (δ0 δ δ1 : dp) : Prop := RI ad g δ0 δ1 ∧ kp [(12, 0), (12, 36)] δ δ1 ∧ kr ad [100, 102, 103, 104, 105, 106, 119, 125] δ δ1 ∧ ∀ K, K < 4 → hok ad a0 δ1 K
theorem hok_k {ad : List Nat} {a0 : Nat} {δ d : dp} (u : kp [(12, 0)] δ d) (w : kr ad [100] δ d) {K : Nat} (S : hok ad a0 δ K) : hok ad a0 d K := by
  have g := h_all (K := K) (w 102 (by decide) (by decide) (by decide)) (w 103 (by decide) (by decide) (by decide))
  exact ⟨g.1 S.1, fun y hy => (rg_k (u 12 10 a0 (by decide))).mpr (S.2 y ((g.2 y).mp hy))⟩
set_option maxHeartbeats 4000000 in
theorem f12_joins {ad : List Nat} {h : hp} (L : Lay TLx ad h) {δ0 : dp} {N : Nat} (hNN : 10000000 ≤ N) {a0 : Nat} {x1 x2 x3 : Int32} (ka : q_K h.1 a0 = 12) {δ : dp} (I : RI ad h.1 δ0 δ) (S : ∀ K, K < 4 → hok ad a0 δ K) : ok (D_X12_joins N h.1 a0 x1 x2 x3 δ) (fun r => HO ad a0 h.1 δ0 δ r.2) := by
  have e0 : (0 : Int32).toInt = 0 := rfl
  have f2 : (2 : Int32).toInt = 2 := rfl
  have Sk : ∀ d, kp [(12, 0)] δ d → kr ad [100] δ d → ∀ K, K < 4 → hok ad a0 d K := fun d u w K hK => hok_k u w (S K hK)
  have out : ∀ (v : Int32) (d : dp), RI ad h.1 δ0 d → kp [(12, 0)] δ d → kr ad [100] δ d → ok (some (v, d)) (fun r => HO ad a0 h.1 δ0 δ r.2) := fun v d i u w => ok_some ⟨i, kp_w (by decide) u, kr_w (by decide) w, Sk d u w⟩
  unfold D_X12_joins
  refine ok_bdv (fun d1 e1 => ?_)
  have i1 : RI ad h.1 δ0 d1 := by rw [e1]; exact cs_12_0 L I
  have u1 := kp_I kp_r e1
  have w1 := kr_N (ad := ad) (W := []) (δ := δ) kr_r (show q_R d1 = q_R δ by rw [e1]; rfl)
  refine ok_bind (k_X12_isHouse L hNN (a0 := a0) (x1 := x1) (x2 := 1) ka (by decide) i1) (fun r2 hr2 => ?_)
  obtain ⟨i2, ⟨u2, v2, w2⟩, b2, g2⟩ := hr2
  have u2' : kp [(12, 0)] δ r2.2 := kp_w (by decide) (kp_t u1 u2)
  have w2' : kr ad [100] δ r2.2 := kr_w (by decide) (kr_t w1 w2)
  refine ok_ite (fun _ => ?_) (fun c2 => ?_)
  · unfold J_X12_joins_51; exact out 0 _ i2 u2' w2'
  refine ok_bind (k_X12_isHouse L hNN (a0 := a0) (x1 := x2) (x2 := 1) ka (by decide) i2) (fun r3 hr3 => ?_)
  obtain ⟨i3, ⟨u3, v3, w3⟩, b3, g3⟩ := hr3
  have u3' : kp [(12, 0)] δ r3.2 := kp_w (by decide) (kp_t u2' u3)
  have w3' : kr ad [100] δ r3.2 := kr_w (by decide) (kr_t w2' w3)
  refine ok_ite (fun _ => ?_) (fun c3 => ?_)
  · unfold J_X12_joins_51; exact out 0 _ i3 u3' w3'
  have n2 := bo_l b2
  have n3 := bo_l b3
  have m2 := o_ne c2
  have m3 := o_ne c3
  have hx := g2 (by omega)
  have hy := g3 (by omega)
  have bad : ∀ d, RI ad h.1 δ0 d → kp [(12, 0)] δ d → kr ad [100] δ d → ok (J_X12_joins_42 N h.1 a0 x1 x2 x3 a0 d) (fun r => HO ad a0 h.1 δ0 δ r.2) := fun d i u w => by
    unfold J_X12_joins_42 J_X12_joins_43
    refine ok_bind (k_X12_may L hNN (a0 := a0) (x1 := 0) (x2 := 2) (x3 := 2) ka (by decide) (by decide) (by decide) i) (fun r hr => ?_)
    obtain ⟨i4, ⟨u4, v4, w4⟩, b4, g4, _⟩ := hr
    refine ok_ite (fun _ => ?_) (fun c4 => ?_)
    · unfold J_X12_joins_51; exact out 0 _ i4 (kp_w (by decide) (kp_t u u4)) (kr_w (by decide) (kr_t w w4))
    · have n4 := bo_l b4
      have m4 := o_ne c4
      exact absurd rfl (g4 (by omega))
  refine ok_ite (fun _ => bad _ i3 u3' w3') (fun _ => ?_)
  refine ok_bind (k_X12_within L hNN (x0 := x3) (x1 := 0) (x2 := 2) i3) (fun r5 hr5 => ?_)
  obtain ⟨e5, b5, g5, _⟩ := hr5
  rw [e5]
  have n5 := bo_l b5
  refine ok_ite (fun _ => bad _ i3 u3' w3') (fun c5 => ?_)
  have m5 := o_ne c5
  have hq : (0 : Int32).toInt ≤ x3.toInt ∧ x3.toInt ≤ (2 : Int32).toInt := g5 (by omega)
  unfold J_X12_joins_43
  refine ok_bind (k_X12_may L hNN (a0 := a0) (x1 := 1) (x2 := 2) (x3 := 2) ka (by decide) (by decide) (by decide) i3) (fun r hr => ?_)
  obtain ⟨i4, ⟨u4, v4, w4⟩, b4, g4, _⟩ := hr
  have u4' : kp [(12, 0)] δ r.2 := kp_w (by decide) (kp_t u3' u4)
  have w4' : kr ad [100] δ r.2 := kr_w (by decide) (kr_t w3' w4)
  refine ok_ite (fun _ => ?_) (fun c4 => ?_)
  · unfold J_X12_joins_51; exact out 0 _ i4 u4' w4'
  have S4 := Sk _ u4' w4'
  obtain ⟨A, hA⟩ : ∃ A : Nat, x1.toInt = (A : Int) := ⟨x1.toInt.toNat, by omega⟩
  obtain ⟨B, hB⟩ : ∃ B : Nat, x2.toInt = (B : Int) := ⟨x2.toInt.toNat, by omega⟩
  have f1 : (1 : Int32).toInt = 1 := rfl
  have three : x3 ≠ 0 → x3 ≠ 1 → x3 = 2 := fun a b => by
    have a1 := o_ne a
    have b1 := o_ne b
    exact i_eq (by omega)
  have go : ∀ (x6 : Int32) (F : Nat), x6.toInt = (F : Int) → F < 4 → ok (J_X12_joins_69 N h.1 a0 x1 x2 x3 x6 0 0 r.2) (fun r => HO ad a0 h.1 δ0 δ r.2) := fun x6 F hf hF => by
    unfold J_X12_joins_69
    refine ok_mono (fl_j74 L hNN ka hA (by omega) hB (by omega) hf hF (Q := fun y => (x3 = 0 ∧ ¬ hmem ad r.2 A y) ∨ x3 = 1 ∨ (x3 ≠ 0 ∧ x3 ≠ 1 ∧ hmem ad r.2 A y)) S4 (fun e y => ⟨fun z => ?_, fun z => Or.inl ⟨e, z⟩⟩) (fun e y => Or.inr (Or.inl e)) (fun a b => ⟨three a b, fun y => ⟨fun z => ?_, fun z => Or.inr (Or.inr ⟨a, b, z⟩)⟩⟩) N 0 0 0 0 0 r.2 (by omega) (by omega) (by omega) (by omega) rfl i4 (kp_w (by decide) kp_r) (kr_w (by decide) kr_r) (fun j hj => by omega) (by omega)) (fun r6 hr6 => ?_)
    · rcases z with z | z | z
      · exact z.2
      · exact absurd (e.symm.trans z) (by decide)
      · exact absurd e z.1
    · rcases z with z | z | z
      · exact absurd z.1 a
      · exact absurd z b
      · exact z.2.2
    · exact ⟨hr6.1, kp_w (by decide) (kp_t u4' hr6.2.1), kr_w (by decide) (kr_t w4' hr6.2.2.1), hr6.2.2.2⟩
  refine ok_ite (fun _ => go x1 A hA (by omega)) (fun _ => go x2 B hB (by omega))
/-- split: one number after the other -/
theorem fl_s181 {ad : List Nat} {h : hp} (L : Lay TLx ad h) {δ0 : dp} {N : Nat} (hNN : 10000000 ≤ N) {a0 A B n0 : Nat} {x1 x2 x3 x4 : Int32} (ka : q_K h.1 a0 = 12) (hx : x1.toInt = (A : Int)) (hA : A < 4) (hy : x2.toInt = (B : Int)) (hB : B < 4) (ne : A ≠ B) (h4 : x4.toInt = (n0 : Int)) (hn0 : n0 ≤ 2000) : ∀ (n k : Nat) (s x8 : Int32) (δ : dp), x8.toInt = (k : Int) → k ≤ n0 → RI ad h.1 δ0 δ → (∀ K, K < 4 → hok ad a0 δ K) → hN ad δ A + ((n0 - k : Nat) : Int) ≤ 1000 → hM ad δ B + (cn (fun j => ¬ hmem ad δ B (tol ad δ j)) k (n0 - k) : Nat) ≤ 2000 → hN ad δ B + (cn (fun j => ¬ hmem ad δ B (tol ad δ j)) k (n0 - k) : Nat) ≤ 1000 → (∀ j, j < n0 → rg a0 δ (tol ad δ j)) → n0 - k < n → ok (L_X12_split_181 N h.1 a0 x1 x2 x3 n x4 s x8 δ) (fun r => RI ad h.1 δ0 r.2 ∧ kp [(12, 36)] δ r.2 ∧ kr ad [102, 103, 104, 105, 106, 119] δ r.2 ∧ ∀ K, K < 4 → hok ad a0 r.2 K) := by
  intro n
  induction n with
  | zero => intro k s x8 δ h1 h2 I S c0 c1 c2 tg hn; exfalso; omega
  | succ n ih =>
    intro k s x8 δ h1 h2 I S c0 c1 c2 tg hn
    have e0 : (0 : Int32).toInt = 0 := rfl
    unfold L_X12_split_181
    refine ok_ite (fun c => ?_) (fun c => ?_)
    · exact ok_some ⟨I, kp_w (by decide) kp_r, kr_w (by decide) kr_r, S⟩
    · have g1 := o_nle c
      obtain ⟨b, ob, _, nb, _⟩ := gO_12_48 L ka
      obtain rfl := gS_12_48 L ka ob
      have t8 := ti_tn x8
      refine ok_at ob ?_
      refine ok_gd (fun z => ?_) ?_
      · rcases z with z | z
        · have := o_lt z; omega
        · omega
      have ek : x8.toNatClampNeg = k := by omega
      rw [ek]
      have em : n0 - k = (n0 - (k + 1)) + 1 := by omega
      refine ok_bind (f12_cdrop L hNN (x := tol ad δ k) ka hx hA I (S A hA).1 (fun hm => by omega)) (fun r hr => ?_)
      obtain ⟨i1, u1, w1, S1, k1, md, hc⟩ := hr
      have eg : ∀ y, rg a0 r.2 y ↔ rg a0 δ y := fun y => rg_k (u1 12 10 a0 (by decide))
      have tl : ∀ j, tol ad r.2 j = tol ad δ j := fun j => by unfold tol; rw [w1 125 (by decide) (by decide) (by decide)]
      have hBB : -1000 ≤ hM ad δ B ∧ hM ad δ B ≤ 2000 := rb_103 L I B
      obtain ⟨kb1, kb2, kb3⟩ := k1 B hB (Ne.symm ne)
      have mB : ∀ y, hmem ad r.2 B y ↔ hmem ad δ B y := fun y => hmem_k kb1 hBB.2 kb3
      have SB : hsr ad r.2 B := hsr_k kb1 hBB.2 kb3 (S B hB).1
      refine ok_biv (fun s2 _ => ?_)
      refine ok_at ob ?_
      refine ok_gd (fun z => ?_) ?_
      · rcases z with z | z
        · have := o_lt z; omega
        · omega
      have ec : cn (fun j => ¬ hmem ad r.2 B (tol ad r.2 j)) k (n0 - k) = cn (fun j => ¬ hmem ad δ B (tol ad δ j)) k (n0 - k) := cn_congr _ _ (fun j _ _ => by rw [tl, mB])
      rw [← ec, em] at c1 c2
      refine ok_bind (f12_cput L hNN (x := tol ad r.2 k) ka hy hB i1 SB (fun nm => ?_)) (fun r2 hr2 => ?_)
      · rw [cn_1 k _ nm] at c1 c2
        omega
      obtain ⟨i2, u2, w2, S2, k2, mm, mb, hc2⟩ := hr2
      have eg2 : ∀ y, rg a0 r2.2 y ↔ rg a0 r.2 y := fun y => rg_k (u2 12 10 a0 (by decide))
      have tl2 : ∀ j, tol ad r2.2 j = tol ad r.2 j := fun j => by unfold tol; rw [w2 125 (by decide) (by decide) (by decide)]
      refine ok_biv (fun s3 _ => ?_)
      refine ok_biv (fun y ey => ?_)
      have hyy : y.toInt = x8.toInt + 1 := by rw [ey]; exact (te_addc (c := 1) (n := 1) rfl x8 (by omega) (by omega)).1
      have cm : cn (fun j => ¬ hmem ad r2.2 B (tol ad r2.2 j)) (k + 1) (n0 - (k + 1)) ≤ cn (fun j => ¬ hmem ad r.2 B (tol ad r.2 j)) (k + 1) (n0 - (k + 1)) := cn_mono _ _ (fun j _ _ hj hm => hj (by rw [tl2]; exact mm _ hm))
      have cc := cn_0 (P := fun j => ¬ hmem ad r.2 B (tol ad r.2 j)) k (n0 - (k + 1))
      have ka2 := (k2 A hA ne).2.1
      have SS : ∀ K, K < 4 → hok ad a0 r2.2 K := fun K hK => by
        have hBK2 : -1000 ≤ hM ad δ K ∧ hM ad δ K ≤ 2000 := rb_103 L I K
        have hBK : -1000 ≤ hM ad r.2 K ∧ hM ad r.2 K ≤ 2000 := rb_103 L i1 K
        have O1 : hok ad a0 r.2 K := by
          by_cases eA : K = A
          · rw [eA]; exact ⟨S1, fun y hy => (eg y).mpr ((S A hA).2 y (md y hy))⟩
          · exact ⟨hsr_k (k1 K hK eA).1 hBK2.2 (k1 K hK eA).2.2 (S K hK).1, fun y hy => (eg y).mpr ((S K hK).2 y ((hmem_k (k1 K hK eA).1 hBK2.2 (k1 K hK eA).2.2).mp hy))⟩
        by_cases eB : K = B
        · subst eB
          refine ⟨S2, fun y hy => (eg2 y).mpr ?_⟩
          rcases mb y hy with z | z
          · exact O1.2 y z
          · rw [z, eg, tl]; exact tg k (by omega)
        · exact ⟨hsr_k (k2 K hK eB).1 hBK.2 (k2 K hK eB).2.2 O1.1, fun y hy => (eg2 y).mpr (O1.2 y ((hmem_k (k2 K hK eB).1 hBK.2 (k2 K hK eB).2.2).mp hy))⟩
      refine ok_mono (ih (k + 1) s3 y r2.2 (by omega) (by omega) i2 SS ?_ ?_ ?_ (fun j hj => by rw [eg2, eg, tl2, tl]; exact tg j hj) (by omega)) (fun r3 hr3 => ?_)
      · rcases hc with ⟨_, _, e1⟩ | ⟨_, _, e1⟩ <;> omega
      · rcases hc2 with ⟨_, e1, _⟩ | ⟨nm, _, e1, _⟩
        · omega
        · rw [cn_1 k _ nm] at c1; omega
      · rcases hc2 with ⟨_, _, e1⟩ | ⟨nm, _, _, e1⟩
        · omega
        · rw [cn_1 k _ nm] at c2; omega
      · exact ⟨hr3.1, kp_w (by decide) (kp_t (kp_t u1 u2) hr3.2.1), kr_w (by decide) (kr_t (kr_t w1 w2) hr3.2.2.1), hr3.2.2.2⟩
set_option maxHeartbeats 4000000 in
theorem fl_s66 {ad : List Nat} {h : hp} (L : Lay TLx ad h) {δ0 : dp} {N : Nat} (hNN : 10000000 ≤ N) {a0 A B : Nat} {x1 x2 x3 : Int32} (ka : q_K h.1 a0 = 12) (hx : x1.toInt = (A : Int)) (hA : A < 4) (hy : x2.toInt = (B : Int)) (hB : B < 4) (ne : A ≠ B) {δb : dp} (S : ∀ K, K < 4 → hok ad a0 δb K) : ∀ (n m k : Nat) (x4 x5 x6 : Int32) (δ : dp), x4.toInt = (m : Int) → m ≤ k → x6.toInt = (k : Int) → k ≤ 2000 → x5.toInt = ((cn (fun j => ¬ hmem ad δb B (tol ad δ j)) 0 m : Nat) : Int) → RI ad h.1 δ0 δ → kp [] δb δ → kr ad [125] δb δ → (∀ j, j < m → rg a0 δ (tol ad δ j)) → 2000 - k < n → ok (L_X12_split_66 N h.1 a0 x1 x2 x3 n x4 x5 x6 δ) (fun r => RI ad h.1 δ0 r.2 ∧ kp [(12, 36)] δb r.2 ∧ kr ad [102, 103, 104, 105, 106, 119, 125] δb r.2 ∧ ∀ K, K < 4 → hok ad a0 r.2 K) := by
  intro n
  induction n with
  | zero => intro m k x4 x5 x6 δ h4 hm h7 hk h5 I u w tg hn; exfalso; omega
  | succ n ih =>
    intro m k x4 x5 x6 δ h4 hm h7 hk h5 I u w tg hn
    have e0 : (0 : Int32).toInt = 0 := rfl
    have tx := tnH hx
    have ty := tnH hy
    have b2 := w 102 (by decide) (by decide) (by decide)
    have b3 := w 103 (by decide) (by decide) (by decide)
    have SA : ∀ K, K < 4 → hsr ad δ K := fun K hK => (h_all b2 b3).1 (S K hK).1
    have eg : ∀ y, rg a0 δ y ↔ rg a0 δb y := fun y => rg_k (u 12 10 a0 (by decide))
    have mA : ∀ K y, hmem ad δ K y ↔ hmem ad δb K y := fun K y => (h_all b2 b3).2 y
    have SO : ∀ K, K < 4 → hok ad a0 δ K := fun K hK => ⟨SA K hK, fun y hy => (eg y).mpr ((S K hK).2 y ((mA K y).mp hy))⟩
    have cl := cn_le (P := fun j => ¬ hmem ad δb B (tol ad δ j)) m 0
    obtain ⟨bm, om, _, nm⟩ := gO_12_14 L ka
    obtain rfl := gS_12_14 L ka om
    obtain ⟨bt, ot, _, nt⟩ := gO_12_17 L ka
    obtain rfl := gS_12_17 L ka ot
    obtain ⟨bo', oo, _, no, wo⟩ := gO_12_48 L ka
    obtain rfl := gS_12_48 L ka oo
    have hBA : -1000 ≤ hM ad δ A ∧ hM ad δ A ≤ 2000 := rb_103 L I A
    have hBB : -1000 ≤ hM ad δ B ∧ hM ad δ B ≤ 2000 := rb_103 L I B
    have hNA : 0 ≤ hN ad δ A ∧ hN ad δ A ≤ 1000 := rb_106 L I A
    have hNB : 0 ≤ hN ad δ B ∧ hN ad δ B ≤ 1000 := rb_106 L I B
    have vA : (q_R δ (Ad ad 103) A).toInt = hM ad δ A := rfl
    have vB : (q_R δ (Ad ad 103) B).toInt = hM ad δ B := rfl
    have vN : (q_R δ (Ad ad 106) A).toInt = hN ad δ A := rfl
    have vM : (q_R δ (Ad ad 106) B).toInt = hN ad δ B := rfl
    have f1000 : (1000 : Int32).toInt = 1000 := rfl
    have f2000 : (2000 : Int32).toInt = 2000 := rfl
    have fin : ∀ v : Int32, ok (some (v, δ)) (fun r => RI ad h.1 δ0 r.2 ∧ kp [(12, 36)] δb r.2 ∧ kr ad [102, 103, 104, 105, 106, 119, 125] δb r.2 ∧ ∀ K, K < 4 → hok ad a0 r.2 K) := fun v => ok_some ⟨I, kp_w (by decide) u, kr_w (by decide) w, SO⟩
    unfold L_X12_split_66
    refine ok_at om ?_
    refine ok_gd (fun z => ?_) ?_
    · rcases z with z | z
      · have := o_lt z; omega
      · omega
    rw [tx]
    refine ok_ite (fun c => ?_) (fun c => ?_)
    · have t1 := te_add (q_R δ (Ad ad 103) B) x5 (by omega) (by omega)
      have t2 := te_add (q_R δ (Ad ad 106) A) x4 (by omega) (by omega)
      have t3 := te_add (q_R δ (Ad ad 106) B) x5 (by omega) (by omega)
      refine ok_at om ?_
      refine ok_gd (fun z => ?_) ?_
      · rcases z with z | z
        · have := o_lt z; omega
        · omega
      rw [ty]
      refine ok_ite (fun c2 => ?_) (fun _ => fin _)
      have g2 := o_le c2
      refine ok_at ot ?_
      refine ok_gd (fun z => ?_) ?_
      · rcases z with z | z
        · have := o_lt z; omega
        · omega
      refine ok_ite (fun _ => ?_) (fun c3 => ?_)
      · unfold J_X12_split_172; exact fin _
      have g3 := o_nlt c3
      refine ok_at ot ?_
      refine ok_gd (fun z => ?_) ?_
      · rcases z with z | z
        · have := o_lt z; omega
        · omega
      refine ok_ite (fun c4 => ?_) (fun _ => ?_)
      · have g4 := o_le c4
        have ec : cn (fun j => ¬ hmem ad δ B (tol ad δ j)) 0 m = cn (fun j => ¬ hmem ad δb B (tol ad δ j)) 0 m := cn_congr m 0 (fun j _ _ => by rw [mA])
        refine ok_mono (fl_s181 L hNN ka hx hA hy hB ne h4 (by omega) N 0 0 0 δ (by omega) (by omega) I SO (by omega) (by rw [Nat.sub_zero, ec]; omega) (by rw [Nat.sub_zero, ec]; omega) tg (by omega)) (fun r hr => ?_)
        exact ⟨hr.1, kp_w (by decide) (kp_t u hr.2.1), kr_w (by decide) (kr_t w hr.2.2.1), hr.2.2.2⟩
      · unfold J_X12_split_172; exact fin _
    · have c1 := o_nle c
      have kk : k < 2000 := by omega
      have t7 := te_addc (c := 1) (n := 1) rfl x6 (by omega) (by omega)
      have t4 := te_addc (c := 1) (n := 1) rfl x4 (by omega) (by omega)
      have tt4 := ti_tn x4
      refine ok_at oo ?_
      refine ok_bind (f12_numberAt L hNN ka hx hA h7 I (by omega)) (fun r hr => ?_)
      obtain ⟨hr, hv⟩ := hr
      have rgr : rg a0 δ r.1 := (SO A hA).2 _ ⟨k, by omega, by rw [hv]; rfl⟩
      rw [hr]
      refine ok_gd (fun z => ?_) ?_
      · rcases z with z | z
        · have := o_lt z; omega
        · omega
      refine ok_bdv (fun d e => ?_)
      have em : x4.toNatClampNeg = m := by omega
      rw [em] at e
      rw [em]
      have i2 : RI ad h.1 δ0 d := by rw [e]; exact RI.sR L I wo
      have u2 := kp_N u (show q_I d = q_I δ by rw [e]; rfl)
      have w2 : kr ad [125] δb d := kr_w (by decide) (kr_s L (by decide) w e)
      have tm : q_R d (Ad ad 125) m = r.1 := by rw [e, qR_sR, if_pos ⟨rfl, rfl⟩]
      have to : ∀ j, j < m → tol ad d j = tol ad δ j := fun j hj => by unfold tol; rw [e, qR_sR, if_neg (fun z => by omega)]
      have ec : cn (fun j => ¬ hmem ad δb B (tol ad d j)) 0 m = cn (fun j => ¬ hmem ad δb B (tol ad δ j)) 0 m := cn_congr m 0 (fun j _ hj => by rw [to j (by omega)])
      have d2 := w2 102 (by decide) (by decide) (by decide)
      have d3 := w2 103 (by decide) (by decide) (by decide)
      refine ok_at oo ?_
      refine ok_gd (fun z => ?_) ?_
      · rcases z with z | z
        · have := o_lt z; omega
        · omega
      rw [tm]
      refine ok_bind (f12_isThere L hNN (x := r.1) ka hy hB i2 ((h_all d2 d3).1 (S B hB).1)) (fun r2 hr2 => ?_)
      obtain ⟨e2, hm2⟩ := hr2
      rw [e2]
      have go : ∀ v : Int32, (v = 0 ∧ hmem ad δb B r.1 ∨ v = 1 ∧ ¬ hmem ad δb B r.1) → ok (J_X12_split_113 N h.1 a0 x1 x2 x3 (L_X12_split_66 N h.1 a0 x1 x2 x3 n) v x5 x4 x6 d) (fun r => RI ad h.1 δ0 r.2 ∧ kp [(12, 36)] δb r.2 ∧ kr ad [102, 103, 104, 105, 106, 119, 125] δb r.2 ∧ ∀ K, K < 4 → hok ad a0 r.2 K) := fun v hv => by
        unfold J_X12_split_113
        refine ok_biv (fun z ez => ?_)
        refine ok_biv (fun y4 e4 => ?_)
        refine ok_biv (fun y6 e6 => ?_)
        have hz : z.toInt = ((cn (fun j => ¬ hmem ad δb B (tol ad d j)) 0 (m + 1) : Nat) : Int) := by
          rw [cn_last, ec, Nat.zero_add]
          have tm2 : tol ad d m = r.1 := tm
          rcases hv with ⟨e9, nq⟩ | ⟨e9, qq⟩
          · rw [if_neg (by rw [tm2]; exact fun z => z nq), ez, e9]
            have := te_addc (c := 0) (n := 0) rfl x5 (by omega) (by omega)
            omega
          · rw [if_pos (by rw [tm2]; exact qq), ez, e9]
            have := te_addc (c := 1) (n := 1) rfl x5 (by omega) (by omega)
            omega
        exact ih (m + 1) (k + 1) y4 z y6 d (by rw [e4]; omega) (by omega) (by rw [e6]; omega) (by omega) hz i2 (kp_w (by decide) u2) w2 (fun j hj => by
          rw [rg_k (show q_I d 12 10 a0 = q_I δ 12 10 a0 by rw [e]; rfl)]
          by_cases c9 : j = m
          · rw [c9, show tol ad d m = r.1 from tm]; exact rgr
          · rw [to j (by omega)]; exact tg j (by omega)) (by omega)
      have md := (h_all (K := B) d2 d3).2 r.1
      refine ok_ite (fun e9 => ?_) (fun e9 => ?_)
      · rcases hm2 with ⟨q1, _⟩ | ⟨_, q2⟩
        · exact absurd (q1.symm.trans e9) (by decide)
        · exact go 1 (Or.inr ⟨rfl, fun z => q2 (md.mpr z)⟩)
      · rcases hm2 with ⟨_, q2⟩ | ⟨q1, _⟩
        · exact go 0 (Or.inl ⟨rfl, md.mp q2⟩)
        · exact absurd q1 e9
set_option maxHeartbeats 4000000 in
theorem f12_split {ad : List Nat} {h : hp} (L : Lay TLx ad h) {δ0 : dp} {N : Nat} (hNN : 10000000 ≤ N) {a0 : Nat} {x1 x2 x3 : Int32} (ka : q_K h.1 a0 = 12) {δ : dp} (I : RI ad h.1 δ0 δ) (S : ∀ K, K < 4 → hok ad a0 δ K) : ok (D_X12_split N h.1 a0 x1 x2 x3 δ) (fun r => HO ad a0 h.1 δ0 δ r.2) := by
  have e0 : (0 : Int32).toInt = 0 := rfl
  have Sk : ∀ d, kp [(12, 0)] δ d → kr ad [100] δ d → ∀ K, K < 4 → hok ad a0 d K := fun d u w K hK => hok_k u w (S K hK)
  have out : ∀ (v : Int32) (d : dp), RI ad h.1 δ0 d → kp [(12, 0)] δ d → kr ad [100] δ d → ok (some (v, d)) (fun r => HO ad a0 h.1 δ0 δ r.2) := fun v d i u w => ok_some ⟨i, kp_w (by decide) u, kr_w (by decide) w, Sk d u w⟩
  unfold D_X12_split
  refine ok_bdv (fun d1 e1 => ?_)
  have i1 : RI ad h.1 δ0 d1 := by rw [e1]; exact cs_12_0 L I
  have u1 := kp_I kp_r e1
  have w1 := kr_N (ad := ad) (W := []) (δ := δ) kr_r (show q_R d1 = q_R δ by rw [e1]; rfl)
  refine ok_bind (k_X12_isHouse L hNN (a0 := a0) (x1 := x1) (x2 := 1) ka (by decide) i1) (fun r2 hr2 => ?_)
  obtain ⟨i2, ⟨u2, v2, w2⟩, b2, g2⟩ := hr2
  have u2' : kp [(12, 0)] δ r2.2 := kp_w (by decide) (kp_t u1 u2)
  have w2' : kr ad [100] δ r2.2 := kr_w (by decide) (kr_t w1 w2)
  refine ok_ite (fun _ => ?_) (fun c2 => ?_)
  · unfold J_X12_split_50; exact out 0 _ i2 u2' w2'
  refine ok_bind (k_X12_isHouse L hNN (a0 := a0) (x1 := x2) (x2 := 1) ka (by decide) i2) (fun r3 hr3 => ?_)
  obtain ⟨i3, ⟨u3, v3, w3⟩, b3, g3⟩ := hr3
  have u3' : kp [(12, 0)] δ r3.2 := kp_w (by decide) (kp_t u2' u3)
  have w3' : kr ad [100] δ r3.2 := kr_w (by decide) (kr_t w2' w3)
  refine ok_ite (fun _ => ?_) (fun c3 => ?_)
  · unfold J_X12_split_50; exact out 0 _ i3 u3' w3'
  have n2 := bo_l b2
  have n3 := bo_l b3
  have m2 := o_ne c2
  have m3 := o_ne c3
  have hx := g2 (by omega)
  have hy := g3 (by omega)
  have bad : ∀ d, RI ad h.1 δ0 d → kp [(12, 0)] δ d → kr ad [100] δ d → ok (J_X12_split_41 N h.1 a0 x1 x2 x3 a0 d) (fun r => HO ad a0 h.1 δ0 δ r.2) := fun d i u w => by
    unfold J_X12_split_41 J_X12_split_42
    refine ok_bind (k_X12_may L hNN (a0 := a0) (x1 := 0) (x2 := 2) (x3 := 2) ka (by decide) (by decide) (by decide) i) (fun r hr => ?_)
    obtain ⟨i4, ⟨u4, v4, w4⟩, b4, g4, _⟩ := hr
    refine ok_ite (fun _ => ?_) (fun c4 => ?_)
    · unfold J_X12_split_50; exact out 0 _ i4 (kp_w (by decide) (kp_t u u4)) (kr_w (by decide) (kr_t w w4))
    · have n4 := bo_l b4
      have m4 := o_ne c4
      exact absurd rfl (g4 (by omega))
  refine ok_ite (fun _ => bad _ i3 u3' w3') (fun ce => ?_)
  refine ok_bind (k_X12_isNumber L hNN (a0 := a0) (x1 := x3) ka i3) (fun r5 hr5 => ?_)
  obtain ⟨e5, b5, _⟩ := hr5
  rw [e5]
  refine ok_ite (fun _ => bad _ i3 u3' w3') (fun c5 => ?_)
  unfold J_X12_split_42
  refine ok_bind (k_X12_may L hNN (a0 := a0) (x1 := 1) (x2 := 2) (x3 := 2) ka (by decide) (by decide) (by decide) i3) (fun r hr => ?_)
  obtain ⟨i4, ⟨u4, v4, w4⟩, b4, g4, _⟩ := hr
  have u4' : kp [(12, 0)] δ r.2 := kp_w (by decide) (kp_t u3' u4)
  have w4' : kr ad [100] δ r.2 := kr_w (by decide) (kr_t w3' w4)
  refine ok_ite (fun _ => ?_) (fun c4 => ?_)
  · unfold J_X12_split_50; exact out 0 _ i4 u4' w4'
  have S4 := Sk _ u4' w4'
  obtain ⟨A, hA⟩ : ∃ A : Nat, x1.toInt = (A : Int) := ⟨x1.toInt.toNat, by omega⟩
  obtain ⟨B, hB⟩ : ∃ B : Nat, x2.toInt = (B : Int) := ⟨x2.toInt.toNat, by omega⟩
  have ne : A ≠ B := fun z => ce (i_eq (by omega))
  refine ok_bind (f12_place L hNN (x := x3) ka hA (by omega) i4 (S4 A (by omega)).1) (fun r6 hr6 => ?_)
  obtain ⟨e6, p, hp, P⟩ := hr6
  rw [e6]
  have p1 := P.1
  have hBA : -1000 ≤ hM ad r.2 A ∧ hM ad r.2 A ≤ 2000 := rb_103 L i4 A
  refine ok_mono (fl_s66 L hNN ka hA (by omega) hB (by omega) ne S4 N 0 p 0 0 r6.1 r.2 (by omega) (by omega) hp (by omega) rfl i4 (kp_w (by decide) kp_r) (kr_w (by decide) kr_r) (fun j hj => by omega) (by omega)) (fun r7 hr7 => ?_)
  exact ⟨hr7.1, kp_w (by decide) (kp_t u4' hr7.2.1), kr_w (by decide) (kr_t w4' hr7.2.2.1), hr7.2.2.2⟩
end
section
/-! ops of the reference that read or change houses -/
theorem e_all {N : Nat} {g : gp} {a0 : Nat} {δ : dp} : D_X12_all N g a0 δ = some ((1 : Int32) <<< ((q_I δ 12 10 a0) &&& 31), δ) := rfl
theorem all_b {ad : List Nat} {h : hp} {δ0 δ : dp} {a0 : Nat} (ka : q_K h.1 a0 = 12) (I : RI ad h.1 δ0 δ) : 4 ≤ ((1 : Int32) <<< ((q_I δ 12 10 a0) &&& 31)).toInt ∧ ((1 : Int32) <<< ((q_I δ 12 10 a0) &&& 31)).toInt ≤ 65536 := by
  have := sh_b (q_I δ 12 10 a0) (cb_12_10 I ka)
  exact ⟨this.1, this.2.1⟩
set_option maxHeartbeats 4000000 in
theorem fl_runs {ad : List Nat} {h : hp} (L : Lay TLx ad h) {δ0 : dp} {N : Nat} (hNN : 10000000 ≤ N) {a0 A B : Nat} {x1 x2 : Int32} (ka : q_K h.1 a0 = 12) (hx : x1.toInt = (A : Int)) (hA : A < 4) (hy : x2.toInt = (B : Int)) (hB : B < 4) {δ : dp} (I : RI ad h.1 δ0 δ) (SA : hok ad a0 δ A) (SB : hok ad a0 δ B) : ∀ (n i j : Nat) (x3 x4 x5 x6 : Int32), x5.toInt = (i : Int) → x6.toInt = (j : Int) → (i : Int) ≤ hM ad δ A → (j : Int) ≤ hM ad δ B → (hM ad δ A - i) + (hM ad δ B - j) < (n : Int) → ok (L_X12_runs_36 N h.1 a0 x1 x2 n x3 x4 x5 x6 δ) (fun r => r.2 = δ) := by
  have bA : -1000 ≤ hM ad δ A ∧ hM ad δ A ≤ 2000 := rb_103 L I A
  have bB : -1000 ≤ hM ad δ B ∧ hM ad δ B ≤ 2000 := rb_103 L I B
  have vA : (q_R δ (Ad ad 103) A).toInt = hM ad δ A := rfl
  have vB : (q_R δ (Ad ad 103) B).toInt = hM ad δ B := rfl
  have tx := tnH hx
  have ty := tnH hy
  have e0 : (0 : Int32).toInt = 0 := rfl
  have ab := all_b ka I
  obtain ⟨bm, om, _, nm⟩ := gO_12_14 L ka
  obtain rfl := gS_12_14 L ka om
  intro n
  induction n with
  | zero => intro i j x3 x4 x5 x6 h5 h6 hi hj hn; exfalso; omega
  | succ n ih =>
    intro i j x3 x4 x5 x6 h5 h6 hi hj hn
    have t5 := te_addc (c := 1) (n := 1) rfl x5 (by omega) (by omega)
    have t6 := te_addc (c := 1) (n := 1) rfl x6 (by omega) (by omega)
    have fin : ∀ (y5 y6 X Y : Int32) (i2 j2 : Nat), y5.toInt = (i2 : Int) → y6.toInt = (j2 : Int) → (i2 : Int) ≤ hM ad δ A → (j2 : Int) ≤ hM ad δ B → i + j < i2 + j2 → ok (J_X12_runs_132 N h.1 a0 x1 x2 (L_X12_runs_36 N h.1 a0 x1 x2 n) x3 x4 y5 y6 X Y δ) (fun r => r.2 = δ) := fun y5 y6 X Y i2 j2 a1 a2 a3 a4 a5 => by
      have go : ∀ z3 z4 : Int32, ok (L_X12_runs_36 N h.1 a0 x1 x2 n z3 z4 y5 y6 δ) (fun r => r.2 = δ) := fun z3 z4 => ih i2 j2 z3 z4 y5 y6 a1 a2 a3 a4 (by omega)
      unfold J_X12_runs_132
      refine ok_ite (fun _ => go _ _) (fun _ => ?_)
      have g2 : ∀ w : Int32, ok (J_X12_runs_154 N h.1 a0 x1 x2 (L_X12_runs_36 N h.1 a0 x1 x2 n) w x3 x4 y5 y6 δ) (fun r => r.2 = δ) := fun w => by
        unfold J_X12_runs_154
        refine ok_ite (fun _ => ?_) (fun _ => ?_)
        · unfold J_X12_runs_169
          exact ok_biv (fun _ _ => go _ _)
        · unfold J_X12_runs_169
          exact ok_biv (fun _ _ => go _ _)
      exact ok_ite (fun _ => g2 1) (fun _ => g2 0)
    have step : ∀ X Y : Int32, ((i : Int) < hM ad δ A ∧ X.toInt < ((1 : Int32) <<< ((q_I δ 12 10 a0) &&& 31)).toInt ∨ (i : Int) = hM ad δ A ∧ X = (1 : Int32) <<< ((q_I δ 12 10 a0) &&& 31)) → ((j : Int) < hM ad δ B ∧ Y.toInt < ((1 : Int32) <<< ((q_I δ 12 10 a0) &&& 31)).toInt ∨ (j : Int) = hM ad δ B ∧ Y = (1 : Int32) <<< ((q_I δ 12 10 a0) &&& 31)) → ¬ ((i : Int) = hM ad δ A ∧ (j : Int) = hM ad δ B) → ok (J_X12_runs_110 N h.1 a0 x1 x2 (L_X12_runs_36 N h.1 a0 x1 x2 n) Y x3 x4 x5 x6 X δ) (fun r => r.2 = δ) := fun X Y hX hY hne => by
      have dX : (i : Int) < hM ad δ A ∧ X.toInt < ((1 : Int32) <<< ((q_I δ 12 10 a0) &&& 31)).toInt ∨ (i : Int) = hM ad δ A ∧ X.toInt = ((1 : Int32) <<< ((q_I δ 12 10 a0) &&& 31)).toInt := hX.imp id (fun z => ⟨z.1, by rw [z.2]⟩)
      have dY : (j : Int) < hM ad δ B ∧ Y.toInt < ((1 : Int32) <<< ((q_I δ 12 10 a0) &&& 31)).toInt ∨ (j : Int) = hM ad δ B ∧ Y.toInt = ((1 : Int32) <<< ((q_I δ 12 10 a0) &&& 31)).toInt := hY.imp id (fun z => ⟨z.1, by rw [z.2]⟩)
      generalize hG : ((1 : Int32) <<< ((q_I δ 12 10 a0) &&& 31)).toInt = G at dX dY ab
      unfold J_X12_runs_110
      refine ok_ite (fun c => ?_) (fun c => ?_)
      · have c1 := o_lt c
        unfold J_X12_runs_122
        refine ok_ite (fun c2 => ?_) (fun _ => ?_)
        · have := o_lt c2; exfalso; omega
        · refine ok_biv (fun y ey => ?_)
          exact fin x5 y X Y i (j + 1) h5 (by rw [ey]; omega) hi (by omega) (by omega)
      · have c1 := o_nlt c
        refine ok_biv (fun y ey => ?_)
        have hyy : y.toInt = ((i + 1 : Nat) : Int) := by rw [ey]; omega
        unfold J_X12_runs_122
        refine ok_ite (fun _ => ?_) (fun c2 => ?_)
        · exact fin y x6 X Y (i + 1) j hyy h6 (by omega) hj (by omega)
        · have c3 := o_nlt c2
          refine ok_biv (fun y2 ey2 => ?_)
          exact fin y y2 X Y (i + 1) (j + 1) hyy (by rw [ey2]; omega) (by omega) (by omega) (by omega)
    have mid : ¬ ((i : Int) = hM ad δ A ∧ (j : Int) = hM ad δ B) → ok (J_X12_runs_58 N h.1 a0 x1 x2 (L_X12_runs_36 N h.1 a0 x1 x2 n) x3 x4 x5 x6 δ) (fun r => r.2 = δ) := fun hne => by
      have m2 : ∀ X : Int32, ((i : Int) < hM ad δ A ∧ X.toInt < ((1 : Int32) <<< ((q_I δ 12 10 a0) &&& 31)).toInt ∨ (i : Int) = hM ad δ A ∧ X = (1 : Int32) <<< ((q_I δ 12 10 a0) &&& 31)) → ok (J_X12_runs_83 N h.1 a0 x1 x2 (L_X12_runs_36 N h.1 a0 x1 x2 n) X x3 x4 x5 x6 δ) (fun r => r.2 = δ) := fun X hX => by
        unfold J_X12_runs_83
        refine ok_at om ?_
        refine ok_gd (fun z => ?_) ?_
        · rcases z with z | z
          · have := o_lt z; omega
          · omega
        rw [ty]
        refine ok_ite (fun c => ?_) (fun c => ?_)
        · have c1 := o_le c
          rw [e_all, Option.bind_some]
          exact step X _ hX (Or.inr ⟨by omega, rfl⟩) hne
        · have c1 := o_nle c
          refine ok_bind (f12_numberAt L hNN ka hy hB h6 I (by omega)) (fun r hr => ?_)
          obtain ⟨e, hv⟩ := hr
          rw [e]
          have rr : rg a0 δ r.1 := SB.2 _ ⟨j, by omega, by rw [hv]; rfl⟩
          exact step X r.1 hX (Or.inl ⟨by omega, rr.2⟩) hne
      unfold J_X12_runs_58
      refine ok_at om ?_
      refine ok_gd (fun z => ?_) ?_
      · rcases z with z | z
        · have := o_lt z; omega
        · omega
      rw [tx]
      refine ok_ite (fun c => ?_) (fun c => ?_)
      · have c1 := o_le c
        rw [e_all, Option.bind_some]
        exact m2 _ (Or.inr ⟨by omega, rfl⟩)
      · have c1 := o_nle c
        refine ok_bind (f12_numberAt L hNN ka hx hA h5 I (by omega)) (fun r hr => ?_)
        obtain ⟨e, hv⟩ := hr
        rw [e]
        have rr : rg a0 δ r.1 := SA.2 _ ⟨i, by omega, by rw [hv]; rfl⟩
        exact m2 r.1 (Or.inl ⟨by omega, rr.2⟩)
    unfold L_X12_runs_36
    refine ok_at om ?_
    refine ok_gd (fun z => ?_) ?_
    · rcases z with z | z
      · have := o_lt z; omega
      · omega
    rw [tx]
    refine ok_ite (fun c => ?_) (fun c => ?_)
    · have c1 := o_lt c
      exact mid (by omega)
    · have c1 := o_nlt c
      refine ok_at om ?_
      refine ok_gd (fun z => ?_) ?_
      · rcases z with z | z
        · have := o_lt z; omega
        · omega
      rw [ty]
      refine ok_ite (fun _ => ok_some rfl) (fun c2 => ?_)
      have c3 := o_nle c2
      exact mid (by omega)
set_option maxHeartbeats 4000000 in
theorem f12_runs {ad : List Nat} {h : hp} (L : Lay TLx ad h) {δ0 : dp} {N : Nat} (hNN : 10000000 ≤ N) {a0 : Nat} {x1 x2 : Int32} (ka : q_K h.1 a0 = 12) {δ : dp} (I : RI ad h.1 δ0 δ) (S : ∀ K, K < 4 → hok ad a0 δ K) : ok (D_X12_runs N h.1 a0 x1 x2 δ) (fun r => HO ad a0 h.1 δ0 δ r.2) := by
  have out : ∀ (v : Int32) (d : dp), RI ad h.1 δ0 d → kp [(12, 0)] δ d → kr ad [100] δ d → ok (some (v, d)) (fun r => HO ad a0 h.1 δ0 δ r.2) := fun v d i u w => ok_some ⟨i, kp_w (by decide) u, kr_w (by decide) w, fun K hK => hok_k u w (S K hK)⟩
  have e0 : (0 : Int32).toInt = 0 := rfl
  unfold D_X12_runs
  refine ok_bdv (fun d1 e1 => ?_)
  have i1 : RI ad h.1 δ0 d1 := by rw [e1]; exact cs_12_0 L I
  have u1 := kp_I kp_r e1
  have w1 := kr_N (ad := ad) (W := []) (δ := δ) kr_r (show q_R d1 = q_R δ by rw [e1]; rfl)
  refine ok_bind (k_X12_isHouse L hNN (a0 := a0) (x1 := x1) (x2 := 1) ka (by decide) i1) (fun r2 hr2 => ?_)
  obtain ⟨i2, ⟨u2, v2, w2⟩, b2, g2⟩ := hr2
  have u2' : kp [(12, 0)] δ r2.2 := kp_w (by decide) (kp_t u1 u2)
  have w2' : kr ad [100] δ r2.2 := kr_w (by decide) (kr_t w1 w2)
  refine ok_ite (fun _ => ?_) (fun c2 => ?_)
  · unfold J_X12_runs_23; exact out 0 _ i2 u2' w2'
  refine ok_bind (k_X12_isHouse L hNN (a0 := a0) (x1 := x2) (x2 := 1) ka (by decide) i2) (fun r3 hr3 => ?_)
  obtain ⟨i3, ⟨u3, v3, w3⟩, b3, g3⟩ := hr3
  have u3' : kp [(12, 0)] δ r3.2 := kp_w (by decide) (kp_t u2' u3)
  have w3' : kr ad [100] δ r3.2 := kr_w (by decide) (kr_t w2' w3)
  refine ok_ite (fun _ => ?_) (fun c3 => ?_)
  · unfold J_X12_runs_23; exact out 0 _ i3 u3' w3'
  have n2 := bo_l b2
  have n3 := bo_l b3
  have m2 := o_ne c2
  have m3 := o_ne c3
  have hx := g2 (by omega)
  have hy := g3 (by omega)
  obtain ⟨A, hA⟩ : ∃ A : Nat, x1.toInt = (A : Int) := ⟨x1.toInt.toNat, by omega⟩
  obtain ⟨B, hB⟩ : ∃ B : Nat, x2.toInt = (B : Int) := ⟨x2.toInt.toNat, by omega⟩
  have SA := hok_k u3' w3' (S A (by omega))
  have SB := hok_k u3' w3' (S B (by omega))
  have bA : -1000 ≤ hM ad r3.2 A ∧ hM ad r3.2 A ≤ 2000 := rb_103 L i3 A
  have bB : -1000 ≤ hM ad r3.2 B ∧ hM ad r3.2 B ≤ 2000 := rb_103 L i3 B
  have sA := SA.1.1
  have sB := SB.1.1
  refine ok_mono (fl_runs L hNN ka hA (by omega) hB (by omega) i3 SA SB N 0 0 0 (-1) 0 0 (by omega) (by omega) (by omega) (by omega) (by omega)) (fun r4 hr4 => ?_)
  rw [hr4]
  exact ⟨i3, kp_w (by decide) u3', kr_w (by decide) w3', fun K hK => hok_k u3' w3' (S K hK)⟩
theorem f12_isNumber {ad : List Nat} {h : hp} (L : Lay TLx ad h) {δ0 : dp} {N : Nat} (hNN : 10000000 ≤ N) {a0 : Nat} {x1 : Int32} (ka : q_K h.1 a0 = 12) {δ : dp} (I : RI ad h.1 δ0 δ) : ok (D_X12_isNumber N h.1 a0 x1 δ) (fun r => r.2 = δ ∧ bo r.1 ∧ (r.1.toInt = 1 → rg a0 δ x1)) := by
  have e0 : (0 : Int32).toInt = 0 := rfl
  have ab := all_b ka I
  unfold D_X12_isNumber
  rw [e_all, Option.bind_some]
  have t1 := te_subc (c := 1) (n := 1) rfl ((1 : Int32) <<< ((q_I δ 12 10 a0) &&& 31)) (by omega) (by omega)
  refine ok_bind (k_X12_within L hNN (x0 := x1) (x1 := 0) (x2 := (1 : Int32) <<< ((q_I δ 12 10 a0) &&& 31) - 1) I) (fun r hr => ?_)
  obtain ⟨e, b, g, _⟩ := hr
  rw [e]
  refine ok_gp b ?_
  refine ok_some ⟨rfl, b, fun z => ?_⟩
  have g1 := g z
  rw [e0] at g1
  exact ⟨g1.1, by omega⟩
set_option maxHeartbeats 4000000 in
theorem f12_put {ad : List Nat} {h : hp} (L : Lay TLx ad h) {δ0 : dp} {N : Nat} (hNN : 10000000 ≤ N) {a0 : Nat} {x1 x2 : Int32} (ka : q_K h.1 a0 = 12) {δ : dp} (I : RI ad h.1 δ0 δ) (S : ∀ K, K < 4 → hok ad a0 δ K) : ok (D_X12_put N h.1 a0 x1 x2 δ) (fun r => HO ad a0 h.1 δ0 δ r.2) := by
  have out : ∀ (v : Int32) (d : dp), RI ad h.1 δ0 d → kp [(12, 0)] δ d → kr ad [100] δ d → ok (some (v, d)) (fun r => HO ad a0 h.1 δ0 δ r.2) := fun v d i u w => ok_some ⟨i, kp_w (by decide) u, kr_w (by decide) w, fun K hK => hok_k u w (S K hK)⟩
  have e0 : (0 : Int32).toInt = 0 := rfl
  have f1000 : (1000 : Int32).toInt = 1000 := rfl
  have f2000 : (2000 : Int32).toInt = 2000 := rfl
  unfold D_X12_put
  refine ok_bdv (fun d1 e1 => ?_)
  have i1 : RI ad h.1 δ0 d1 := by rw [e1]; exact cs_12_0 L I
  have u1 := kp_I kp_r e1
  have w1 := kr_N (ad := ad) (W := []) (δ := δ) kr_r (show q_R d1 = q_R δ by rw [e1]; rfl)
  refine ok_bind (k_X12_isHouse L hNN (a0 := a0) (x1 := x1) (x2 := 1) ka (by decide) i1) (fun r2 hr2 => ?_)
  obtain ⟨i2, ⟨u2, v2, w2⟩, b2, g2⟩ := hr2
  have u2' : kp [(12, 0)] δ r2.2 := kp_w (by decide) (kp_t u1 u2)
  have w2' : kr ad [100] δ r2.2 := kr_w (by decide) (kr_t w1 w2)
  refine ok_ite (fun _ => ?_) (fun c2 => ?_)
  · unfold J_X12_put_28; exact out 0 _ i2 u2' w2'
  refine ok_bind (f12_isNumber L hNN (x1 := x2) ka i2) (fun r3 hr3 => ?_)
  obtain ⟨e3, b3, g3⟩ := hr3
  rw [e3]
  refine ok_bind (k_X12_may L hNN (a0 := a0) (x1 := r3.1) (x2 := 2) (x3 := 2) ka (by decide) (by decide) (by decide) i2) (fun r hr => ?_)
  obtain ⟨i4, ⟨u4, v4, w4⟩, b4, g4, _⟩ := hr
  have u4' : kp [(12, 0)] δ r.2 := kp_w (by decide) (kp_t u2' u4)
  have w4' : kr ad [100] δ r.2 := kr_w (by decide) (kr_t w2' w4)
  refine ok_ite (fun _ => ?_) (fun c4 => ?_)
  · unfold J_X12_put_28; exact out 0 _ i4 u4' w4'
  have n2 := bo_l b2
  have n3 := bo_l b3
  have n4 := bo_l b4
  have m2 := o_ne c2
  have m4 := o_ne c4
  have hx := g2 (by omega)
  have q4 := g4 (by omega)
  have rx2 : rg a0 r2.2 x2 := g3 (by omega)
  have rx : rg a0 r.2 x2 := (rg_k (u4 12 10 a0 (by decide))).mpr rx2
  obtain ⟨A, hA⟩ : ∃ A : Nat, x1.toInt = (A : Int) := ⟨x1.toInt.toNat, by omega⟩
  have tn := tnH hA
  have SO : ∀ K, K < 4 → hok ad a0 r.2 K := fun K hK => hok_k u4' w4' (S K hK)
  have SA := SO A (by omega)
  have hB : -1000 ≤ hM ad r.2 A ∧ hM ad r.2 A ≤ 2000 := rb_103 L i4 A
  have hB6 : 0 ≤ hN ad r.2 A ∧ hN ad r.2 A ≤ 1000 := rb_106 L i4 A
  have vA : (q_R r.2 (Ad ad 103) A).toInt = hM ad r.2 A := rfl
  have vN : (q_R r.2 (Ad ad 106) A).toInt = hN ad r.2 A := rfl
  obtain ⟨bm, om, _, nm⟩ := gO_12_14 L ka
  obtain rfl := gS_12_14 L ka om
  obtain ⟨bt, ot, _, nt⟩ := gO_12_17 L ka
  obtain rfl := gS_12_17 L ka ot
  refine ok_bind (f12_isThere L hNN (x := x2) ka hA (by omega) i4 SA.1) (fun r5 hr5 => ?_)
  obtain ⟨e5, hm⟩ := hr5
  rw [e5]
  rcases hm with ⟨e6, hm⟩ | ⟨e6, hm⟩
  · rw [e6]
    refine ok_ite (fun c => absurd c (by decide)) (fun _ => ?_)
    exact out 0 _ i4 u4' w4'
  · rw [e6]
    refine ok_ite (fun _ => ?_) (fun c => absurd rfl c)
    refine ok_at om ?_
    refine ok_gd (fun z => ?_) ?_
    · rcases z with z | z
      · have := o_lt z; omega
      · omega
    rw [tn]
    refine ok_ite (fun _ => out _ _ i4 u4' w4') (fun c7 => ?_)
    have m7 := o_ne c7
    refine ok_at ot ?_
    refine ok_gd (fun z => ?_) ?_
    · rcases z with z | z
      · have := o_lt z; omega
      · omega
    refine ok_ite (fun _ => out _ _ i4 u4' w4') (fun c8 => ?_)
    have m8 := o_ne c8
    have sm := SA.1.1
    obtain ⟨M, hMM⟩ : ∃ M : Nat, hM ad r.2 A = (M : Int) := ⟨(hM ad r.2 A).toNat, by omega⟩
    refine ok_bind (ok_and (k_X12_comes L hNN (a0 := a0) (x1 := x1) (x2 := x2) ka (by omega) (by omega) (by rw [tn]; show hM ad r.2 A < 2000; omega) i4) (f12_comes L hNN (x := x2) ka hA (by omega) i4 SA.1 hMM (by omega))) (fun r9 hr9 => ?_)
    obtain ⟨⟨i9, ⟨u9, v9, w9⟩, _⟩, p, P, D⟩ := hr9
    have pm : p ≤ M := by have := P.1; omega
    obtain ⟨S9, _, _, mb⟩ := hin_s SA.1 hMM (by omega) P hm D
    have n9 := w9 106 (by decide) (by decide) (by decide)
    have k9 := hin_k (by omega) pm D n9
    have nn : hN ad r9 A = hN ad r.2 A := by unfold hN; rw [n9]
    refine ok_bind (k_X12_notesDown L hNN (a0 := a0) (x1 := x1) (x2 := x2) (x3 := 1) ka (by omega) (by omega) (by rw [tn]; show hN ad r9 A < 1000; omega) i9) (fun r10 hr10 => ?_)
    obtain ⟨i10, ⟨u10, v10, w10⟩, _⟩ := hr10
    have g10 := fun K => h_all (K := K) (w10 102 (by decide) (by decide) (by decide)) (w10 103 (by decide) (by decide) (by decide))
    have eg : ∀ y, rg a0 r10 y ↔ rg a0 r.2 y := fun y => (rg_k (u10 12 10 a0 (by decide))).trans (rg_k (u9 12 10 a0 (by decide)))
    refine ok_some ⟨i10, kp_w (by decide) (kp_t (kp_t u4' u9) u10), kr_w (by decide) (kr_t (kr_t w4' w9) w10), fun K hK => ?_⟩
    by_cases eK : K = A
    · subst eK
      refine ⟨(g10 K).1 S9, fun y hy => (eg y).mpr ?_⟩
      rcases mb y (((g10 K).2 y).mp hy) with z | z
      · exact SA.2 y z
      · rw [z]; exact rx
    · have hBK : -1000 ≤ hM ad r.2 K ∧ hM ad r.2 K ≤ 2000 := rb_103 L i4 K
      refine ⟨(g10 K).1 (hsr_k (k9 K hK eK).1 hBK.2 (k9 K hK eK).2.2 (SO K hK).1), fun y hy => (eg y).mpr ((SO K hK).2 y ?_)⟩
      exact (hmem_k (k9 K hK eK).1 hBK.2 (k9 K hK eK).2.2).mp (((g10 K).2 y).mp hy)
set_option maxHeartbeats 4000000 in
theorem f12_drop {ad : List Nat} {h : hp} (L : Lay TLx ad h) {δ0 : dp} {N : Nat} (hNN : 10000000 ≤ N) {a0 : Nat} {x1 x2 : Int32} (ka : q_K h.1 a0 = 12) {δ : dp} (I : RI ad h.1 δ0 δ) (S : ∀ K, K < 4 → hok ad a0 δ K) : ok (D_X12_drop N h.1 a0 x1 x2 δ) (fun r => HO ad a0 h.1 δ0 δ r.2) := by
  have out : ∀ (v : Int32) (d : dp), RI ad h.1 δ0 d → kp [(12, 0)] δ d → kr ad [100] δ d → ok (some (v, d)) (fun r => HO ad a0 h.1 δ0 δ r.2) := fun v d i u w => ok_some ⟨i, kp_w (by decide) u, kr_w (by decide) w, fun K hK => hok_k u w (S K hK)⟩
  have e0 : (0 : Int32).toInt = 0 := rfl
  have f1000 : (1000 : Int32).toInt = 1000 := rfl
  unfold D_X12_drop
  refine ok_bdv (fun d1 e1 => ?_)
  have i1 : RI ad h.1 δ0 d1 := by rw [e1]; exact cs_12_0 L I
  have u1 := kp_I kp_r e1
  have w1 := kr_N (ad := ad) (W := []) (δ := δ) kr_r (show q_R d1 = q_R δ by rw [e1]; rfl)
  refine ok_bind (k_X12_isHouse L hNN (a0 := a0) (x1 := x1) (x2 := 1) ka (by decide) i1) (fun r2 hr2 => ?_)
  obtain ⟨i2, ⟨u2, v2, w2⟩, b2, g2⟩ := hr2
  have u2' : kp [(12, 0)] δ r2.2 := kp_w (by decide) (kp_t u1 u2)
  have w2' : kr ad [100] δ r2.2 := kr_w (by decide) (kr_t w1 w2)
  refine ok_ite (fun _ => ?_) (fun c2 => ?_)
  · unfold J_X12_drop_28; exact out 0 _ i2 u2' w2'
  refine ok_bind (k_X12_isNumber L hNN (a0 := a0) (x1 := x2) ka i2) (fun r3 hr3 => ?_)
  obtain ⟨e3, b3, _⟩ := hr3
  rw [e3]
  refine ok_bind (k_X12_may L hNN (a0 := a0) (x1 := r3.1) (x2 := 2) (x3 := 2) ka (by decide) (by decide) (by decide) i2) (fun r hr => ?_)
  obtain ⟨i4, ⟨u4, v4, w4⟩, b4, g4, _⟩ := hr
  have u4' : kp [(12, 0)] δ r.2 := kp_w (by decide) (kp_t u2' u4)
  have w4' : kr ad [100] δ r.2 := kr_w (by decide) (kr_t w2' w4)
  refine ok_ite (fun _ => ?_) (fun c4 => ?_)
  · unfold J_X12_drop_28; exact out 0 _ i4 u4' w4'
  have n2 := bo_l b2
  have m2 := o_ne c2
  have hx := g2 (by omega)
  obtain ⟨A, hA⟩ : ∃ A : Nat, x1.toInt = (A : Int) := ⟨x1.toInt.toNat, by omega⟩
  have tn := tnH hA
  have SO : ∀ K, K < 4 → hok ad a0 r.2 K := fun K hK => hok_k u4' w4' (S K hK)
  have SA := SO A (by omega)
  have hB : -1000 ≤ hM ad r.2 A ∧ hM ad r.2 A ≤ 2000 := rb_103 L i4 A
  have hB6 : 0 ≤ hN ad r.2 A ∧ hN ad r.2 A ≤ 1000 := rb_106 L i4 A
  have vN : (q_R r.2 (Ad ad 106) A).toInt = hN ad r.2 A := rfl
  obtain ⟨bt, ot, _, nt⟩ := gO_12_17 L ka
  obtain rfl := gS_12_17 L ka ot
  refine ok_bind (f12_isThere L hNN (x := x2) ka hA (by omega) i4 SA.1) (fun r5 hr5 => ?_)
  obtain ⟨e5, hm⟩ := hr5
  rw [e5]
  rcases hm with ⟨e6, hm⟩ | ⟨e6, hm⟩
  · rw [e6]
    refine ok_ite (fun c => absurd c (by decide)) (fun _ => ?_)
    refine ok_at ot ?_
    refine ok_gd (fun z => ?_) ?_
    · rcases z with z | z
      · have := o_lt z; omega
      · omega
    rw [tn]
    refine ok_ite (fun _ => out _ _ i4 u4' w4') (fun c8 => ?_)
    have m8 := o_ne c8
    have sm := SA.1.1
    obtain ⟨M, hMM⟩ : ∃ M : Nat, hM ad r.2 A = (M : Int) := ⟨(hM ad r.2 A).toNat, by omega⟩
    refine ok_bind (ok_and (k_X12_leaves L hNN (a0 := a0) (x1 := x1) (x2 := x2) ka (by omega) (by omega) (by rw [tn]; show -999 ≤ hM ad r.2 A; omega) i4) (f12_leaves L hNN (x := x2) ka hA (by omega) i4 SA.1 hMM hm)) (fun r9 hr9 => ?_)
    obtain ⟨⟨i9, ⟨u9, v9, w9⟩, _⟩, p, pM, _, D⟩ := hr9
    obtain ⟨S9, mb⟩ := hde_s SA.1 hMM (by omega) pM D
    have n9 := w9 106 (by decide) (by decide) (by decide)
    have k9 := hde_k (by omega) D n9
    have nn : hN ad r9 A = hN ad r.2 A := by unfold hN; rw [n9]
    refine ok_bind (k_X12_notesDown L hNN (a0 := a0) (x1 := x1) (x2 := x2) (x3 := 0) ka (by omega) (by omega) (by rw [tn]; show hN ad r9 A < 1000; omega) i9) (fun r10 hr10 => ?_)
    obtain ⟨i10, ⟨u10, v10, w10⟩, _⟩ := hr10
    have g10 := fun K => h_all (K := K) (w10 102 (by decide) (by decide) (by decide)) (w10 103 (by decide) (by decide) (by decide))
    have eg : ∀ y, rg a0 r10 y ↔ rg a0 r.2 y := fun y => (rg_k (u10 12 10 a0 (by decide))).trans (rg_k (u9 12 10 a0 (by decide)))
    refine ok_some ⟨i10, kp_w (by decide) (kp_t (kp_t u4' u9) u10), kr_w (by decide) (kr_t (kr_t w4' w9) w10), fun K hK => ?_⟩
    by_cases eK : K = A
    · subst eK
      exact ⟨(g10 K).1 S9, fun y hy => (eg y).mpr (SA.2 y (mb y (((g10 K).2 y).mp hy)))⟩
    · have hBK : -1000 ≤ hM ad r.2 K ∧ hM ad r.2 K ≤ 2000 := rb_103 L i4 K
      refine ⟨(g10 K).1 (hsr_k (k9 K hK eK).1 hBK.2 (k9 K hK eK).2.2 (SO K hK).1), fun y hy => (eg y).mpr ((SO K hK).2 y ?_)⟩
      exact (hmem_k (k9 K hK eK).1 hBK.2 (k9 K hK eK).2.2).mp (((g10 K).2 y).mp hy)
  · rw [e6]
    refine ok_ite (fun _ => ?_) (fun c => absurd rfl c)
    exact out 0 _ i4 u4' w4'
end
section
/-! a house is kept, changed, and comes back -/
def kpt (ad : List Nat) (a0 H : Nat) (δ d : dp) : Prop := sgk ad H δ d ∧ (q_I d 12 47 a0).toInt = hM ad δ H ∧ ∀ i : Nat, (i : Int) < hM ad δ H → q_R d (Ad ad 124) i = q_R δ (Ad ad 102) (2000 * H + i)
theorem kpt.t {ad : List Nat} {a0 H : Nat} {δ d d1 : dp} (h : kpt ad a0 H δ d) (s : sgk ad H d d1) (e1 : q_R d1 (Ad ad 124) = q_R d (Ad ad 124)) (e2 : q_I d1 12 47 a0 = q_I d 12 47 a0) : kpt ad a0 H δ d1 := ⟨sgk_t h.1 s, by rw [e2]; exact h.2.1, fun i hi => by rw [e1]; exact h.2.2 i hi⟩
theorem fl_keeps {ad : List Nat} {h : hp} (L : Lay TLx ad h) {δ0 : dp} {N a0 H M : Nat} {x1 : Int32} (ka : q_K h.1 a0 = 12) (hx : x1.toInt = (H : Int)) (hh : H < 4) {δ : dp} (hM1 : hM ad δ H = (M : Int)) (hM2 : M ≤ 2000) : ∀ (n k : Nat) (x2 : Int32) (d : dp), x2.toInt = (k : Int) → k ≤ M → (∀ i : Nat, i < k → q_R d (Ad ad 124) i = q_R δ (Ad ad 102) (2000 * H + i)) → q_R d (Ad ad 102) = q_R δ (Ad ad 102) → q_R d (Ad ad 103) = q_R δ (Ad ad 103) → M - k < n → ok (L_X12_keeps_2 N h.1 a0 x1 n x2 d) (fun r => kpt ad a0 H δ r) := by
  have e0 : (0 : Int32).toInt = 0 := rfl
  have tn := tnH hx
  obtain ⟨bm, om, _, nm⟩ := gO_12_14 L ka
  obtain rfl := gS_12_14 L ka om
  obtain ⟨br, orr, _, nr, _⟩ := gO_12_13 L ka
  obtain rfl := gS_12_13 L ka orr
  obtain ⟨bk, okk, _, nk, _⟩ := gO_12_46 L ka
  obtain rfl := gS_12_46 L ka okk
  intro n
  induction n with
  | zero => intro k x2 d h1 h2 h3 h4 h5 hn; exfalso; omega
  | succ n ih =>
    intro k x2 d h1 h2 h3 h4 h5 hn
    have vM : (q_R d (Ad ad 103) H).toInt = (M : Int) := by rw [h5]; exact hM1
    unfold L_X12_keeps_2
    refine ok_at om ?_
    refine ok_gd (fun z => ?_) ?_
    · rcases z with z | z
      · have := o_lt z; omega
      · omega
    rw [tn]
    refine ok_ite (fun c => ?_) (fun c => ?_)
    · have c1 := o_le c
      refine ok_at om ?_
      refine ok_gd (fun z => ?_) ?_
      · rcases z with z | z
        · have := o_lt z; omega
        · omega
      refine ok_bdv (fun d1 e1 => ?_)
      refine ok_some ⟨?_, ?_, fun i hi => ?_⟩
      · rw [e1]; exact sgk_k h4 h5
      · rw [e1, rI_s, vM, hM1]
      · rw [e1]; exact h3 i (by omega)
    · have c1 := o_nle c
      refine ok_at okk ?_
      refine ok_at orr ?_
      obtain ⟨i1, i2⟩ := ix2 hx hh h1 (by omega)
      have t2 := ti_tn x2
      refine ok_gd (fun z => ?_) ?_
      · rcases z with z | z
        · have := o_lt z; omega
        · rw [i2] at z; omega
      refine ok_gd (fun z => ?_) ?_
      · rcases z with z | z
        · have := o_lt z; omega
        · omega
      rw [i2]
      refine ok_bdv (fun d1 e1 => ?_)
      refine ok_biv (fun y ey => ?_)
      have hy : y.toInt = x2.toInt + 1 := by rw [ey]; exact (te_addc (c := 1) (n := 1) rfl x2 (by omega) (by omega)).1
      refine ih (k + 1) y d1 (by omega) (by omega) (fun i hi => ?_) (by rw [e1, rR_o (ad_ne L (by decide) (by decide) (by decide)), h4]) (by rw [e1, rR_o (ad_ne L (by decide) (by decide) (by decide)), h5]) (by omega)
      rw [e1, qR_sR]
      by_cases c3 : i = k
      · rw [if_pos ⟨rfl, by omega⟩, h4, c3]
      · rw [if_neg (fun z => c3 (by omega))]; exact h3 i (by omega)
theorem f_keeps {ad : List Nat} {h : hp} (L : Lay TLx ad h) {δ0 : dp} {N : Nat} (hNN : 10000000 ≤ N) {a0 H : Nat} {x1 : Int32} (ka : q_K h.1 a0 = 12) (hx : x1.toInt = (H : Int)) (hh : H < 4) {δ : dp} (I : RI ad h.1 δ0 δ) (S : 0 ≤ hM ad δ H) : ok (D_X12_keeps N h.1 a0 x1 δ) (fun r => kpt ad a0 H δ r) := by
  have hB : -1000 ≤ hM ad δ H ∧ hM ad δ H ≤ 2000 := rb_103 L I H
  have e0 : (0 : Int32).toInt = 0 := rfl
  unfold D_X12_keeps
  exact fl_keeps (δ0 := δ0) L ka hx hh (M := (hM ad δ H).toNat) (by omega) (by omega) N 0 0 δ (by omega) (by omega) (fun i hi => by omega) rfl rfl (by omega)
theorem fl_back {ad : List Nat} {h : hp} (L : Lay TLx ad h) {δ0 : dp} {N a0 H M : Nat} {x1 : Int32} (ka : q_K h.1 a0 = 12) (hx : x1.toInt = (H : Int)) (hh : H < 4) {δ : dp} (hM1 : hM ad δ H = (M : Int)) (hM2 : M ≤ 2000) : ∀ (n k : Nat) (x2 : Int32) (d : dp), x2.toInt = (k : Int) → k ≤ M → kpt ad a0 H δ d → (∀ i : Nat, i < k → q_R d (Ad ad 102) (2000 * H + i) = q_R δ (Ad ad 102) (2000 * H + i)) → M - k < n → ok (L_X12_comesBack_2 N h.1 a0 x1 n x2 d) (fun r => sgk ad H δ r ∧ hM ad r H = hM ad δ H ∧ ∀ i : Nat, i < M → q_R r (Ad ad 102) (2000 * H + i) = q_R δ (Ad ad 102) (2000 * H + i)) := by
  have e0 : (0 : Int32).toInt = 0 := rfl
  have tn := tnH hx
  obtain ⟨bm, om, _, nm⟩ := gO_12_14 L ka
  obtain rfl := gS_12_14 L ka om
  obtain ⟨br, orr, _, nr, _⟩ := gO_12_13 L ka
  obtain rfl := gS_12_13 L ka orr
  obtain ⟨bk, okk, _, nk, _⟩ := gO_12_46 L ka
  obtain rfl := gS_12_46 L ka okk
  intro n
  induction n with
  | zero => intro k x2 d h1 h2 h3 h4 hn; exfalso; omega
  | succ n ih =>
    intro k x2 d h1 h2 h3 h4 hn
    have vM : (q_I d 12 47 a0).toInt = (M : Int) := by rw [h3.2.1]; exact hM1
    unfold L_X12_comesBack_2
    refine ok_ite (fun c => ?_) (fun c => ?_)
    · have c1 := o_le c
      refine ok_at om ?_
      refine ok_gd (fun z => ?_) ?_
      · rcases z with z | z
        · have := o_lt z; omega
        · omega
      rw [tn]
      refine ok_bdv (fun d1 e1 => ?_)
      refine ok_some ⟨?_, ?_, fun i hi => ?_⟩
      · rw [e1]; exact sgk_t h3.1 (sgk_3 L)
      · show (q_R d1 (Ad ad 103) H).toInt = _
        rw [e1, qR_sR, if_pos ⟨rfl, rfl⟩, vM, hM1]
      · rw [e1, rR_o (ad_ne L (by decide) (by decide) (by decide))]; exact h4 i (by omega)
    · have c1 := o_nle c
      refine ok_at orr ?_
      refine ok_at okk ?_
      obtain ⟨i1, i2⟩ := ix2 hx hh h1 (by omega)
      have t2 := ti_tn x2
      refine ok_gd (fun z => ?_) ?_
      · rcases z with z | z
        · have := o_lt z; omega
        · omega
      refine ok_gd (fun z => ?_) ?_
      · rcases z with z | z
        · have := o_lt z; omega
        · rw [i2] at z; omega
      rw [i2]
      have ek : x2.toNatClampNeg = k := by omega
      rw [ek]
      refine ok_bdv (fun d1 e1 => ?_)
      refine ok_biv (fun y ey => ?_)
      have hy : y.toInt = x2.toInt + 1 := by rw [ey]; exact (te_addc (c := 1) (n := 1) rfl x2 (by omega) (by omega)).1
      refine ih (k + 1) y d1 (by omega) (by omega) (h3.t (by rw [e1]; exact sgk_2 L (by omega) (by omega)) (by rw [e1, rR_o (ad_ne L (by decide) (by decide) (by decide))]) (by rw [e1]; rfl)) (fun i hi => ?_) (by omega)
      rw [e1, qR_sR]
      by_cases c3 : i = k
      · rw [if_pos ⟨rfl, by omega⟩, c3]; exact h3.2.2 k (by omega)
      · rw [if_neg (fun z => c3 (by omega))]; exact h4 i (by omega)
/-- the houses are as they were -/
def bak (ad : List Nat) (δ d : dp) : Prop := ∀ K, K < 4 → hM ad d K = hM ad δ K ∧ ∀ i : Nat, (i : Int) < hM ad δ K → hR ad d K i = hR ad δ K i
theorem bak.o {ad : List Nat} {a0 : Nat} {δ d : dp} (h : bak ad δ d) (e : q_I d 12 10 a0 = q_I δ 12 10 a0) {K : Nat} (hK : K < 4) (S : hok ad a0 δ K) : hok ad a0 d K := by
  obtain ⟨h1, h2⟩ := h K hK
  refine ⟨⟨by rw [h1]; exact S.1.1, fun i j a b => ?_⟩, fun y hy => (rg_k e).mpr (S.2 y ?_)⟩
  · rw [h1] at b
    rw [h2 i (by omega), h2 j b]
    exact S.1.2 i j a b
  · obtain ⟨i, a, b⟩ := hy
    rw [h1] at a
    rw [h2 i a] at b
    exact ⟨i, a, b⟩
theorem f_back {ad : List Nat} {h : hp} (L : Lay TLx ad h) {δ0 : dp} {N : Nat} (hNN : 10000000 ≤ N) {a0 H : Nat} {x1 : Int32} (ka : q_K h.1 a0 = 12) (hx : x1.toInt = (H : Int)) (hh : H < 4) {δ d : dp} (I : RI ad h.1 δ0 δ) (S : ∀ K, K < 4 → 0 ≤ hM ad δ K) (k : kpt ad a0 H δ d) : ok (D_X12_comesBack N h.1 a0 x1 d) (fun r => bak ad δ r) := by
  have hB : ∀ K, -1000 ≤ hM ad δ K ∧ hM ad δ K ≤ 2000 := fun K => rb_103 L I K
  have s := S H hh
  have b := hB H
  have e0 : (0 : Int32).toInt = 0 := rfl
  unfold D_X12_comesBack
  refine ok_mono (fl_back (δ0 := δ0) L ka hx hh (M := (hM ad δ H).toNat) (by omega) (by omega) N 0 0 d (by omega) (by omega) k (fun i hi => by omega) (by omega)) (fun r hr => ?_)
  obtain ⟨s1, m1, r1⟩ := hr
  intro K hK
  by_cases e : K = H
  · subst e
    exact ⟨m1, fun i hi => by unfold hR; rw [r1 i (by omega)]⟩
  · refine ⟨by unfold hM; rw [s1.2 K e], fun i hi => ?_⟩
    have bK := hB K
    unfold hR
    rw [s1.1 _ (by omega)]
theorem fl_goesTo {ad : List Nat} {h : hp} (L : Lay TLx ad h) {δ0 : dp} {N : Nat} (hNN : 10000000 ≤ N) {a0 H : Nat} {x1 x2 : Int32} (ka : q_K h.1 a0 = 12) (hx : x1.toInt = (H : Int)) (hh : H < 4) (z3 : x2.toInt ≤ 1000) {δ : dp} : ∀ (n k : Nat) (x3 : Int32) (d : dp), x3.toInt = (k : Int) → k ≤ 1000 → RI ad h.1 δ0 d → -(k : Int) ≤ (q_R d (Ad ad 103) x1.toNatClampNeg).toInt → (q_R d (Ad ad 103) x1.toNatClampNeg).toInt ≤ (k : Int) → kpt ad a0 H δ d → 1000 - k < n → ok (L_X12_goesTo_14 N h.1 a0 x1 x2 n x3 d) (fun r => kpt ad a0 H δ r) := by
  have tn := tnH hx
  intro n
  induction n with
  | zero => intro k x3 d h1 h2 I m1 m2 K hn; exfalso; omega
  | succ n ih =>
    intro k x3 d h1 h2 I m1 m2 K hn
    unfold L_X12_goesTo_14
    refine ok_ite (fun _ => ok_some K) (fun c => ?_)
    have c1 := o_nle c
    refine ok_bind (g_X12_changes L hNN (a0 := a0) (x1 := x1) (x2 := x3) ka (by omega) (by omega) (by omega) (by omega) (by omega) (by omega) I) (fun r hr => ?_)
    obtain ⟨i3, ⟨u3, v3, w3, s3⟩, p1, p2⟩ := hr
    rw [tn] at s3
    refine ok_biv (fun y ey => ?_)
    have hy : y.toInt = x3.toInt + 1 := by rw [ey]; exact (te_addc (c := 1) (n := 1) rfl x3 (by omega) (by omega)).1
    exact ih (k + 1) y r (by omega) (by omega) i3 (by omega) (by omega) (K.t s3 (w3 124 (by decide) (by decide) (by decide)) (u3 12 47 a0 (by decide))) (by omega)
theorem f_goesTo {ad : List Nat} {h : hp} (L : Lay TLx ad h) {δ0 : dp} {N : Nat} (hNN : 10000000 ≤ N) {a0 H : Nat} {x1 x2 : Int32} (ka : q_K h.1 a0 = 12) (hx : x1.toInt = (H : Int)) (hh : H < 4) (z2 : 0 ≤ x2.toInt) (z3 : x2.toInt ≤ 1000) {δ : dp} (I : RI ad h.1 δ0 δ) (S : 0 ≤ hM ad δ H) : ok (D_X12_goesTo N h.1 a0 x1 x2 δ) (fun r => kpt ad a0 H δ r) := by
  have e0 : (0 : Int32).toInt = 0 := rfl
  have tn := tnH hx
  unfold D_X12_goesTo
  refine ok_bind (ok_and (k_X12_keeps L hNN (a0 := a0) (x1 := x1) ka (by omega) (by omega) I) (f_keeps L hNN ka hx hh I S)) (fun r hr => ?_)
  obtain ⟨⟨i1, ⟨u1, v1, w1⟩, _⟩, k1⟩ := hr
  obtain ⟨bm, om, _, nm⟩ := gO_12_14 L ka
  obtain rfl := gS_12_14 L ka om
  refine ok_at om ?_
  refine ok_gd (fun z => ?_) ?_
  · rcases z with z | z
    · have := o_lt z; omega
    · omega
  refine ok_bdv (fun d1 e1 => ?_)
  have i2 : RI ad h.1 δ0 d1 := by rw [e1]; exact cr_103 L i1 (by decide) (by decide)
  have m0 : (q_R d1 (Ad ad 103) x1.toNatClampNeg).toInt = 0 := by
    rw [e1, qR_sR, if_pos ⟨rfl, rfl⟩]
    rfl
  have k2 : kpt ad a0 H δ d1 := k1.t (by rw [e1, tn]; exact sgk_3 L) (by rw [e1, rR_o (ad_ne L (by decide) (by decide) (by decide))]) (by rw [e1]; rfl)
  exact fl_goesTo L hNN ka hx hh z3 N 0 0 d1 (by omega) (by omega) i2 (by omega) (by omega) k2 (by omega)
theorem bak_k {ad : List Nat} {δ d : dp} (h2 : q_R d (Ad ad 102) = q_R δ (Ad ad 102)) (h3 : q_R d (Ad ad 103) = q_R δ (Ad ad 103)) : bak ad δ d := fun K _ => ⟨(h_rows h2 h3 K).1, fun i _ => (h_rows h2 h3 K).2 i⟩
theorem bak.t {ad : List Nat} {δ d e : dp} (h : bak ad δ d) (k : bak ad d e) : bak ad δ e := fun K hK => ⟨(k K hK).1.trans (h K hK).1, fun i hi => ((k K hK).2 i (by rw [(h K hK).1]; exact hi)).trans ((h K hK).2 i hi)⟩
set_option maxHeartbeats 4000000 in
theorem f_was {ad : List Nat} {h : hp} (L : Lay TLx ad h) {δ0 : dp} {N : Nat} (hNN : 10000000 ≤ N) {a0 : Nat} {x1 x2 x3 : Int32} (ka : q_K h.1 a0 = 12) {δ : dp} (I : RI ad h.1 δ0 δ) (S : ∀ K, K < 4 → 0 ≤ hM ad δ K) : ok (D_X12_was N h.1 a0 x1 x2 x3 δ) (fun r => bak ad δ r.2) := by
  have e0 : (0 : Int32).toInt = 0 := rfl
  unfold D_X12_was
  refine ok_bdv (fun d1 e1 => ?_)
  have i1 : RI ad h.1 δ0 d1 := by rw [e1]; exact cs_12_0 L I
  have w1 := kr_N (ad := ad) (W := []) (δ := δ) kr_r (show q_R d1 = q_R δ by rw [e1]; rfl)
  refine ok_bind (k_X12_isHouse L hNN (a0 := a0) (x1 := x1) (x2 := 1) ka (by decide) i1) (fun r2 hr2 => ?_)
  obtain ⟨i2, ⟨u2, v2, w2⟩, b2, g2⟩ := hr2
  have w2' : kr ad [100] δ r2.2 := kr_w (by decide) (kr_t w1 w2)
  have out : ∀ d, kr ad [100] δ d → bak ad δ d := fun d w => bak_k (w 102 (by decide) (by decide) (by decide)) (w 103 (by decide) (by decide) (by decide))
  refine ok_ite (fun _ => ?_) (fun c2 => ?_)
  · unfold J_X12_was_46; exact ok_some (out _ w2')
  have n2 := bo_l b2
  have m2 := o_ne c2
  have hx := g2 (by omega)
  obtain ⟨A, hA⟩ : ∃ A : Nat, x1.toInt = (A : Int) := ⟨x1.toInt.toNat, by omega⟩
  have tn := tnH hA
  have bad : ok (J_X12_was_37 N h.1 a0 x1 x2 x3 a0 r2.2) (fun r => bak ad δ r.2) := by
    unfold J_X12_was_37 J_X12_was_38
    refine ok_bind (k_X12_may L hNN (a0 := a0) (x1 := 0) (x2 := 2) (x3 := 2) ka (by decide) (by decide) (by decide) i2) (fun r hr => ?_)
    obtain ⟨i4, ⟨u4, v4, w4⟩, b4, g4, _⟩ := hr
    refine ok_ite (fun _ => ?_) (fun c4 => ?_)
    · unfold J_X12_was_46; exact ok_some (out _ (kr_w (by decide) (kr_t w2' w4)))
    · have n4 := bo_l b4
      have m4 := o_ne c4
      exact absurd rfl (g4 (by omega))
  refine ok_bind (k_X12_isTime L hNN (a0 := a0) (x1 := x1) (x2 := x2) ka (by omega) (by omega) i2) (fun r3 hr3 => ?_)
  obtain ⟨e3, b3, g3⟩ := hr3
  rw [e3]
  refine ok_ite (fun _ => bad) (fun c3 => ?_)
  have n3 := bo_l b3
  have m3 := o_ne c3
  have ht := g3 (by omega)
  have hN6 : 0 ≤ hN ad r2.2 A ∧ hN ad r2.2 A ≤ 1000 := rb_106 L i2 A
  have vN : (q_R r2.2 (Ad ad 106) x1.toNatClampNeg).toInt = hN ad r2.2 A := by rw [tn]; rfl
  refine ok_bind (k_X12_within L hNN (x0 := x3) (x1 := 0) (x2 := 2) i2) (fun r5 hr5 => ?_)
  obtain ⟨e5, b5, _, _⟩ := hr5
  rw [e5]
  refine ok_ite (fun _ => bad) (fun c5 => ?_)
  unfold J_X12_was_38
  refine ok_bind (k_X12_may L hNN (a0 := a0) (x1 := 1) (x2 := 2) (x3 := 2) ka (by decide) (by decide) (by decide) i2) (fun r hr => ?_)
  obtain ⟨i4, ⟨u4, v4, w4⟩, b4, g4, _⟩ := hr
  have w4' : kr ad [100] δ r.2 := kr_w (by decide) (kr_t w2' w4)
  have b0 := out _ w4'
  refine ok_ite (fun _ => ?_) (fun c4 => ?_)
  · unfold J_X12_was_46; exact ok_some b0
  have S4 : ∀ K, K < 4 → 0 ≤ hM ad r.2 K := fun K hK => by rw [(b0 K hK).1]; exact S K hK
  refine ok_bind (ok_and (k_X12_goesTo L hNN (a0 := a0) (x1 := x1) (x2 := x2) ka (by omega) (by omega) (by omega) (by omega) i4) (f_goesTo L hNN ka hA (by omega) (by omega) (by omega) i4 (S4 A (by omega)))) (fun r9 hr9 => ?_)
  obtain ⟨⟨i9, _⟩, k9⟩ := hr9
  have back : ∀ v : Int32, ok (J_X12_was_94 N h.1 a0 x1 x2 x3 v r9) (fun r => bak ad δ r.2) := fun v => by
    unfold J_X12_was_94
    exact ok_bind (f_back L hNN ka hA (by omega) i4 S4 k9) (fun r10 hr10 => ok_some (b0.t hr10))
  obtain ⟨bm, om, _, nm⟩ := gO_12_14 L ka
  obtain rfl := gS_12_14 L ka om
  refine ok_ite (fun _ => ?_) (fun _ => ?_)
  · refine ok_at om ?_
    refine ok_gd (fun z => ?_) (back _)
    rcases z with z | z
    · have := o_lt z; omega
    · omega
  · refine ok_ite (fun _ => ?_) (fun _ => ?_)
    · refine ok_bind (k_X12_numberAt L hNN (a0 := a0) (x1 := x1) (x2 := 0) ka (by omega) (by omega) i9) (fun r10 hr10 => ?_)
      rw [show r10.2 = r9 from hr10]
      exact back _
    · refine ok_at om ?_
      refine ok_gd (fun z => ?_) ?_
      · rcases z with z | z
        · have := o_lt z; omega
        · omega
      refine ok_bind (k_X12_numberAt L hNN (a0 := a0) (x1 := x1) (x2 := q_R r9 (Ad ad 103) x1.toNatClampNeg - 1) ka (by omega) (by omega) i9) (fun r10 hr10 => ?_)
      rw [show r10.2 = r9 from hr10]
      exact back _
set_option maxHeartbeats 4000000 in
theorem f_asked {ad : List Nat} {h : hp} (L : Lay TLx ad h) {δ0 : dp} {N : Nat} (hNN : 10000000 ≤ N) {a0 : Nat} {x1 x2 x3 x4 : Int32} (ka : q_K h.1 a0 = 12) {δ : dp} (I : RI ad h.1 δ0 δ) (S : ∀ K, K < 4 → 0 ≤ hM ad δ K) : ok (D_X12_asked N h.1 a0 x1 x2 x3 x4 δ) (fun r => bak ad δ r.2) := by
  have e0 : (0 : Int32).toInt = 0 := rfl
  unfold D_X12_asked
  refine ok_bdv (fun d1 e1 => ?_)
  have i1 : RI ad h.1 δ0 d1 := by rw [e1]; exact cs_12_0 L I
  have w1 := kr_N (ad := ad) (W := []) (δ := δ) kr_r (show q_R d1 = q_R δ by rw [e1]; rfl)
  refine ok_bind (k_X12_isHouse L hNN (a0 := a0) (x1 := x1) (x2 := 1) ka (by decide) i1) (fun r2 hr2 => ?_)
  obtain ⟨i2, ⟨u2, v2, w2⟩, b2, g2⟩ := hr2
  have w2' : kr ad [100] δ r2.2 := kr_w (by decide) (kr_t w1 w2)
  have out : ∀ d, kr ad [100] δ d → bak ad δ d := fun d w => bak_k (w 102 (by decide) (by decide) (by decide)) (w 103 (by decide) (by decide) (by decide))
  refine ok_ite (fun _ => ?_) (fun c2 => ?_)
  · unfold J_X12_asked_56; exact ok_some (out _ w2')
  have n2 := bo_l b2
  have m2 := o_ne c2
  have hx := g2 (by omega)
  obtain ⟨A, hA⟩ : ∃ A : Nat, x1.toInt = (A : Int) := ⟨x1.toInt.toNat, by omega⟩
  have tn := tnH hA
  have bad : ok (J_X12_asked_47 N h.1 a0 x1 x2 x3 x4 a0 r2.2) (fun r => bak ad δ r.2) := by
    unfold J_X12_asked_47 J_X12_asked_48
    refine ok_bind (k_X12_may L hNN (a0 := a0) (x1 := 0) (x2 := 2) (x3 := 2) ka (by decide) (by decide) (by decide) i2) (fun r hr => ?_)
    obtain ⟨i4, ⟨u4, v4, w4⟩, b4, g4, _⟩ := hr
    refine ok_ite (fun _ => ?_) (fun c4 => ?_)
    · unfold J_X12_asked_56; exact ok_some (out _ (kr_w (by decide) (kr_t w2' w4)))
    · have n4 := bo_l b4
      have m4 := o_ne c4
      exact absurd rfl (g4 (by omega))
  refine ok_bind (k_X12_isTime L hNN (a0 := a0) (x1 := x1) (x2 := x2) ka (by omega) (by omega) i2) (fun r3 hr3 => ?_)
  obtain ⟨e3, b3, g3⟩ := hr3
  rw [e3]
  refine ok_ite (fun _ => bad) (fun c3 => ?_)
  have n3 := bo_l b3
  have m3 := o_ne c3
  have ht := g3 (by omega)
  have hN6 : 0 ≤ hN ad r2.2 A ∧ hN ad r2.2 A ≤ 1000 := rb_106 L i2 A
  have vN : (q_R r2.2 (Ad ad 106) x1.toNatClampNeg).toInt = hN ad r2.2 A := by rw [tn]; rfl
  refine ok_bind (k_X12_within L hNN (x0 := x3) (x1 := 2) (x2 := 4) i2) (fun r5 hr5 => ?_)
  obtain ⟨e5, b5, _, _⟩ := hr5
  rw [e5]
  refine ok_ite (fun _ => bad) (fun c5 => ?_)
  refine ok_bind (k_X12_mayAsk L hNN (a0 := a0) (x1 := x3) (x2 := x4) ka i2) (fun r6 hr6 => ?_)
  obtain ⟨e6, b6, _⟩ := hr6
  rw [e6]
  refine ok_ite (fun _ => bad) (fun c6 => ?_)
  unfold J_X12_asked_48
  refine ok_bind (k_X12_may L hNN (a0 := a0) (x1 := 1) (x2 := 2) (x3 := 2) ka (by decide) (by decide) (by decide) i2) (fun r hr => ?_)
  obtain ⟨i4, ⟨u4, v4, w4⟩, b4, g4, _⟩ := hr
  have w4' : kr ad [100] δ r.2 := kr_w (by decide) (kr_t w2' w4)
  have b0 := out _ w4'
  refine ok_ite (fun _ => ?_) (fun c4 => ?_)
  · unfold J_X12_asked_56; exact ok_some b0
  have S4 : ∀ K, K < 4 → 0 ≤ hM ad r.2 K := fun K hK => by rw [(b0 K hK).1]; exact S K hK
  refine ok_bind (ok_and (k_X12_goesTo L hNN (a0 := a0) (x1 := x1) (x2 := x2) ka (by omega) (by omega) (by omega) (by omega) i4) (f_goesTo L hNN ka hA (by omega) (by omega) (by omega) i4 (S4 A (by omega)))) (fun r9 hr9 => ?_)
  obtain ⟨⟨i9, _⟩, k9⟩ := hr9
  refine ok_bind (k_X12_answer L hNN (a0 := a0) (x1 := x1) (x2 := x3) (x3 := x4) ka (by omega) (by omega) i9) (fun r10 hr10 => ?_)
  rw [show r10.2 = r9 from hr10]
  exact ok_bind (f_back L hNN ka hA (by omega) i4 S4 k9) (fun r11 hr11 => ok_some (b0.t hr11))
end
