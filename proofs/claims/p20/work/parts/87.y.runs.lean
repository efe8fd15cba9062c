section
/-! runs: the two rows merged -/
def sd (M : Int) (R : Nat → Int) (N : Int) (Q : Nat → Int) (i j : Nat) : Int := if (i : Int) < M then (if (j : Int) < N then (if R i < Q j then -1 else if R i = Q j then 0 else 1) else -1) else 1
def rnk (M : Int) (R : Nat → Int) (N : Int) (Q : Nat → Int) : Nat → Nat → Nat → Int → Option Int
  | 0, _, _, _ => none
  | k + 1, i, j, l => if M ≤ (i : Int) ∧ N ≤ (j : Int) then some 0 else (rnk M R N Q k (if sd M R N Q i j ≤ 0 then i + 1 else i) (if 0 ≤ sd M R N Q i j then j + 1 else j) (if sd M R N Q i j = 0 then l else sd M R N Q i j)).map (fun v => v + (if sd M R N Q i j = 0 ∨ sd M R N Q i j = l then 0 else 1))
theorem sd_c {M N M1 N1 : Int} {R Q R1 Q1 : Nat → Int} (e : RE M R M1 R1) (f : RE N Q N1 Q1) (i j : Nat) : sd M1 R1 N1 Q1 i j = sd M R N Q i j := by
  unfold sd
  rw [e.1, f.1]
  by_cases c : (i : Int) < M
  · rw [if_pos c, if_pos c]
    by_cases d : (j : Int) < N
    · rw [if_pos d, if_pos d, e.2 i c, f.2 j d]
    · rw [if_neg d, if_neg d]
  · rw [if_neg c, if_neg c]
theorem rnk_c {M N M1 N1 : Int} {R Q R1 Q1 : Nat → Int} (e : RE M R M1 R1) (f : RE N Q N1 Q1) : ∀ k i j l, rnk M1 R1 N1 Q1 k i j l = rnk M R N Q k i j l := by
  intro k
  induction k with
  | zero => intro i j l; rfl
  | succ k ih =>
    intro i j l
    rw [rnk, rnk, sd_c e f, ih, e.1, f.1]
theorem rnk_m {M N : Int} {R Q : Nat → Int} : ∀ k i j l v, rnk M R N Q k i j l = some v → rnk M R N Q (k + 1) i j l = some v := by
  intro k
  induction k with
  | zero => intro i j l v h; cases h
  | succ k ih =>
    intro i j l v h
    rw [rnk] at h ⊢
    by_cases c : M ≤ (i : Int) ∧ N ≤ (j : Int)
    · rw [if_pos c] at h ⊢; exact h
    · rw [if_neg c] at h ⊢
      obtain ⟨w, h1, h2⟩ := Option.map_eq_some_iff.mp h
      rw [ih _ _ _ _ h1, Option.map_some, h2]
theorem rnk_le {M N : Int} {R Q : Nat → Int} {i j : Nat} {l v : Int} {k : Nat} (h : rnk M R N Q k i j l = some v) : ∀ n, rnk M R N Q (k + n) i j l = some v := by
  intro n
  induction n with
  | zero => exact h
  | succ n ih => exact rnk_m _ _ _ _ _ ih
theorem rnk_u {M N : Int} {R Q : Nat → Int} {i j : Nat} {l v w : Int} {k m : Nat} (h : rnk M R N Q k i j l = some v) (g : rnk M R N Q m i j l = some w) : v = w := by
  have h1 := rnk_le h m
  have g1 := rnk_le g k
  rw [Nat.add_comm] at g1
  rw [h1] at g1
  exact Option.some.inj g1
theorem rnk_s {M N : Int} {R Q : Nat → Int} {i j k : Nat} {l w : Int} (ne : ¬ (M ≤ (i : Int) ∧ N ≤ (j : Int))) (h : rnk M R N Q k (if sd M R N Q i j ≤ 0 then i + 1 else i) (if 0 ≤ sd M R N Q i j then j + 1 else j) (if sd M R N Q i j = 0 then l else sd M R N Q i j) = some w) : rnk M R N Q (k + 1) i j l = some (w + (if sd M R N Q i j = 0 ∨ sd M R N Q i j = l then 0 else 1)) := by
  rw [rnk, if_neg ne, h, Option.map_some]
theorem sd_i {M N : Int} {R Q : Nat → Int} {i j : Nat} (ne : ¬ (M ≤ (i : Int) ∧ N ≤ (j : Int))) : (sd M R N Q i j = -1 ∧ (i : Int) < M) ∨ (sd M R N Q i j = 0 ∧ (i : Int) < M ∧ (j : Int) < N) ∨ (sd M R N Q i j = 1 ∧ (j : Int) < N) := by
  unfold sd
  by_cases c : (i : Int) < M
  · rw [if_pos c]
    by_cases d : (j : Int) < N
    · rw [if_pos d]
      by_cases e : R i < Q j
      · rw [if_pos e]; exact Or.inl ⟨rfl, c⟩
      · rw [if_neg e]
        by_cases f : R i = Q j
        · rw [if_pos f]; exact Or.inr (Or.inl ⟨rfl, c, d⟩)
        · rw [if_neg f]; exact Or.inr (Or.inr ⟨rfl, d⟩)
    · rw [if_neg d]; exact Or.inl ⟨rfl, c⟩
  · rw [if_neg c]; exact Or.inr (Or.inr ⟨rfl, by omega⟩)
/-- how many runs -/
def aRu (M : Int) (R : Nat → Int) (N : Int) (Q : Nat → Int) (v : Int) : Prop := ∃ k, rnk M R N Q k 0 0 0 = some v
theorem aRu_u {M N M1 N1 v w : Int} {R Q R1 Q1 : Nat → Int} (e : RE M R M1 R1) (f : RE N Q N1 Q1) (h : aRu M R N Q v) (g : aRu M1 R1 N1 Q1 w) : v = w := by
  obtain ⟨k, h⟩ := h
  obtain ⟨m, g⟩ := g
  rw [rnk_c e f] at g
  exact rnk_u h g
theorem h_cmp {N : Nat} {g : gp} {x0 x1 : Int32} {δ : dp} : hs (D_J6_compare_7cf53 N g x0 x1 δ) (fun r => r.2 = δ ∧ ((x0.toInt < x1.toInt ∧ r.1.toInt = -1) ∨ (x0.toInt = x1.toInt ∧ r.1.toInt = 0) ∨ (x1.toInt < x0.toInt ∧ r.1.toInt = 1))) := by
  unfold D_J6_compare_7cf53 J_J6_compare_7cf53_19
  refine hs_ite (fun c => hs_ite (fun c' => hs_some ⟨rfl, Or.inr (Or.inl ⟨o_eq c', rfl⟩)⟩) (fun c' => hs_some ⟨rfl, Or.inr (Or.inr ⟨?_, rfl⟩)⟩)) (fun c => hs_some ⟨rfl, Or.inl ⟨?_, rfl⟩⟩)
  · have := o_le c
    have := o_ne c'
    omega
  · have := o_nle c
    omega
section
variable {ad : List Nat} {h : hp}
theorem h3_runs {N : Nat} {a b a2 b2 : Nat} (hb : q_O h.1 3 0 a = some b) (o2 : q_O h.1 3 0 a2 = some b2) {δ : dp} (m1 : mM δ a ≤ 2000) (m2 : mM δ a2 ≤ 2000) : ∀ (f i j : Nat) (x2 x3 x4 x5 : Int32), x4.toInt = (i : Int) → x5.toInt = (j : Int) → 0 ≤ x2.toInt → x2.toInt ≤ (i : Int) + (j : Int) → (i : Int) ≤ mM δ a → (j : Int) ≤ mM δ a2 → hs (L_X3_runsWith_10 N h.1 a a2 f x2 x3 x4 x5 δ) (fun r => r.2 = δ ∧ ∃ k w, rnk (mM δ a) (mR δ b) (mM δ a2) (mR δ b2) k i j x3.toInt = some w ∧ r.1.toInt = x2.toInt + w) := by
  have z0 : (0 : Int32).toInt = 0 := rfl
  intro f
  induction f with
  | zero => intro i j x2 x3 x4 x5 _ _ _ _ _ _; exact hs_none
  | succ f ih =>
    intro i j x2 x3 x4 x5 h4 h5 b1 b2' hi hj
    have vM : (q_I δ 3 1 a).toInt = mM δ a := rfl
    have vN : (q_I δ 3 1 a2).toInt = mM δ a2 := rfl
    have go : ¬ (mM δ a ≤ (i : Int) ∧ mM δ a2 ≤ (j : Int)) → ∀ s : Int32, s.toInt = sd (mM δ a) (mR δ b) (mM δ a2) (mR δ b2) i j → hs (J_X3_runsWith_71 N h.1 a a2 (L_X3_runsWith_10 N h.1 a a2 f) s x2 x3 x4 x5 δ) (fun r => r.2 = δ ∧ ∃ k w, rnk (mM δ a) (mR δ b) (mM δ a2) (mR δ b2) k i j x3.toInt = some w ∧ r.1.toInt = x2.toInt + w) := by
      intro ne s es
      have sc := sd_i (R := mR δ b) (Q := mR δ b2) ne
      have st := fun k w l => rnk_s (R := mR δ b) (Q := mR δ b2) (k := k) (w := w) (l := l) ne
      generalize hS : sd (mM δ a) (mR δ b) (mM δ a2) (mR δ b2) i j = S at es sc st
      have t4 := te_addc (c := 1) (n := 1) rfl x4 (by omega) (by omega)
      have t5 := te_addc (c := 1) (n := 1) rfl x5 (by omega) (by omega)
      have t2 := te_addc (c := 1) (n := 1) rfl x2 (by omega) (by omega)
      have tl : ∀ (x2' x3' : Int32), 0 ≤ x2'.toInt → x2'.toInt ≤ (i : Int) + (j : Int) + 1 → hs (J_X3_runsWith_90 N h.1 a a2 (L_X3_runsWith_10 N h.1 a a2 f) x2' x3' x4 x5 s δ) (fun r => r.2 = δ ∧ ∃ k w, rnk (mM δ a) (mR δ b) (mM δ a2) (mR δ b2) k (if S ≤ 0 then i + 1 else i) (if 0 ≤ S then j + 1 else j) x3'.toInt = some w ∧ r.1.toInt = x2'.toInt + w) := by
        intro x2' x3' q1 q2
        unfold J_X3_runsWith_90 J_X3_runsWith_98 J_X3_runsWith_106
        rcases sc with ⟨e, c⟩ | ⟨e, c, c'⟩ | ⟨e, c⟩
        · rw [if_pos (show S ≤ 0 by omega), if_neg (show ¬ 0 ≤ S by omega)]
          refine hs_ite (fun z => by have := o_lt z; omega) (fun _ => hs_biv (fun y ey => hs_ite (fun z => ?_) (fun z => by have := o_nlt z; omega)))
          rw [← ey] at t4
          exact ih (i + 1) j x2' x3' y x5 (by omega) h5 q1 (by omega) (by omega) hj
        · rw [if_pos (show S ≤ 0 by omega), if_pos (show 0 ≤ S by omega)]
          refine hs_ite (fun z => by have := o_lt z; omega) (fun _ => hs_biv (fun y ey => hs_ite (fun z => by have := o_lt z; omega) (fun z => hs_biv (fun y' ey' => ?_))))
          rw [← ey] at t4
          rw [← ey'] at t5
          exact ih (i + 1) (j + 1) x2' x3' y y' (by omega) (by omega) q1 (by omega) (by omega) (by omega)
        · rw [if_neg (show ¬ S ≤ 0 by omega), if_pos (show 0 ≤ S by omega)]
          refine hs_ite (fun z => hs_ite (fun z' => by have := o_lt z'; omega) (fun _ => hs_biv (fun y' ey' => ?_))) (fun z => by have := o_nlt z; omega)
          rw [← ey'] at t5
          exact ih i (j + 1) x2' x3' x4 y' h4 (by omega) q1 (by omega) hi (by omega)
      unfold J_X3_runsWith_71
      refine hs_ite (fun c => ?_) (fun c => hs_ite (fun c' => ?_) (fun c' => hs_biv (fun y ey => ?_)))
      · have c1 := o_eq c
        have e0 : S = 0 := by omega
        refine hs_mono (tl x2 x3 b1 (by omega)) (fun r hr => ?_)
        obtain ⟨e, k, w, h1, h2⟩ := hr
        refine ⟨e, k + 1, _, st k w x3.toInt (by rw [if_pos e0 (t := x3.toInt)]; exact h1), ?_⟩
        rw [if_pos (Or.inl e0), h2]; omega
      · have c1 := o_ne c
        have c2 := o_eq c'
        have e0 : ¬ S = 0 := by omega
        refine hs_mono (tl x2 x3 b1 (by omega)) (fun r hr => ?_)
        obtain ⟨e, k, w, h1, h2⟩ := hr
        have e3 : (if S = 0 then x3.toInt else S) = x3.toInt := by rw [if_neg e0]; omega
        refine ⟨e, k + 1, _, st k w x3.toInt (by rw [e3]; exact h1), ?_⟩
        rw [if_pos (Or.inr (by omega)), h2]; omega
      · have c1 := o_ne c
        have c2 := o_ne c'
        have e0 : ¬ S = 0 := by omega
        rw [← ey] at t2
        refine hs_mono (tl y s (by omega) (by omega)) (fun r hr => ?_)
        obtain ⟨e, k, w, h1, h2⟩ := hr
        rw [es] at h1
        refine ⟨e, k + 1, _, st k w x3.toInt (by rw [if_neg e0 (t := x3.toInt)]; exact h1), ?_⟩
        rw [if_neg (fun z => by rcases z with z | z <;> omega), h2]; omega
    have mid : ¬ (mM δ a ≤ (i : Int) ∧ mM δ a2 ≤ (j : Int)) → hs (J_X3_runsWith_28 N h.1 a a2 (L_X3_runsWith_10 N h.1 a a2 f) x2 x3 x4 x5 δ) (fun r => r.2 = δ ∧ ∃ k w, rnk (mM δ a) (mR δ b) (mM δ a2) (mR δ b2) k i j x3.toInt = some w ∧ r.1.toInt = x2.toInt + w) := by
      intro ne
      have n4 := ti_tn x4
      have n5 := ti_tn x5
      unfold J_X3_runsWith_28
      refine hs_ite (fun c => hs_ite (fun c' => ?_) (fun c' => ?_)) (fun c => ?_)
      · have c1 := o_lt c
        have c2 := o_lt c'
        refine hs_at hb (hs_gd (fun _ => hs_at o2 (hs_gd (fun _ => ?_))))
        rw [show x4.toNatClampNeg = i by omega, show x5.toNatClampNeg = j by omega]
        refine hs_bind h_cmp (fun r hr => ?_)
        obtain ⟨e, hr⟩ := hr
        rw [e]
        have w1 : (q_R δ b i).toInt = mR δ b i := rfl
        have w2 : (q_R δ b2 j).toInt = mR δ b2 j := rfl
        rw [w1, w2] at hr
        refine go ne r.1 ?_
        unfold sd
        rw [if_pos (by omega), if_pos (by omega)]
        rcases hr with ⟨p, q⟩ | ⟨p, q⟩ | ⟨p, q⟩
        · rw [if_pos p, q]
        · rw [if_neg (by omega), if_pos p, q]
        · rw [if_neg (by omega), if_neg (by omega), q]
      · have c1 := o_lt c
        have c2 := o_nlt c'
        refine go ne (-1) ?_
        unfold sd
        rw [if_pos (by omega), if_neg (by omega)]; rfl
      · have c1 := o_nlt c
        refine go ne 1 ?_
        unfold sd
        rw [if_neg (by omega)]; rfl
    unfold L_X3_runsWith_10
    refine hs_ite (fun c => mid (by have := o_lt c; omega)) (fun c => hs_ite (fun c' => ?_) (fun c' => mid (by have := o_nle c'; omega)))
    have c1 := o_nlt c
    have c2 := o_le c'
    exact hs_some ⟨rfl, 1, 0, by rw [rnk, if_pos ⟨by omega, by omega⟩], (Int.add_zero _).symm⟩
theorem hL_runs (L : Lay TLx ad h) {δ0 : dp} {N : Nat} {x1 x2 : Int32} {o : Nat} {δ : dp} (I : CI ad h.1 δ0 δ) : hs (D_L_runs N h.1 (Ad ad 0) x1 x2 o δ) (fun r => OL (nH x1 ∨ nH x2) False (fun v => aRu (cM ad δ (tH x1)) (cR ad δ (tH x1)) (cM ad δ (tH x2)) (cR ad δ (tH x2)) v) o r.1 r.2) := by
  unfold D_L_runs
  refine OX_L (Q := fun v => aRu (cM ad δ (tH x1)) (cR ad δ (tH x1)) (cM ad δ (tH x2)) (cR ad δ (tH x2)) v) ?_ (fun v d hv => hs_gd (fun _ => hs_some rfl)) (fun d => hs_ite (fun _ => hs_some rfl) (fun z => absurd rfl z)) (fun z => z.elim)
  unfold D_X11_runs
  refine hs_bxv (hc_needHouse L (x1 := x1)) (fun n d hn => ?_) (fun d hn => ?_)
  · rcases hn with ⟨z, _⟩ | ⟨z1, z2, z3⟩
    · cases z
    · exact Or.inl ⟨Or.inl z3, inrc z1⟩
  rcases hn with ⟨_, e, A, hA, hx⟩ | ⟨z, _⟩
  rotate_left
  · cases z
  dsimp only at e
  subst e
  refine hs_bxv (hc_needHouse L (x1 := x2)) (fun n d hn => ?_) (fun d hn => ?_)
  · rcases hn with ⟨z, _⟩ | ⟨z1, z2, z3⟩
    · cases z
    · exact Or.inl ⟨Or.inr z3, inrc z1⟩
  rcases hn with ⟨_, e, B, hB, hy⟩ | ⟨z, _⟩
  rotate_left
  · cases z
  dsimp only at e
  subst e
  have mA := cM_b L I hA
  have mB := cM_b L I hB
  refine hc_row L hA hx (hc_row L hB hy ?_)
  unfold D_X3_runsWith
  refine hs_bind (h3_runs (lk_r L hA) (lk_r L hB) mA.2 mB.2 N 0 0 0 0 0 0 rfl rfl (by decide) (by decide) mA.1 mB.1) (fun r hr => hs_some ?_)
  obtain ⟨e, k, w, h1, h2⟩ := hr
  refine Or.inr (Or.inr ⟨fun z => by rcases z with z | z <;> omega, fun z => z, r.1, rfl, k, ?_⟩)
  rw [tH_e hx, tH_e hy, h2]
  have : (0 : Int32).toInt + w = w := Int.zero_add w
  rw [this]
  exact h1
/-- the reference's last side -/
def lsd (x : Int32) (l : Int) : Prop := (x.toInt = -1 ∧ l = 0) ∨ (x.toInt = 0 ∧ l = -1) ∨ (x.toInt = 1 ∧ l = 1)
theorem hr_runsL (L : Lay TLx ad h) {δ0 : dp} {N : Nat} (hNN : 10000000 ≤ N) {a0 A B : Nat} {x1 x2 : Int32} (ka : q_K h.1 a0 = 12) (hx : x1.toInt = (A : Int)) (hy : x2.toInt = (B : Int)) (hA : A < 4) (hB : B < 4) {δ : dp} (I : RI ad h.1 δ0 δ) (rA : ∀ i : Nat, (i : Int) < hM ad δ A → hR ad δ A i < shA a0 δ) (rB : ∀ i : Nat, (i : Int) < hM ad δ B → hR ad δ B i < shA a0 δ) : ∀ (f i j : Nat) (x3 x4 x5 x6 : Int32) (l : Int), x5.toInt = (i : Int) → x6.toInt = (j : Int) → 0 ≤ x3.toInt → x3.toInt ≤ (i : Int) + (j : Int) → (i : Int) ≤ hM ad δ A → (j : Int) ≤ hM ad δ B → lsd x4 l → hs (L_X12_runs_36 N h.1 a0 x1 x2 f x3 x4 x5 x6 δ) (fun r => r.2 = δ ∧ ∃ k w, rnk (hM ad δ A) (hR ad δ A) (hM ad δ B) (hR ad δ B) k i j l = some w ∧ r.1.toInt = x3.toInt + w) := by
  have z0 : (0 : Int32).toInt = 0 := rfl
  have z1 : (1 : Int32).toInt = 1 := rfl
  obtain ⟨b14, o14, _⟩ := gO_12_14 L ka
  obtain rfl := gS_12_14 L ka o14
  have tx1 := tnH hx
  have tx2 := tnH hy
  have bA := rb_103 L I A
  have bB := rb_103 L I B
  have vM : (q_R δ (Ad ad 103) A).toInt = hM ad δ A := rfl
  have vN : (q_R δ (Ad ad 103) B).toInt = hM ad δ B := rfl
  intro f
  induction f with
  | zero => intro i j x3 x4 x5 x6 l _ _ _ _ _ _ _; exact hs_none
  | succ f ih =>
    intro i j x3 x4 x5 x6 l h5 h6 b1 b2 hi hj hl
    -- from both values on
    have go : ¬ (hM ad δ A ≤ (i : Int) ∧ hM ad δ B ≤ (j : Int)) → ∀ u v : Int32, (u.toInt < v.toInt ∧ sd (hM ad δ A) (hR ad δ A) (hM ad δ B) (hR ad δ B) i j = -1 ∨ u.toInt = v.toInt ∧ sd (hM ad δ A) (hR ad δ A) (hM ad δ B) (hR ad δ B) i j = 0 ∨ v.toInt < u.toInt ∧ sd (hM ad δ A) (hR ad δ A) (hM ad δ B) (hR ad δ B) i j = 1) → hs (J_X12_runs_110 N h.1 a0 x1 x2 (L_X12_runs_36 N h.1 a0 x1 x2 f) v x3 x4 x5 x6 u δ) (fun r => r.2 = δ ∧ ∃ k w, rnk (hM ad δ A) (hR ad δ A) (hM ad δ B) (hR ad δ B) k i j l = some w ∧ r.1.toInt = x3.toInt + w) := by
      intro ne u v es
      have sc := sd_i (R := hR ad δ A) (Q := hR ad δ B) ne
      have st := fun k w l => rnk_s (R := hR ad δ A) (Q := hR ad δ B) (k := k) (w := w) (l := l) ne
      generalize hS : sd (hM ad δ A) (hR ad δ A) (hM ad δ B) (hR ad δ B) i j = S at es sc st
      have t5 := te_addc (c := 1) (n := 1) rfl x5 (by omega) (by omega)
      have t6 := te_addc (c := 1) (n := 1) rfl x6 (by omega) (by omega)
      have t3 := te_addc (c := 1) (n := 1) rfl x3 (by omega) (by omega)
      have t30 := te_addc (c := 0) (n := 0) rfl x3 (by omega) (by omega)
      -- the end of a step
      have tl : ∀ (y5 y6 : Int32) (i' j' : Nat), y5.toInt = (i' : Int) → y6.toInt = (j' : Int) → i' = (if S ≤ 0 then i + 1 else i) → j' = (if 0 ≤ S then j + 1 else j) → (i : Int) + (j : Int) + 1 ≤ (i' : Int) + (j' : Int) → (i' : Int) ≤ hM ad δ A → (j' : Int) ≤ hM ad δ B → hs (J_X12_runs_132 N h.1 a0 x1 x2 (L_X12_runs_36 N h.1 a0 x1 x2 f) x3 x4 y5 y6 u v δ) (fun r => r.2 = δ ∧ ∃ k w, rnk (hM ad δ A) (hR ad δ A) (hM ad δ B) (hR ad δ B) k i j l = some w ∧ r.1.toInt = x3.toInt + w) := by
        intro y5 y6 i' j' g5 g6 gi gj gg gA gB
        unfold J_X12_runs_132 J_X12_runs_154 J_X12_runs_169
        have side : ∀ q : Int32, ¬ S = 0 → lsd q S → hs (if q = x4 then (bi (x3 + 0) fun x_23 => (L_X12_runs_36 N h.1 a0 x1 x2 f) x_23 q y5 y6 δ) else (bi (x3 + 1) fun x_23 => (L_X12_runs_36 N h.1 a0 x1 x2 f) x_23 q y5 y6 δ)) (fun r => r.2 = δ ∧ ∃ k w, rnk (hM ad δ A) (hR ad δ A) (hM ad δ B) (hR ad δ B) k i j l = some w ∧ r.1.toInt = x3.toInt + w) := by
          intro q e0 hq
          refine hs_ite (fun c => hs_biv (fun y ey => ?_)) (fun c => hs_biv (fun y ey => ?_))
          · rw [← ey] at t30
            refine hs_mono (ih i' j' y q y5 y6 S g5 g6 (by omega) (by omega) gA gB hq) (fun r hr => ?_)
            obtain ⟨e, k, w, h1, h2⟩ := hr
            refine ⟨e, k + 1, _, st k w l (by rw [← gi, ← gj, if_neg e0]; exact h1), ?_⟩
            have : S = l := by subst c; unfold lsd at hq hl; omega
            rw [if_pos (Or.inr this), h2]; omega
          · rw [← ey] at t3
            refine hs_mono (ih i' j' y q y5 y6 S g5 g6 (by omega) (by omega) gA gB hq) (fun r hr => ?_)
            obtain ⟨e, k, w, h1, h2⟩ := hr
            refine ⟨e, k + 1, _, st k w l (by rw [← gi, ← gj, if_neg e0]; exact h1), ?_⟩
            have nl : ¬ S = l := fun z => by have := o_ne c; unfold lsd at hq hl; omega
            rw [if_neg (fun z => by rcases z with z | z; exact e0 z; exact nl z), h2]; omega
        refine hs_ite (fun c => ?_) (fun c => ?_)
        · have c1 := o_eq c
          have e0 : S = 0 := by omega
          refine hs_mono (ih i' j' x3 x4 y5 y6 l g5 g6 b1 (by omega) gA gB hl) (fun r hr => ?_)
          obtain ⟨e, k, w, h1, h2⟩ := hr
          refine ⟨e, k + 1, _, st k w l (by rw [← gi, ← gj, if_pos e0]; exact h1), ?_⟩
          rw [if_pos (Or.inl e0), h2]; omega
        · have c1 := o_ne c
          refine hs_ite (fun c' => ?_) (fun c' => ?_)
          · have c2 := o_le c'
            exact side 1 (by omega) (Or.inr (Or.inr ⟨rfl, by omega⟩))
          · have c2 := o_nle c'
            exact side 0 (by omega) (Or.inr (Or.inl ⟨rfl, by omega⟩))
      unfold J_X12_runs_110 J_X12_runs_122
      refine hs_ite (fun c => hs_ite (fun c' => ?_) (fun c' => hs_biv (fun y' ey' => ?_))) (fun c => hs_biv (fun y ey => hs_ite (fun c' => ?_) (fun c' => hs_biv (fun y' ey' => ?_))))
      · have c1 := o_lt c
        have c2 := o_lt c'
        omega
      · have c1 := o_lt c
        rw [← ey'] at t6
        exact tl x5 y' i (j + 1) h5 (by omega) (by rw [if_neg (by omega)]) (by rw [if_pos (by omega)]) (by omega) hi (by omega)
      · have c1 := o_nlt c
        have c2 := o_lt c'
        rw [← ey] at t5
        exact tl y x6 (i + 1) j (by omega) h6 (by rw [if_pos (by omega)]) (by rw [if_neg (by omega)]) (by omega) (by omega) hj
      · have c1 := o_nlt c
        have c2 := o_nlt c'
        rw [← ey] at t5
        rw [← ey'] at t6
        exact tl y y' (i + 1) (j + 1) (by omega) (by omega) (by rw [if_pos (by omega)]) (by rw [if_pos (by omega)]) (by omega) (by omega) (by omega)
    have mid : ¬ (hM ad δ A ≤ (i : Int) ∧ hM ad δ B ≤ (j : Int)) → hs (J_X12_runs_58 N h.1 a0 x1 x2 (L_X12_runs_36 N h.1 a0 x1 x2 f) x3 x4 x5 x6 δ) (fun r => r.2 = δ ∧ ∃ k w, rnk (hM ad δ A) (hR ad δ A) (hM ad δ B) (hR ad δ B) k i j l = some w ∧ r.1.toInt = x3.toInt + w) := by
      intro ne
      have vA : ((1 : Int32) <<< (q_I δ 12 10 a0 &&& 31)).toInt = shA a0 δ := rfl
      unfold J_X12_runs_58
      refine hs_at o14 (hs_gd (fun _ => ?_))
      rw [tx1]
      refine hs_ite (fun c => ?_) (fun c => ?_)
      · have c1 := o_le c
        unfold D_X12_all
        rw [Option.bind_some]
        dsimp only
        unfold J_X12_runs_83
        refine hs_at o14 (hs_gd (fun _ => ?_))
        rw [tx2]
        refine hs_ite (fun c' => by have := o_le c'; omega) (fun c' => ?_)
        have c2 := o_nle c'
        refine hs_bind (hr_numberAt L hNN (x2 := x6) ka hy hB I) (fun q hq => ?_)
        obtain ⟨e, at1⟩ := hq
        rw [e]
        have vk : q.1.toInt = hR ad δ B j := by
          rcases at1 with ⟨p, a1, a2, a3⟩ | ⟨a1, _⟩
          · obtain rfl : p = j := by omega
            exact a3
          · exfalso; omega
        have := rB j (by omega)
        refine go ne _ q.1 (Or.inr (Or.inr ⟨by omega, ?_⟩))
        unfold sd
        rw [if_neg (by omega)]
      · have c1 := o_nle c
        refine hs_bind (hr_numberAt L hNN (x2 := x5) ka hx hA I) (fun q hq => ?_)
        obtain ⟨e, at1⟩ := hq
        rw [e]
        have vk : q.1.toInt = hR ad δ A i := by
          rcases at1 with ⟨p, a1, a2, a3⟩ | ⟨a1, _⟩
          · obtain rfl : p = i := by omega
            exact a3
          · exfalso; omega
        have := rA i (by omega)
        unfold J_X12_runs_83
        refine hs_at o14 (hs_gd (fun _ => ?_))
        rw [tx2]
        refine hs_ite (fun c' => ?_) (fun c' => ?_)
        · have c2 := o_le c'
          unfold D_X12_all
          rw [Option.bind_some]
          dsimp only
          refine go ne q.1 _ (Or.inl ⟨by omega, ?_⟩)
          unfold sd
          rw [if_pos (by omega), if_neg (by omega)]
        · have c2 := o_nle c'
          refine hs_bind (hr_numberAt L hNN (x2 := x6) ka hy hB I) (fun q' hq => ?_)
          obtain ⟨e', at2⟩ := hq
          rw [e']
          have vk' : q'.1.toInt = hR ad δ B j := by
            rcases at2 with ⟨p, a1, a2, a3⟩ | ⟨a1, _⟩
            · obtain rfl : p = j := by omega
              exact a3
            · exfalso; omega
          refine go ne q.1 q'.1 ?_
          unfold sd
          rw [if_pos (by omega), if_pos (by omega), vk, vk']
          by_cases p1 : hR ad δ A i < hR ad δ B j
          · rw [if_pos p1]; exact Or.inl ⟨p1, rfl⟩
          · rw [if_neg p1]
            by_cases p2 : hR ad δ A i = hR ad δ B j
            · rw [if_pos p2]; exact Or.inr (Or.inl ⟨p2, rfl⟩)
            · rw [if_neg p2]; exact Or.inr (Or.inr ⟨by omega, rfl⟩)
    unfold L_X12_runs_36
    refine hs_at o14 (hs_gd (fun _ => ?_))
    rw [tx1]
    refine hs_ite (fun c => mid (by have := o_lt c; omega)) (fun c => ?_)
    refine hs_at o14 (hs_gd (fun _ => ?_))
    rw [tx2]
    refine hs_ite (fun c' => ?_) (fun c' => mid (by have := o_nle c'; omega))
    have c1 := o_nlt c
    have c2 := o_le c'
    exact hs_some ⟨rfl, 1, 0, by rw [rnk, if_pos ⟨by omega, by omega⟩], (Int.add_zero _).symm⟩
theorem hr_runs (L : Lay TLx ad h) {δ0 : dp} {N : Nat} (hNN : 10000000 ≤ N) {x1 x2 : Int32} (ka : q_K h.1 (Ad ad 99) = 12) {δ : dp} (I : RI ad h.1 δ0 δ) (S : ∀ K, K < 4 → hok ad (Ad ad 99) δ K) : hs (D_X12_runs N h.1 (Ad ad 99) x1 x2 δ) (fun r => rsk ad δ r.2 ∧ OM (nH x1 ∨ nH x2) False (fun v => aRu (hM ad δ (tH x1)) (hR ad δ (tH x1)) (hM ad δ (tH x2)) (hR ad δ (tH x2)) v) (Ad ad 99) r.1 r.2) := by
  unfold D_X12_runs
  refine hs_bdv (fun d1 e1 => ?_)
  have i1 : RI ad h.1 δ0 d1 := by rw [e1]; exact cs_12_0 L I
  have t0 : q_I d1 12 0 (Ad ad 99) = 0 := by rw [e1]; exact rI_s
  have w1 : q_R d1 = q_R δ := by rw [e1]; rfl
  have k1 : rsk ad δ d1 := ⟨fun k hk => by rw [e1, rI_o (by omega)], bak_k (by rw [w1]) (by rw [w1]), fun i _ _ => by rw [w1]⟩
  have k2 : ∀ {d}, kp [(12, 0)] d1 d → kr ad [100] d1 d → rsk ad δ d := fun {d} u w => ⟨fun k hk => by rw [u 12 k _ (by simp only [List.mem_cons, List.not_mem_nil, or_false, Prod.mk.injEq]; omega)]; exact k1.1 k hk, k1.2.1.t (bak_k (w 102 (by decide) (by decide) (by decide)) (w 103 (by decide) (by decide) (by decide))), fun i a b => by rw [w i (by omega) (by omega) (by simp only [List.mem_cons, List.not_mem_nil, or_false]; omega), w1]⟩
  have eM : ∀ K, hM ad d1 K = hM ad δ K := fun K => by unfold hM; rw [w1]
  have eR : ∀ K, hR ad d1 K = hR ad δ K := fun K => by funext i; unfold hR; rw [w1]
  have eA : shA (Ad ad 99) d1 = shA (Ad ad 99) δ := by unfold shA; rw [e1, rI_o (by decide)]
  have no : ∀ d, q_I d 12 0 (Ad ad 99) = 1 → kp [(12, 0)] d1 d → kr ad [100] d1 d → (nH x1 ∨ nH x2) → hs (J_X12_runs_23 N h.1 (Ad ad 99) x1 x2 d) (fun r => rsk ad δ r.2 ∧ OM (nH x1 ∨ nH x2) False (fun v => aRu (hM ad δ (tH x1)) (hR ad δ (tH x1)) (hM ad δ (tH x2)) (hR ad δ (tH x2)) v) (Ad ad 99) r.1 r.2) := fun d q u w z => hs_some ⟨k2 u w, Or.inl ⟨z, q⟩⟩
  refine hs_bind (hs_and (hr_isHouse L hNN (x1 := x1) (x2 := 1) ka i1 t0 (by decide)) (ok_h (k_X12_isHouse L hNN (x1 := x1) (x2 := 1) ka (by decide) i1))) (fun r hr => ?_)
  obtain ⟨hr, hk⟩ := hr
  rcases hr with ⟨q1, q2, A, hA, hx⟩ | ⟨q1, q2, q3, q4⟩
  rotate_left
  · rw [q1]
    exact hs_ite (fun _ => no r.2 q3 hk.2.1.1 q4 (Or.inl q2)) (fun z => absurd rfl z)
  rw [q1, q2]
  refine hs_ite (fun z => absurd z (by decide)) (fun _ => ?_)
  refine hs_bind (hs_and (hr_isHouse L hNN (x1 := x2) (x2 := 1) ka i1 t0 (by decide)) (ok_h (k_X12_isHouse L hNN (x1 := x2) (x2 := 1) ka (by decide) i1))) (fun r hr => ?_)
  obtain ⟨hr, hk⟩ := hr
  rcases hr with ⟨q1, q2, B, hB, hy⟩ | ⟨q1, q2, q3, q4⟩
  rotate_left
  · rw [q1]
    exact hs_ite (fun _ => no r.2 q3 hk.2.1.1 q4 (Or.inr q2)) (fun z => absurd rfl z)
  rw [q1, q2]
  refine hs_ite (fun z => absurd z (by decide)) (fun _ => ?_)
  refine hs_mono (hr_runsL L hNN ka hx hy hA hB i1 (fun i hi => by rw [eR, eA]; exact (hs_rg (S A hA) (by rw [← eM]; exact hi)).2) (fun i hi => by rw [eR, eA]; exact (hs_rg (S B hB) (by rw [← eM]; exact hi)).2) N 0 0 0 (-1) 0 0 0 rfl rfl (by decide) (by decide) (by rw [eM]; exact (S A hA).1.1) (by rw [eM]; exact (S B hB).1.1) (Or.inl ⟨rfl, rfl⟩)) (fun r hr => ?_)
  obtain ⟨e, k, w, h1, h2⟩ := hr
  rw [e]
  refine ⟨k1, Or.inr (Or.inr ⟨fun z => by rcases z with z | z <;> omega, fun z => z, t0, k, ?_⟩)⟩
  rw [tH_e hx, tH_e hy, h2]
  have : (0 : Int32).toInt + w = w := Int.zero_add w
  rw [this, ← eM, ← eM, ← eR, ← eR]
  exact h1
theorem y_runs (L : Lay TLx ad h) {N : Nat} (hN : 10000000 ≤ N) (kx : q_K h.1 (Ad ad 0) = 11) (km : q_K h.1 (Ad ad 99) = 12) (no : q_N h.1 (Ad ad 127) = 1) {x1 x2 : Int32} {δ : dp} (V : IY ad h.1 δ) : ∃ d, (∃ (kk b : Int32) (δ1 : dp), D_L_runs N h.1 (Ad ad 0) x1 x2 (Ad ad 127) δ = some (kk, δ1) ∧ D_X12_runs N h.1 (Ad ad 99) x1 x2 δ1 = some (b, d) ∧ q_I d 12 0 (Ad ad 99) = kk ∧ (kk = 0 → q_J d (Ad ad 127) 0 = b.toInt64)) ∧ IY ad h.1 d :=
  stepR (d1 := fun _ => nH x1 ∨ nH x2) (d2 := fun _ => False) (P := fun δ1 v => aRu (hM ad δ1 (tH x1)) (hR ad δ1 (tH x1)) (hM ad δ1 (tH x2)) (hR ad δ1 (tH x2)) v) (f := fun δ1 => D_X12_runs N h.1 (Ad ad 99) x1 x2 δ1) km V (k_L_runs L hN (x1 := x1) (x2 := x2) kx no V.1.1.1) (gL_runs L kx) (hL_runs L V.1.1.1) (fun δ1 I1 O1 => o_runs L hN km I1 O1) (fun δ1 I1 O1 X1 => hr_runs L hN km I1 O1.1) (fun δ1 X1 c eA e4 => ⟨Iff.rfl, fun _ => Iff.rfl, fun n1 _ v w hq hp => aRu_u (U_re X1 c (fun z => n1 (Or.inl z))).1 (U_re X1 c (fun z => n1 (Or.inr z))).1 hq hp⟩)
end
end
section
/-! count, gap, since -/
/-- the houses' numbers together -/
def cs (ad : List Nat) (δ : dp) : Nat → Int
  | 0 => 0
  | k + 1 => cs ad δ k + cM ad δ k
section
variable {ad : List Nat} {h : hp}
theorem hc_count33 (L : Lay TLx ad h) {δ0 : dp} {N : Nat} {x1 : Int32} {δ : dp} (I : CI ad h.1 δ0 δ) : ∀ (f k : Nat) (x2 x3 : Int32), x3.toInt = (k : Int) → k ≤ 4 → x2.toInt = cs ad δ k → 0 ≤ x2.toInt → x2.toInt ≤ 2000 * (k : Int) → hs (L_X11_count_33 N h.1 (Ad ad 0) x1 f x2 x3 δ) (fun r => r.1.toInt = cs ad δ 4) := by
  have z4 : (4 : Int32).toInt = 4 := rfl
  intro f
  induction f with
  | zero => intro k x2 x3 _ _ _ _ _; exact hs_none
  | succ f ih =>
    intro k x2 x3 h3 hk h2 b1 b2
    unfold L_X11_count_33
    refine hs_ite (fun c => ?_) (fun c => ?_)
    · have c1 := o_le c
      obtain rfl : k = 4 := by omega
      exact hs_some h2
    · have c1 := o_nle c
      have hk' : k < 4 := by omega
      have mb := cM_b L I hk'
      have vm : (q_I δ 3 1 (Ad ad (76 + 6 * k))).toInt = cM ad δ k := rfl
      refine hc_row L hk' h3 (hs_biv (fun y ey => hs_biv (fun y' ey' => ?_)))
      have t2 := te_add x2 (q_I δ 3 1 (Ad ad (76 + 6 * k))) (by omega) (by omega)
      have t3 := te_addc (c := 1) (n := 1) rfl x3 (by omega) (by omega)
      rw [← ey] at t2
      rw [← ey'] at t3
      exact ih (k + 1) y y' (by omega) (by omega) (by show y.toInt = cs ad δ k + cM ad δ k; omega) (by omega) (by omega)
theorem y_count (L : Lay TLx ad h) {N : Nat} (hNN : 10000000 ≤ N) (kx : q_K h.1 (Ad ad 0) = 11) (km : q_K h.1 (Ad ad 99) = 12) (no : q_N h.1 (Ad ad 127) = 1) {x1 : Int32} {δ : dp} (V : IY ad h.1 δ) : ∃ d, (∃ (b : Int32) (δ1 : dp), D_X11_count N h.1 (Ad ad 0) x1 δ = some (b, δ1) ∧ D_X12_count N h.1 (Ad ad 99) x1 δ1 = some (b, d)) ∧ IY ad h.1 d := by
  obtain ⟨d, ⟨kk, b, δ1, e1, e2⟩, W⟩ := n_count L hNN kx km no V (x1 := x1)
  have ed : δ1 = δ := ok_h (k_X11_count L hNN (x1 := x1) kx V.1.1.1) _ e1
  subst ed
  obtain ⟨⟨⟨V1, V2, V3, V4⟩, A⟩, X⟩ := id V
  have A3 := A.2.2.1
  have z0 : (0 : Int32).toInt = 0 := rfl
  have z1 : (1 : Int32).toInt = 1 := rfl
  have z2 : (2 : Int32).toInt = 2 := rfl
  obtain ⟨b14, o14, _⟩ := gO_12_14 L km
  obtain rfl := gS_12_14 L km o14
  have C : hs (D_X11_count N h.1 (Ad ad 0) x1 δ1) (fun r => (x1 = 0 → r.1.toInt = (q_I δ1 11 12 (Ad ad 0)).toInt) ∧ (x1 = 1 → r.1.toInt = (q_I δ1 7 1 (Ad ad 1)).toInt) ∧ (x1 = 2 → r.1.toInt = cs ad δ1 4) ∧ (x1 ≠ 0 → x1 ≠ 1 → x1 ≠ 2 → r.1 = -1)) := by
    unfold D_X11_count
    refine hs_ite (fun c => hs_some ⟨fun _ => rfl, fun z => ?_, fun z => ?_, fun z => absurd c z⟩) (fun c => hs_ite (fun c' => ?_) (fun c' => hs_ite (fun c'' => ?_) (fun c'' => hs_some ⟨fun z => absurd z c, fun z => absurd z c', fun z => absurd z c'', fun _ _ _ => rfl⟩)))
    · rw [c] at z; exact absurd z (by decide)
    · rw [c] at z; exact absurd z (by decide)
    · refine hs_at (fO_0_0 L) (hs_some ⟨fun z => absurd z c, fun _ => rfl, fun z => ?_, fun _ z => absurd c' z⟩)
      rw [c'] at z; exact absurd z (by decide)
    · exact hs_mono (hc_count33 L V1 N 0 0 0 rfl (by decide) rfl (by decide) (by decide)) (fun r hr => ⟨fun z => absurd z c, fun z => absurd z c', fun _ => hr, fun _ _ z => absurd c'' z⟩)
  have R : hs (D_X12_count N h.1 (Ad ad 99) x1 δ1) (fun r => (x1 = 0 → r.1.toInt = (q_I δ1 12 18 (Ad ad 99)).toInt) ∧ (x1 = 1 → r.1.toInt = (q_I δ1 12 2 (Ad ad 99)).toInt) ∧ (x1 = 2 → r.1.toInt = hM ad δ1 0 + hM ad δ1 1 + hM ad δ1 2 + hM ad δ1 3) ∧ (x1 ≠ 0 → x1 ≠ 1 → x1 ≠ 2 → r.1 = -1)) := by
    unfold D_X12_count J_X12_count_64
    refine hs_bdv (fun d1 e => ?_)
    have w1 : q_R d1 = q_R δ1 := by rw [e]; rfl
    have f18 : q_I d1 12 18 (Ad ad 99) = q_I δ1 12 18 (Ad ad 99) := by rw [e, rI_o (by decide)]
    have f2 : q_I d1 12 2 (Ad ad 99) = q_I δ1 12 2 (Ad ad 99) := by rw [e, rI_o (by decide)]
    refine hs_ite (fun c => hs_some ⟨fun _ => by rw [f18], fun z => ?_, fun z => ?_, fun z => absurd c z⟩) (fun c => hs_ite (fun c' => ?_) (fun c' => hs_ite (fun c'' => ?_) (fun c'' => hs_some ⟨fun z => absurd z c, fun z => absurd z c', fun z => absurd z c'', fun _ _ _ => rfl⟩)))
    · rw [c] at z; exact absurd z (by decide)
    · rw [c] at z; exact absurd z (by decide)
    · refine hs_some ⟨fun z => absurd z c, fun _ => by rw [f2], fun z => ?_, fun _ z => absurd c' z⟩
      rw [c'] at z; exact absurd z (by decide)
    · refine hs_at o14 (hs_gd (fun _ => hs_at o14 (hs_gd (fun _ => hs_at o14 (hs_gd (fun _ => hs_at o14 (hs_gd (fun _ => hs_some ⟨fun z => absurd z c, fun z => absurd z c', fun _ => ?_, fun _ _ z => absurd c'' z⟩))))))))
      rw [w1]
      have b0 := rb_103 L V2 0
      have b1 := rb_103 L V2 1
      have b2 := rb_103 L V2 2
      have b3 := rb_103 L V2 3
      have t1 := te_add (q_R δ1 (Ad ad 103) 0) (q_R δ1 (Ad ad 103) 1) (by omega) (by omega)
      have t2 := te_add (q_R δ1 (Ad ad 103) 0 + q_R δ1 (Ad ad 103) 1) (q_R δ1 (Ad ad 103) 2) (by omega) (by omega)
      have t3 := te_add (q_R δ1 (Ad ad 103) 0 + q_R δ1 (Ad ad 103) 1 + q_R δ1 (Ad ad 103) 2) (q_R δ1 (Ad ad 103) 3) (by omega) (by omega)
      have v0 : (q_R δ1 (Ad ad 103) 0).toInt = hM ad δ1 0 := rfl
      have v1 : (q_R δ1 (Ad ad 103) 1).toInt = hM ad δ1 1 := rfl
      have v2 : (q_R δ1 (Ad ad 103) 2).toInt = hM ad δ1 2 := rfl
      have v3 : (q_R δ1 (Ad ad 103) 3).toInt = hM ad δ1 3 := rfl
      show (q_R δ1 (Ad ad 103) 0 + q_R δ1 (Ad ad 103) 1 + q_R δ1 (Ad ad 103) 2 + q_R δ1 (Ad ad 103) 3).toInt = _
      omega
  obtain ⟨c1, c2, c3, c4⟩ := C _ e1
  obtain ⟨r1, r2, r3, r4⟩ := R _ e2
  dsimp only at c1 c2 c3 c4 r1 r2 r3 r4
  have eb : kk = b := by
    by_cases q0 : x1 = 0
    · exact i_eq (by rw [c1 q0, r1 q0]; exact A3)
    · by_cases q1 : x1 = 1
      · exact i_eq (by rw [c2 q1, r2 q1]; exact V4)
      · by_cases q2 : x1 = 2
        · refine i_eq ?_
          rw [c3 q2, r3 q2]
          have k0 := (X.1 0 (by decide)).1.1
          have k1 := (X.1 1 (by decide)).1.1
          have k2 := (X.1 2 (by decide)).1.1
          have k3 := (X.1 3 (by decide)).1.1
          show 0 + cM ad δ1 0 + cM ad δ1 1 + cM ad δ1 2 + cM ad δ1 3 = _
          omega
        · rw [c4 q0 q1 q2, r4 q0 q1 q2]
  subst eb
  exact ⟨d, ⟨kk, δ1, e1, e2⟩, W⟩
end
/-- the last that P, or none -/
def aLa (n : Int) (P : Nat → Prop) (v : Int) : Prop := (v = -1 ∧ ∀ i : Nat, (i : Int) < n → ¬ P i) ∨ ∃ i : Nat, (i : Int) < n ∧ P i ∧ v = (i : Int) + 1 ∧ ∀ j : Nat, i < j → (j : Int) < n → ¬ P j
theorem aLa_u {n m v w : Int} {P Q : Nat → Prop} (e : n = m) (f : ∀ i : Nat, (i : Int) < m → (P i ↔ Q i)) (h : aLa n P v) (g : aLa m Q w) : v = w := by
  subst e
  rcases h with ⟨h1, h2⟩ | ⟨i, h1, h2, h3, h4⟩ <;> rcases g with ⟨g1, g2⟩ | ⟨j, g1, g2, g3, g4⟩
  · omega
  · exact absurd ((f j g1).mpr g2) (h2 j g1)
  · exact absurd ((f i h1).mp h2) (g2 i h1)
  · rcases (show i < j ∨ i = j ∨ j < i by omega) with z | z | z
    · exact absurd ((f j g1).mpr g2) (h4 j z g1)
    · omega
    · exact absurd ((f i h1).mp h2) (g4 i z h1)
section
variable {ad : List Nat} {h : hp}
theorem h2_last (L : Lay TLx ad h) {N : Nat} {K : Nat} (hK : K < 4) {x1 x2 : Int32} {δ : dp} (nb : cN ad δ K ≤ 1000) (hv : (x2 * 2 + x1).toInt = 2 * x2.toInt + x1.toInt) : ∀ (f : Nat) (x3 : Int32), -1 ≤ x3.toInt → x3.toInt < cN ad δ K → (∀ j : Nat, x3.toInt < (j : Int) → (j : Int) < cN ad δ K → ¬ cC ad δ K j = 2 * x2.toInt + x1.toInt) → hs (L_X2_lastChange_7 N h.1 (Ad ad (75 + 6 * K)) x1 x2 f x3 δ) (fun r => r.2 = δ ∧ aLa (cN ad δ K) (fun j => cC ad δ K j = 2 * x2.toInt + x1.toInt) r.1.toInt) := by
  have z0 : (0 : Int32).toInt = 0 := rfl
  intro f
  induction f with
  | zero => intro x3 _ _ _; exact hs_none
  | succ f ih =>
    intro x3 h1 h2 h3
    unfold L_X2_lastChange_7
    refine hs_ite (fun c => ?_) (fun c => ?_)
    · have c1 := o_lt c
      exact hs_some ⟨rfl, Or.inl ⟨rfl, fun i hi => h3 i (by omega) hi⟩⟩
    · have c1 := o_nlt c
      have n3 := ti_tn x3
      refine hs_at (lk_2 L hK) (hs_gd (fun _ => ?_))
      have vc : (q_R δ (Ad ad (78 + 6 * K)) x3.toNatClampNeg).toInt = cC ad δ K x3.toNatClampNeg := rfl
      refine hs_ite (fun c' => ?_) (fun c' => hs_biv (fun y ey => ?_))
      · have c2 := o_eq c'
        rw [vc, hv] at c2
        have t := te_addc (c := 1) (n := 1) rfl x3 (by omega) (by omega)
        exact hs_some ⟨rfl, Or.inr ⟨x3.toNatClampNeg, by omega, c2, by show (x3 + 1).toInt = _; omega, fun j a b => h3 j (by omega) b⟩⟩
      · have c2 := o_ne c'
        rw [vc, hv] at c2
        have t := te_addc (c := -1) (n := -1) rfl x3 (by omega) (by omega)
        rw [← ey] at t
        refine ih y (by omega) (by omega) (fun j a b => ?_)
        by_cases z : j = x3.toNatClampNeg
        · rw [z]; exact c2
        · exact h3 j (by omega) b
theorem hL_since (L : Lay TLx ad h) {δ0 : dp} {N : Nat} {x1 x2 x3 : Int32} {o : Nat} {δ : dp} (I : CI ad h.1 δ0 δ) : hs (D_L_since N h.1 (Ad ad 0) x1 x2 x3 o δ) (fun r => OL (nH x1) (nN (scA ad δ) x2 ∨ x3.toInt < 0 ∨ 1 < x3.toInt) (fun v => aLa (cN ad δ (tH x1)) (fun j => cC ad δ (tH x1) j = 2 * x2.toInt + x3.toInt) v) o r.1 r.2) := by
  have ab := scA_b L I
  have z0 : (0 : Int32).toInt = 0 := rfl
  have z1 : (1 : Int32).toInt = 1 := rfl
  have z2 : (2 : Int32).toInt = 2 := rfl
  unfold D_L_since
  refine OX_L (Q := fun v => aLa (cN ad δ (tH x1)) (fun j => cC ad δ (tH x1) j = 2 * x2.toInt + x3.toInt) v) ?_ (fun v d hv => hs_gd (fun _ => hs_some rfl)) (fun d => hs_ite (fun _ => hs_some rfl) (fun z => absurd rfl z)) (fun _ d => hs_ite (fun z => absurd z (by decide)) (fun _ => hs_ite (fun z => absurd z (by decide)) (fun _ => hs_some rfl)))
  unfold D_X11_since
  refine hc_H L (fun H hH hx => hs_bind (hc_isNumber L (x1 := x2) I) (fun r hr => ?_))
  obtain ⟨e, hr⟩ := hr
  rw [e]
  have no : (nN (scA ad δ) x2 ∨ x3.toInt < 0 ∨ 1 < x3.toInt) → hs (J_X11_since_27 N h.1 (Ad ad 0) x1 x2 x3 (Ad ad 0) δ) (fun r => OY (nN (scA ad δ) x2 ∨ x3.toInt < 0 ∨ 1 < x3.toInt) (fun v => aLa (cN ad δ (tH x1)) (fun j => cC ad δ (tH x1) j = 2 * x2.toInt + x3.toInt) v) r.1) := fun z => by
    unfold J_X11_since_27 J_X11_since_28
    exact hc_C L ⟨fun _ => rfl, fun _ => z⟩ (fun nc => absurd z nc)
  rcases hr with ⟨a, v1, v2⟩ | ⟨a, v⟩
  rotate_left
  · rw [a]
    exact hs_ite (fun _ => no (Or.inl v)) (fun z => absurd rfl z)
  rw [a]
  have nb := cN_b L I hH
  have run : (x3 = 0 ∨ x3 = 1) → hs (J_X11_since_23 N h.1 (Ad ad 0) x1 x2 x3 (Ad ad 0) δ) (fun r => OY (nN (scA ad δ) x2 ∨ x3.toInt < 0 ∨ 1 < x3.toInt) (fun v => aLa (cN ad δ (tH x1)) (fun j => cC ad δ (tH x1) j = 2 * x2.toInt + x3.toInt) v) r.1) := fun hh => by
    have h01 : x3.toInt = 0 ∨ x3.toInt = 1 := by rcases hh with q | q <;> rw [q]; exact Or.inl rfl; exact Or.inr rfl
    unfold J_X11_since_23 J_X11_since_28
    refine hc_C L ⟨fun z => by rcases z with z | z; rcases z with z | z; omega; omega; omega, fun z => absurd z (by decide)⟩ (fun nc => hc_house L hH hx ?_)
    unfold J_X11_since_46
    rw [tH_e hx]
    have go : ∀ xs : Int32, xs = x3 → hs ((D_X2_lastChange N h.1 (Ad ad (75 + 6 * H)) xs x2 δ).bind fun r_14 => some ((Sum.inl r_14.1 : Int32 ⊕ Nat), r_14.2)) (fun r => ∃ w : Int32, r.1 = .inl w ∧ aLa (cN ad δ H) (fun j => cC ad δ H j = 2 * x2.toInt + x3.toInt) w.toInt) := fun xs exs => by
      subst exs
      unfold D_X2_lastChange
      have vn : (q_I δ 2 4 (Ad ad (75 + 6 * H))).toInt = cN ad δ H := rfl
      have t1 := te_subc (c := 1) (n := 1) rfl (q_I δ 2 4 (Ad ad (75 + 6 * H))) (by omega) (by omega)
      have t2 := te_mulr (c := 2) (n := 2) rfl x2 (by omega) (by omega)
      have t3 := te_add (x2 * 2) xs (by omega) (by omega)
      refine hs_bind (P := fun r => aLa (cN ad δ H) (fun j => cC ad δ H j = 2 * x2.toInt + xs.toInt) r.1.toInt) (hs_biv (fun y ey => ?_)) (fun r hr => hs_some ⟨r.1, rfl, hr⟩)
      rw [← ey] at t1
      exact hs_mono (h2_last L hH nb.2 (by omega) N y (by omega) (by omega) (fun j a b => by omega)) (fun r hr => hr.2)
    refine hs_ite (fun c => go 0 c.symm) (fun c => go 1 ?_)
    rcases hh with q | q
    · exact absurd q c
    · exact q.symm
  refine hs_ite (fun z => absurd z (by decide)) (fun _ => hs_ite (fun c => run (Or.inl c)) (fun c => hs_ite (fun c' => run (Or.inr c')) (fun c' => no (Or.inr ?_))))
  have := o_ne c
  have := o_ne c'
  omega
theorem hr_last (L : Lay TLx ad h) {N : Nat} {a0 H : Nat} {x1 x2 x3 : Int32} (ka : q_K h.1 a0 = 12) (hx : x1.toInt = (H : Int)) (hH : H < 4) (h3 : x3.toInt = 0 ∨ x3.toInt = 1) {δ : dp} (bN : hN ad δ H ≤ 1000) : ∀ (f : Nat) (x4 : Int32), -1 ≤ x4.toInt → x4.toInt < hN ad δ H → (∀ j : Nat, x4.toInt < (j : Int) → (j : Int) < hN ad δ H → ¬ (nT ad δ H j = x2.toInt ∧ cF ad δ H j = 1 - x3.toInt)) → hs (L_X12_since_57 N h.1 a0 x1 x2 x3 f x4 δ) (fun r => r.2 = δ ∧ aLa (hN ad δ H) (fun j => nT ad δ H j = x2.toInt ∧ cF ad δ H j = 1 - x3.toInt) r.1.toInt) := by
  have z0 : (0 : Int32).toInt = 0 := rfl
  have z1 : (1 : Int32).toInt = 1 := rfl
  obtain ⟨b15, o15, _⟩ := gO_12_15 L ka
  obtain rfl := gS_12_15 L ka o15
  obtain ⟨b16, o16, _⟩ := gO_12_16 L ka
  obtain rfl := gS_12_16 L ka o16
  intro f
  induction f with
  | zero => intro x4 _ _ _; exact hs_none
  | succ f ih =>
    intro x4 g1 g2 g3
    unfold L_X12_since_57
    refine hs_ite (fun c => ?_) (fun c => ?_)
    · have c1 := o_lt c
      exact hs_some ⟨rfl, Or.inl ⟨rfl, fun i hi => g3 i (by omega) hi⟩⟩
    · have c1 := o_nlt c
      have n4 := ti_tn x4
      have t3 := te_addc (c := 1) (n := 1) rfl x4 (by omega) (by omega)
      have t4 := te_csub (c := 1) (n := 1) rfl x3 (by omega) (by omega)
      have nx : ¬ (nT ad δ H x4.toNatClampNeg = x2.toInt ∧ cF ad δ H x4.toNatClampNeg = 1 - x3.toInt) → hs (J_X12_since_103 N h.1 a0 x1 x2 x3 (L_X12_since_57 N h.1 a0 x1 x2 x3 f) x4 δ) (fun r => r.2 = δ ∧ aLa (hN ad δ H) (fun j => nT ad δ H j = x2.toInt ∧ cF ad δ H j = 1 - x3.toInt) r.1.toInt) := fun np => by
        unfold J_X12_since_103
        refine hs_biv (fun y ey => ?_)
        clear t3 t4
        have t2 := te_addc (c := -1) (n := -1) rfl x4 (by omega) (by omega)
        rw [← ey] at t2
        refine ih y (by omega) (by omega) (fun j a b => ?_)
        by_cases z : j = x4.toNatClampNeg
        · rw [z]; exact np
        · exact g3 j (by omega) b
      refine hs_at o15 (hs_gd (fun g => ?_))
      clear g
      rw [(ix1 hx hH (m := x4) (k := x4.toNatClampNeg) (by omega) (by omega)).2]
      have vT : (q_R δ (Ad ad 104) (1000 * H + x4.toNatClampNeg)).toInt = nT ad δ H x4.toNatClampNeg := rfl
      have vF : (q_R δ (Ad ad 105) (1000 * H + x4.toNatClampNeg)).toInt = cF ad δ H x4.toNatClampNeg := rfl
      refine hs_ite (fun c2 => ?_) (fun c2 => ?_)
      · have e2 := o_eq c2
        refine hs_at o16 (hs_gd (fun g => ?_))
        clear g
        refine hs_ite (fun c3 => ?_) (fun c3 => ?_)
        · have e3 := o_eq c3
          exact hs_some ⟨rfl, Or.inr ⟨x4.toNatClampNeg, by omega, ⟨by omega, by omega⟩, by show (x4 + 1).toInt = _; omega, fun j a b => g3 j (by omega) b⟩⟩
        · have e3 := o_ne c3
          exact nx (fun z => by omega)
      · have e2 := o_ne c2
        exact nx (fun z => by omega)
theorem hr_since (L : Lay TLx ad h) {δ0 : dp} {N : Nat} (hNN : 10000000 ≤ N) {x1 x2 x3 : Int32} (ka : q_K h.1 (Ad ad 99) = 12) {δ : dp} (I : RI ad h.1 δ0 δ) : hs (D_X12_since N h.1 (Ad ad 99) x1 x2 x3 δ) (fun r => OM (nH x1) (nN (shA (Ad ad 99) δ) x2 ∨ x3.toInt < 0 ∨ 1 < x3.toInt) (fun v => aLa (hN ad δ (tH x1)) (fun j => nT ad δ (tH x1) j = x2.toInt ∧ cF ad δ (tH x1) j = 1 - x3.toInt) v) (Ad ad 99) r.1 r.2) := by
  have z0 : (0 : Int32).toInt = 0 := rfl
  have z1 : (1 : Int32).toInt = 1 := rfl
  obtain ⟨b17, o17, _⟩ := gO_12_17 L ka
  obtain rfl := gS_12_17 L ka o17
  unfold D_X12_since
  have J0 : ∀ p : Int32 × dp, hs (J_X12_since_45 N h.1 (Ad ad 99) x1 x2 x3 p.2) (fun r => r.2 = p.2) := fun p => hs_some rfl
  refine hr_H L hNN ka I J0 (fun b d1 H i1 t0 w e hH hx => ?_)
  dsimp only
  have no : (nN (shA (Ad ad 99) δ) x2 ∨ x3.toInt < 0 ∨ 1 < x3.toInt) → hs (J_X12_since_36 N h.1 (Ad ad 99) x1 x2 x3 (Ad ad 99) d1) (fun r => OZ (nN (shA (Ad ad 99) δ) x2 ∨ x3.toInt < 0 ∨ 1 < x3.toInt) (fun v => aLa (hN ad δ (tH x1)) (fun j => nT ad δ (tH x1) j = x2.toInt ∧ cF ad δ (tH x1) j = 1 - x3.toInt) v) (Ad ad 99) r.1 r.2) := fun z => by
    unfold J_X12_since_36 J_X12_since_37
    exact hr_C L ka ⟨fun _ => rfl, fun _ => z⟩ t0 J0 (fun nc _ => absurd z nc)
  refine hs_bind (hr_isNumber L hNN (x1 := x2) ka i1) (fun r hr => ?_)
  obtain ⟨e5, hr⟩ := hr
  rw [e5]
  rw [shA_1 e] at hr
  rcases hr with ⟨a, v1, v2⟩ | ⟨a, v⟩
  rotate_left
  · rw [a]
    exact hs_ite (fun _ => no (Or.inl v)) (fun z => absurd rfl z)
  rw [a]
  refine hs_ite (fun z => absurd z (by decide)) (fun _ => hs_bind (hr_within L hNN (x0 := x3) (x1 := 0) (x2 := 1) i1) (fun r hr => ?_))
  obtain ⟨e5, hr⟩ := hr
  rw [e5]
  rcases hr with ⟨a, u1, u2⟩ | ⟨a, v⟩
  rotate_left
  · rw [a]
    exact hs_ite (fun _ => no (Or.inr (by omega))) (fun z => absurd rfl z)
  rw [a]
  refine hs_ite (fun z => absurd z (by decide)) (fun _ => ?_)
  unfold J_X12_since_37
  refine hr_C L ka ⟨fun z => by rcases z with z | z; rcases z with z | z; omega; omega; omega, fun z => absurd z (by decide)⟩ t0 J0 (fun nc _ => ?_)
  dsimp only
  have tx := tnH hx
  have eN : hN ad d1 H = hN ad δ H := by unfold hN; rw [w]
  have eT : nT ad d1 H = nT ad δ H := by funext i; unfold nT; rw [w]
  have eF : cF ad d1 H = cF ad δ H := by funext i; unfold cF; rw [w]
  have bN := rb_106 L i1 H
  have vN : (q_R d1 (Ad ad 106) H).toInt = hN ad d1 H := rfl
  have t1 := te_subc (c := 1) (n := 1) rfl (q_R d1 (Ad ad 106) H) (by omega) (by omega)
  refine hs_at o17 (hs_gd (fun _ => ?_))
  rw [tx]
  refine hs_biv (fun y ey => ?_)
  rw [← ey] at t1
  rw [tH_e hx, ← eN, ← eT, ← eF]
  exact hr_last L ka hx hH (by omega) (by omega) N y (by omega) (by omega) (fun j a b => by omega)
theorem y_since (L : Lay TLx ad h) {N : Nat} (hNN : 10000000 ≤ N) (kx : q_K h.1 (Ad ad 0) = 11) (km : q_K h.1 (Ad ad 99) = 12) (no : q_N h.1 (Ad ad 127) = 1) {x1 x2 x3 : Int32} {δ : dp} (V : IY ad h.1 δ) : ∃ d, (∃ (kk b : Int32) (δ1 : dp), D_L_since N h.1 (Ad ad 0) x1 x2 x3 (Ad ad 127) δ = some (kk, δ1) ∧ D_X12_since N h.1 (Ad ad 99) x1 x2 x3 δ1 = some (b, d) ∧ q_I d 12 0 (Ad ad 99) = kk ∧ (kk = 0 → q_J d (Ad ad 127) 0 = b.toInt64)) ∧ IY ad h.1 d :=
  stepR (d1 := fun _ => nH x1) (d2 := fun δ1 => nN (shA (Ad ad 99) δ1) x2 ∨ x3.toInt < 0 ∨ 1 < x3.toInt) (P := fun δ1 v => aLa (hN ad δ1 (tH x1)) (fun j => nT ad δ1 (tH x1) j = x2.toInt ∧ cF ad δ1 (tH x1) j = 1 - x3.toInt) v) (f := fun δ1 => D_X12_since N h.1 (Ad ad 99) x1 x2 x3 δ1) km V (k_L_since L hNN (x1 := x1) (x2 := x2) (x3 := x3) kx no V.1.1.1) (gL_since L kx) (hL_since L V.1.1.1) (fun δ1 I1 O1 => o_since L hNN km I1 O1) (fun δ1 I1 O1 X1 => hs_and (rs_since L hNN km I1 O1) (hr_since L hNN km I1)) (fun δ1 X1 c eA e4 => ⟨Iff.rfl, fun _ => by show (nN (scA ad δ) x2 ∨ x3.toInt < 0 ∨ 1 < x3.toInt) ↔ (nN (shA (Ad ad 99) δ1) x2 ∨ x3.toInt < 0 ∨ 1 < x3.toInt); rw [eA], fun n1 n2 v w hq hp => by
    have h4 : tH x1 < 4 := by show x1.toInt.toNat < 4; omega
    obtain ⟨h1, h2, h3, _, _, h6, h7, _⟩ := X1.1 (tH x1) h4
    obtain ⟨c1, c2, c3, c5, _⟩ := c.1 (tH x1) h4
    rw [c3] at h2
    rw [c5] at h6
    refine aLa_u h2 (fun i hi => ?_) hq hp
    rw [h6 i hi]
    have vd := (h7 i (by omega)).2.2
    constructor
    · intro z
      rcases vd with ⟨q, _⟩ | ⟨q, _⟩ <;> constructor <;> omega
    · intro z
      omega⟩)
end
end
section
/-! was, asked: the PAST of both sides -/
def uT (ad : List Nat) (δ : dp) (K i : Nat) : Int := cC ad δ K i / 2
def uF (ad : List Nat) (δ : dp) (K i : Nat) : Int := 1 - cC ad δ K i % 2
theorem SH.tf {T F T1 F1 : Nat → Int} {t : Nat} {M : Int} {R : Nat → Int} (e : ∀ i, i < t → T1 i = T i ∧ F1 i = F i) (h : SH T F t M R) : SH T1 F1 t M R := ⟨h.1, h.2.1, fun y => (h.2.2.1 y).trans (St_c t e y).symm, h.2.2.2.trans (Ct_c t (fun i hi => (e i hi).2)).symm⟩
theorem HX_u {ad : List Nat} {δ : dp} (X : HX ad δ) {K : Nat} (hK : K < 4) : (∀ i : Nat, (i : Int) < cN ad δ K → uT ad δ K i = nT ad δ K i ∧ uF ad δ K i = cF ad δ K i) ∧ HC ad (shA (Ad ad 99) δ) (uT ad δ K) (uF ad δ K) (cN ad δ K).toNat δ K ∧ Vd (shA (Ad ad 99) δ) (nT ad δ K) (cF ad δ K) (hN ad δ K).toNat := by
  obtain ⟨h1, h2, h3, h4, h5, h6, h7, h8, h9⟩ := X.1 K hK
  have h7' : Vd (shA (Ad ad 99) δ) (nT ad δ K) (cF ad δ K) (cN ad δ K).toNat := by rw [h2]; exact h7
  have eq : ∀ i : Nat, (i : Int) < cN ad δ K → uT ad δ K i = nT ad δ K i ∧ uF ad δ K i = cF ad δ K i := fun i hi => by
    have c := h6 i (by omega)
    have v := (h7' i (by omega)).2.2
    unfold uT uF
    rcases v with ⟨f, _⟩ | ⟨f, _⟩ <;> exact ⟨by omega, by omega⟩
  refine ⟨eq, ⟨Vd_c (fun t ht => eq t (by omega)) h7', fun i hi => ?_⟩, h7⟩
  unfold uT uF
  omega
section
variable {ad : List Nat} {h : hp}
theorem hL_was (L : Lay TLx ad h) {N : Nat} (hN : 10000000 ≤ N) {x1 x2 x3 : Int32} {o : Nat} {δ0 δ : dp} (I : CI ad h.1 δ0 δ) (X : HX ad δ) : hs (D_L_was N h.1 (Ad ad 0) x1 x2 x3 o δ) (fun r => OL (nH x1) (x2.toInt < 0 ∨ cN ad δ (tH x1) < x2.toInt ∨ x3.toInt < 0 ∨ 2 < x3.toInt) (fun v => ∃ (M : Int) (R : Nat → Int), SH (uT ad δ (tH x1)) (uF ad δ (tH x1)) (tH x2) M R ∧ aTe M R x3.toInt v) o r.1 r.2) := by
  have z0 : (0 : Int32).toInt = 0 := rfl
  have z2 : (2 : Int32).toInt = 2 := rfl
  have k11 : q_K h.1 (Ad ad 11) = 3 := (lay_knd L (by decide)).trans (by decide)
  unfold D_L_was
  refine OX_L (Q := fun v => ∃ (M : Int) (R : Nat → Int), SH (uT ad δ (tH x1)) (uF ad δ (tH x1)) (tH x2) M R ∧ aTe M R x3.toInt v) ?_ (fun v d hv => hs_gd (fun _ => hs_some rfl)) (fun d => hs_ite (fun _ => hs_some rfl) (fun z => absurd rfl z)) (fun _ d => hs_ite (fun z => absurd z (by decide)) (fun _ => hs_ite (fun z => absurd z (by decide)) (fun _ => hs_some rfl)))
  unfold D_X11_was
  refine hc_H L (fun H hH hx => ?_)
  rw [tH_e hx]
  have no : (x2.toInt < 0 ∨ cN ad δ H < x2.toInt ∨ x3.toInt < 0 ∨ 2 < x3.toInt) → hs (J_X11_was_36 N h.1 (Ad ad 0) x1 x2 x3 (Ad ad 0) δ) (fun r => OY (x2.toInt < 0 ∨ cN ad δ H < x2.toInt ∨ x3.toInt < 0 ∨ 2 < x3.toInt) (fun v => ∃ (M : Int) (R : Nat → Int), SH (uT ad δ H) (uF ad δ H) (tH x2) M R ∧ aTe M R x3.toInt v) r.1) := fun z => by
    unfold J_X11_was_36 J_X11_was_37
    exact hc_C L ⟨fun _ => rfl, fun _ => z⟩ (fun nc => absurd z nc)
  have vn : (q_I δ 2 4 (Ad ad (75 + 6 * H))).toInt = cN ad δ H := rfl
  have nb := cN_b L I hH
  refine hs_ite (fun c => no (Or.inl (by have := o_lt c; omega))) (fun c => hc_house L hH hx (hs_ite (fun c' => no (Or.inr (Or.inl (by have := o_lt c'; omega)))) (fun c' => hs_ite (fun c3 => no (Or.inr (Or.inr (Or.inl (by have := o_lt c3; omega))))) (fun c3 => hs_ite (fun c4 => no (Or.inr (Or.inr (Or.inr (by have := o_lt c4; omega))))) (fun c4 => ?_)))))
  have c1 := o_nlt c
  have c2 := o_nlt c'
  have c5 := o_nlt c3
  have c6 := o_nlt c4
  unfold J_X11_was_37
  refine hc_C L ⟨fun z => by rcases z with z | z | z | z <;> omega, fun z => absurd z (by decide)⟩ (fun nc => hc_house L hH hx (hs_at (fO_0_7 L) ?_))
  refine hs_bind (hD_fill L hN hH k11 (fO_11_0 L) (ad_ne L (by decide) (by omega) (by omega)) (fN_12 L) (n := (cN ad δ H).toNat) (by omega) (by omega) (by omega) I (HX_u X hH).2.1) (fun r hr => ?_)
  obtain ⟨_, I2, S⟩ := hr
  refine hs_at (fO_0_7 L) (hs_bind (h3_tell (x := x3) k11 (fO_11_0 L) I2) (fun q hq => hs_some ⟨q.1, rfl, _, _, S, hq.2⟩))
theorem hc_isCall {N : Nat} {x : Int32} {δ : dp} : hs (D_X11_isCall N h.1 x δ) (fun r => r.2 = δ ∧ ((r.1 = 1 ∧ 0 ≤ x.toInt ∧ x.toInt ≤ 4) ∨ (r.1 = 0 ∧ (x.toInt < 0 ∨ 4 < x.toInt)))) := by
  have z0 : (0 : Int32).toInt = 0 := rfl
  have z5 : (5 : Int32).toInt = 5 := rfl
  unfold D_X11_isCall J_X11_isCall_13 J_X11_isCall_14
  refine hs_ite (fun c => ?_) (fun c => hs_ite (fun c' => ?_) (fun c' => ?_))
  · have c1 := o_lt c
    exact hs_gp (fun _ => hs_some ⟨rfl, Or.inr ⟨rfl, by omega⟩⟩)
  · have c1 := o_le c'
    exact hs_gp (fun _ => hs_some ⟨rfl, Or.inr ⟨rfl, by omega⟩⟩)
  · have c1 := o_nlt c
    have c2 := o_nle c'
    exact hs_gp (fun _ => hs_some ⟨rfl, Or.inl ⟨rfl, by omega, by omega⟩⟩)
abbrev nAs (n A : Int) (x2 x3 x4 : Int32) : Prop := x2.toInt < 0 ∨ n < x2.toInt ∨ x3.toInt < 2 ∨ 4 < x3.toInt ∨ ¬ okA A x3.toInt x4.toInt
theorem hL_asked (L : Lay TLx ad h) {N : Nat} (hN : 10000000 ≤ N) {x1 x2 x3 x4 : Int32} {o : Nat} {δ0 δ : dp} (I : CI ad h.1 δ0 δ) (X : HX ad δ) : hs (D_L_asked N h.1 (Ad ad 0) x1 x2 x3 x4 o δ) (fun r => OL (nH x1) (nAs (cN ad δ (tH x1)) (scA ad δ) x2 x3 x4) (fun v => ∃ (M : Int) (R : Nat → Int), SH (uT ad δ (tH x1)) (uF ad δ (tH x1)) (tH x2) M R ∧ aAn M R x3.toInt x4.toInt v) o r.1 r.2) := by
  have z0 : (0 : Int32).toInt = 0 := rfl
  have z2 : (2 : Int32).toInt = 2 := rfl
  have ab := scA_b L I
  have k11 : q_K h.1 (Ad ad 11) = 3 := (lay_knd L (by decide)).trans (by decide)
  unfold D_L_asked
  refine OX_L (Q := fun v => ∃ (M : Int) (R : Nat → Int), SH (uT ad δ (tH x1)) (uF ad δ (tH x1)) (tH x2) M R ∧ aAn M R x3.toInt x4.toInt v) ?_ (fun v d hv => hs_gd (fun _ => hs_some rfl)) (fun d => hs_ite (fun _ => hs_some rfl) (fun z => absurd rfl z)) (fun _ d => hs_ite (fun z => absurd z (by decide)) (fun _ => hs_ite (fun z => absurd z (by decide)) (fun _ => hs_some rfl)))
  unfold D_X11_asked
  refine hc_H L (fun H hH hx => ?_)
  rw [tH_e hx]
  have no : nAs (cN ad δ H) (scA ad δ) x2 x3 x4 → hs (J_X11_asked_49 N h.1 (Ad ad 0) x1 x2 x3 x4 (Ad ad 0) δ) (fun r => OY (nAs (cN ad δ H) (scA ad δ) x2 x3 x4) (fun v => ∃ (M : Int) (R : Nat → Int), SH (uT ad δ H) (uF ad δ H) (tH x2) M R ∧ aAn M R x3.toInt x4.toInt v) r.1) := fun z => by
    unfold J_X11_asked_49 J_X11_asked_50
    exact hc_C L ⟨fun _ => rfl, fun _ => z⟩ (fun nc => absurd z nc)
  have vn : (q_I δ 2 4 (Ad ad (75 + 6 * H))).toInt = cN ad δ H := rfl
  have nb := cN_b L I hH
  refine hs_ite (fun c => no (Or.inl (by have := o_lt c; omega))) (fun c => hc_house L hH hx (hs_ite (fun c' => no (Or.inr (Or.inl (by have := o_lt c'; omega)))) (fun c' => hs_bind (hc_isCall (x := x3)) (fun r hr => ?_))))
  obtain ⟨e, hr⟩ := hr
  rw [e]
  have c1 := o_nlt c
  have c2 := o_nlt c'
  rcases hr with ⟨a, v1, v2⟩ | ⟨a, v⟩
  rotate_left
  · rw [a]
    refine hs_ite (fun _ => no ?_) (fun z => absurd rfl z)
    rcases v with v | v
    · exact Or.inr (Or.inr (Or.inl (by omega)))
    · exact Or.inr (Or.inr (Or.inr (Or.inl v)))
  rw [a]
  refine hs_ite (fun z => absurd z (by decide)) (fun _ => hs_ite (fun c3 => no (Or.inr (Or.inr (Or.inl (by have := o_lt c3; omega))))) (fun c3 => hs_bind (hc_mayAsk L (x1 := x3) (x2 := x4) I) (fun r hr => ?_)))
  obtain ⟨e, hr⟩ := hr
  rw [e]
  have c5 := o_nlt c3
  rcases hr with ⟨a, v⟩ | ⟨a, v⟩
  rotate_left
  · rw [a]
    exact hs_ite (fun _ => no (Or.inr (Or.inr (Or.inr (Or.inr v))))) (fun z => absurd rfl z)
  rw [a]
  refine hs_ite (fun z => absurd z (by decide)) (fun _ => ?_)
  unfold J_X11_asked_50
  refine hc_C L ⟨fun z => by rcases z with z | z | z | z | z; omega; omega; omega; omega; exact absurd v z, fun z => absurd z (by decide)⟩ (fun nc => hc_house L hH hx (hs_at (fO_0_7 L) ?_))
  refine hs_bind (hD_fill L hN hH k11 (fO_11_0 L) (ad_ne L (by decide) (by omega) (by omega)) (fN_12 L) (n := (cN ad δ H).toNat) (by omega) (by omega) (by omega) I (HX_u X hH).2.1) (fun r hr => ?_)
  obtain ⟨_, I2, S⟩ := hr
  have b4 : x4.toInt < 2147483647 := by rcases v with z | z | z <;> omega
  refine hs_at (fO_0_7 L) (hs_bind (h3_answer L hN (c := x3) (x := x4) k11 (fO_11_0 L) I2 S.1 b4 (by omega)) (fun q hq => hs_some ⟨q.1, rfl, _, _, S, hq.2⟩))
/-! the reference goes to a time and comes back -/
theorem hr_changes (L : Lay TLx ad h) {δ0 : dp} {N : Nat} (hNN : 10000000 ≤ N) {a0 H t n : Nat} {x1 x2 : Int32} (ka : q_K h.1 a0 = 12) (hx : x1.toInt = (H : Int)) (hH : H < 4) (h2 : x2.toInt = (t : Int)) {d : dp} (I : RI ad h.1 δ0 d) {A : Int} {T F : Nat → Int} (hn : n ≤ 1000) (V : Vd A T F n) (ht : t < n) (eT : nT ad d H t = T t) (eF : cF ad d H t = F t) (S : SH T F t (hM ad d H) (hR ad d H)) : hs (D_X12_changes N h.1 a0 x1 x2 d) (fun r => RI ad h.1 δ0 r ∧ kr ad [102, 103] d r ∧ SH T F (t + 1) (hM ad r H) (hR ad r H)) := by
  have z1 : (1 : Int32).toInt = 1 := rfl
  obtain ⟨b15, o15, _⟩ := gO_12_15 L ka
  obtain rfl := gS_12_15 L ka o15
  obtain ⟨b16, o16, _⟩ := gO_12_16 L ka
  obtain rfl := gS_12_16 L ka o16
  have tx := tnH hx
  have cl := Ct_le (cm := F) t
  obtain ⟨s1, s2, s3, s4⟩ := id S
  have hs1 : hsr ad d H := ⟨s2, s1⟩
  have vM : (q_R d (Ad ad 103) x1.toNatClampNeg).toInt = hM ad d H := by rw [tx]; rfl
  have hM1 : hM ad d H = ((hM ad d H).toNat : Int) := by omega
  unfold D_X12_changes J_X12_changes_44
  refine hs_at o15 (hs_gd (fun g => ?_))
  clear g
  rw [(ix1 hx hH h2 (by omega)).2]
  refine hs_biv (fun y ey => hs_at o16 (hs_gd (fun g => ?_)))
  clear g
  have hy : y.toInt = T t := by rw [ey]; exact eT
  have vF : (q_R d (Ad ad 105) (1000 * H + t)).toInt = F t := eF
  have v := (V t ht).2.2
  refine hs_ite (fun c => ?_) (fun c => ?_)
  · have c1 := o_eq c
    have nm : ¬ ME (hM ad d H) (hR ad d H) (T t) := by
      rcases v with ⟨_, v⟩ | ⟨z, _⟩
      · rw [s3]; exact v
      · omega
    refine hs_bind (hs_and (ok_h (k_X12_comes L hNN (x1 := x1) (x2 := y) ka (by omega) (by omega) (by omega) I)) (ok_h (f12_comes L hNN (x := y) ka hx hH I hs1 hM1 (by omega)))) (fun r hr => ?_)
    obtain ⟨⟨i1, ⟨_, _, w1⟩, _⟩, p, P, D⟩ := hr
    have P' : PL (hM ad d H) (hR ad d H) y.toInt p := P
    have J := IN_h hM1 (by have := P'.1; omega) D
    rw [hy] at P' J
    exact hs_some ⟨i1, w1, S.f V ht (len := 2000) (by omega) (Or.inl ⟨by omega, Or.inr ⟨nm, p, P', J⟩⟩)⟩
  · have c1 := o_ne c
    have mm : ME (hM ad d H) (hR ad d H) (T t) := by
      rcases v with ⟨z, _⟩ | ⟨_, v⟩
      · omega
      · rw [s3]; exact v
    refine hs_bind (hs_and (ok_h (k_X12_leaves L hNN (x1 := x1) (x2 := y) ka (by omega) (by omega) (by omega) I)) (ok_h (f12_leaves L hNN (x := y) ka hx hH I hs1 hM1 (by rw [← hy] at mm; exact mm)))) (fun r hr => ?_)
    obtain ⟨⟨i1, ⟨_, _, w1⟩, _⟩, p, P1, P2, D⟩ := hr
    have J := DE_h hM1 D
    exact hs_some ⟨i1, w1, S.f V ht (len := 2000) (by omega) (Or.inr ⟨by rcases v with ⟨z, _⟩ | ⟨z, _⟩ <;> omega, Or.inr ⟨p, by omega, by rw [← hy]; exact P2, J⟩⟩)⟩
theorem hr_goesL (L : Lay TLx ad h) {δ0 : dp} {N : Nat} (hNN : 10000000 ≤ N) {a0 H n : Nat} {x1 x2 : Int32} (ka : q_K h.1 a0 = 12) (hx : x1.toInt = (H : Int)) (hH : H < 4) {δ : dp} {A : Int} (hn : n ≤ 1000) (V : Vd A (nT ad δ H) (cF ad δ H) n) (h2 : x2.toInt ≤ (n : Int)) : ∀ (f t : Nat) (x3 : Int32) (d : dp), x3.toInt = (t : Int) → (t : Int) ≤ x2.toInt → RI ad h.1 δ0 d → q_R d (Ad ad 104) = q_R δ (Ad ad 104) → q_R d (Ad ad 105) = q_R δ (Ad ad 105) → SH (nT ad δ H) (cF ad δ H) t (hM ad d H) (hR ad d H) → hs (L_X12_goesTo_14 N h.1 a0 x1 x2 f x3 d) (fun r => SH (nT ad δ H) (cF ad δ H) (tH x2) (hM ad r H) (hR ad r H)) := by
  intro f
  induction f with
  | zero => intro t x3 d _ _ _ _ _ _; exact hs_none
  | succ f ih =>
    intro t x3 d h3 ht I e4 e5 S
    unfold L_X12_goesTo_14
    refine hs_ite (fun c => ?_) (fun c => ?_)
    · have c1 := o_le c
      rw [show tH x2 = t by show x2.toInt.toNat = t; omega]
      exact hs_some S
    · have c1 := o_nle c
      have t3 := te_addc (c := 1) (n := 1) rfl x3 (by omega) (by omega)
      refine hs_bind (hr_changes L hNN (x2 := x3) ka hx hH h3 I hn V (by omega) (by unfold nT; rw [e4]) (by unfold cF; rw [e5]) S) (fun r hr => ?_)
      obtain ⟨i1, w1, S1⟩ := hr
      refine hs_biv (fun y ey => ?_)
      rw [← ey] at t3
      exact ih (t + 1) y r (by omega) (by omega) i1 (by rw [w1 104 (by decide) (by decide) (by decide)]; exact e4) (by rw [w1 105 (by decide) (by decide) (by decide)]; exact e5) S1
theorem hr_goes (L : Lay TLx ad h) {δ0 : dp} {N : Nat} (hNN : 10000000 ≤ N) {a0 H n : Nat} {x1 x2 : Int32} (ka : q_K h.1 a0 = 12) (hx : x1.toInt = (H : Int)) (hH : H < 4) {δ : dp} (I : RI ad h.1 δ0 δ) {A : Int} (hn : n ≤ 1000) (V : Vd A (nT ad δ H) (cF ad δ H) n) (h0 : 0 ≤ x2.toInt) (h2 : x2.toInt ≤ (n : Int)) : hs (D_X12_goesTo N h.1 a0 x1 x2 δ) (fun r => SH (nT ad δ H) (cF ad δ H) (tH x2) (hM ad r H) (hR ad r H)) := by
  obtain ⟨b14, o14, _⟩ := gO_12_14 L ka
  obtain rfl := gS_12_14 L ka o14
  have tx := tnH hx
  unfold D_X12_goesTo
  refine hs_bind (ok_h (k_X12_keeps L hNN (x1 := x1) ka (by omega) (by omega) I)) (fun r hr => ?_)
  obtain ⟨i1, ⟨u1, v1, w1⟩, _⟩ := hr
  refine hs_at o14 (hs_gd (fun _ => hs_bdv (fun d1 e1 => ?_)))
  rw [tx] at e1
  have i2 : RI ad h.1 δ0 d1 := by rw [e1]; exact cr_103 L i1 (by decide) (by decide)
  have m0 : hM ad d1 H = 0 := by
    show (q_R d1 (Ad ad 103) H).toInt = 0
    rw [e1, qR_sR, if_pos ⟨rfl, rfl⟩]
    rfl
  have e4 : q_R d1 (Ad ad 104) = q_R δ (Ad ad 104) := by rw [e1, rR_o (ad_ne L (by decide) (by decide) (by decide))]; exact w1 104 (by decide) (by decide) (by decide)
  have e5 : q_R d1 (Ad ad 105) = q_R δ (Ad ad 105) := by rw [e1, rR_o (ad_ne L (by decide) (by decide) (by decide))]; exact w1 105 (by decide) (by decide) (by decide)
  exact hr_goesL L hNN ka hx hH hn V h2 N 0 0 d1 rfl h0 i2 e4 e5 (SH_0 m0)
theorem hr_C2 (L : Lay TLx ad h) {N : Nat} {a0 : Nat} (ka : q_K h.1 a0 = 12) {c : Int32} {c2 : Prop} (hc : c2 ↔ c = 0) {d : dp} (t0 : q_I d 12 0 a0 = 0) {J K : Int32 × dp → Option (Int32 × dp)} {Q : Int → Prop} (hJ : ∀ p, hs (J p) (fun r => r.2 = p.2)) (k : ¬ c2 → ∀ b : Int32, hs (K (b, d)) (fun r => q_I r.2 12 0 a0 = 0 ∧ Q r.1.toInt)) : hs ((D_X12_may N h.1 a0 c 2 2 d).bind fun r => if r.1 = 0 then J r else K r) (fun r => OZ c2 Q a0 r.1 r.2) := by
  refine hs_bind (hr_may L (x1 := c) (x2 := 2) (x3 := 2) ka t0 (by decide)) (fun r4 h4 => ?_)
  obtain ⟨b, d'⟩ := r4
  rcases h4 with ⟨n4, g1, g2⟩ | ⟨n4, g1, g2, g3⟩
  · have nc : ¬ c2 := fun z => n4 (hc.mp z)
    dsimp only at g1 g2
    subst g2
    exact hs_ite (fun z => by dsimp only at z; rw [g1] at z; exact absurd z (by decide)) (fun _ => hs_mono (k nc b) (fun r hr => Or.inr ⟨nc, hr.1, hr.2⟩))
  · exact hs_ite (fun _ => hs_mono (hJ (b, d')) (fun r' e => Or.inl ⟨hc.mpr n4, by rw [e]; exact g2⟩)) (fun z => absurd g1 z)
theorem hr_isTime (L : Lay TLx ad h) {δ0 : dp} {N : Nat} (hNN : 10000000 ≤ N) {a0 H : Nat} {x1 x2 : Int32} (ka : q_K h.1 a0 = 12) (hx : x1.toInt = (H : Int)) (hH : H < 4) {δ : dp} (I : RI ad h.1 δ0 δ) : hs (D_X12_isTime N h.1 a0 x1 x2 δ) (fun r => r.2 = δ ∧ ((r.1 = 1 ∧ 0 ≤ x2.toInt ∧ x2.toInt ≤ hN ad δ H) ∨ (r.1 = 0 ∧ (x2.toInt < 0 ∨ hN ad δ H < x2.toInt)))) := by
  have z0 : (0 : Int32).toInt = 0 := rfl
  obtain ⟨b17, o17, _⟩ := gO_12_17 L ka
  obtain rfl := gS_12_17 L ka o17
  have tx := tnH hx
  have vN : (q_R δ (Ad ad 106) H).toInt = hN ad δ H := rfl
  unfold D_X12_isTime
  refine hs_at o17 (hs_gd (fun _ => ?_))
  rw [tx]
  refine hs_bind (hr_within L hNN (x0 := x2) (x1 := 0) (x2 := q_R δ (Ad ad 106) H) I) (fun r hr => ?_)
  obtain ⟨e, hr⟩ := hr
  refine hs_gp (fun _ => hs_some ⟨e, ?_⟩)
  rcases hr with ⟨a, v1, v2⟩ | ⟨a, v⟩
  · exact Or.inl ⟨a, by omega, by omega⟩
  · exact Or.inr ⟨a, by omega⟩
theorem hr_was (L : Lay TLx ad h) {δ0 : dp} {N : Nat} (hNN : 10000000 ≤ N) {x1 x2 x3 : Int32} (ka : q_K h.1 (Ad ad 99) = 12) {δ : dp} (I : RI ad h.1 δ0 δ) (X : HX ad δ) : hs (D_X12_was N h.1 (Ad ad 99) x1 x2 x3 δ) (fun r => OM (nH x1) (x2.toInt < 0 ∨ hN ad δ (tH x1) < x2.toInt ∨ x3.toInt < 0 ∨ 2 < x3.toInt) (fun v => ∃ (M : Int) (R : Nat → Int), SH (nT ad δ (tH x1)) (cF ad δ (tH x1)) (tH x2) M R ∧ aTe M R x3.toInt v) (Ad ad 99) r.1 r.2) := by
  have z0 : (0 : Int32).toInt = 0 := rfl
  have z1 : (1 : Int32).toInt = 1 := rfl
  have z2 : (2 : Int32).toInt = 2 := rfl
  obtain ⟨b14, o14, _⟩ := gO_12_14 L ka
  obtain rfl := gS_12_14 L ka o14
  unfold D_X12_was
  have J0 : ∀ p : Int32 × dp, hs (J_X12_was_46 N h.1 (Ad ad 99) x1 x2 x3 p.2) (fun r => r.2 = p.2) := fun p => hs_some rfl
  refine hr_H L hNN ka I J0 (fun b d1 H i1 t0 w e hH hx => ?_)
  dsimp only
  rw [tH_e hx]
  have tx := tnH hx
  have eN : hN ad d1 H = hN ad δ H := by unfold hN; rw [w]
  have eT : nT ad d1 H = nT ad δ H := by funext i; unfold nT; rw [w]
  have eF : cF ad d1 H = cF ad δ H := by funext i; unfold cF; rw [w]
  have bN := rb_106 L i1 H
  have vN : (q_R d1 (Ad ad 106) H).toInt = hN ad d1 H := rfl
  have V := (HX_u X hH).2.2
  have no : (x2.toInt < 0 ∨ hN ad δ H < x2.toInt ∨ x3.toInt < 0 ∨ 2 < x3.toInt) → hs (J_X12_was_37 N h.1 (Ad ad 99) x1 x2 x3 (Ad ad 99) d1) (fun r => OZ (x2.toInt < 0 ∨ hN ad δ H < x2.toInt ∨ x3.toInt < 0 ∨ 2 < x3.toInt) (fun v => ∃ (M : Int) (R : Nat → Int), SH (nT ad δ H) (cF ad δ H) (tH x2) M R ∧ aTe M R x3.toInt v) (Ad ad 99) r.1 r.2) := fun z => by
    unfold J_X12_was_37 J_X12_was_38
    exact hr_C2 L ka ⟨fun _ => rfl, fun _ => z⟩ t0 J0 (fun nc _ => absurd z nc)
  refine hs_bind (hr_isTime L hNN (x2 := x2) ka hx hH i1) (fun r hr => ?_)
  obtain ⟨e5, hr⟩ := hr
  rw [e5]
  rcases hr with ⟨a, v1, v2⟩ | ⟨a, v⟩
  rotate_left
  · rw [a]
    refine hs_ite (fun _ => no ?_) (fun z => absurd rfl z)
    rcases v with v | v
    · exact Or.inl v
    · exact Or.inr (Or.inl (by omega))
  rw [a]
  refine hs_ite (fun z => absurd z (by decide)) (fun _ => hs_bind (hr_within L hNN (x0 := x3) (x1 := 0) (x2 := 2) i1) (fun r hr => ?_))
  obtain ⟨e5, hr⟩ := hr
  rw [e5]
  rcases hr with ⟨a, u1, u2⟩ | ⟨a, v⟩
  rotate_left
  · rw [a]
    exact hs_ite (fun _ => no (Or.inr (Or.inr (by omega)))) (fun z => absurd rfl z)
  rw [a]
  refine hs_ite (fun z => absurd z (by decide)) (fun _ => ?_)
  unfold J_X12_was_38
  refine hr_C2 L ka ⟨fun z => by rcases z with z | z | z | z <;> omega, fun z => absurd z (by decide)⟩ t0 J0 (fun nc _ => ?_)
  dsimp only
  refine hs_bind (hs_and (ok_h (k_X12_goesTo L hNN (x1 := x1) (x2 := x2) ka (by omega) (by omega) (by omega) (by omega) i1)) (hr_goes L hNN ka hx hH i1 (n := (hN ad δ H).toNat) (A := shA (Ad ad 99) δ) (by omega) (by rw [eT, eF]; exact V) (by omega) (by omega))) (fun r hr => ?_)
  obtain ⟨⟨i9, ⟨u9, _, _⟩⟩, S9⟩ := hr
  rw [eT, eF] at S9
  have t9 : q_I r 12 0 (Ad ad 99) = 0 := (u9 12 0 _ (by decide)).trans t0
  have back : ∀ v : Int32, aTe (hM ad r H) (hR ad r H) x3.toInt v.toInt → hs (J_X12_was_94 N h.1 (Ad ad 99) x1 x2 x3 v r) (fun r => q_I r.2 12 0 (Ad ad 99) = 0 ∧ ∃ (M : Int) (R : Nat → Int), SH (nT ad δ H) (cF ad δ H) (tH x2) M R ∧ aTe M R x3.toInt r.1.toInt) := fun v q => by
    unfold J_X12_was_94
    exact hs_bind (ok_h (k_X12_comesBack L hNN (x1 := x1) ka (by omega) (by omega) i9)) (fun r2 h2 => hs_some ⟨(h2.2.1 12 0 _ (by decide)).trans t9, _, _, S9, q⟩)
  have vM : (q_R r (Ad ad 103) H).toInt = hM ad r H := rfl
  have mb := rb_103 L i9 H
  refine hs_ite (fun c => ?_) (fun c => hs_ite (fun c' => ?_) (fun c' => ?_))
  · have c1 := o_eq c
    refine hs_at o14 (hs_gd (fun _ => back _ (Or.inl ⟨by omega, ?_⟩)))
    rw [tx]; exact vM
  · have c1 := o_eq c'
    refine hs_bind (hr_numberAt L hNN (x2 := 0) ka hx hH i9) (fun q hq => ?_)
    rw [hq.1]
    exact back _ (Or.inr (Or.inl ⟨by omega, hq.2⟩))
  · have c1 := o_ne c
    have c2 := o_ne c'
    refine hs_at o14 (hs_gd (fun _ => ?_))
    rw [tx]
    have t4 := te_subc (c := 1) (n := 1) rfl (q_R r (Ad ad 103) H) (by omega) (by omega)
    refine hs_bind (hr_numberAt L hNN (x2 := q_R r (Ad ad 103) H - 1) ka hx hH i9) (fun q hq => ?_)
    rw [hq.1]
    have hq2 := hq.2
    rw [t4.1, vM] at hq2
    exact back _ (Or.inr (Or.inr ⟨by omega, by omega, hq2⟩))
theorem hr_asked (L : Lay TLx ad h) {δ0 : dp} {N : Nat} (hNN : 10000000 ≤ N) {x1 x2 x3 x4 : Int32} (ka : q_K h.1 (Ad ad 99) = 12) {δ : dp} (sb : shA (Ad ad 99) δ ≤ 65536) (I : RI ad h.1 δ0 δ) (X : HX ad δ) : hs (D_X12_asked N h.1 (Ad ad 99) x1 x2 x3 x4 δ) (fun r => OM (nH x1) (nAs (hN ad δ (tH x1)) (shA (Ad ad 99) δ) x2 x3 x4) (fun v => ∃ (M : Int) (R : Nat → Int), SH (nT ad δ (tH x1)) (cF ad δ (tH x1)) (tH x2) M R ∧ aAn M R x3.toInt x4.toInt v) (Ad ad 99) r.1 r.2) := by
  have z0 : (0 : Int32).toInt = 0 := rfl
  have z2 : (2 : Int32).toInt = 2 := rfl
  have z4 : (4 : Int32).toInt = 4 := rfl
  unfold D_X12_asked
  have J0 : ∀ p : Int32 × dp, hs (J_X12_asked_56 N h.1 (Ad ad 99) x1 x2 x3 x4 p.2) (fun r => r.2 = p.2) := fun p => hs_some rfl
  refine hr_H L hNN ka I J0 (fun b d1 H i1 t0 w e hH hx => ?_)
  dsimp only
  rw [tH_e hx]
  have tx := tnH hx
  have eN : hN ad d1 H = hN ad δ H := by unfold hN; rw [w]
  have eT : nT ad d1 H = nT ad δ H := by funext i; unfold nT; rw [w]
  have eF : cF ad d1 H = cF ad δ H := by funext i; unfold cF; rw [w]
  have bN := rb_106 L i1 H
  have vN : (q_R d1 (Ad ad 106) H).toInt = hN ad d1 H := rfl
  have V := (HX_u X hH).2.2
  have no : nAs (hN ad δ H) (shA (Ad ad 99) δ) x2 x3 x4 → hs (J_X12_asked_47 N h.1 (Ad ad 99) x1 x2 x3 x4 (Ad ad 99) d1) (fun r => OZ (nAs (hN ad δ H) (shA (Ad ad 99) δ) x2 x3 x4) (fun v => ∃ (M : Int) (R : Nat → Int), SH (nT ad δ H) (cF ad δ H) (tH x2) M R ∧ aAn M R x3.toInt x4.toInt v) (Ad ad 99) r.1 r.2) := fun z => by
    unfold J_X12_asked_47 J_X12_asked_48
    exact hr_C2 L ka ⟨fun _ => rfl, fun _ => z⟩ t0 J0 (fun nc _ => absurd z nc)
  refine hs_bind (hr_isTime L hNN (x2 := x2) ka hx hH i1) (fun r hr => ?_)
  obtain ⟨e5, hr⟩ := hr
  rw [e5]
  rcases hr with ⟨a, v1, v2⟩ | ⟨a, v⟩
  rotate_left
  · rw [a]
    refine hs_ite (fun _ => no ?_) (fun z => absurd rfl z)
    rcases v with v | v
    · exact Or.inl v
    · exact Or.inr (Or.inl (by omega))
  rw [a]
  refine hs_ite (fun z => absurd z (by decide)) (fun _ => hs_bind (hr_within L hNN (x0 := x3) (x1 := 2) (x2 := 4) i1) (fun r hr => ?_))
  obtain ⟨e5, hr⟩ := hr
  rw [e5]
  rcases hr with ⟨a, u1, u2⟩ | ⟨a, v⟩
  rotate_left
  · rw [a]
    refine hs_ite (fun _ => no ?_) (fun z => absurd rfl z)
    rcases v with v | v
    · exact Or.inr (Or.inr (Or.inl (by omega)))
    · exact Or.inr (Or.inr (Or.inr (Or.inl (by omega))))
  rw [a]
  refine hs_ite (fun z => absurd z (by decide)) (fun _ => hs_bind (hr_mayAsk L hNN (x1 := x3) (x2 := x4) ka i1) (fun r hr => ?_))
  obtain ⟨e5, hr⟩ := hr
  rw [e5]
  rw [shA_1 e] at hr
  rcases hr with ⟨a, ok4⟩ | ⟨a, v⟩
  rotate_left
  · rw [a]
    exact hs_ite (fun _ => no (Or.inr (Or.inr (Or.inr (Or.inr v))))) (fun z => absurd rfl z)
  rw [a]
  refine hs_ite (fun z => absurd z (by decide)) (fun _ => ?_)
  unfold J_X12_asked_48
  refine hr_C2 L ka ⟨fun z => by rcases z with z | z | z | z | z; omega; omega; omega; omega; exact absurd ok4 z, fun z => absurd z (by decide)⟩ t0 J0 (fun nc _ => ?_)
  dsimp only
  refine hs_bind (hs_and (ok_h (k_X12_goesTo L hNN (x1 := x1) (x2 := x2) ka (by omega) (by omega) (by omega) (by omega) i1)) (hr_goes L hNN ka hx hH i1 (n := (hN ad δ H).toNat) (A := shA (Ad ad 99) δ) (by omega) (by rw [eT, eF]; exact V) (by omega) (by omega))) (fun r hr => ?_)
  obtain ⟨⟨i9, ⟨u9, _, _⟩⟩, S9⟩ := hr
  rw [eT, eF] at S9
  have t9 : q_I r 12 0 (Ad ad 99) = 0 := (u9 12 0 _ (by decide)).trans t0
  have b4 : x4.toInt < 2147483647 := by rcases ok4 with z | z | z <;> omega
  refine hs_bind (hr_answer L hNN (c := x3) (x := x4) ka hx hH i9 ⟨S9.2.1, S9.1⟩ b4) (fun q hq => ?_)
  rw [hq.1]
  exact hs_bind (ok_h (k_X12_comesBack L hNN (x1 := x1) ka (by omega) (by omega) i9)) (fun r2 h2 => hs_some ⟨(h2.2.1 12 0 _ (by decide)).trans t9, _, _, S9, hq.2⟩)
/-- the row of both at a time -/
theorem U_sh {ad : List Nat} {δ δ1 : dp} (X : HX ad δ1) (c : csk ad δ δ1) {K t : Nat} (hK : K < 4) (ht : (t : Int) ≤ cN ad δ K) {M N : Int} {R Q : Nat → Int} (h : SH (uT ad δ K) (uF ad δ K) t M R) (g : SH (nT ad δ1 K) (cF ad δ1 K) t N Q) : RE M R N Q := by
  obtain ⟨c1, c2, c3, c4, _⟩ := c.1 K hK
  refine (h.tf (fun i hi => ?_)).u g
  have e := (HX_u X hK).1 i (by rw [c3]; omega)
  rw [← e.1, ← e.2]
  unfold uT uF
  rw [c4]
  exact ⟨rfl, rfl⟩
theorem y_was (L : Lay TLx ad h) {N : Nat} (hNN : 10000000 ≤ N) (kx : q_K h.1 (Ad ad 0) = 11) (km : q_K h.1 (Ad ad 99) = 12) (no : q_N h.1 (Ad ad 127) = 1) {x1 x2 x3 : Int32} {δ : dp} (V : IY ad h.1 δ) : ∃ d, (∃ (kk b : Int32) (δ1 : dp), D_L_was N h.1 (Ad ad 0) x1 x2 x3 (Ad ad 127) δ = some (kk, δ1) ∧ D_X12_was N h.1 (Ad ad 99) x1 x2 x3 δ1 = some (b, d) ∧ q_I d 12 0 (Ad ad 99) = kk ∧ (kk = 0 → q_J d (Ad ad 127) 0 = b.toInt64)) ∧ IY ad h.1 d :=
  stepR (d1 := fun _ => nH x1) (d2 := fun δ1 => x2.toInt < 0 ∨ hN ad δ1 (tH x1) < x2.toInt ∨ x3.toInt < 0 ∨ 2 < x3.toInt) (P := fun δ1 v => ∃ (M : Int) (R : Nat → Int), SH (nT ad δ1 (tH x1)) (cF ad δ1 (tH x1)) (tH x2) M R ∧ aTe M R x3.toInt v) (f := fun δ1 => D_X12_was N h.1 (Ad ad 99) x1 x2 x3 δ1) km V (k_L_was L hNN (x1 := x1) (x2 := x2) (x3 := x3) kx no V.1.1.1) (gL_was L kx) (hL_was L hNN V.1.1.1 V.2) (fun δ1 I1 O1 => o_was L hNN km I1 O1) (fun δ1 I1 O1 X1 => hs_and (rs_was L hNN km I1 O1) (hr_was L hNN km I1 X1)) (fun δ1 X1 c eA e4 => ⟨Iff.rfl, fun n1 => by rw [(U_re X1 c n1).2], fun n1 n2 v w hq hp => by
    obtain ⟨M, R, s, q⟩ := hq
    obtain ⟨M1, R1, s1, q1⟩ := hp
    exact aTe_u (U_sh X1 c (by show x1.toInt.toNat < 4; omega) (by show (x2.toInt.toNat : Int) ≤ _; omega) s s1) q q1⟩)
theorem y_asked (L : Lay TLx ad h) {N : Nat} (hNN : 10000000 ≤ N) (kx : q_K h.1 (Ad ad 0) = 11) (km : q_K h.1 (Ad ad 99) = 12) (no : q_N h.1 (Ad ad 127) = 1) {x1 x2 x3 x4 : Int32} {δ : dp} (V : IY ad h.1 δ) : ∃ d, (∃ (kk b : Int32) (δ1 : dp), D_L_asked N h.1 (Ad ad 0) x1 x2 x3 x4 (Ad ad 127) δ = some (kk, δ1) ∧ D_X12_asked N h.1 (Ad ad 99) x1 x2 x3 x4 δ1 = some (b, d) ∧ q_I d 12 0 (Ad ad 99) = kk ∧ (kk = 0 → q_J d (Ad ad 127) 0 = b.toInt64)) ∧ IY ad h.1 d :=
  stepR (d1 := fun _ => nH x1) (d2 := fun δ1 => nAs (hN ad δ1 (tH x1)) (shA (Ad ad 99) δ1) x2 x3 x4) (P := fun δ1 v => ∃ (M : Int) (R : Nat → Int), SH (nT ad δ1 (tH x1)) (cF ad δ1 (tH x1)) (tH x2) M R ∧ aAn M R x3.toInt x4.toInt v) (f := fun δ1 => D_X12_asked N h.1 (Ad ad 99) x1 x2 x3 x4 δ1) km V (k_L_asked L hNN (x1 := x1) (x2 := x2) (x3 := x3) (x4 := x4) kx no V.1.1.1) (gL_asked L kx) (hL_asked L hNN V.1.1.1 V.2) (fun δ1 I1 O1 => o_asked L hNN km I1 O1) (fun δ1 I1 O1 X1 => hs_and (rs_asked L hNN km I1 O1) (hr_asked L hNN km (shA_b I1 km) I1 X1)) (fun δ1 X1 c eA e4 => ⟨Iff.rfl, fun n1 => by rw [(U_re X1 c n1).2, ← eA], fun n1 n2 v w hq hp => by
    obtain ⟨M, R, s, q⟩ := hq
    obtain ⟨M1, R1, s1, q1⟩ := hp
    have n2' : ¬ cN ad δ (tH x1) < x2.toInt := fun z => n2 (Or.inr (Or.inl z))
    have n3 : ¬ x2.toInt < 0 := fun z => n2 (Or.inl z)
    exact aAn_u (U_sh X1 c (by show x1.toInt.toNat < 4; omega) (by show (x2.toInt.toNat : Int) ≤ _; omega) s s1) q q1⟩)
end
end
