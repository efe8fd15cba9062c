section
/-! joins and split of the class, whole -/
/-- how many change -/
noncomputable def JF (how M : Int) (R : Nat → Int) (N : Int) (Q : Nat → Int) : Nat := if how = 0 then cn (fun j => ¬ ME M R (Q j)) 0 N.toNat else if how = 1 then cn (fun j => ¬ ME N Q (R j)) 0 M.toNat else cn (fun j => ME M R (Q j)) 0 N.toNat
/-- the calls -/
noncomputable def JL (how M : Int) (R : Nat → Int) (N : Int) (Q : Nat → Int) : List (Int × Int) := if how = 0 then lst 0 Q N.toNat 0 else if how = 1 then lsf (fun j => ME N Q (R j)) R M.toNat 0 else lst 1 Q N.toNat 0
theorem JF_c {how M N M1 N1 : Int} {R Q R1 Q1 : Nat → Int} (e : RE M R M1 R1) (f : RE N Q N1 Q1) : JF how M1 R1 N1 Q1 = JF how M R N Q := by
  have e' : RE M R M R1 := ⟨rfl, e.2⟩
  have f' : RE N Q N Q1 := ⟨rfl, f.2⟩
  unfold JF
  rw [e.1, f.1]
  by_cases c : how = 0
  · rw [if_pos c, if_pos c]
    exact cn_congr _ 0 (fun j a b => by rw [f.2 j (by omega), ← ME_i e'])
  · rw [if_neg c, if_neg c]
    by_cases d : how = 1
    · rw [if_pos d, if_pos d]
      exact cn_congr _ 0 (fun j a b => by rw [e.2 j (by omega), ← ME_i f'])
    · rw [if_neg d, if_neg d]
      exact cn_congr _ 0 (fun j a b => by rw [f.2 j (by omega), ← ME_i e'])
theorem JL_c {how M N M1 N1 : Int} {R Q R1 Q1 : Nat → Int} (e : RE M R M1 R1) (f : RE N Q N1 Q1) : JL how M1 R1 N1 Q1 = JL how M R N Q := by
  have e' : RE M R M R1 := ⟨rfl, e.2⟩
  have f' : RE N Q N Q1 := ⟨rfl, f.2⟩
  unfold JL
  rw [e.1, f.1]
  by_cases c : how = 0
  · rw [if_pos c, if_pos c]
    exact lst_c _ 0 (fun j a b => f.2 j (by omega))
  · rw [if_neg c, if_neg c]
    by_cases d : how = 1
    · rw [if_pos d, if_pos d]
      exact lsf_c _ 0 (fun j a b => ⟨e.2 j (by omega), by rw [e.2 j (by omega), ← ME_i f']⟩)
    · rw [if_neg d, if_neg d]
      exact lst_c _ 0 (fun j a b => f.2 j (by omega))
/-- numbers of the SHAPE -/
def Bd (ad : List Nat) (δ : dp) : Prop := ∀ K, K < 4 → ∀ i : Nat, (i : Int) < cM ad δ K → 0 ≤ cR ad δ K i ∧ cR ad δ K i ≤ 65536
/-- what joins of the class answers and leaves -/
def hJ3 (ad : List Nat) (τ : TAU) (how : Int) (A B : Nat) (δ : dp) (w : Int32) (d : dp) : Prop :=
  (how = 0 ∧ 2000 < cM ad δ A + (JF how (cM ad δ A) (cR ad δ A) (cM ad δ B) (cR ad δ B) : Int) ∧ w = -1 ∧ csm ad δ d) ∨
  (¬ (how = 0 ∧ 2000 < cM ad δ A + (JF how (cM ad δ A) (cR ad δ A) (cM ad δ B) (cR ad δ B) : Int)) ∧ 1000 < cN ad δ A + (JF how (cM ad δ A) (cR ad δ A) (cM ad δ B) (cR ad δ B) : Int) ∧ w = -2 ∧ csm ad δ d) ∨
  (¬ (how = 0 ∧ 2000 < cM ad δ A + (JF how (cM ad δ A) (cR ad δ A) (cM ad δ B) (cR ad δ B) : Int)) ∧ cN ad δ A + (JF how (cM ad δ A) (cR ad δ A) (cM ad δ B) (cR ad δ B) : Int) ≤ 1000 ∧ mf ad A δ d ∧ ∃ ts, chn (stC τ) (JL how (cM ad δ A) (cR ad δ A) (cM ad δ B) (cR ad δ B)) (sCl ad δ A) (sCl ad d A) ts ∧ w = smt 0 ts)
theorem csm_mf {ad : List Nat} {K : Nat} {δ d : dp} (c : csm ad δ d) : mf ad K δ d := ⟨fun q k a n1 n4 _ _ => c.1 q k a n1 n4, fun b n _ _ _ => c.2 b n⟩
theorem csm_s {ad : List Nat} {h : hp} (L : Lay TLx ad h) {δ d : dp} (c : csm ad δ d) {K : Nat} (hK : K < 4) : sCl ad d K = sCl ad δ K := by
  obtain ⟨q1, q2, q3, q4, q5⟩ := (csk_m L c).1 K hK
  unfold sCl
  rw [q1, q2, q3, q4, q5]
theorem h2_113 {ad : List Nat} {h : hp} (L : Lay TLx ad h) {δ0 : dp} {N : Nat} (hN : 10000000 ≤ N) {A B : Nat} (hA : A < 4) (hB : B < 4) (ne : A ≠ B) {τ : TAU} {δ : dp} (HT : HTc ad N h δ0 δ A τ) {x1 x2 x3 xs x7 : Int32} (I : CI ad h.1 δ0 δ) (S : ∀ K, K < 4 → SR (cM ad δ K) (cR ad δ K)) (bd : Bd ad δ) (y0 : 0 ≤ x3.toInt) (y2 : x3.toInt ≤ 2) (hf : (x3.toInt = 0 ∧ x7.toInt = (JF x3.toInt (cM ad δ A) (cR ad δ A) (cM ad δ B) (cR ad δ B) : Int) ∧ xs.toInt = 0) ∨ (x3.toInt ≠ 0 ∧ x7.toInt = 0 ∧ xs.toInt = (JF x3.toInt (cM ad δ A) (cR ad δ A) (cM ad δ B) (cR ad δ B) : Int))) (jb : (JF x3.toInt (cM ad δ A) (cR ad δ A) (cM ad δ B) (cR ad δ B) : Int) ≤ 2000) : hs (J_X11_joins_113 N h.1 (Ad ad 0) x1 x2 x3 xs (Ad ad (75 + 6 * A)) (Ad ad (76 + 6 * B)) x7 δ) (fun r => ∃ w, r.1 = .inl w ∧ hJ3 ad τ x3.toInt A B δ w r.2) := by
  have z0 : (0 : Int32).toInt = 0 := rfl
  have z1 : (1 : Int32).toInt = 1 := rfl
  have mA := cM_b L I hA
  have mB := cM_b L I hB
  have nA := cN_b L I hA
  generalize hJ : JF x3.toInt (cM ad δ A) (cR ad δ A) (cM ad δ B) (cR ad δ B) = J at hf jb
  unfold J_X11_joins_113
  refine hs_bind (h2_refusal L hA (x1 := x7) (x2 := xs) I (by omega) (by omega) (by omega) (by omega)) (fun r hr => ?_)
  obtain ⟨e, hq⟩ := hr
  rw [e]
  rcases hq with ⟨q1, q2, q3⟩ | ⟨q1, q2, q3⟩ | ⟨q1, q3⟩
  · rw [q3]
    refine hs_ite (fun _ => ?_) (fun z => absurd (by decide) z)
    refine hs_at (fO_0_8 L) (hs_bind (hs_and (csm_forget (ad := ad)) (ok_h (k_X4_forget L hN (a0 := Ad ad 13) ((lay_knd L (by decide)).trans (by decide)) I))) (fun d0 h0 => ?_))
    obtain ⟨c0, I0, _⟩ := h0
    have k0 := csk_m L c0
    obtain ⟨a1, a2, a3, a4, _⟩ := k0.1 A hA
    obtain ⟨b1, b2, b3, b4, _⟩ := k0.1 B hB
    have S0 : SR (cM ad d0 A) (cR ad d0 A) := by rw [a1, a2]; exact S A hA
    have F0 : f5 ad δ d0 := fun k => c0.1 5 k _ (by decide) (by decide)
    have nab : Ad ad (76 + 6 * B) ≠ Ad ad (76 + 6 * A) := ad_ne L (by omega) (by omega) (by omega)
    have nbb : Ad ad (77 + 6 * B) ≠ Ad ad 59 ∧ Ad ad (77 + 6 * B) ≠ Ad ad (77 + 6 * A) ∧ Ad ad (77 + 6 * B) ≠ Ad ad (78 + 6 * A) ∧ Ad ad (77 + 6 * B) ≠ Ad ad (79 + 6 * A) := ⟨ad_ne L (by omega) (by decide) (by omega), ad_ne L (by omega) (by omega) (by omega), ad_ne L (by omega) (by omega) (by omega), ad_ne L (by omega) (by omega) (by omega)⟩
    have fin : ∀ (w : Int32) (d : dp), mf ad A d0 d → (∃ ts, chn (stC τ) (JL x3.toInt (cM ad δ A) (cR ad δ A) (cM ad δ B) (cR ad δ B)) (sCl ad d0 A) (sCl ad d A) ts ∧ w = smt 0 ts) → hJ3 ad τ x3.toInt A B δ w d := fun w d m ⟨ts, t1, t2⟩ => by
      rw [csm_s L c0 hA] at t1
      refine Or.inr (Or.inr ⟨?_, ?_, (csm_mf c0).t m, ts, t1, t2⟩)
      · rw [hJ]; omega
      · rw [hJ]; omega
    have all : ∀ (cl : Int32), (cl = 0 ∧ x3.toInt = 0 ∨ cl = 1 ∧ x3.toInt = 2) → hs (J_X11_joins_165 N h.1 (Ad ad 0) x1 x2 x3 cl (Ad ad (75 + 6 * A)) (Ad ad (76 + 6 * B)) d0) (fun r => ∃ w, r.1 = .inl w ∧ hJ3 ad τ x3.toInt A B δ w r.2) := by
      intro cl hcl
      have jl : JL x3.toInt (cM ad δ A) (cR ad δ A) (cM ad δ B) (cR ad δ B) = lst cl.toInt (cR ad δ B) ((cM ad δ B).toNat - 0) 0 := by
        unfold JL
        rcases hcl with ⟨rfl, y⟩ | ⟨rfl, y⟩
        · rw [if_pos y]; rfl
        · rw [if_neg (by omega), if_neg (by omega)]; rfl
      have jc : J = cn (fun j => chg cl.toInt (cM ad d0 A) (cR ad d0 A) (cR ad δ B j)) 0 ((cM ad δ B).toNat - 0) := by
        rw [← hJ, a1, a2]
        unfold JF
        rcases hcl with ⟨rfl, y⟩ | ⟨rfl, y⟩
        · rw [if_pos y]; exact cn_congr _ 0 (fun j _ _ => ⟨fun z => ⟨fun _ => z, fun _ => rfl⟩, fun z => z.mp rfl⟩)
        · rw [if_neg (by omega), if_neg (by omega)]
          refine cn_congr _ 0 (fun j _ _ => ⟨fun z => ⟨fun q => absurd q (by decide), fun q => absurd z q⟩, fun z => Classical.byContradiction fun q => absurd (z.mpr q) (by decide)⟩)
      have cb : 0 ≤ cl.toInt ∧ cl.toInt ≤ 1 := by rcases hcl with ⟨rfl, _⟩ | ⟨rfl, _⟩ <;> decide
      unfold J_X11_joins_165 D_X2_makeAll
      refine hs_bind (h2_makeAll L hN hA (x1 := cl) (m := (cM ad δ B).toNat) (Y := cR ad δ B) HT cb.1 cb.2 (lk_r L hB) nab nbb (fun j hj => bd B hB j (by omega)) (fun i j a b => S B hB i j a (by omega)) (by omega) N 0 0 0 d0 rfl (by omega) I0 F0 S0 (by show cM ad d0 B = _; rw [b1]; omega) (fun j hj => by show cR ad d0 B j = _; rw [b2]) (fun z => ?_) ?_) (fun r hr => hs_some ⟨r.1, rfl, ?_⟩)
      · rw [← jc, a1]
        rcases hcl with ⟨_, y⟩ | ⟨y, _⟩
        · rcases hf with ⟨_, y1, _⟩ | ⟨y1, _⟩ <;> omega
        · rw [y] at z; exact absurd z (by decide)
      · rw [← jc, a3]; omega
      · obtain ⟨m, ts, t1, t2⟩ := hr
        exact fin _ _ m ⟨ts, by rw [jl]; exact t1, t2⟩
    refine hs_ite (fun c => ?_) (fun c => ?_)
    · have c1 := o_eq c
      have y1 : x3.toInt = 1 := by omega
      unfold D_X2_dropAllBut
      have jl : JL x3.toInt (cM ad δ A) (cR ad δ A) (cM ad δ B) (cR ad δ B) = lsf (fun j => ME (cM ad δ B) (cR ad δ B) (cR ad δ A j)) (cR ad δ A) ((cM ad δ A).toNat - 0) 0 := by
        unfold JL
        rw [if_neg (by omega), if_pos y1]; rfl
      have jc : J = cn (fun j => ¬ ME (cM ad δ B) (cR ad δ B) (cR ad δ A j)) 0 ((cM ad δ A).toNat - 0) := by
        rw [← hJ]; unfold JF; rw [if_neg (by omega), if_pos y1]; rfl
      refine hs_bind (P := fun r => mf ad A d0 r.2 ∧ ∃ ts, chn (stC τ) (JL x3.toInt (cM ad δ A) (cR ad δ A) (cM ad δ B) (cR ad δ B)) (sCl ad d0 A) (sCl ad r.2 A) ts ∧ r.1 = smt 0 ts) ?_ (fun r hr => hs_some ⟨r.1, rfl, fin _ _ hr.1 hr.2⟩)
      refine hs_at (lk_0 L hA) (hs_biv (fun x4 e4 => ?_))
      have m4 : x4.toInt = (((cM ad δ A).toNat : Nat) : Int) := by rw [e4]; show cM ad d0 A = _; rw [a1]; omega
      refine hs_mono (h2_dropBut L hN hA (m := (cM ad δ A).toNat) (Y := cR ad δ A) HT (kk_3 L hB) (lk_r L hB) nab nbb (fun j hj => bd A hA j (by omega)) (fun i j a b => S A hA i j a (by omega)) (by omega) (P := fun y => ME (cM ad δ B) (cR ad δ B) y) m4 N 0 0 0 0 0 d0 rfl rfl (Nat.zero_le _) (Nat.le_refl _) I0 F0 S0 (by show SR (cM ad d0 B) (cR ad d0 B); rw [b1, b2]; exact S B hB) (fun y => by show ME (cM ad d0 B) (cR ad d0 B) y ↔ _; rw [b1, b2]) (by rw [a1]; omega) (fun j _ hj => by rw [a2, show 0 + (j - 0) = j by omega]) (by rw [← jc, a3]; omega)) (fun r hr => ?_)
      obtain ⟨m, ts, t1, t2⟩ := hr
      exact ⟨m, ts, by rw [jl]; exact t1, t2⟩
    · have c1 := o_ne c
      refine hs_ite (fun c2 => ?_) (fun c2 => ?_)
      · have c3 := o_eq c2
        exact all 0 (Or.inl ⟨rfl, by omega⟩)
      · have c3 := o_ne c2
        exact all 1 (Or.inr ⟨rfl, by omega⟩)
  · rw [q3]
    refine hs_ite (fun z => absurd z (by decide)) (fun _ => hs_some ⟨-2, rfl, Or.inr (Or.inl ⟨?_, ?_, rfl, csm.r⟩)⟩)
    · rw [hJ]; omega
    · rw [hJ]; omega
  · rw [q3]
    refine hs_ite (fun z => absurd z (by decide)) (fun _ => hs_some ⟨-1, rfl, Or.inl ⟨?_, ?_, rfl, csm.r⟩⟩)
    · omega
    · rw [hJ]; omega
/-- joins of the class -/
def hCJ (ad : List Nat) (τ : TAU) (x1 x2 x3 : Int32) (δ : dp) (v : Int32 ⊕ Nat) (d : dp) : Prop :=
  ((x1.toInt < 0 ∨ 3 < x1.toInt ∨ x2.toInt < 0 ∨ 3 < x2.toInt) ∧ v = .inr 0 ∧ csm ad δ d) ∨
  ∃ A B : Nat, A < 4 ∧ B < 4 ∧ x1.toInt = (A : Int) ∧ x2.toInt = (B : Int) ∧
    (((A = B ∨ x3.toInt < 0 ∨ 2 < x3.toInt) ∧ v = .inr 2 ∧ csm ad δ d) ∨ (A ≠ B ∧ 0 ≤ x3.toInt ∧ x3.toInt ≤ 2 ∧ ∃ w, v = .inl w ∧ hJ3 ad τ x3.toInt A B δ w d))
theorem hc_joins {ad : List Nat} {h : hp} (L : Lay TLx ad h) {δ0 : dp} {N : Nat} (hN : 10000000 ≤ N) {τ : TAU} {x1 x2 x3 : Int32} {δ : dp} (HT : ∀ K, K < 4 → HTc ad N h δ0 δ K τ) (I : CI ad h.1 δ0 δ) (S : ∀ K, K < 4 → SR (cM ad δ K) (cR ad δ K)) (bd : Bd ad δ) : hs (D_X11_joins N h.1 (Ad ad 0) x1 x2 x3 δ) (fun r => hCJ ad τ x1 x2 x3 δ r.1 r.2) := by
  have z0 : (0 : Int32).toInt = 0 := rfl
  have z2 : (2 : Int32).toInt = 2 := rfl
  unfold D_X11_joins
  refine hs_bxv (hc_needHouse L (x1 := x1)) (fun n d hn => ?_) (fun d hn => ?_)
  · rcases hn with ⟨z, _⟩ | ⟨z1, z2, z3⟩
    · cases z
    · exact Or.inl ⟨by omega, inrc z1, z2⟩
  rcases hn with ⟨_, e, A, hA, hx⟩ | ⟨z, _⟩
  rotate_left
  · cases z
  dsimp only at e
  rw [e]
  refine hs_bxv (hc_needHouse L (x1 := x2)) (fun n d hn => ?_) (fun d hn => ?_)
  · rcases hn with ⟨z, _⟩ | ⟨z1, z2, z3⟩
    · cases z
    · exact Or.inl ⟨by omega, inrc z1, z2⟩
  rcases hn with ⟨_, e, B, hB, hy⟩ | ⟨z, _⟩
  rotate_left
  · cases z
  dsimp only at e
  rw [e]
  have no : (A = B ∨ x3.toInt < 0 ∨ 2 < x3.toInt) → hs (J_X11_joins_29 N h.1 (Ad ad 0) x1 x2 x3 (Ad ad 0) δ) (fun r => hCJ ad τ x1 x2 x3 δ r.1 r.2) := fun hh => by
    unfold J_X11_joins_29 J_X11_joins_30
    refine hs_bxv (hc_need L (x1 := 0)) (fun n d hn => ?_) (fun d hn => ?_)
    · rcases hn with ⟨z, _⟩ | ⟨z1, z2, z3⟩
      · cases z
      · exact Or.inr ⟨A, B, hA, hB, hx, hy, Or.inl ⟨hh, inrc z1, z2⟩⟩
    · rcases hn with ⟨_, _, z⟩ | ⟨z, _⟩
      · exact absurd rfl z
      · cases z
  refine hs_ite (fun c => no (Or.inl (by have := o_eq c; omega))) (fun c => ?_)
  have c1 := o_ne c
  refine hs_ite (fun c => no (Or.inr (Or.inl (by have := o_lt c; omega)))) (fun c => ?_)
  have c2 := o_nlt c
  refine hs_ite (fun c => no (Or.inr (Or.inr (by have := o_lt c; omega)))) (fun c => ?_)
  have c3 := o_nlt c
  have ne : A ≠ B := fun z => by omega
  have mA := cM_b L I hA
  have mB := cM_b L I hB
  unfold J_X11_joins_30
  refine hs_bxv (hc_need L (x1 := 1)) (fun n d hn => ?_) (fun d hn => ?_)
  · rcases hn with ⟨z, _⟩ | ⟨_, _, z⟩
    · cases z
    · exact absurd z (by decide)
  rcases hn with ⟨_, e, _⟩ | ⟨z, _⟩
  rotate_left
  · cases z
  dsimp only at e
  rw [e]
  refine hs_at (fO_0_6 L) (hs_gd (fun _ => ?_))
  rw [tnH hx]
  refine hs_at (lk_e L hA) (hs_at (fO_0_6 L) (hs_gd (fun _ => ?_)))
  rw [tnH hy]
  refine hs_at (lk_e L hB) (hs_at (lk_0 L hB) (hs_at (lk_0 L hA) ?_))
  unfold D_X3_commonFrom
  refine hs_bind (h3_common L hN (m := (cM ad δ A).toNat) (lk_r L hA) (kk_3 L hB) (lk_r L hB) I (S B hB) (by show cM ad δ A = _; omega) (by omega) N 0 0 0 0 rfl (by omega) rfl (Nat.zero_le _) (Nat.le_refl _)) (fun r hr => ?_)
  obtain ⟨e, hc⟩ := hr
  rw [e]
  change r.1.toInt = ((0 : Nat) : Int) + ((cn (fun j => ME (cM ad δ B) (cR ad δ B) (cR ad δ A j)) 0 ((cM ad δ A).toNat - 0) : Nat) : Int) at hc
  rw [Nat.sub_zero] at hc
  have sy := cn_symM (S A hA) (S B hB) mA.1 mB.1
  have nB := cn_not (P := fun j => ME (cM ad δ A) (cR ad δ A) (cR ad δ B j)) (cM ad δ B).toNat 0
  have nA := cn_not (P := fun j => ME (cM ad δ B) (cR ad δ B) (cR ad δ A j)) (cM ad δ A).toNat 0
  have fin : ∀ {q : (Int32 ⊕ Nat) × dp}, (∃ w, q.1 = .inl w ∧ hJ3 ad τ x3.toInt A B δ w q.2) → hCJ ad τ x1 x2 x3 δ q.1 q.2 := fun {q} hq => Or.inr ⟨A, B, hA, hB, hx, hy, Or.inr ⟨ne, by omega, by omega, hq⟩⟩
  have hmA : (q_I δ 3 1 (Ad ad (76 + 6 * A))).toInt = cM ad δ A := rfl
  have hmB : (q_I δ 3 1 (Ad ad (76 + 6 * B))).toInt = cM ad δ B := rfl
  refine hs_ite (fun c => ?_) (fun c => ?_)
  · have c4 : x3.toInt = 0 := by rw [c]; rfl
    have jf : JF x3.toInt (cM ad δ A) (cR ad δ A) (cM ad δ B) (cR ad δ B) = cn (fun j => ¬ ME (cM ad δ A) (cR ad δ A) (cR ad δ B j)) 0 (cM ad δ B).toNat := by unfold JF; rw [if_pos c4]
    have t1 := te_sub (q_I δ 3 1 (Ad ad (76 + 6 * B))) r.1 (by omega) (by omega)
    unfold J_X11_joins_81
    refine hs_ite (fun c => by have := o_eq c; have z1 : (1 : Int32).toInt = 1 := rfl; omega) (fun _ => hs_ite (fun c => by have := o_eq c; omega) (fun _ => ?_))
    exact hs_mono (h2_113 L hN hA hB ne (HT A hA) I S bd (by omega) (by omega) (Or.inl ⟨c4, by rw [jf]; omega, rfl⟩) (by rw [jf]; omega)) (fun q hq => fin hq)
  · have c4 := o_ne c
    unfold J_X11_joins_81
    refine hs_ite (fun c5 => ?_) (fun c5 => ?_)
    · have c6 : x3.toInt = 1 := by rw [c5]; rfl
      have jf : JF x3.toInt (cM ad δ A) (cR ad δ A) (cM ad δ B) (cR ad δ B) = cn (fun j => ¬ ME (cM ad δ B) (cR ad δ B) (cR ad δ A j)) 0 (cM ad δ A).toNat := by unfold JF; rw [if_neg (by omega), if_pos c6]
      have t1 := te_sub (q_I δ 3 1 (Ad ad (76 + 6 * A))) r.1 (by omega) (by omega)
      refine hs_at (lk_0 L hA) ?_
      exact hs_mono (h2_113 L hN hA hB ne (HT A hA) I S bd (by omega) (by omega) (Or.inr ⟨by omega, rfl, by rw [jf]; omega⟩) (by rw [jf]; omega)) (fun q hq => fin hq)
    · have c6 := o_ne c5
      have z1 : (1 : Int32).toInt = 1 := rfl
      refine hs_ite (fun c7 => ?_) (fun c7 => by have := o_ne c7; omega)
      have c8 := o_eq c7
      have jf : JF x3.toInt (cM ad δ A) (cR ad δ A) (cM ad δ B) (cR ad δ B) = cn (fun j => ME (cM ad δ A) (cR ad δ A) (cR ad δ B j)) 0 (cM ad δ B).toNat := by unfold JF; rw [if_neg (by omega), if_neg (by omega)]
      exact hs_mono (h2_113 L hN hA hB ne (HT A hA) I S bd (by omega) (by omega) (Or.inr ⟨by omega, rfl, by rw [jf]; omega⟩) (by rw [jf]; omega)) (fun q hq => fin hq)
/-- what changes of two houses leave -/
def mf2 (ad : List Nat) (A B : Nat) (δ δ1 : dp) : Prop := (∀ c k a, c ≠ 1 → c ≠ 4 → ¬ (c = 3 ∧ k = 1 ∧ (a = Ad ad (76 + 6 * A) ∨ a = Ad ad (76 + 6 * B))) → ¬ (c = 2 ∧ k = 4 ∧ (a = Ad ad (75 + 6 * A) ∨ a = Ad ad (75 + 6 * B))) → q_I δ1 c k a = q_I δ c k a) ∧ (∀ b, b ≠ Ad ad 59 → b ≠ Ad ad (77 + 6 * A) → b ≠ Ad ad (78 + 6 * A) → b ≠ Ad ad (79 + 6 * A) → b ≠ Ad ad (77 + 6 * B) → b ≠ Ad ad (78 + 6 * B) → b ≠ Ad ad (79 + 6 * B) → q_R δ1 b = q_R δ b)
theorem mf2.r {ad : List Nat} {A B : Nat} {δ : dp} : mf2 ad A B δ δ := ⟨fun _ _ _ _ _ _ _ => rfl, fun _ _ _ _ _ _ _ _ => rfl⟩
theorem mf2.t {ad : List Nat} {A B : Nat} {δ δ1 δ2 : dp} (h : mf2 ad A B δ δ1) (k : mf2 ad A B δ1 δ2) : mf2 ad A B δ δ2 := ⟨fun c q a n1 n4 n2 n3 => (k.1 c q a n1 n4 n2 n3).trans (h.1 c q a n1 n4 n2 n3), fun b n0 n1 n2 n3 n4 n5 n6 => (k.2 b n0 n1 n2 n3 n4 n5 n6).trans (h.2 b n0 n1 n2 n3 n4 n5 n6)⟩
theorem mf2.A {ad : List Nat} {A B : Nat} {δ δ1 : dp} (h : mf ad A δ δ1) : mf2 ad A B δ δ1 := ⟨fun c q a n1 n4 n2 n3 => h.1 c q a n1 n4 (fun z => n2 ⟨z.1, z.2.1, Or.inl z.2.2⟩) (fun z => n3 ⟨z.1, z.2.1, Or.inl z.2.2⟩), fun b n0 n1 n2 n3 _ _ _ => h.2 b n0 n1 n2 n3⟩
theorem mf2.B {ad : List Nat} {A B : Nat} {δ δ1 : dp} (h : mf ad B δ δ1) : mf2 ad A B δ δ1 := ⟨fun c q a n1 n4 n2 n3 => h.1 c q a n1 n4 (fun z => n2 ⟨z.1, z.2.1, Or.inr z.2.2⟩) (fun z => n3 ⟨z.1, z.2.1, Or.inr z.2.2⟩), fun b n0 _ _ _ n4 n5 n6 => h.2 b n0 n4 n5 n6⟩
theorem sCl_o {ad : List Nat} {h : hp} (L : Lay TLx ad h) {H K : Nat} (hH : H < 4) (hK : K < 4) (n : K ≠ H) {δ d : dp} (m : mf ad H δ d) : sCl ad d K = sCl ad δ K := by
  obtain ⟨q1, q2, q3, q4, q5⟩ := (mf_o L hH m).1 K hK n
  unfold sCl
  rw [q1, q2, q3, q4, q5]
/-- from x on all go, and come to the other -/
theorem h2_134 {ad : List Nat} {h : hp} (L : Lay TLx ad h) {δ0 δb : dp} {N : Nat} (hN : 10000000 ≤ N) {A B : Nat} (hA : A < 4) (hB : B < 4) (ne : A ≠ B) {τ : TAU} (HA : HTc ad N h δ0 δb A τ) (HB : HTc ad N h δ0 δb B τ) {x1 x2 x3 x6 x7 : Int32} {cut n : Nat} (h6 : x6.toInt = (cut : Int)) (h7 : x7.toInt = (n : Int)) (hn : n ≤ 2000) {Y : Nat → Int} (hY : ∀ j, j < n → 0 ≤ Y j ∧ Y j ≤ 65536) (sY : ∀ i j : Nat, i < j → j < n → Y i < Y j) : ∀ (f i : Nat) (x9 x10 : Int32) (δ : dp), x10.toInt = (i : Int) → i ≤ n → CI ad h.1 δ0 δ → f5 ad δb δ → SR (cM ad δ A) (cR ad δ A) → SR (cM ad δ B) (cR ad δ B) → cM ad δ A = (cut : Int) + ((n - i : Nat) : Int) → (∀ j, i ≤ j → j < n → cR ad δ A (cut + (j - i)) = Y j) → cN ad δ A + ((n - i : Nat) : Int) ≤ 1000 → cM ad δ B + (cn (fun j => chg 0 (cM ad δ B) (cR ad δ B) (Y j)) i (n - i) : Nat) ≤ 2000 → cN ad δ B + (cn (fun j => chg 0 (cM ad δ B) (cR ad δ B) (Y j)) i (n - i) : Nat) ≤ 1000 → hs (L_X11_split_134 N h.1 (Ad ad 0) x1 x2 x3 f (Ad ad (75 + 6 * A)) (Ad ad (75 + 6 * B)) x6 x7 x9 x10 δ) (fun r => mf2 ad A B δ r.2 ∧ ∃ ts us, chn (stC τ) (lst 1 Y (n - i) i) (sCl ad δ A) (sCl ad r.2 A) ts ∧ chn (stC τ) (lst 0 Y (n - i) i) (sCl ad δ B) (sCl ad r.2 B) us ∧ r.1 = .inl (smt2 x9 ts us)) := by
  intro f
  induction f with
  | zero => intro i x9 x10 δ _ _ _ _ _ _ _ _ _ _ _; exact hs_none
  | succ f ih =>
    intro i x9 x10 δ h10 hi I F5 SA SB hM hR BA B1 B2
    unfold L_X11_split_134
    refine hs_ite (fun c => ?_) (fun c => ?_)
    · have c1 := o_le c
      rw [show n - i = 0 by omega]
      exact hs_some ⟨mf2.r, [], [], ⟨rfl, rfl⟩, ⟨rfl, rfl⟩, rfl⟩
    · have c1 := o_nle c
      have hi' : i < n := by omega
      refine hs_at (lk_0 L hA) (hs_bind (h3_at (x := x6) (lk_r L hA)) (fun r2 hr2 => ?_))
      obtain ⟨e2, at2⟩ := hr2
      change AT (cM ad δ A) (cR ad δ A) _ _ at at2
      have cp : cR ad δ A cut = Y i := by have := hR i (Nat.le_refl _) hi'; rw [show cut + (i - i) = cut by omega] at this; exact this
      have y2 : r2.1.toInt = Y i := by
        rcases at2 with ⟨q, q1, q2, q3⟩ | ⟨q1, _⟩
        · obtain rfl : q = cut := by omega
          rw [q3, cp]
        · exfalso; rw [hM] at q1; omega
      rw [e2]
      have hy := hY i hi'
      have me : ME (cM ad δ A) (cR ad δ A) r2.1.toInt := ⟨cut, by omega, by rw [y2]; exact cp⟩
      refine hs_bind (hs_and (h2_make L hN hA (x1 := 1) (x2 := r2.1) I SA (by decide) (by decide) (by omega) (by omega) (fun z => absurd z (by decide)) (fun _ => by omega)) (ok_h (k_X2_make L hN (x1 := 1) (x2 := r2.1) (kk_2 L hA) I))) (fun r4 hr4 => ?_)
      obtain ⟨⟨g1, ⟨d, g2⟩, g3⟩, I3, _⟩ := hr4
      have st := mk_st (τ := τ) g3 (HA 1 r2.1 δ d r4.1 I SA F5 g2)
      rw [show (1 : Int32).toInt = 1 from rfl, y2] at st
      have g3' := g3
      rcases g3' with ⟨z, _⟩ | ⟨z, _⟩ | ⟨_, z, _⟩ | ⟨_, _, ⟨q, Q, Q2, D⟩, nn⟩
      · exact absurd z (by decide)
      · exact absurd z (by decide)
      · exact absurd me z
      have qp : q = cut := by
        rcases (show q < cut ∨ q = cut ∨ cut < q by omega) with z | z | z
        · have := SA q cut z (by omega); omega
        · exact z
        · have := SA cut q z Q; omega
      subst qp
      have oB : sCl ad r4.2 B = sCl ad δ B := sCl_o L hA hB (fun z => ne z.symm) g1
      obtain ⟨b1, b2, b3, _, _⟩ := (mf_o L hA g1).1 B hB (fun z => ne z.symm)
      have F4 := F5.t (f5_mf g1)
      have SB4 : SR (cM ad r4.2 B) (cR ad r4.2 B) := by rw [b1, b2]; exact SB
      have B1' : (0 : Int) = 0 → cM ad r4.2 B + (cn (fun j => chg 0 (cM ad r4.2 B) (cR ad r4.2 B) (Y j)) i ((n - (i + 1)) + 1) : Nat) ≤ 2000 := fun _ => by rw [b1, b2, show (n - (i + 1)) + 1 = n - i by omega]; exact B1
      have B2' : cN ad r4.2 B + (cn (fun j => chg 0 (cM ad r4.2 B) (cR ad r4.2 B) (Y j)) i ((n - (i + 1)) + 1) : Nat) ≤ 1000 := by rw [b1, b2, b3, show (n - (i + 1)) + 1 = n - i by omega]; exact B2
      obtain ⟨R1, R2⟩ := room_0 B1' B2'
      refine hs_bind (hs_and (h2_make L hN hB (x1 := 0) (x2 := r2.1) I3 SB4 (by decide) (by decide) (by omega) (by omega) (fun z y => R1 rfl (by rw [← y2]; exact y)) (fun y => R2 (by rw [← y2]; exact y))) (ok_h (k_X2_make L hN (x1 := 0) (x2 := r2.1) (kk_2 L hB) I3))) (fun r5 hr5 => ?_)
      obtain ⟨⟨k1, ⟨d', k2⟩, k3⟩, I5, _⟩ := hr5
      have st5 := mk_st (τ := τ) k3 (HB 0 r2.1 r4.2 d' r5.1 I3 SB4 F4 k2)
      rw [show (0 : Int32).toInt = 0 from rfl, y2, oB] at st5
      rw [show (0 : Int32).toInt = 0 from rfl, y2] at k3
      have oA : sCl ad r5.2 A = sCl ad r4.2 A := sCl_o L hB hA ne k1
      obtain ⟨a1, a2, a3, _, _⟩ := (mf_o L hB k1).1 A hA ne
      obtain ⟨N1, N2⟩ := room_s k3 SB4 (fun j a b => by have := sY i j a (by omega); omega) B1' B2'
      refine hs_biv (fun x9' e9 => hs_biv (fun x10' e10 => ?_))
      have t10 := te_addc (c := 1) (n := 1) rfl x10 (by omega) (by omega)
      rw [← e10] at t10
      rw [show n - i = (n - (i + 1)) + 1 by omega]
      refine hs_mono (ih (i + 1) x9' x10' r5.2 (by omega) (by omega) I5 (F4.t (f5_mf k1)) (by rw [a1, a2]; exact mk_S g3 SA) (mk_S k3 SB4) (by rw [a1, D.1]; omega) (fun j a b => ?_) (by rw [a3, nn.1]; omega) (N1 rfl) N2) (fun r hr => ?_)
      · rw [a2, D.2 _ (by omega), if_neg (by omega), show q + (j - (i + 1)) + 1 = q + (j - i) by omega]
        exact hR j (by omega) b
      · obtain ⟨m, ts, us, t1, t2, t3⟩ := hr
        rw [oA] at t1
        exact ⟨((mf2.A g1).t (mf2.B k1)).t m, r4.1 :: ts, r5.1 :: us, ⟨_, _, _, st, t1, rfl⟩, ⟨_, _, _, st5, t2, rfl⟩, by rw [t3, e9]; rfl⟩
/-- what split of the class answers and leaves: p is the place of x in a -/
def hS3 (ad : List Nat) (τ : TAU) (p A B : Nat) (δ : dp) (w : Int32) (d : dp) : Prop :=
  let n := (cM ad δ A).toNat - p
  let fr := cn (fun j => ¬ ME (cM ad δ B) (cR ad δ B) (cR ad δ A (p + j))) 0 n
  (2000 < cM ad δ B + (fr : Int) ∧ w = -1 ∧ csm ad δ d) ∨
  (cM ad δ B + (fr : Int) ≤ 2000 ∧ (1000 < cN ad δ A + (n : Int) ∨ 1000 < cN ad δ B + (fr : Int)) ∧ w = -2 ∧ csm ad δ d) ∨
  (cM ad δ B + (fr : Int) ≤ 2000 ∧ cN ad δ A + (n : Int) ≤ 1000 ∧ cN ad δ B + (fr : Int) ≤ 1000 ∧ mf2 ad A B δ d ∧ ∃ ts us, chn (stC τ) (lst 1 (fun j => cR ad δ A (p + j)) n 0) (sCl ad δ A) (sCl ad d A) ts ∧ chn (stC τ) (lst 0 (fun j => cR ad δ A (p + j)) n 0) (sCl ad δ B) (sCl ad d B) us ∧ w = smt2 0 ts us)
def hCS (ad : List Nat) (τ : TAU) (x1 x2 x3 : Int32) (δ : dp) (v : Int32 ⊕ Nat) (d : dp) : Prop :=
  ((x1.toInt < 0 ∨ 3 < x1.toInt ∨ x2.toInt < 0 ∨ 3 < x2.toInt) ∧ v = .inr 0 ∧ csm ad δ d) ∨
  ∃ A B : Nat, A < 4 ∧ B < 4 ∧ x1.toInt = (A : Int) ∧ x2.toInt = (B : Int) ∧
    (((A = B ∨ x3.toInt < 0 ∨ scA ad δ ≤ x3.toInt) ∧ v = .inr 2 ∧ csm ad δ d) ∨ (A ≠ B ∧ 0 ≤ x3.toInt ∧ x3.toInt < scA ad δ ∧ ∃ (w : Int32) (p : Nat), v = .inl w ∧ PL (cM ad δ A) (cR ad δ A) x3.toInt p ∧ hS3 ad τ p A B δ w d))
theorem cn_sh {P : Nat → Prop} {p : Nat} : ∀ n k, cn P (p + k) n = cn (fun j => P (p + j)) k n := by
  intro n
  induction n with
  | zero => intro k; rfl
  | succ n ih =>
    intro k
    rw [cn_last, cn_last, ih k, Nat.add_assoc]
theorem hc_split {ad : List Nat} {h : hp} (L : Lay TLx ad h) {δ0 : dp} {N : Nat} (hN : 10000000 ≤ N) {τ : TAU} {x1 x2 x3 : Int32} {δ : dp} (HT : ∀ K, K < 4 → HTc ad N h δ0 δ K τ) (I : CI ad h.1 δ0 δ) (S : ∀ K, K < 4 → SR (cM ad δ K) (cR ad δ K)) (bd : Bd ad δ) : hs (D_X11_split N h.1 (Ad ad 0) x1 x2 x3 δ) (fun r => hCS ad τ x1 x2 x3 δ r.1 r.2) := by
  have z0 : (0 : Int32).toInt = 0 := rfl
  unfold D_X11_split
  refine hs_bxv (hc_needHouse L (x1 := x1)) (fun n d hn => ?_) (fun d hn => ?_)
  · rcases hn with ⟨z, _⟩ | ⟨z1, z2, z3⟩
    · cases z
    · exact Or.inl ⟨by omega, inrc z1, z2⟩
  rcases hn with ⟨_, e, A, hA, hx⟩ | ⟨z, _⟩
  rotate_left
  · cases z
  dsimp only at e
  rw [e]
  refine hs_bxv (hc_needHouse L (x1 := x2)) (fun n d hn => ?_) (fun d hn => ?_)
  · rcases hn with ⟨z, _⟩ | ⟨z1, z2, z3⟩
    · cases z
    · exact Or.inl ⟨by omega, inrc z1, z2⟩
  rcases hn with ⟨_, e, B, hB, hy⟩ | ⟨z, _⟩
  rotate_left
  · cases z
  dsimp only at e
  rw [e]
  have no : (A = B ∨ x3.toInt < 0 ∨ scA ad δ ≤ x3.toInt) → hs (J_X11_split_28 N h.1 (Ad ad 0) x1 x2 x3 (Ad ad 0) δ) (fun r => hCS ad τ x1 x2 x3 δ r.1 r.2) := fun hh => by
    unfold J_X11_split_28 J_X11_split_29
    refine hs_bxv (hc_need L (x1 := 0)) (fun n d hn => ?_) (fun d hn => ?_)
    · rcases hn with ⟨z, _⟩ | ⟨z1, z2, z3⟩
      · cases z
      · exact Or.inr ⟨A, B, hA, hB, hx, hy, Or.inl ⟨hh, inrc z1, z2⟩⟩
    · rcases hn with ⟨_, _, z⟩ | ⟨z, _⟩
      · exact absurd rfl z
      · cases z
  refine hs_ite (fun c => no (Or.inl (by have := o_eq c; omega))) (fun c => ?_)
  have c1 := o_ne c
  have ne : A ≠ B := fun z => by omega
  refine hs_bind (hc_isNumber L (x1 := x3) I) (fun r hr => ?_)
  obtain ⟨e, hq⟩ := hr
  rw [e]
  rcases hq with ⟨q1, q2, q3⟩ | ⟨q1, q2⟩
  rotate_left
  · rw [q1]
    exact hs_ite (fun _ => no (Or.inr q2)) (fun z => absurd rfl z)
  rw [q1]
  refine hs_ite (fun z => absurd z (by decide)) (fun _ => ?_)
  have mA := cM_b L I hA
  have mB := cM_b L I hB
  have nA := cN_b L I hA
  have nB := cN_b L I hB
  unfold J_X11_split_29
  refine hs_bxv (hc_need L (x1 := 1)) (fun n d hn => ?_) (fun d hn => ?_)
  · rcases hn with ⟨z, _⟩ | ⟨_, _, z⟩
    · cases z
    · exact absurd z (by decide)
  rcases hn with ⟨_, e, _⟩ | ⟨z, _⟩
  rotate_left
  · cases z
  dsimp only at e
  rw [e]
  refine hs_at (fO_0_6 L) (hs_gd (fun _ => ?_))
  rw [tnH hx]
  refine hs_at (lk_e L hA) (hs_at (fO_0_6 L) (hs_gd (fun _ => ?_)))
  rw [tnH hy]
  refine hs_at (lk_e L hB) (hs_at (lk_0 L hA) ?_)
  refine hs_bind (h3_first L hN (x := x3) (kk_3 L hA) (lk_r L hA) I (S A hA)) (fun r hr => ?_)
  obtain ⟨e, p, hp, P⟩ := hr
  change PL (cM ad δ A) (cR ad δ A) x3.toInt p at P
  rw [e]
  have pA := P.1
  have hmA : (q_I δ 3 1 (Ad ad (76 + 6 * A))).toInt = cM ad δ A := rfl
  refine hs_at (lk_0 L hA) (hs_biv (fun x7 e7 => ?_))
  have t1 := te_sub (q_I δ 3 1 (Ad ad (76 + 6 * A))) r.1 (by omega) (by omega)
  rw [← e7] at t1
  generalize hnn : (cM ad δ A).toNat - p = n
  have h7 : x7.toInt = (n : Int) := by omega
  refine hs_at (lk_0 L hA) (hs_at (lk_0 L hB) ?_)
  unfold D_X3_commonFrom
  refine hs_bind (h3_common L hN (m := (cM ad δ A).toNat) (lk_r L hA) (kk_3 L hB) (lk_r L hB) I (S B hB) (by show cM ad δ A = _; omega) (by omega) N p 0 0 r.1 rfl (by omega) hp (by omega) (Nat.zero_le _)) (fun r3 hr3 => ?_)
  obtain ⟨e3, hc⟩ := hr3
  rw [e3]
  change r3.1.toInt = ((0 : Nat) : Int) + ((cn (fun j => ME (cM ad δ B) (cR ad δ B) (cR ad δ A j)) p ((cM ad δ A).toNat - p) : Nat) : Int) at hc
  rw [hnn] at hc
  have sh := cn_sh (P := fun j => ME (cM ad δ B) (cR ad δ B) (cR ad δ A j)) (p := p) n 0
  rw [Nat.add_zero] at sh
  rw [sh] at hc
  have nn := cn_not (P := fun j => ME (cM ad δ B) (cR ad δ B) (cR ad δ A (p + j))) n 0
  generalize hfr : cn (fun j => ¬ ME (cM ad δ B) (cR ad δ B) (cR ad δ A (p + j))) 0 n = fr at nn
  have t2 := te_sub x7 r3.1 (by omega) (by omega)
  have fin : ∀ (w : Int32) (d : dp), hS3 ad τ p A B δ w d → hCS ad τ x1 x2 x3 δ (.inl w) d := fun w d hq => Or.inr ⟨A, B, hA, hB, hx, hy, Or.inr ⟨ne, q2, q3, w, p, rfl, P, hq⟩⟩
  have un : ∀ (w : Int32) (d : dp), hS3 ad τ p A B δ w d ↔ ((2000 < cM ad δ B + (fr : Int) ∧ w = -1 ∧ csm ad δ d) ∨ (cM ad δ B + (fr : Int) ≤ 2000 ∧ (1000 < cN ad δ A + (n : Int) ∨ 1000 < cN ad δ B + (fr : Int)) ∧ w = -2 ∧ csm ad δ d) ∨ (cM ad δ B + (fr : Int) ≤ 2000 ∧ cN ad δ A + (n : Int) ≤ 1000 ∧ cN ad δ B + (fr : Int) ≤ 1000 ∧ mf2 ad A B δ d ∧ ∃ ts us, chn (stC τ) (lst 1 (fun j => cR ad δ A (p + j)) n 0) (sCl ad δ A) (sCl ad d A) ts ∧ chn (stC τ) (lst 0 (fun j => cR ad δ A (p + j)) n 0) (sCl ad δ B) (sCl ad d B) us ∧ w = smt2 0 ts us)) := fun w d => by
    unfold hS3
    dsimp only
    rw [hnn, hfr]
  refine hs_bind (h2_refusal L hB (x1 := x7 - r3.1) (x2 := 0) I (by omega) (by omega) (by omega) (by omega)) (fun r4 hr4 => ?_)
  obtain ⟨e4, hq4⟩ := hr4
  rw [e4]
  rcases hq4 with ⟨k1, k2, k3⟩ | ⟨k1, k2, k3⟩ | ⟨k1, k3⟩
  · rw [k3]
    refine hs_ite (fun _ => ?_) (fun z => absurd rfl z)
    refine hs_bind (h2_refusal L hA (x1 := 0) (x2 := x7) I (by omega) (by omega) (by omega) (by omega)) (fun r5 hr5 => ?_)
    obtain ⟨e5, hq5⟩ := hr5
    rw [e5]
    unfold J_X11_split_113
    rcases hq5 with ⟨l1, l2, l3⟩ | ⟨l1, l2, l3⟩ | ⟨l1, l3⟩
    · rw [l3]
      refine hs_ite (fun _ => ?_) (fun z => absurd (by decide) z)
      refine hs_at (fO_0_8 L) (hs_bind (hs_and (csm_forget (ad := ad)) (ok_h (k_X4_forget L hN (a0 := Ad ad 13) ((lay_knd L (by decide)).trans (by decide)) I))) (fun d0 h0 => ?_))
      obtain ⟨c0, I0, _⟩ := h0
      have k0 := csk_m L c0
      obtain ⟨a1, a2, a3, a4, _⟩ := k0.1 A hA
      obtain ⟨b1, b2, b3, b4, _⟩ := k0.1 B hB
      have F0 : f5 ad δ d0 := fun k => c0.1 5 k _ (by decide) (by decide)
      have jc : cn (fun j => chg 0 (cM ad d0 B) (cR ad d0 B) (cR ad δ A (p + j))) 0 (n - 0) = fr := by
        rw [← hfr, b1, b2]
        exact cn_congr _ 0 (fun j _ _ => ⟨fun z => z.mp rfl, fun z => ⟨fun _ => z, fun _ => rfl⟩⟩)
      refine hs_mono (h2_134 L hN hA hB ne (HT A hA) (HT B hB) (Y := fun j => cR ad δ A (p + j)) hp h7 (by omega) (fun j hj => bd A hA (p + j) (by omega)) (fun i j a b => S A hA (p + i) (p + j) (by omega) (by omega)) N 0 0 0 d0 rfl (Nat.zero_le _) I0 F0 (by rw [a1, a2]; exact S A hA) (by rw [b1, b2]; exact S B hB) (by rw [a1]; omega) (fun j _ hj => by rw [a2]; rfl) (by rw [a3]; omega) (by rw [jc, b1]; omega) (by rw [jc, b3]; omega)) (fun q hq => ?_)
      obtain ⟨m, ts, us, t3, t4, t5⟩ := hq
      obtain ⟨q0, qd⟩ := q
      dsimp only at m t3 t4 t5 ⊢
      rw [t5]
      refine fin _ _ ((un _ _).mpr (Or.inr (Or.inr ⟨by omega, by omega, by omega, (mf2.A (csm_mf c0)).t m, ts, us, ?_, ?_, rfl⟩)))
      · rw [← csm_s L c0 hA]; exact t3
      · rw [← csm_s L c0 hB]; exact t4
    · rw [l3]
      exact hs_ite (fun z => absurd z (by decide)) (fun _ => hs_some (fin _ _ ((un _ _).mpr (Or.inr (Or.inl ⟨by omega, Or.inl (by omega), rfl, csm.r⟩)))))
    · exfalso; omega
  · rw [k3]
    refine hs_ite (fun z => absurd z (by decide)) (fun _ => ?_)
    unfold J_X11_split_113
    exact hs_ite (fun z => absurd z (by decide)) (fun _ => hs_some (fin _ _ ((un _ _).mpr (Or.inr (Or.inl ⟨by omega, Or.inr (by omega), rfl, csm.r⟩)))))
  · rw [k3]
    refine hs_ite (fun z => absurd z (by decide)) (fun _ => ?_)
    unfold J_X11_split_113
    exact hs_ite (fun z => absurd z (by decide)) (fun _ => hs_some (fin _ _ ((un _ _).mpr (Or.inl ⟨by omega, rfl, csm.r⟩))))
end
section
/-! joins and split of the reference, whole -/
/-- the reference's SHAPE untouched -/
def r3s (δ d : dp) (a0 : Nat) : Prop := q_I d 12 10 a0 = q_I δ 12 10 a0 ∧ q_I d 12 11 a0 = q_I δ 12 11 a0 ∧ q_I d 12 12 a0 = q_I δ 12 12 a0
theorem r3s_k {W : List (Nat × Nat)} {δ d : dp} {a0 : Nat} (u : kp W δ d) (h : (12, 10) ∉ W ∧ (12, 11) ∉ W ∧ (12, 12) ∉ W) : r3s δ d a0 := ⟨u 12 10 _ h.1, u 12 11 _ h.2.1, u 12 12 _ h.2.2⟩
theorem r3s.t {δ d e : dp} {a0 : Nat} (h : r3s δ d a0) (k : r3s d e a0) : r3s δ e a0 := ⟨k.1.trans h.1, k.2.1.trans h.2.1, k.2.2.trans h.2.2⟩
/-- the reference's count of TOUCHES says τ -/
def HTr (ad : List Nat) (N : Nat) (h : hp) (δ0 δb : dp) (H : Nat) (τ : TAU) : Prop := ∀ (x1 c x : Int32) (d d1 : dp) (t : Int32), x1.toInt = (H : Int) → RI ad h.1 δ0 d → hsr ad d H → r3s δb d (Ad ad 99) → D_X12_halves N h.1 (Ad ad 99) x1 c x d = some (t, d1) → τ c.toInt x.toInt (hM ad d H) (hR ad d H) t
theorem hs_ex {α β : Type} {o : Option α} {f : α → Option β} {Q : β → Prop} (k : ∀ r, o = some r → hs (f r) Q) : hs (o.bind f) Q := by
  cases o with
  | none => exact hs_none
  | some r => exact k r rfl
theorem hr_same {ad : List Nat} {V : List Nat} {δ d : dp} (w : kr ad V δ d) (hV : ∀ i ∈ [102, 103, 104, 105, 106], i ∉ V) : (∀ J, hM ad d J = hM ad δ J) ∧ (∀ J, hR ad d J = hR ad δ J) ∧ (∀ J, hN ad d J = hN ad δ J) ∧ (∀ J, nT ad d J = nT ad δ J) ∧ ∀ J, cF ad d J = cF ad δ J := by
  have e2 := w 102 (by decide) (by decide) (hV 102 (by decide))
  have e3 := w 103 (by decide) (by decide) (hV 103 (by decide))
  have e4 := w 104 (by decide) (by decide) (hV 104 (by decide))
  have e5 := w 105 (by decide) (by decide) (hV 105 (by decide))
  have e6 := w 106 (by decide) (by decide) (hV 106 (by decide))
  exact ⟨fun J => by unfold hM; rw [e3], fun J => by funext i; unfold hR; rw [e2], fun J => by unfold hN; rw [e6], fun J => by funext i; unfold nT; rw [e4], fun J => by funext i; unfold cF; rw [e5]⟩
theorem mr_eq {ad : List Nat} {δ δ1 d : dp} {H : Nat} {c x : Int} (eM : ∀ J, hM ad δ1 J = hM ad δ J) (eR : ∀ J, hR ad δ1 J = hR ad δ J) (eN : ∀ J, hN ad δ1 J = hN ad δ J) (eT : ∀ J, nT ad δ1 J = nT ad δ J) (eF : ∀ J, cF ad δ1 J = cF ad δ J) (m : mr ad H c x δ1 d) : mr ad H c x δ d := by
  unfold mr at m ⊢
  rw [eM, eR, eN, eT, eF] at m; exact m
theorem mfr_eq {ad : List Nat} {δ δ1 d : dp} {H : Nat} (eM : ∀ J, hM ad δ1 J = hM ad δ J) (eR : ∀ J, hR ad δ1 J = hR ad δ J) (eN : ∀ J, hN ad δ1 J = hN ad δ J) (eT : ∀ J, nT ad δ1 J = nT ad δ J) (eF : ∀ J, cF ad δ1 J = cF ad δ J) (m : mfr ad H δ1 d) : mfr ad H δ d := fun J n => by
  have := m J n
  rw [eM, eR, eN, eT, eF] at this; exact this
/-- a call that is kept -/
theorem hr_calls {ad : List Nat} {h : hp} (L : Lay TLx ad h) {δ0 δb : dp} {N : Nat} (hNN : 10000000 ≤ N) {H : Nat} {x1 c x : Int32} (hx : x1.toInt = (H : Int)) (hh : H < 4) (hc : c = 0 ∨ c = 1) {τ : TAU} (HT : HTr ad N h δ0 δb H τ) {δ : dp} (I : RI ad h.1 δ0 δ) (S : hsr ad δ H) (B3 : r3s δb δ (Ad ad 99)) (R1 : c.toInt = 0 → ¬ ME (hM ad δ H) (hR ad δ H) x.toInt → hM ad δ H < 2000) (R2 : chg c.toInt (hM ad δ H) (hR ad δ H) x.toInt → hN ad δ H < 1000) : hs (D_X12_calls N h.1 (Ad ad 99) x1 c x δ) (fun r => RI ad h.1 δ0 r.2 ∧ kp [(12, 36)] δ r.2 ∧ kr ad [102, 103, 104, 105, 106, 119] δ r.2 ∧ hsr ad r.2 H ∧ mfr ad H δ r.2 ∧ mr ad H c.toInt x.toInt δ r.2 ∧ τ c.toInt x.toInt (hM ad δ H) (hR ad δ H) r.1) := by
  have ka : q_K h.1 (Ad ad 99) = 12 := (lay_knd L (by decide)).trans (by decide)
  have old : hs (D_X12_calls N h.1 (Ad ad 99) x1 c x δ) (fun r => RI ad h.1 δ0 r.2 ∧ kp [(12, 36)] δ r.2 ∧ kr ad [102, 103, 104, 105, 106, 119] δ r.2 ∧ hsr ad r.2 H) := by
    rcases hc with rfl | rfl
    · exact hs_mono (ok_h (f12_cput L hNN (x := x) ka hx hh I S (fun z => ⟨R1 rfl z, R2 ⟨fun _ => z, fun _ => rfl⟩⟩))) (fun r hr => ⟨hr.1, hr.2.1, hr.2.2.1, hr.2.2.2.1⟩)
    · exact hs_mono (ok_h (f12_cdrop L hNN (x := x) ka hx hh I S (fun z => R2 ⟨fun q => absurd q (by decide), fun q => absurd z q⟩))) (fun r hr => ⟨hr.1, hr.2.1, hr.2.2.1, hr.2.2.2.1⟩)
  refine hs_mono (hs_and old (Q := fun r => mfr ad H δ r.2 ∧ mr ad H c.toInt x.toInt δ r.2 ∧ τ c.toInt x.toInt (hM ad δ H) (hR ad δ H) r.1) ?_) (fun r hr => ⟨hr.1.1, hr.1.2.1, hr.1.2.2.1, hr.1.2.2.2, hr.2⟩)
  unfold D_X12_calls
  refine hs_ex (fun r1 e1 => ?_)
  obtain ⟨t, d⟩ := r1
  have tt := HT x1 c x δ d t hx I S B3 e1
  obtain ⟨I1, ⟨u1, _, w1⟩⟩ := ok_h (k_X12_halves L hNN (x1 := x1) (x2 := c) (x3 := x) ka (by omega) (by omega) I) _ e1
  dsimp only at I1 u1 w1 ⊢
  obtain ⟨eM, eR, eN, eT, eF⟩ := hr_same w1 (by decide)
  have S1 : hsr ad d H := ⟨by rw [eM]; exact S.1, by rw [eM, eR]; exact S.2⟩
  refine hs_bind (hr_isThere L hNN (x := x) ka hx hh I1 S1) (fun r2 h2 => ?_)
  obtain ⟨e2, hm⟩ := h2
  rw [e2]
  rw [eM, eR] at hm
  have same : ∀ J, J ≠ H → hM ad d J = hM ad δ J ∧ hN ad d J = hN ad δ J ∧ (∀ i, i < 2000 → hR ad d J i = hR ad δ J i) ∧ ∀ i, i < 1000 → nT ad d J i = nT ad δ J i ∧ cF ad d J i = cF ad δ J i := fun J _ => ⟨eM J, eN J, fun i _ => by rw [eR], fun i _ => by rw [eT, eF]; exact ⟨rfl, rfl⟩⟩
  have keep : ∀ {cc : Int}, (cc = 0 ∧ ME (hM ad δ H) (hR ad δ H) x.toInt ∨ cc = 1 ∧ ¬ ME (hM ad δ H) (hR ad δ H) x.toInt) → mr ad H cc x.toInt δ d := fun {cc} z => by
    unfold mr
    rw [eM, eR, eN, eT, eF]
    rcases z with ⟨a, b⟩ | ⟨a, b⟩
    · exact Or.inl ⟨a, b, RE.r, rfl, fun _ _ => ⟨rfl, rfl⟩⟩
    · exact Or.inr (Or.inr (Or.inl ⟨a, b, RE.r, rfl, fun _ _ => ⟨rfl, rfl⟩⟩))
  rcases hc with rfl | rfl
  · refine hs_ite (fun _ => ?_) (fun z => absurd rfl z)
    rcases hm with ⟨w, me⟩ | ⟨w, me⟩
    · rw [w]
      refine hs_ite (fun z => absurd z (by decide)) (fun _ => ?_)
      unfold J_X12_calls_39 J_X12_calls_62
      exact hs_ite (fun z => absurd z (by decide)) (fun _ => hs_some ⟨same, keep (Or.inl ⟨rfl, me⟩), tt⟩)
    · rw [w]
      refine hs_ite (fun _ => ?_) (fun z => absurd rfl z)
      refine hr_come L hNN ka hx hh I1 S1 (by rw [eM]; exact R1 rfl me) (by rw [eN]; exact R2 ⟨fun _ => me, fun _ => rfl⟩) (by rw [eM, eR]; exact me) (fun e m1 m2 _ _ => ?_)
      unfold J_X12_calls_39 J_X12_calls_62
      exact hs_ite (fun z => absurd z (by decide)) (fun _ => hs_some ⟨mfr_eq eM eR eN eT eF m2, mr_eq eM eR eN eT eF m1, tt⟩)
  · refine hs_ite (fun z => absurd z (by decide)) (fun _ => ?_)
    unfold J_X12_calls_39 J_X12_calls_62
    refine hs_ite (fun _ => ?_) (fun z => absurd rfl z)
    rcases hm with ⟨w, me⟩ | ⟨w, me⟩
    · rw [w]
      refine hs_ite (fun z => absurd z (by decide)) (fun _ => ?_)
      refine hr_leave L hNN ka hx hh I1 S1 (by rw [eN]; exact R2 ⟨fun z => absurd z (by decide), fun z => absurd me z⟩) (by rw [eM, eR]; exact me) (fun e m1 m2 _ _ => hs_some ⟨mfr_eq eM eR eN eT eF m2, mr_eq eM eR eN eT eF m1, tt⟩)
    · rw [w]
      exact hs_ite (fun _ => hs_some ⟨same, keep (Or.inr ⟨rfl, me⟩), tt⟩) (fun z => absurd rfl z)
theorem mr_n {ad : List Nat} {K : Nat} {call x : Int} {δ δ1 : dp} (m : mr ad K call x δ δ1) (S : SR (hM ad δ K) (hR ad δ K)) : (chg call (hM ad δ K) (hR ad δ K) x ∧ hN ad δ1 K = hN ad δ K + 1 ∨ ¬ chg call (hM ad δ K) (hR ad δ K) x ∧ hN ad δ1 K = hN ad δ K) ∧ (call = 0 → chg call (hM ad δ K) (hR ad δ K) x ∧ hM ad δ1 K = hM ad δ K + 1 ∨ ¬ chg call (hM ad δ K) (hR ad δ K) x ∧ hM ad δ1 K = hM ad δ K) ∧ ∀ y, y ≠ x → (chg call (hM ad δ1 K) (hR ad δ1 K) y ↔ chg call (hM ad δ K) (hR ad δ K) y) := by
  unfold chg
  rcases m with ⟨k, q, e, n, _⟩ | ⟨k, q, ⟨p, P, J⟩, n, _⟩ | ⟨k, q, e, n, _⟩ | ⟨k, q, ⟨p, P, P2, J⟩, n, _⟩
  · exact ⟨Or.inr ⟨fun z => z.mp k q, n⟩, fun _ => Or.inr ⟨fun z => z.mp k q, e.1⟩, fun y _ => by rw [← ME_i (x := y) e]⟩
  · refine ⟨Or.inl ⟨⟨fun _ => q, fun _ => k⟩, n⟩, fun _ => Or.inl ⟨⟨fun _ => q, fun _ => k⟩, J.1⟩, fun y hy => ?_⟩
    rw [IN_m P.1 J y]
    have : (y = x ∨ ME (hM ad δ K) (hR ad δ K) y) ↔ ME (hM ad δ K) (hR ad δ K) y := ⟨fun z => z.resolve_left hy, Or.inr⟩
    rw [this]
  · exact ⟨Or.inr ⟨fun z => by have := z.mpr q; omega, n⟩, fun z => by omega, fun y _ => by rw [← ME_i (x := y) e]⟩
  · refine ⟨Or.inl ⟨⟨fun z => by omega, fun z => absurd q z⟩, n⟩, fun z => by omega, fun y hy => ?_⟩
    rw [DE_m S P P2 J y]
    have : (y ≠ x ∧ ME (hM ad δ K) (hR ad δ K) y) ↔ ME (hM ad δ K) (hR ad δ K) y := ⟨fun z => z.2, fun z => ⟨hy, z⟩⟩
    rw [this]
theorem rroom_s {ad : List Nat} {K : Nat} {call : Int} {Y : Nat → Int} {i n : Nat} {δ δ1 : dp} (m : mr ad K call (Y i) δ δ1) (S : SR (hM ad δ K) (hR ad δ K)) (inj : ∀ j, i < j → j < i + (n + 1) → Y j ≠ Y i) (B1 : call = 0 → hM ad δ K + (cn (fun j => chg call (hM ad δ K) (hR ad δ K) (Y j)) i (n + 1) : Nat) ≤ 2000) (B2 : hN ad δ K + (cn (fun j => chg call (hM ad δ K) (hR ad δ K) (Y j)) i (n + 1) : Nat) ≤ 1000) : (call = 0 → hM ad δ1 K + (cn (fun j => chg call (hM ad δ1 K) (hR ad δ1 K) (Y j)) (i + 1) n : Nat) ≤ 2000) ∧ hN ad δ1 K + (cn (fun j => chg call (hM ad δ1 K) (hR ad δ1 K) (Y j)) (i + 1) n : Nat) ≤ 1000 := by
  obtain ⟨a, b, c⟩ := mr_n m S
  have e : cn (fun j => chg call (hM ad δ1 K) (hR ad δ1 K) (Y j)) (i + 1) n = cn (fun j => chg call (hM ad δ K) (hR ad δ K) (Y j)) (i + 1) n := cn_congr n (i + 1) (fun j h1 h2 => c (Y j) (inj j (by omega) (by omega)))
  rw [e]
  have l := cn_0 (P := fun j => chg call (hM ad δ K) (hR ad δ K) (Y j)) i n
  refine ⟨fun z => ?_, ?_⟩
  · have B := B1 z
    rcases b z with ⟨h1, h2⟩ | ⟨_, h2⟩
    · rw [cn_1 i n h1] at B; omega
    · omega
  · rcases a with ⟨h1, h2⟩ | ⟨_, h2⟩
    · rw [cn_1 i n h1] at B2; omega
    · omega
theorem rroom_0 {ad : List Nat} {K : Nat} {call : Int} {Y : Nat → Int} {i n : Nat} {δ : dp} (B1 : call = 0 → hM ad δ K + (cn (fun j => chg call (hM ad δ K) (hR ad δ K) (Y j)) i (n + 1) : Nat) ≤ 2000) (B2 : hN ad δ K + (cn (fun j => chg call (hM ad δ K) (hR ad δ K) (Y j)) i (n + 1) : Nat) ≤ 1000) : (call = 0 → ¬ ME (hM ad δ K) (hR ad δ K) (Y i) → hM ad δ K < 2000) ∧ (chg call (hM ad δ K) (hR ad δ K) (Y i) → hN ad δ K < 1000) := by
  refine ⟨fun z y => ?_, fun y => ?_⟩
  · have B := B1 z
    rw [cn_1 i n (show chg call _ _ _ from ⟨fun _ => y, fun _ => z⟩)] at B; omega
  · rw [cn_1 i n y] at B2; omega
/-- what is told -/
def tl (ad : List Nat) (δ : dp) (j : Nat) : Int := (q_R δ (Ad ad 125) j).toInt
/-- what stays behind the calls -/
def fJ (ad : List Nat) (δ d : dp) : Prop := kp [(12, 36)] δ d ∧ kr ad [102, 103, 104, 105, 106, 119] δ d
theorem fJ.t {ad : List Nat} {δ d e : dp} (h : fJ ad δ d) (k : fJ ad d e) : fJ ad δ e := ⟨kp_w (by decide) (kp_t h.1 k.1), kr_w (by decide) (kr_t h.2 k.2)⟩
theorem fJ.r {ad : List Nat} {δ : dp} : fJ ad δ δ := ⟨kp_w (by decide) kp_r, kr_w (by decide) kr_r⟩
theorem hr_219 {ad : List Nat} {h : hp} (L : Lay TLx ad h) {δ0 δb : dp} {N : Nat} (hNN : 10000000 ≤ N) {A n0 : Nat} (hA : A < 4) {τ : TAU} (HT : HTr ad N h δ0 δb A τ) {x1 x2 x3 x4 : Int32} (hx : x1.toInt = (A : Int)) {cl : Int} (hcl : x3 = 0 ∧ cl = 0 ∨ x3 ≠ 0 ∧ cl = 1) (h4 : x4.toInt = (n0 : Int)) (hn : n0 ≤ 2000) {Y : Nat → Int} (sY : ∀ i j : Nat, i < j → j < n0 → Y i ≠ Y j) : ∀ (f i : Nat) (x7 x8 : Int32) (δ : dp), x8.toInt = (i : Int) → i ≤ n0 → RI ad h.1 δ0 δ → r3s δb δ (Ad ad 99) → hsr ad δ A → (∀ j, j < n0 → tl ad δ j = Y j) → (cl = 0 → hM ad δ A + (cn (fun j => chg cl (hM ad δ A) (hR ad δ A) (Y j)) i (n0 - i) : Nat) ≤ 2000) → hN ad δ A + (cn (fun j => chg cl (hM ad δ A) (hR ad δ A) (Y j)) i (n0 - i) : Nat) ≤ 1000 → hs (L_X12_joins_219 N h.1 (Ad ad 99) x1 x2 x3 f x4 x7 x8 δ) (fun r => fJ ad δ r.2 ∧ mfr ad A δ r.2 ∧ ∃ ts, chn (stR τ) (lst cl Y (n0 - i) i) (sRf ad δ A) (sRf ad r.2 A) ts ∧ r.1 = smt x7 ts) := by
  have ka : q_K h.1 (Ad ad 99) = 12 := (lay_knd L (by decide)).trans (by decide)
  obtain ⟨b48, o48, _⟩ := gO_12_48 L ka
  obtain rfl := gS_12_48 L ka o48
  intro f
  induction f with
  | zero => intro i x7 x8 δ _ _ _ _ _ _ _ _; exact hs_none
  | succ f ih =>
    intro i x7 x8 δ h8 hi I B3 S hT B1 B2
    unfold L_X12_joins_219
    refine hs_ite (fun c => ?_) (fun c => ?_)
    · have c1 := o_le c
      rw [show n0 - i = 0 by omega]
      exact hs_some ⟨fJ.r, mfr.r, [], ⟨rfl, rfl⟩, rfl⟩
    · have c1 := o_nle c
      have t8 := ti_tn x8
      have run : ∀ (ci : Int32), ci.toInt = cl → (ci = 0 ∨ ci = 1) → hs (J_X12_joins_239 N h.1 (Ad ad 99) x1 x2 x3 (L_X12_joins_219 N h.1 (Ad ad 99) x1 x2 x3 f) ci x1 (Ad ad 99) x7 x4 x8 δ) (fun r => fJ ad δ r.2 ∧ mfr ad A δ r.2 ∧ ∃ ts, chn (stR τ) (lst cl Y (n0 - i) i) (sRf ad δ A) (sRf ad r.2 A) ts ∧ r.1 = smt x7 ts) := by
        intro ci eci hci
        rw [show n0 - i = (n0 - (i + 1)) + 1 by omega] at B1 B2 ⊢
        obtain ⟨R1, R2⟩ := rroom_0 B1 B2
        have yi : (q_R δ (Ad ad 125) i).toInt = Y i := hT i (by omega)
        unfold J_X12_joins_239
        refine hs_at o48 (hs_gd (fun _ => ?_))
        rw [show x8.toNatClampNeg = i by omega]
        refine hs_bind (hr_calls L hNN (x := q_R δ (Ad ad 125) i) hx hA hci HT I S B3 (fun z y => R1 (by omega) (by rw [← yi]; exact y)) (fun y => R2 (by rw [← yi, ← eci]; exact y))) (fun r hr => ?_)
        obtain ⟨I1, u1, w1, S1, m1, g1, t1⟩ := hr
        rw [yi, eci] at g1 t1
        refine hs_biv (fun x7' e7 => hs_biv (fun x8' e8 => ?_))
        have y8 := te_addc (c := 1) (n := 1) rfl x8 (by omega) (by omega)
        rw [← e8] at y8
        obtain ⟨N1, N2⟩ := rroom_s g1 S.2 (fun j a b => fun z => sY i j a (by omega) z.symm) B1 B2
        have w125 : q_R r.2 (Ad ad 125) = q_R δ (Ad ad 125) := w1 125 (by decide) (by decide) (by decide)
        refine hs_mono (ih (i + 1) x7' x8' r.2 (by omega) (by omega) I1 (B3.t (r3s_k u1 (by decide))) S1 (fun j hj => by unfold tl; rw [w125]; exact hT j hj) N1 N2) (fun q hq => ?_)
        obtain ⟨k1, k2, ts, k3, k4⟩ := hq
        exact ⟨fJ.t ⟨u1, w1⟩ k1, m1.t k2, r.1 :: ts, ⟨sRf ad r.2 A, r.1, ts, ⟨g1, t1⟩, k3, rfl⟩, by rw [k4, e7]; rfl⟩
      rcases hcl with ⟨e, ec⟩ | ⟨e, ec⟩
      · exact hs_ite (fun _ => run 0 (by rw [ec]; rfl) (Or.inl rfl)) (fun z => absurd e z)
      · exact hs_ite (fun z => absurd z e) (fun _ => run 1 (by rw [ec]; rfl) (Or.inr rfl))
/-- what joins of the reference answers and leaves -/
def rJ3 (ad : List Nat) (τ : TAU) (how : Int) (A B : Nat) (δ : dp) (w : Int32) (d : dp) : Prop :=
  (how = 0 ∧ 2000 < hM ad δ A + (JF how (hM ad δ A) (hR ad δ A) (hM ad δ B) (hR ad δ B) : Int) ∧ w = -1 ∧ kr ad [125] δ d) ∨
  (¬ (how = 0 ∧ 2000 < hM ad δ A + (JF how (hM ad δ A) (hR ad δ A) (hM ad δ B) (hR ad δ B) : Int)) ∧ 1000 < hN ad δ A + (JF how (hM ad δ A) (hR ad δ A) (hM ad δ B) (hR ad δ B) : Int) ∧ w = -2 ∧ kr ad [125] δ d) ∨
  (¬ (how = 0 ∧ 2000 < hM ad δ A + (JF how (hM ad δ A) (hR ad δ A) (hM ad δ B) (hR ad δ B) : Int)) ∧ hN ad δ A + (JF how (hM ad δ A) (hR ad δ A) (hM ad δ B) (hR ad δ B) : Int) ≤ 1000 ∧ kr ad [102, 103, 104, 105, 106, 119, 125] δ d ∧ mfr ad A δ d ∧ ∃ ts, chn (stR τ) (JL how (hM ad δ A) (hR ad δ A) (hM ad δ B) (hR ad δ B)) (sRf ad δ A) (sRf ad d A) ts ∧ w = smt 0 ts)
/-- whether the k-th counts -/
def QJ (how M : Int) (R : Nat → Int) (N : Int) (Q : Nat → Int) (k : Nat) : Prop := (how = 0 ∧ ¬ ME M R (Q k)) ∨ (how = 1 ∧ ¬ ME N Q (R k)) ∨ (how ≠ 0 ∧ how ≠ 1 ∧ ME M R (Q k))
/-- the lists told so far -/
def TJ (how M : Int) (R : Nat → Int) (N : Int) (Q : Nat → Int) (m k : Nat) (T : Nat → Int) : Prop := (how ≠ 1 ∧ m = k ∧ ∀ j, j < k → T j = Q j) ∨ (how = 1 ∧ m = cn (QJ how M R N Q) 0 k ∧ m ≤ k ∧ lst 1 T m 0 ++ lsf (fun j => ME N Q (R j)) R (M.toNat - k) k = lsf (fun j => ME N Q (R j)) R M.toNat 0 ∧ (∀ i j, i < j → j < m → T i < T j) ∧ ∀ j, j < m → ∃ i, i < k ∧ T j = R i)
theorem TJ_c {how M N : Int} {R Q : Nat → Int} {m k : Nat} {T U : Nat → Int} (h : TJ how M R N Q m k T) (e : ∀ j, j < m → U j = T j) : TJ how M R N Q m k U := by
  rcases h with ⟨a, b, c⟩ | ⟨a, b, c, d, f, g⟩
  · exact Or.inl ⟨a, b, fun j hj => (e j (by omega)).trans (c j hj)⟩
  · refine Or.inr ⟨a, b, c, ?_, fun i j h1 h2 => by rw [e i (by omega), e j h2]; exact f i j h1 h2, fun j hj => by rw [e j hj]; exact g j hj⟩
    rw [lst_c m 0 (fun j _ hj => e j (by omega))]
    exact d
theorem hr_74 {ad : List Nat} {h : hp} (L : Lay TLx ad h) {δ0 δb : dp} {N : Nat} (hNN : 10000000 ≤ N) {A B : Nat} (hA : A < 4) (hB : B < 4) {τ : TAU} (HT : HTr ad N h δ0 δb A τ) {x1 x2 x3 x6 : Int32} (hx : x1.toInt = (A : Int)) (hy : x2.toInt = (B : Int)) (y0 : 0 ≤ x3.toInt) (y2 : x3.toInt ≤ 2) (h6 : x3.toInt = 1 ∧ x6 = x1 ∨ x3.toInt ≠ 1 ∧ x6 = x2) (SA : hsr ad δb A) (SB : hsr ad δb B) : ∀ (f k m : Nat) (x4 x5 x7 : Int32) (d : dp), x4.toInt = (m : Int) → x7.toInt = (k : Int) → x5.toInt = (cn (QJ x3.toInt (hM ad δb A) (hR ad δb A) (hM ad δb B) (hR ad δb B)) 0 k : Int) → (x3.toInt = 1 → (k : Int) ≤ hM ad δb A) → (x3.toInt ≠ 1 → (k : Int) ≤ hM ad δb B) → RI ad h.1 δ0 d → kp [] δb d → kr ad [125] δb d → TJ x3.toInt (hM ad δb A) (hR ad δb A) (hM ad δb B) (hR ad δb B) m k (tl ad d) → hs (L_X12_joins_74 N h.1 (Ad ad 99) x1 x2 x3 f x4 x5 x6 x7 d) (fun r => kp [(12, 36)] δb r.2 ∧ rJ3 ad τ x3.toInt A B δb r.1 r.2) := by
  have ka : q_K h.1 (Ad ad 99) = 12 := (lay_knd L (by decide)).trans (by decide)
  obtain ⟨b48, o48, _⟩ := gO_12_48 L ka
  obtain rfl := gS_12_48 L ka o48
  obtain ⟨b14, o14, _⟩ := gO_12_14 L ka
  obtain rfl := gS_12_14 L ka o14
  obtain ⟨b17, o17, _⟩ := gO_12_17 L ka
  obtain rfl := gS_12_17 L ka o17
  have z0 : (0 : Int32).toInt = 0 := rfl
  have z1 : (1 : Int32).toInt = 1 := rfl
  have z2 : (2 : Int32).toInt = 2 := rfl
  have z1000 : (1000 : Int32).toInt = 1000 := rfl
  have z2000 : (2000 : Int32).toInt = 2000 := rfl
  have tx1 := tnH hx
  have tx2 := tnH hy
  intro f
  induction f with
  | zero => intro k m x4 x5 x7 d _ _ _ _ _ _ _ _ _; exact hs_none
  | succ f ih =>
    intro k m x4 x5 x7 d h4 h7 h5 hkA hkB I u w T
    obtain ⟨eM, eR, eN, eT, eF⟩ := hr_same w (by decide)
    have SAd : hsr ad d A := ⟨by rw [eM]; exact SA.1, by rw [eM, eR]; exact SA.2⟩
    have SBd : hsr ad d B := ⟨by rw [eM]; exact SB.1, by rw [eM, eR]; exact SB.2⟩
    have bA := rb_103 L I A
    have bB := rb_103 L I B
    have bN := rb_106 L I A
    have vA : (q_R d (Ad ad 103) A).toInt = hM ad δb A := eM A
    have vB : (q_R d (Ad ad 103) B).toInt = hM ad δb B := eM B
    have vN : (q_R d (Ad ad 106) A).toInt = hN ad δb A := eN A
    have a0 := SA.1
    have b0 := SB.1
    have cnl := cn_le (P := QJ x3.toInt (hM ad δb A) (hR ad δb A) (hM ad δb B) (hR ad δb B)) k 0
    unfold L_X12_joins_74
    refine hs_at o14 (hs_gd (fun _ => ?_))
    refine hs_ite (fun c => ?_) (fun c => ?_)
    · -- the end
      have c1 := o_le c
      have kz : (x3.toInt = 1 ∧ (k : Int) = hM ad δb A) ∨ (x3.toInt ≠ 1 ∧ (k : Int) = hM ad δb B) := by
        rcases h6 with ⟨q, e⟩ | ⟨q, e⟩
        · rw [e, tx1] at c1; have := hkA q; exact Or.inl ⟨q, by omega⟩
        · rw [e, tx2] at c1; have := hkB q; exact Or.inr ⟨q, by omega⟩
      have jf : (JF x3.toInt (hM ad δb A) (hR ad δb A) (hM ad δb B) (hR ad δb B) : Int) = x5.toInt := by
        rw [h5]
        unfold JF
        rcases kz with ⟨q, e⟩ | ⟨q, e⟩
        · rw [if_neg (by omega), if_pos q, show (hM ad δb A).toNat = k by omega]
          exact congrArg Int.ofNat (cn_congr k 0 (fun j _ _ => ⟨fun z => Or.inr (Or.inl ⟨q, z⟩), fun z => by rcases z with ⟨z, _⟩ | ⟨_, z⟩ | ⟨_, z, _⟩; exact absurd z (by omega); exact z; exact absurd q z⟩))
        · by_cases q0 : x3.toInt = 0
          · rw [if_pos q0, show (hM ad δb B).toNat = k by omega]
            exact congrArg Int.ofNat (cn_congr k 0 (fun j _ _ => ⟨fun z => Or.inl ⟨q0, z⟩, fun z => by rcases z with ⟨_, z⟩ | ⟨z, _⟩ | ⟨z, _⟩; exact z; exact absurd z q; exact absurd q0 z⟩))
          · rw [if_neg q0, if_neg q, show (hM ad δb B).toNat = k by omega]
            exact congrArg Int.ofNat (cn_congr k 0 (fun j _ _ => ⟨fun z => Or.inr (Or.inr ⟨q0, q, z⟩), fun z => by rcases z with ⟨z, _⟩ | ⟨z, _⟩ | ⟨_, _, z⟩; exact absurd z q0; exact absurd z q; exact z⟩))
      have fin : ∀ cl : Int, (x3 = 0 ∧ cl = 0 ∨ x3 ≠ 0 ∧ cl = 1) → ¬ (x3.toInt = 0 ∧ 2000 < hM ad δb A + x5.toInt) → hs (J_X12_joins_195 N h.1 (Ad ad 99) x1 x2 x3 x4 x5 d) (fun r => kp [(12, 36)] δb r.2 ∧ rJ3 ad τ x3.toInt A B δb r.1 r.2) := by
        intro cl hcl nb
        unfold J_X12_joins_195
        refine hs_at o17 (hs_gd (fun _ => ?_))
        rw [tx1]
        have t1 := te_add (q_R d (Ad ad 106) A) x5 (by omega) (by omega)
        refine hs_ite (fun c2 => ?_) (fun c2 => ?_)
        · have c3 := o_le c2
          -- told, and the calls
          have tt : (∀ i j : Nat, i < j → j < m → tl ad d i < tl ad d j) ∧ (JL x3.toInt (hM ad δb A) (hR ad δb A) (hM ad δb B) (hR ad δb B) = lst cl (tl ad d) (m - 0) 0) ∧ cn (fun j => chg cl (hM ad d A) (hR ad d A) (tl ad d j)) 0 (m - 0) ≤ x5.toInt.toNat := by
            rw [Nat.sub_zero, eM, eR]
            rcases T with ⟨q, e, g⟩ | ⟨q, e, g, l, s, t⟩
            · subst e
              rcases kz with ⟨z, _⟩ | ⟨_, kz⟩
              · exact absurd z q
              refine ⟨fun i j a b => by rw [g i (by omega), g j b]; exact SB.2 i j a (by omega), ?_, ?_⟩
              · unfold JL
                rcases hcl with ⟨e0, ec⟩ | ⟨e0, ec⟩
                · rw [if_pos (by rw [e0]; rfl), ec, show (hM ad δb B).toNat = m by omega]
                  exact (lst_c m 0 (fun j _ hj => g j (by omega))).symm
                · rw [if_neg (show ¬ x3.toInt = 0 from fun z => e0 (i_eq (b := 0) z)), if_neg q, ec, show (hM ad δb B).toNat = m by omega]
                  exact (lst_c m 0 (fun j _ hj => g j (by omega))).symm
              · have : cn (fun j => chg cl (hM ad δb A) (hR ad δb A) (tl ad d j)) 0 m = cn (QJ x3.toInt (hM ad δb A) (hR ad δb A) (hM ad δb B) (hR ad δb B)) 0 m := cn_congr m 0 (fun j _ hj => by
                  rw [g j (by omega)]
                  unfold chg QJ
                  rcases hcl with ⟨e0, ec⟩ | ⟨e0, ec⟩
                  · have e0' : x3.toInt = 0 := by rw [e0]; rfl
                    exact ⟨fun z => Or.inl ⟨e0', z.mp ec⟩, fun z => by rcases z with ⟨_, z⟩ | ⟨z, _⟩ | ⟨z, _⟩; exact ⟨fun _ => z, fun _ => ec⟩; exact absurd z q; exact absurd e0' z⟩
                  · have e0' : x3.toInt ≠ 0 := fun z => e0 (i_eq z)
                    exact ⟨fun z => Or.inr (Or.inr ⟨e0', q, Classical.byContradiction fun y => by have := z.mpr y; omega⟩), fun z => by rcases z with ⟨z, _⟩ | ⟨z, _⟩ | ⟨_, _, z⟩; exact absurd z e0'; exact absurd z q; exact ⟨fun y => by omega, fun y => absurd z y⟩⟩)
                rw [this]; omega
            · rcases kz with ⟨_, kz⟩ | ⟨z, _⟩
              · have ec : cl = 1 := by
                  rcases hcl with ⟨e0, _⟩ | ⟨_, ec⟩
                  · rw [e0] at q; exact absurd q (by decide)
                  · exact ec
                refine ⟨s, ?_, ?_⟩
                · unfold JL
                  rw [if_neg (by omega), if_pos q, ← l, show (hM ad δb A).toNat - k = 0 by omega, ec]
                  exact List.append_nil _
                · have := cn_le (P := fun j => chg cl (hM ad δb A) (hR ad δb A) (tl ad d j)) m 0
                  omega
              · exact absurd q z
          obtain ⟨t2, t3, t4⟩ := tt
          have mk2 : (m : Int) ≤ 2000 := by
            rcases T with ⟨q, e, _⟩ | ⟨q, e, g, _⟩ <;> rcases kz with ⟨z, kz⟩ | ⟨z, kz⟩ <;> omega
          refine hs_mono (hr_219 L hNN (n0 := m) (Y := tl ad d) hA (δb := δb) HT hx hcl h4 (by omega) (fun i j a b z => by have := t2 i j a b; omega) N 0 0 0 d rfl (Nat.zero_le _) I (r3s_k u (by decide)) SAd (fun _ _ => rfl) (fun z => ?_) ?_) (fun r hr => ?_)
          · have eMA := eM A
            rcases hcl with ⟨e0, _⟩ | ⟨_, ec⟩
            · have e0' : x3.toInt = 0 := by rw [e0]; rfl
              omega
            · omega
          · rw [eN]; omega
          · obtain ⟨k1, k2, ts, k3, k4⟩ := hr
            refine ⟨kp_w (by decide) (kp_t u k1.1), Or.inr (Or.inr ⟨by rw [jf]; exact nb, by rw [jf]; omega, kr_w (by decide) (kr_t w k1.2), mfr_eq eM eR eN eT eF k2, ts, ?_, k4⟩)⟩
            rw [t3, show sRf ad δb A = sRf ad d A by unfold sRf; rw [eM, eR, eN, eT, eF]]
            exact k3
        · have c3 := o_nle c2
          exact hs_some ⟨kp_w (by decide) u, Or.inr (Or.inl ⟨by rw [jf]; exact nb, by rw [jf]; omega, rfl, w⟩)⟩
      refine hs_ite (fun c2 => ?_) (fun c2 => ?_)
      · have c3 : x3.toInt = 0 := by rw [c2]; rfl
        refine hs_at o14 (hs_gd (fun _ => ?_))
        rw [tx1]
        have t1 := te_add (q_R d (Ad ad 103) A) x5 (by omega) (by omega)
        refine hs_ite (fun c4 => ?_) (fun c4 => ?_)
        · have c5 := o_le c4
          exact fin 0 (Or.inl ⟨c2, rfl⟩) (by omega)
        · have c5 := o_nle c4
          exact hs_some ⟨kp_w (by decide) u, Or.inl ⟨c3, by rw [jf]; omega, rfl, w⟩⟩
      · have c3 := o_ne c2
        exact fin 1 (Or.inr ⟨c2, rfl⟩) (by omega)
    · -- one more
      have c1 := o_nle c
      have t7 := te_addc (c := 1) (n := 1) rfl x7 (by omega) (by omega)
      have kz : (x3.toInt = 1 ∧ (k : Int) < hM ad δb A) ∨ (x3.toInt ≠ 1 ∧ (k : Int) < hM ad δb B) := by
        rcases h6 with ⟨q, e⟩ | ⟨q, e⟩
        · rw [e, tx1] at c1; exact Or.inl ⟨q, by omega⟩
        · rw [e, tx2] at c1; exact Or.inr ⟨q, by omega⟩
      have mk : m ≤ k := by rcases T with ⟨_, e, _⟩ | ⟨_, _, e, _⟩ <;> omega
      -- the write and what follows
      have put : ∀ (v z : Int32) (dd : Nat), ((∀ m', m' = cn (QJ x3.toInt (hM ad δb A) (hR ad δb A) (hM ad δb B) (hR ad δb B)) 0 (k + 1) → m' = cn (QJ x3.toInt (hM ad δb A) (hR ad δb A) (hM ad δb B) (hR ad δb B)) 0 k + dd)) → (x3.toInt = 0 ∧ ((z = 0 ∧ dd = 1) ∨ (z ≠ 0 ∧ dd = 0)) ∨ x3.toInt = 1 ∧ dd = 1 ∨ x3.toInt = 2 ∧ ((z = 0 ∧ dd = 0) ∨ (z ≠ 0 ∧ dd = 1))) → (∀ d2, (∀ j, j < m → tl ad d2 j = tl ad d j) → tl ad d2 m = v.toInt → TJ x3.toInt (hM ad δb A) (hR ad δb A) (hM ad δb B) (hR ad δb B) (m + 1) (k + 1) (tl ad d2)) → hs (J_X12_joins_127 N h.1 (Ad ad 99) x1 x2 x3 (L_X12_joins_74 N h.1 (Ad ad 99) x1 x2 x3 f) x4 x5 x6 x7 v z d) (fun r => kp [(12, 36)] δb r.2 ∧ rJ3 ad τ x3.toInt A B δb r.1 r.2) := by
        intro v z dd hd hz hT
        have tx4 := ti_tn x4
        have cs := hd _ rfl
        have t4 := te_addc (c := 1) (n := 1) rfl x4 (by omega) (by omega)
        unfold J_X12_joins_127
        refine hs_at o48 (hs_gd (fun _ => ?_))
        rw [show x4.toNatClampNeg = m by omega]
        refine hs_bdv (fun d2 e2 => hs_biv (fun x4' e4 => ?_))
        rw [← e4] at t4
        have go : ∀ (q : Int32), q.toInt = (dd : Int) → hs (J_X12_joins_165 N h.1 (Ad ad 99) x1 x2 x3 (L_X12_joins_74 N h.1 (Ad ad 99) x1 x2 x3 f) q x5 x4' x6 x7 d2) (fun r => kp [(12, 36)] δb r.2 ∧ rJ3 ad τ x3.toInt A B δb r.1 r.2) := by
          intro q hq
          have t5 := te_add x5 q (by omega) (by omega)
          unfold J_X12_joins_165 J_X12_joins_168
          refine hs_biv (fun x5' e5 => hs_biv (fun x7' e7 => ?_))
          rw [← e5] at t5
          rw [← e7] at t7
          have I2 : RI ad h.1 δ0 d2 := by rw [e2]; exact I.sR L ⟨125, by decide, by decide, by decide, rfl⟩
          refine ih (k + 1) (m + 1) x4' x5' x7' d2 (by omega) (by omega) (by omega) (fun y => by rcases kz with ⟨_, kz⟩ | ⟨kz, _⟩; omega; exact absurd y kz) (fun y => by rcases kz with ⟨kz, _⟩ | ⟨_, kz⟩; exact absurd kz y; omega) I2 (fun c k a _ => by rw [e2]; exact u c k a (by simp)) (fun i a b c => by rw [e2, rR_o (ad_ne L (by omega) (by decide) (fun z => c (by rw [z]; exact List.mem_cons_self)))]; exact w i a b c) (hT d2 (fun j hj => ?_) ?_)
          · unfold tl; rw [sR_at e2 j, if_neg (by omega)]
          · unfold tl; rw [sR_at e2 m, if_pos rfl]
        refine hs_ite (fun c2 => ?_) (fun c2 => ?_)
        · have c3 : x3.toInt = 0 := by rw [c2]; rfl
          refine hs_ite (fun c4 => ?_) (fun c4 => ?_)
          · unfold J_X12_joins_150 J_X12_joins_164
            refine hs_ite (fun c5 => by have := o_eq c5; omega) (fun _ => go 1 ?_)
            rcases hz with ⟨_, ⟨_, e⟩ | ⟨e, _⟩⟩ | ⟨e, _⟩ | ⟨e, _⟩
            · omega
            · exact absurd c4 e
            · omega
            · omega
          · unfold J_X12_joins_160
            refine go 0 ?_
            rcases hz with ⟨_, ⟨e, _⟩ | ⟨_, e⟩⟩ | ⟨e, _⟩ | ⟨e, _⟩
            · exact absurd e c4
            · omega
            · omega
            · omega
        · have c3 := o_ne c2
          unfold J_X12_joins_150 J_X12_joins_164 J_X12_joins_160
          refine hs_ite (fun c5 => ?_) (fun c5 => ?_)
          · have c6 := o_eq c5
            refine hs_ite (fun c4 => go 0 ?_) (fun c4 => go 1 ?_)
            · rcases hz with ⟨e, _⟩ | ⟨e, _⟩ | ⟨_, ⟨_, e⟩ | ⟨e, _⟩⟩
              · omega
              · omega
              · omega
              · exact absurd c4 e
            · rcases hz with ⟨e, _⟩ | ⟨e, _⟩ | ⟨_, ⟨e, _⟩ | ⟨_, e⟩⟩
              · omega
              · omega
              · exact absurd e c4
              · omega
          · have c6 := o_ne c5
            refine go 1 ?_
            rcases hz with ⟨e, _⟩ | ⟨_, e⟩ | ⟨e, _⟩
            · omega
            · omega
            · omega
      have cl1 := cn_last (P := QJ x3.toInt (hM ad δb A) (hR ad δb A) (hM ad δb B) (hR ad δb B)) k 0
      rw [Nat.zero_add] at cl1
      rcases h6 with ⟨q, e6⟩ | ⟨q, e6⟩
      · -- meet
        rcases kz with ⟨_, kz⟩ | ⟨z, _⟩
        rotate_left
        · exact absurd q z
        have c3 : x3 = 1 := i_eq q
        refine hs_bind (hr_numberAt L hNN (x1 := x6) (x2 := x7) (H := A) ka (by rw [e6]; exact hx) hA I) (fun r hr => ?_)
        obtain ⟨e, at1⟩ := hr
        rw [e]
        rw [eM, eR] at at1
        have vk : r.1.toInt = hR ad δb A k := by
          rcases at1 with ⟨i, a1, a2, a3⟩ | ⟨a1, _⟩
          · obtain rfl : i = k := by omega
            exact a3
          · exfalso; omega
        refine hs_ite (fun _ => ?_) (fun z => absurd c3 z)
        unfold J_X12_joins_107
        refine hs_bind (hr_isThere L hNN (x := r.1) ka hy hB I SBd) (fun r2 h2 => ?_)
        obtain ⟨e2, hm⟩ := h2
        rw [e2]
        rw [eM, eR, vk] at hm
        refine hs_ite (fun _ => ?_) (fun z => absurd c3 z)
        rcases T with ⟨z, _⟩ | ⟨_, em, mk', l, s, t⟩
        · exact absurd q z
        have lsf1 : lsf (fun j => ME (hM ad δb B) (hR ad δb B) (hR ad δb A j)) (hR ad δb A) ((hM ad δb A).toNat - k) k = @ite _ (ME (hM ad δb B) (hR ad δb B) (hR ad δb A k)) (Classical.propDecidable _) (lsf (fun j => ME (hM ad δb B) (hR ad δb B) (hR ad δb A j)) (hR ad δb A) ((hM ad δb A).toNat - (k + 1)) (k + 1)) ((1, hR ad δb A k) :: lsf (fun j => ME (hM ad δb B) (hR ad δb B) (hR ad δb A j)) (hR ad δb A) ((hM ad δb A).toNat - (k + 1)) (k + 1)) := by
          rw [show (hM ad δb A).toNat - k = ((hM ad δb A).toNat - (k + 1)) + 1 by omega]; rfl
        rcases hm with ⟨g, me⟩ | ⟨g, me⟩
        · rw [g]
          refine hs_ite (fun z => absurd z (by decide)) (fun _ => ?_)
          have nq : ¬ QJ x3.toInt (hM ad δb A) (hR ad δb A) (hM ad δb B) (hR ad δb B) k := fun z => by rcases z with ⟨z, _⟩ | ⟨_, z⟩ | ⟨_, z, _⟩; omega; exact z me; exact z q
          rw [if_neg nq] at cl1
          unfold J_X12_joins_168
          refine hs_biv (fun x7' e7 => ?_)
          rw [← e7] at t7
          skip
          refine ih (k + 1) m x4 x5 x7' d h4 (by omega) (by omega) (fun _ => by omega) (fun y => absurd q y) I u w (Or.inr ⟨q, by omega, by omega, ?_, s, fun j hj => by obtain ⟨i, a, b⟩ := t j hj; exact ⟨i, by omega, b⟩⟩)
          rw [← l, lsf1, if_pos me]
        · rw [g]
          refine hs_ite (fun _ => ?_) (fun z => absurd rfl z)
          have yq : QJ x3.toInt (hM ad δb A) (hR ad δb A) (hM ad δb B) (hR ad δb B) k := Or.inr (Or.inl ⟨q, me⟩)
          rw [if_pos yq] at cl1
          skip
          refine put r.1 0 1 (fun m' hm' => by omega) (Or.inr (Or.inl ⟨q, rfl⟩)) (fun d2 hd2 hdm => Or.inr ⟨q, by omega, by omega, ?_, fun i j a b => ?_, fun j hj => ?_⟩)
          · rw [← l, lsf1, if_neg me, lst_s, lst_c m 0 (fun j _ hj => hd2 j (by omega)), Nat.zero_add, hdm, vk, List.append_assoc]; rfl
          · by_cases z : j = m
            · subst z
              rw [hdm, vk, hd2 i a]
              obtain ⟨i', a', b'⟩ := t i a
              rw [b']
              exact SA.2 i' k a' kz
            · rw [hd2 i (by omega), hd2 j (by omega)]; exact s i j a (by omega)
          · by_cases z : j = m
            · subst z
              exact ⟨k, by omega, by rw [hdm, vk]⟩
            · obtain ⟨i', a', b'⟩ := t j (by omega)
              exact ⟨i', by omega, by rw [hd2 j (by omega)]; exact b'⟩
      · -- join, part
        rcases kz with ⟨z, _⟩ | ⟨_, kz⟩
        · exact absurd z q
        have c3 : x3 ≠ 1 := fun z => q (by rw [z]; rfl)
        refine hs_bind (hr_numberAt L hNN (x1 := x6) (x2 := x7) (H := B) ka (by rw [e6]; exact hy) hB I) (fun r hr => ?_)
        obtain ⟨e, at1⟩ := hr
        rw [e]
        rw [eM, eR] at at1
        have vk : r.1.toInt = hR ad δb B k := by
          rcases at1 with ⟨i, a1, a2, a3⟩ | ⟨a1, _⟩
          · obtain rfl : i = k := by omega
            exact a3
          · exfalso; omega
        refine hs_ite (fun z => absurd z c3) (fun _ => ?_)
        unfold J_X12_joins_107
        refine hs_bind (hr_isThere L hNN (x := r.1) ka hx hA I SAd) (fun r2 h2 => ?_)
        obtain ⟨e2, hm⟩ := h2
        rw [e2]
        rw [eM, eR, vk] at hm
        refine hs_ite (fun z => absurd z c3) (fun _ => ?_)
        rcases T with ⟨_, em, g⟩ | ⟨z, _⟩
        rotate_left
        · exact absurd z q
        subst em
        have tj : ∀ d2, (∀ j, j < m → tl ad d2 j = tl ad d j) → tl ad d2 m = r.1.toInt → TJ x3.toInt (hM ad δb A) (hR ad δb A) (hM ad δb B) (hR ad δb B) (m + 1) (m + 1) (tl ad d2) := fun d2 hd2 hdm => Or.inl ⟨q, rfl, fun j hj => by
          by_cases z : j = m
          · subst z; rw [hdm, vk]
          · rw [hd2 j (by omega)]; exact g j (by omega)⟩
        skip
        by_cases q0 : x3.toInt = 0
        · rcases hm with ⟨g1, me⟩ | ⟨g1, me⟩
          · have nq : ¬ QJ x3.toInt (hM ad δb A) (hR ad δb A) (hM ad δb B) (hR ad δb B) m := fun z => by rcases z with ⟨_, z⟩ | ⟨z, _⟩ | ⟨z, _⟩; exact z me; exact q z; exact z q0
            rw [if_neg nq] at cl1
            exact put r.1 r2.1 0 (fun m' hm' => by omega) (Or.inl ⟨q0, Or.inr ⟨by rw [g1]; decide, rfl⟩⟩) tj
          · have yq : QJ x3.toInt (hM ad δb A) (hR ad δb A) (hM ad δb B) (hR ad δb B) m := Or.inl ⟨q0, me⟩
            rw [if_pos yq] at cl1
            exact put r.1 r2.1 1 (fun m' hm' => by omega) (Or.inl ⟨q0, Or.inl ⟨g1, rfl⟩⟩) tj
        · rcases hm with ⟨g1, me⟩ | ⟨g1, me⟩
          · have yq : QJ x3.toInt (hM ad δb A) (hR ad δb A) (hM ad δb B) (hR ad δb B) m := Or.inr (Or.inr ⟨q0, q, me⟩)
            rw [if_pos yq] at cl1
            exact put r.1 r2.1 1 (fun m' hm' => by omega) (Or.inr (Or.inr ⟨by omega, Or.inr ⟨by rw [g1]; decide, rfl⟩⟩)) tj
          · have nq : ¬ QJ x3.toInt (hM ad δb A) (hR ad δb A) (hM ad δb B) (hR ad δb B) m := fun z => by rcases z with ⟨z, _⟩ | ⟨z, _⟩ | ⟨_, _, z⟩; exact q0 z; exact q z; exact me z
            rw [if_neg nq] at cl1
            exact put r.1 r2.1 0 (fun m' hm' => by omega) (Or.inr (Or.inr ⟨by omega, Or.inl ⟨g1, rfl⟩⟩)) tj
end
