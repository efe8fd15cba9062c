/-! joins and split of the class, whole -/
/-- how many change -/
noncomputable def JF (how M : Int) (R : Nat → Int) (N : Int) (Q : Nat → Int) : Nat := if how = 0 then cn (fun j => ¬ ME M R (Q j)) 0 N.toNat else if how = 1 then cn (fun j => ¬ ME N Q (R j)) 0 M.toNat else cn (fun j => ME M R (Q j)) 0 N.toNat
/-- the calls -/
noncomputable def JL (how M : Int) (R : Nat → Int) (N : Int) (Q : Nat → Int) : List (Int × Int) := if how = 0 then lst 0 Q N.toNat 0 else if how = 1 then lsf (fun j => ME N Q (R j)) R M.toNat 0 else lst 1 Q N.toNat 0
theorem JF_c {how M N M1 N1 : Int} {R Q R1 Q1 : Nat → Int} (e : RE M R M1 R1) (f : RE N Q N1 Q1) : JF how M1 R1 N1 Q1 = JF how M R N Q := by
  have e' : RE M R M R1 := ⟨rfl, e.2⟩
  have f' : RE N Q N Q1 := ⟨rfl, f.2⟩
  unfold JF
  rw [e.1, f.1]
  by_cases c : how = 0
  · rw [if_pos c, if_pos c]
    exact cn_congr _ 0 (fun j a b => by rw [f.2 j (by omega), ← ME_i e'])
  · rw [if_neg c, if_neg c]
    by_cases d : how = 1
    · rw [if_pos d, if_pos d]
      exact cn_congr _ 0 (fun j a b => by rw [e.2 j (by omega), ← ME_i f'])
    · rw [if_neg d, if_neg d]
      exact cn_congr _ 0 (fun j a b => by rw [f.2 j (by omega), ← ME_i e'])
theorem JL_c {how M N M1 N1 : Int} {R Q R1 Q1 : Nat → Int} (e : RE M R M1 R1) (f : RE N Q N1 Q1) : JL how M1 R1 N1 Q1 = JL how M R N Q := by
  have e' : RE M R M R1 := ⟨rfl, e.2⟩
  have f' : RE N Q N Q1 := ⟨rfl, f.2⟩
  unfold JL
  rw [e.1, f.1]
  by_cases c : how = 0
  · rw [if_pos c, if_pos c]
    exact lst_c _ 0 (fun j a b => f.2 j (by omega))
  · rw [if_neg c, if_neg c]
    by_cases d : how = 1
    · rw [if_pos d, if_pos d]
      exact lsf_c _ 0 (fun j a b => ⟨e.2 j (by omega), by rw [e.2 j (by omega), ← ME_i f']⟩)
    · rw [if_neg d, if_neg d]
      exact lst_c _ 0 (fun j a b => f.2 j (by omega))
/-- numbers of the SHAPE -/
def Bd (ad : List Nat) (δ : dp) : Prop := ∀ K, K < 4 → ∀ i : Nat, (i : Int) < cM ad δ K → 0 ≤ cR ad δ K i ∧ cR ad δ K i ≤ 65536
/-- what joins of the class answers and leaves -/
def hJ3 (ad : List Nat) (τ : TAU) (how : Int) (A B : Nat) (δ : dp) (w : Int32) (d : dp) : Prop :=
  (how = 0 ∧ 2000 < cM ad δ A + (JF how (cM ad δ A) (cR ad δ A) (cM ad δ B) (cR ad δ B) : Int) ∧ w = -1 ∧ csm ad δ d) ∨
  (¬ (how = 0 ∧ 2000 < cM ad δ A + (JF how (cM ad δ A) (cR ad δ A) (cM ad δ B) (cR ad δ B) : Int)) ∧ 1000 < cN ad δ A + (JF how (cM ad δ A) (cR ad δ A) (cM ad δ B) (cR ad δ B) : Int) ∧ w = -2 ∧ csm ad δ d) ∨
  (¬ (how = 0 ∧ 2000 < cM ad δ A + (JF how (cM ad δ A) (cR ad δ A) (cM ad δ B) (cR ad δ B) : Int)) ∧ cN ad δ A + (JF how (cM ad δ A) (cR ad δ A) (cM ad δ B) (cR ad δ B) : Int) ≤ 1000 ∧ mf ad A δ d ∧ ∃ ts, chn (stC τ) (JL how (cM ad δ A) (cR ad δ A) (cM ad δ B) (cR ad δ B)) (sCl ad δ A) (sCl ad d A) ts ∧ w = smt 0 ts)
theorem csm_mf {ad : List Nat} {K : Nat} {δ d : dp} (c : csm ad δ d) : mf ad K δ d := ⟨fun q k a n1 n4 _ _ => c.1 q k a n1 n4, fun b n _ _ _ => c.2 b n⟩
theorem csm_s {ad : List Nat} {h : hp} (L : Lay TLx ad h) {δ d : dp} (c : csm ad δ d) {K : Nat} (hK : K < 4) : sCl ad d K = sCl ad δ K := by
  obtain ⟨q1, q2, q3, q4, q5⟩ := (csk_m L c).1 K hK
  unfold sCl
  rw [q1, q2, q3, q4, q5]
theorem h2_113 {ad : List Nat} {h : hp} (L : Lay TLx ad h) {δ0 : dp} {N : Nat} (hN : 10000000 ≤ N) {A B : Nat} (hA : A < 4) (hB : B < 4) (ne : A ≠ B) {τ : TAU} {δ : dp} (HT : HTc ad N h δ0 δ A τ) {x1 x2 x3 xs x7 : Int32} (I : CI ad h.1 δ0 δ) (S : ∀ K, K < 4 → SR (cM ad δ K) (cR ad δ K)) (bd : Bd ad δ) (y0 : 0 ≤ x3.toInt) (y2 : x3.toInt ≤ 2) (hf : (x3.toInt = 0 ∧ x7.toInt = (JF x3.toInt (cM ad δ A) (cR ad δ A) (cM ad δ B) (cR ad δ B) : Int) ∧ xs.toInt = 0) ∨ (x3.toInt ≠ 0 ∧ x7.toInt = 0 ∧ xs.toInt = (JF x3.toInt (cM ad δ A) (cR ad δ A) (cM ad δ B) (cR ad δ B) : Int))) (jb : (JF x3.toInt (cM ad δ A) (cR ad δ A) (cM ad δ B) (cR ad δ B) : Int) ≤ 2000) : hs (J_X11_joins_113 N h.1 (Ad ad 0) x1 x2 x3 xs (Ad ad (75 + 6 * A)) (Ad ad (76 + 6 * B)) x7 δ) (fun r => ∃ w, r.1 = .inl w ∧ hJ3 ad τ x3.toInt A B δ w r.2) := by
  have z0 : (0 : Int32).toInt = 0 := rfl
  have z1 : (1 : Int32).toInt = 1 := rfl
  have mA := cM_b L I hA
  have mB := cM_b L I hB
  have nA := cN_b L I hA
  generalize hJ : JF x3.toInt (cM ad δ A) (cR ad δ A) (cM ad δ B) (cR ad δ B) = J at hf jb
  unfold J_X11_joins_113
  refine hs_bind (h2_refusal L hA (x1 := x7) (x2 := xs) I (by omega) (by omega) (by omega) (by omega)) (fun r hr => ?_)
  obtain ⟨e, hq⟩ := hr
  rw [e]
  rcases hq with ⟨q1, q2, q3⟩ | ⟨q1, q2, q3⟩ | ⟨q1, q3⟩
  · rw [q3]
    refine hs_ite (fun _ => ?_) (fun z => absurd (by decide) z)
    refine hs_at (fO_0_8 L) (hs_bind (hs_and (csm_forget (ad := ad)) (ok_h (k_X4_forget L hN (a0 := Ad ad 13) ((lay_knd L (by decide)).trans (by decide)) I))) (fun d0 h0 => ?_))
    obtain ⟨c0, I0, _⟩ := h0
    have k0 := csk_m L c0
    obtain ⟨a1, a2, a3, a4, _⟩ := k0.1 A hA
    obtain ⟨b1, b2, b3, b4, _⟩ := k0.1 B hB
    have S0 : SR (cM ad d0 A) (cR ad d0 A) := by rw [a1, a2]; exact S A hA
    have F0 : f5 ad δ d0 := fun k => c0.1 5 k _ (by decide) (by decide)
    have nab : Ad ad (76 + 6 * B) ≠ Ad ad (76 + 6 * A) := ad_ne L (by omega) (by omega) (by omega)
    have nbb : Ad ad (77 + 6 * B) ≠ Ad ad 59 ∧ Ad ad (77 + 6 * B) ≠ Ad ad (77 + 6 * A) ∧ Ad ad (77 + 6 * B) ≠ Ad ad (78 + 6 * A) ∧ Ad ad (77 + 6 * B) ≠ Ad ad (79 + 6 * A) := ⟨ad_ne L (by omega) (by decide) (by omega), ad_ne L (by omega) (by omega) (by omega), ad_ne L (by omega) (by omega) (by omega), ad_ne L (by omega) (by omega) (by omega)⟩
    have fin : ∀ (w : Int32) (d : dp), mf ad A d0 d → (∃ ts, chn (stC τ) (JL x3.toInt (cM ad δ A) (cR ad δ A) (cM ad δ B) (cR ad δ B)) (sCl ad d0 A) (sCl ad d A) ts ∧ w = smt 0 ts) → hJ3 ad τ x3.toInt A B δ w d := fun w d m ⟨ts, t1, t2⟩ => by
      rw [csm_s L c0 hA] at t1
      refine Or.inr (Or.inr ⟨?_, ?_, (csm_mf c0).t m, ts, t1, t2⟩)
      · rw [hJ]; omega
      · rw [hJ]; omega
    have all : ∀ (cl : Int32), (cl = 0 ∧ x3.toInt = 0 ∨ cl = 1 ∧ x3.toInt = 2) → hs (J_X11_joins_165 N h.1 (Ad ad 0) x1 x2 x3 cl (Ad ad (75 + 6 * A)) (Ad ad (76 + 6 * B)) d0) (fun r => ∃ w, r.1 = .inl w ∧ hJ3 ad τ x3.toInt A B δ w r.2) := by
      intro cl hcl
      have jl : JL x3.toInt (cM ad δ A) (cR ad δ A) (cM ad δ B) (cR ad δ B) = lst cl.toInt (cR ad δ B) ((cM ad δ B).toNat - 0) 0 := by
        unfold JL
        rcases hcl with ⟨rfl, y⟩ | ⟨rfl, y⟩
        · rw [if_pos y]; rfl
        · rw [if_neg (by omega), if_neg (by omega)]; rfl
      have jc : J = cn (fun j => chg cl.toInt (cM ad d0 A) (cR ad d0 A) (cR ad δ B j)) 0 ((cM ad δ B).toNat - 0) := by
        rw [← hJ, a1, a2]
        unfold JF
        rcases hcl with ⟨rfl, y⟩ | ⟨rfl, y⟩
        · rw [if_pos y]; exact cn_congr _ 0 (fun j _ _ => ⟨fun z => ⟨fun _ => z, fun _ => rfl⟩, fun z => z.mp rfl⟩)
        · rw [if_neg (by omega), if_neg (by omega)]
          refine cn_congr _ 0 (fun j _ _ => ⟨fun z => ⟨fun q => absurd q (by decide), fun q => absurd z q⟩, fun z => Classical.byContradiction fun q => absurd (z.mpr q) (by decide)⟩)
      have cb : 0 ≤ cl.toInt ∧ cl.toInt ≤ 1 := by rcases hcl with ⟨rfl, _⟩ | ⟨rfl, _⟩ <;> decide
      unfold J_X11_joins_165 D_X2_makeAll
      refine hs_bind (h2_makeAll L hN hA (x1 := cl) (m := (cM ad δ B).toNat) (Y := cR ad δ B) HT cb.1 cb.2 (lk_r L hB) nab nbb (fun j hj => bd B hB j (by omega)) (fun i j a b => S B hB i j a (by omega)) (by omega) N 0 0 0 d0 rfl (by omega) I0 F0 S0 (by show cM ad d0 B = _; rw [b1]; omega) (fun j hj => by show cR ad d0 B j = _; rw [b2]) (fun z => ?_) ?_) (fun r hr => hs_some ⟨r.1, rfl, ?_⟩)
      · rw [← jc, a1]
        rcases hcl with ⟨_, y⟩ | ⟨y, _⟩
        · rcases hf with ⟨_, y1, _⟩ | ⟨y1, _⟩ <;> omega
        · rw [y] at z; exact absurd z (by decide)
      · rw [← jc, a3]; omega
      · obtain ⟨m, ts, t1, t2⟩ := hr
        exact fin _ _ m ⟨ts, by rw [jl]; exact t1, t2⟩
    refine hs_ite (fun c => ?_) (fun c => ?_)
    · have c1 := o_eq c
      have y1 : x3.toInt = 1 := by omega
      unfold D_X2_dropAllBut
      have jl : JL x3.toInt (cM ad δ A) (cR ad δ A) (cM ad δ B) (cR ad δ B) = lsf (fun j => ME (cM ad δ B) (cR ad δ B) (cR ad δ A j)) (cR ad δ A) ((cM ad δ A).toNat - 0) 0 := by
        unfold JL
        rw [if_neg (by omega), if_pos y1]; rfl
      have jc : J = cn (fun j => ¬ ME (cM ad δ B) (cR ad δ B) (cR ad δ A j)) 0 ((cM ad δ A).toNat - 0) := by
        rw [← hJ]; unfold JF; rw [if_neg (by omega), if_pos y1]; rfl
      refine hs_bind (P := fun r => mf ad A d0 r.2 ∧ ∃ ts, chn (stC τ) (JL x3.toInt (cM ad δ A) (cR ad δ A) (cM ad δ B) (cR ad δ B)) (sCl ad d0 A) (sCl ad r.2 A) ts ∧ r.1 = smt 0 ts) ?_ (fun r hr => hs_some ⟨r.1, rfl, fin _ _ hr.1 hr.2⟩)
      refine hs_at (lk_0 L hA) (hs_biv (fun x4 e4 => ?_))
      have m4 : x4.toInt = (((cM ad δ A).toNat : Nat) : Int) := by rw [e4]; show cM ad d0 A = _; rw [a1]; omega
      refine hs_mono (h2_dropBut L hN hA (m := (cM ad δ A).toNat) (Y := cR ad δ A) HT (kk_3 L hB) (lk_r L hB) nab nbb (fun j hj => bd A hA j (by omega)) (fun i j a b => S A hA i j a (by omega)) (by omega) (P := fun y => ME (cM ad δ B) (cR ad δ B) y) m4 N 0 0 0 0 0 d0 rfl rfl (Nat.zero_le _) (Nat.le_refl _) I0 F0 S0 (by show SR (cM ad d0 B) (cR ad d0 B); rw [b1, b2]; exact S B hB) (fun y => by show ME (cM ad d0 B) (cR ad d0 B) y ↔ _; rw [b1, b2]) (by rw [a1]; omega) (fun j _ hj => by rw [a2, show 0 + (j - 0) = j by omega]) (by rw [← jc, a3]; omega)) (fun r hr => ?_)
      obtain ⟨m, ts, t1, t2⟩ := hr
      exact ⟨m, ts, by rw [jl]; exact t1, t2⟩
    · have c1 := o_ne c
      refine hs_ite (fun c2 => ?_) (fun c2 => ?_)
      · have c3 := o_eq c2
        exact all 0 (Or.inl ⟨rfl, by omega⟩)
      · have c3 := o_ne c2
        exact all 1 (Or.inr ⟨rfl, by omega⟩)
  · rw [q3]
    refine hs_ite (fun z => absurd z (by decide)) (fun _ => hs_some ⟨-2, rfl, Or.inr (Or.inl ⟨?_, ?_, rfl, csm.r⟩)⟩)
    · rw [hJ]; omega
    · rw [hJ]; omega
  · rw [q3]
    refine hs_ite (fun z => absurd z (by decide)) (fun _ => hs_some ⟨-1, rfl, Or.inl ⟨?_, ?_, rfl, csm.r⟩⟩)
    · omega
    · rw [hJ]; omega
/-- joins of the class -/
def hCJ (ad : List Nat) (τ : TAU) (x1 x2 x3 : Int32) (δ : dp) (v : Int32 ⊕ Nat) (d : dp) : Prop :=
  ((x1.toInt < 0 ∨ 3 < x1.toInt ∨ x2.toInt < 0 ∨ 3 < x2.toInt) ∧ v = .inr 0 ∧ csm ad δ d) ∨
  ∃ A B : Nat, A < 4 ∧ B < 4 ∧ x1.toInt = (A : Int) ∧ x2.toInt = (B : Int) ∧
    (((A = B ∨ x3.toInt < 0 ∨ 2 < x3.toInt) ∧ v = .inr 2 ∧ csm ad δ d) ∨ (A ≠ B ∧ 0 ≤ x3.toInt ∧ x3.toInt ≤ 2 ∧ ∃ w, v = .inl w ∧ hJ3 ad τ x3.toInt A B δ w d))
theorem hc_joins {ad : List Nat} {h : hp} (L : Lay TLx ad h) {δ0 : dp} {N : Nat} (hN : 10000000 ≤ N) {τ : TAU} {x1 x2 x3 : Int32} {δ : dp} (HT : ∀ K, K < 4 → HTc ad N h δ0 δ K τ) (I : CI ad h.1 δ0 δ) (S : ∀ K, K < 4 → SR (cM ad δ K) (cR ad δ K)) (bd : Bd ad δ) : hs (D_X11_joins N h.1 (Ad ad 0) x1 x2 x3 δ) (fun r => hCJ ad τ x1 x2 x3 δ r.1 r.2) := by
  have z0 : (0 : Int32).toInt = 0 := rfl
  have z2 : (2 : Int32).toInt = 2 := rfl
  unfold D_X11_joins
  refine hs_bxv (hc_needHouse L (x1 := x1)) (fun n d hn => ?_) (fun d hn => ?_)
  · rcases hn with ⟨z, _⟩ | ⟨z1, z2, z3⟩
    · cases z
    · exact Or.inl ⟨by omega, inrc z1, z2⟩
  rcases hn with ⟨_, e, A, hA, hx⟩ | ⟨z, _⟩
  rotate_left
  · cases z
  dsimp only at e
  rw [e]
  refine hs_bxv (hc_needHouse L (x1 := x2)) (fun n d hn => ?_) (fun d hn => ?_)
  · rcases hn with ⟨z, _⟩ | ⟨z1, z2, z3⟩
    · cases z
    · exact Or.inl ⟨by omega, inrc z1, z2⟩
  rcases hn with ⟨_, e, B, hB, hy⟩ | ⟨z, _⟩
  rotate_left
  · cases z
  dsimp only at e
  rw [e]
  have no : (A = B ∨ x3.toInt < 0 ∨ 2 < x3.toInt) → hs (J_X11_joins_29 N h.1 (Ad ad 0) x1 x2 x3 (Ad ad 0) δ) (fun r => hCJ ad τ x1 x2 x3 δ r.1 r.2) := fun hh => by
    unfold J_X11_joins_29 J_X11_joins_30
    refine hs_bxv (hc_need L (x1 := 0)) (fun n d hn => ?_) (fun d hn => ?_)
    · rcases hn with ⟨z, _⟩ | ⟨z1, z2, z3⟩
      · cases z
      · exact Or.inr ⟨A, B, hA, hB, hx, hy, Or.inl ⟨hh, inrc z1, z2⟩⟩
    · rcases hn with ⟨_, _, z⟩ | ⟨z, _⟩
      · exact absurd rfl z
      · cases z
  refine hs_ite (fun c => no (Or.inl (by have := o_eq c; omega))) (fun c => ?_)
  have c1 := o_ne c
  refine hs_ite (fun c => no (Or.inr (Or.inl (by have := o_lt c; omega)))) (fun c => ?_)
  have c2 := o_nlt c
  refine hs_ite (fun c => no (Or.inr (Or.inr (by have := o_lt c; omega)))) (fun c => ?_)
  have c3 := o_nlt c
  have ne : A ≠ B := fun z => by omega
  have mA := cM_b L I hA
  have mB := cM_b L I hB
  unfold J_X11_joins_30
  refine hs_bxv (hc_need L (x1 := 1)) (fun n d hn => ?_) (fun d hn => ?_)
  · rcases hn with ⟨z, _⟩ | ⟨_, _, z⟩
    · cases z
    · exact absurd z (by decide)
  rcases hn with ⟨_, e, _⟩ | ⟨z, _⟩
  rotate_left
  · cases z
  dsimp only at e
  rw [e]
  refine hs_at (fO_0_6 L) (hs_gd (fun _ => ?_))
  rw [tnH hx]
  refine hs_at (lk_e L hA) (hs_at (fO_0_6 L) (hs_gd (fun _ => ?_)))
  rw [tnH hy]
  refine hs_at (lk_e L hB) (hs_at (lk_0 L hB) (hs_at (lk_0 L hA) ?_))
  unfold D_X3_commonFrom
  refine hs_bind (h3_common L hN (m := (cM ad δ A).toNat) (lk_r L hA) (kk_3 L hB) (lk_r L hB) I (S B hB) (by show cM ad δ A = _; omega) (by omega) N 0 0 0 0 rfl (by omega) rfl (Nat.zero_le _) (Nat.le_refl _)) (fun r hr => ?_)
  obtain ⟨e, hc⟩ := hr
  rw [e]
  change r.1.toInt = ((0 : Nat) : Int) + ((cn (fun j => ME (cM ad δ B) (cR ad δ B) (cR ad δ A j)) 0 ((cM ad δ A).toNat - 0) : Nat) : Int) at hc
  rw [Nat.sub_zero] at hc
  have sy := cn_symM (S A hA) (S B hB) mA.1 mB.1
  have nB := cn_not (P := fun j => ME (cM ad δ A) (cR ad δ A) (cR ad δ B j)) (cM ad δ B).toNat 0
  have nA := cn_not (P := fun j => ME (cM ad δ B) (cR ad δ B) (cR ad δ A j)) (cM ad δ A).toNat 0
  have fin : ∀ {q : (Int32 ⊕ Nat) × dp}, (∃ w, q.1 = .inl w ∧ hJ3 ad τ x3.toInt A B δ w q.2) → hCJ ad τ x1 x2 x3 δ q.1 q.2 := fun {q} hq => Or.inr ⟨A, B, hA, hB, hx, hy, Or.inr ⟨ne, by omega, by omega, hq⟩⟩
  have hmA : (q_I δ 3 1 (Ad ad (76 + 6 * A))).toInt = cM ad δ A := rfl
  have hmB : (q_I δ 3 1 (Ad ad (76 + 6 * B))).toInt = cM ad δ B := rfl
  refine hs_ite (fun c => ?_) (fun c => ?_)
  · have c4 : x3.toInt = 0 := by rw [c]; rfl
    have jf : JF x3.toInt (cM ad δ A) (cR ad δ A) (cM ad δ B) (cR ad δ B) = cn (fun j => ¬ ME (cM ad δ A) (cR ad δ A) (cR ad δ B j)) 0 (cM ad δ B).toNat := by unfold JF; rw [if_pos c4]
    have t1 := te_sub (q_I δ 3 1 (Ad ad (76 + 6 * B))) r.1 (by omega) (by omega)
    unfold J_X11_joins_81
    refine hs_ite (fun c => by have := o_eq c; have z1 : (1 : Int32).toInt = 1 := rfl; omega) (fun _ => hs_ite (fun c => by have := o_eq c; omega) (fun _ => ?_))
    exact hs_mono (h2_113 L hN hA hB ne (HT A hA) I S bd (by omega) (by omega) (Or.inl ⟨c4, by rw [jf]; omega, rfl⟩) (by rw [jf]; omega)) (fun q hq => fin hq)
  · have c4 := o_ne c
    unfold J_X11_joins_81
    refine hs_ite (fun c5 => ?_) (fun c5 => ?_)
    · have c6 : x3.toInt = 1 := by rw [c5]; rfl
      have jf : JF x3.toInt (cM ad δ A) (cR ad δ A) (cM ad δ B) (cR ad δ B) = cn (fun j => ¬ ME (cM ad δ B) (cR ad δ B) (cR ad δ A j)) 0 (cM ad δ A).toNat := by unfold JF; rw [if_neg (by omega), if_pos c6]
      have t1 := te_sub (q_I δ 3 1 (Ad ad (76 + 6 * A))) r.1 (by omega) (by omega)
      refine hs_at (lk_0 L hA) ?_
      exact hs_mono (h2_113 L hN hA hB ne (HT A hA) I S bd (by omega) (by omega) (Or.inr ⟨by omega, rfl, by rw [jf]; omega⟩) (by rw [jf]; omega)) (fun q hq => fin hq)
    · have c6 := o_ne c5
      have z1 : (1 : Int32).toInt = 1 := rfl
      refine hs_ite (fun c7 => ?_) (fun c7 => by have := o_ne c7; omega)
      have c8 := o_eq c7
      have jf : JF x3.toInt (cM ad δ A) (cR ad δ A) (cM ad δ B) (cR ad δ B) = cn (fun j => ME (cM ad δ A) (cR ad δ A) (cR ad δ B j)) 0 (cM ad δ B).toNat := by unfold JF; rw [if_neg (by omega), if_neg (by omega)]
      exact hs_mono (h2_113 L hN hA hB ne (HT A hA) I S bd (by omega) (by omega) (Or.inr ⟨by omega, rfl, by rw [jf]; omega⟩) (by rw [jf]; omega)) (fun q hq => fin hq)
/-- what changes of two houses leave -/
def mf2 (ad : List Nat) (A B : Nat) (δ δ1 : dp) : Prop := (∀ c k a, c ≠ 1 → c ≠ 4 → ¬ (c = 3 ∧ k = 1 ∧ (a = Ad ad (76 + 6 * A) ∨ a = Ad ad (76 + 6 * B))) → ¬ (c = 2 ∧ k = 4 ∧ (a = Ad ad (75 + 6 * A) ∨ a = Ad ad (75 + 6 * B))) → q_I δ1 c k a = q_I δ c k a) ∧ (∀ b, b ≠ Ad ad 59 → b ≠ Ad ad (77 + 6 * A) → b ≠ Ad ad (78 + 6 * A) → b ≠ Ad ad (79 + 6 * A) → b ≠ Ad ad (77 + 6 * B) → b ≠ Ad ad (78 + 6 * B) → b ≠ Ad ad (79 + 6 * B) → q_R δ1 b = q_R δ b)
theorem mf2.r {ad : List Nat} {A B : Nat} {δ : dp} : mf2 ad A B δ δ := ⟨fun _ _ _ _ _ _ _ => rfl, fun _ _ _ _ _ _ _ _ => rfl⟩
theorem mf2.t {ad : List Nat} {A B : Nat} {δ δ1 δ2 : dp} (h : mf2 ad A B δ δ1) (k : mf2 ad A B δ1 δ2) : mf2 ad A B δ δ2 := ⟨fun c q a n1 n4 n2 n3 => (k.1 c q a n1 n4 n2 n3).trans (h.1 c q a n1 n4 n2 n3), fun b n0 n1 n2 n3 n4 n5 n6 => (k.2 b n0 n1 n2 n3 n4 n5 n6).trans (h.2 b n0 n1 n2 n3 n4 n5 n6)⟩
theorem mf2.A {ad : List Nat} {A B : Nat} {δ δ1 : dp} (h : mf ad A δ δ1) : mf2 ad A B δ δ1 := ⟨fun c q a n1 n4 n2 n3 => h.1 c q a n1 n4 (fun z => n2 ⟨z.1, z.2.1, Or.inl z.2.2⟩) (fun z => n3 ⟨z.1, z.2.1, Or.inl z.2.2⟩), fun b n0 n1 n2 n3 _ _ _ => h.2 b n0 n1 n2 n3⟩
theorem mf2.B {ad : List Nat} {A B : Nat} {δ δ1 : dp} (h : mf ad B δ δ1) : mf2 ad A B δ δ1 := ⟨fun c q a n1 n4 n2 n3 => h.1 c q a n1 n4 (fun z => n2 ⟨z.1, z.2.1, Or.inr z.2.2⟩) (fun z => n3 ⟨z.1, z.2.1, Or.inr z.2.2⟩), fun b n0 _ _ _ n4 n5 n6 => h.2 b n0 n4 n5 n6⟩
theorem sCl_o {ad : List Nat} {h : hp} (L : Lay TLx ad h) {H K : Nat} (hH : H < 4) (hK : K < 4) (n : K ≠ H) {δ d : dp} (m : mf ad H δ d) : sCl ad d K = sCl ad δ K := by
  obtain ⟨q1, q2, q3, q4, q5⟩ := (mf_o L hH m).1 K hK n
  unfold sCl
  rw [q1, q2, q3, q4, q5]
/-- from x on all go, and come to the other -/
theorem h2_134 {ad : List Nat} {h : hp} (L : Lay TLx ad h) {δ0 δb : dp} {N : Nat} (hN : 10000000 ≤ N) {A B : Nat} (hA : A < 4) (hB : B < 4) (ne : A ≠ B) {τ : TAU} (HA : HTc ad N h δ0 δb A τ) (HB : HTc ad N h δ0 δb B τ) {x1 x2 x3 x6 x7 : Int32} {cut n : Nat} (h6 : x6.toInt = (cut : Int)) (h7 : x7.toInt = (n : Int)) (hn : n ≤ 2000) {Y : Nat → Int} (hY : ∀ j, j < n → 0 ≤ Y j ∧ Y j ≤ 65536) (sY : ∀ i j : Nat, i < j → j < n → Y i < Y j) : ∀ (f i : Nat) (x9 x10 : Int32) (δ : dp), x10.toInt = (i : Int) → i ≤ n → CI ad h.1 δ0 δ → f5 ad δb δ → SR (cM ad δ A) (cR ad δ A) → SR (cM ad δ B) (cR ad δ B) → cM ad δ A = (cut : Int) + ((n - i : Nat) : Int) → (∀ j, i ≤ j → j < n → cR ad δ A (cut + (j - i)) = Y j) → cN ad δ A + ((n - i : Nat) : Int) ≤ 1000 → cM ad δ B + (cn (fun j => chg 0 (cM ad δ B) (cR ad δ B) (Y j)) i (n - i) : Nat) ≤ 2000 → cN ad δ B + (cn (fun j => chg 0 (cM ad δ B) (cR ad δ B) (Y j)) i (n - i) : Nat) ≤ 1000 → hs (L_X11_split_134 N h.1 (Ad ad 0) x1 x2 x3 f (Ad ad (75 + 6 * A)) (Ad ad (75 + 6 * B)) x6 x7 x9 x10 δ) (fun r => mf2 ad A B δ r.2 ∧ ∃ ts us, chn (stC τ) (lst 1 Y (n - i) i) (sCl ad δ A) (sCl ad r.2 A) ts ∧ chn (stC τ) (lst 0 Y (n - i) i) (sCl ad δ B) (sCl ad r.2 B) us ∧ r.1 = .inl (smt2 x9 ts us)) := by
  intro f
  induction f with
  | zero => intro i x9 x10 δ _ _ _ _ _ _ _ _ _ _ _; exact hs_none
  | succ f ih =>
    intro i x9 x10 δ h10 hi I F5 SA SB hM hR BA B1 B2
    unfold L_X11_split_134
    refine hs_ite (fun c => ?_) (fun c => ?_)
    · have c1 := o_le c
      rw [show n - i = 0 by omega]
      exact hs_some ⟨mf2.r, [], [], ⟨rfl, rfl⟩, ⟨rfl, rfl⟩, rfl⟩
    · have c1 := o_nle c
      have hi' : i < n := by omega
      refine hs_at (lk_0 L hA) (hs_bind (h3_at (x := x6) (lk_r L hA)) (fun r2 hr2 => ?_))
      obtain ⟨e2, at2⟩ := hr2
      change AT (cM ad δ A) (cR ad δ A) _ _ at at2
      have cp : cR ad δ A cut = Y i := by have := hR i (Nat.le_refl _) hi'; rw [show cut + (i - i) = cut by omega] at this; exact this
      have y2 : r2.1.toInt = Y i := by
        rcases at2 with ⟨q, q1, q2, q3⟩ | ⟨q1, _⟩
        · obtain rfl : q = cut := by omega
          rw [q3, cp]
        · exfalso; rw [hM] at q1; omega
      rw [e2]
      have hy := hY i hi'
      have me : ME (cM ad δ A) (cR ad δ A) r2.1.toInt := ⟨cut, by omega, by rw [y2]; exact cp⟩
      refine hs_bind (hs_and (h2_make L hN hA (x1 := 1) (x2 := r2.1) I SA (by decide) (by decide) (by omega) (by omega) (fun z => absurd z (by decide)) (fun _ => by omega)) (ok_h (k_X2_make L hN (x1 := 1) (x2 := r2.1) (kk_2 L hA) I))) (fun r4 hr4 => ?_)
      obtain ⟨⟨g1, ⟨d, g2⟩, g3⟩, I3, _⟩ := hr4
      have st := mk_st (τ := τ) g3 (HA 1 r2.1 δ d r4.1 I SA F5 g2)
      rw [show (1 : Int32).toInt = 1 from rfl, y2] at st
      have g3' := g3
      rcases g3' with ⟨z, _⟩ | ⟨z, _⟩ | ⟨_, z, _⟩ | ⟨_, _, ⟨q, Q, Q2, D⟩, nn⟩
      · exact absurd z (by decide)
      · exact absurd z (by decide)
      · exact absurd me z
      have qp : q = cut := by
        rcases (show q < cut ∨ q = cut ∨ cut < q by omega) with z | z | z
        · have := SA q cut z (by omega); omega
        · exact z
        · have := SA cut q z Q; omega
      subst qp
      have oB : sCl ad r4.2 B = sCl ad δ B := sCl_o L hA hB (fun z => ne z.symm) g1
      obtain ⟨b1, b2, b3, _, _⟩ := (mf_o L hA g1).1 B hB (fun z => ne z.symm)
      have F4 := F5.t (f5_mf g1)
      have SB4 : SR (cM ad r4.2 B) (cR ad r4.2 B) := by rw [b1, b2]; exact SB
      have B1' : (0 : Int) = 0 → cM ad r4.2 B + (cn (fun j => chg 0 (cM ad r4.2 B) (cR ad r4.2 B) (Y j)) i ((n - (i + 1)) + 1) : Nat) ≤ 2000 := fun _ => by rw [b1, b2, show (n - (i + 1)) + 1 = n - i by omega]; exact B1
      have B2' : cN ad r4.2 B + (cn (fun j => chg 0 (cM ad r4.2 B) (cR ad r4.2 B) (Y j)) i ((n - (i + 1)) + 1) : Nat) ≤ 1000 := by rw [b1, b2, b3, show (n - (i + 1)) + 1 = n - i by omega]; exact B2
      obtain ⟨R1, R2⟩ := room_0 B1' B2'
      refine hs_bind (hs_and (h2_make L hN hB (x1 := 0) (x2 := r2.1) I3 SB4 (by decide) (by decide) (by omega) (by omega) (fun z y => R1 rfl (by rw [← y2]; exact y)) (fun y => R2 (by rw [← y2]; exact y))) (ok_h (k_X2_make L hN (x1 := 0) (x2 := r2.1) (kk_2 L hB) I3))) (fun r5 hr5 => ?_)
      obtain ⟨⟨k1, ⟨d', k2⟩, k3⟩, I5, _⟩ := hr5
      have st5 := mk_st (τ := τ) k3 (HB 0 r2.1 r4.2 d' r5.1 I3 SB4 F4 k2)
      rw [show (0 : Int32).toInt = 0 from rfl, y2, oB] at st5
      rw [show (0 : Int32).toInt = 0 from rfl, y2] at k3
      have oA : sCl ad r5.2 A = sCl ad r4.2 A := sCl_o L hB hA ne k1
      obtain ⟨a1, a2, a3, _, _⟩ := (mf_o L hB k1).1 A hA ne
      obtain ⟨N1, N2⟩ := room_s k3 SB4 (fun j a b => by have := sY i j a (by omega); omega) B1' B2'
      refine hs_biv (fun x9' e9 => hs_biv (fun x10' e10 => ?_))
      have t10 := te_addc (c := 1) (n := 1) rfl x10 (by omega) (by omega)
      rw [← e10] at t10
      rw [show n - i = (n - (i + 1)) + 1 by omega]
      refine hs_mono (ih (i + 1) x9' x10' r5.2 (by omega) (by omega) I5 (F4.t (f5_mf k1)) (by rw [a1, a2]; exact mk_S g3 SA) (mk_S k3 SB4) (by rw [a1, D.1]; omega) (fun j a b => ?_) (by rw [a3, nn.1]; omega) (N1 rfl) N2) (fun r hr => ?_)
      · rw [a2, D.2 _ (by omega), if_neg (by omega), show q + (j - (i + 1)) + 1 = q + (j - i) by omega]
        exact hR j (by omega) b
      · obtain ⟨m, ts, us, t1, t2, t3⟩ := hr
        rw [oA] at t1
        exact ⟨((mf2.A g1).t (mf2.B k1)).t m, r4.1 :: ts, r5.1 :: us, ⟨_, _, _, st, t1, rfl⟩, ⟨_, _, _, st5, t2, rfl⟩, by rw [t3, e9]; rfl⟩
/-- what split of the class answers and leaves: p is the place of x in a -/
def hS3 (ad : List Nat) (τ : TAU) (p A B : Nat) (δ : dp) (w : Int32) (d : dp) : Prop :=
  let n := (cM ad δ A).toNat - p
  let fr := cn (fun j => ¬ ME (cM ad δ B) (cR ad δ B) (cR ad δ A (p + j))) 0 n
  (2000 < cM ad δ B + (fr : Int) ∧ w = -1 ∧ csm ad δ d) ∨
  (cM ad δ B + (fr : Int) ≤ 2000 ∧ (1000 < cN ad δ A + (n : Int) ∨ 1000 < cN ad δ B + (fr : Int)) ∧ w = -2 ∧ csm ad δ d) ∨
  (cM ad δ B + (fr : Int) ≤ 2000 ∧ cN ad δ A + (n : Int) ≤ 1000 ∧ cN ad δ B + (fr : Int) ≤ 1000 ∧ mf2 ad A B δ d ∧ ∃ ts us, chn (stC τ) (lst 1 (fun j => cR ad δ A (p + j)) n 0) (sCl ad δ A) (sCl ad d A) ts ∧ chn (stC τ) (lst 0 (fun j => cR ad δ A (p + j)) n 0) (sCl ad δ B) (sCl ad d B) us ∧ w = smt2 0 ts us)
def hCS (ad : List Nat) (τ : TAU) (x1 x2 x3 : Int32) (δ : dp) (v : Int32 ⊕ Nat) (d : dp) : Prop :=
  ((x1.toInt < 0 ∨ 3 < x1.toInt ∨ x2.toInt < 0 ∨ 3 < x2.toInt) ∧ v = .inr 0 ∧ csm ad δ d) ∨
  ∃ A B : Nat, A < 4 ∧ B < 4 ∧ x1.toInt = (A : Int) ∧ x2.toInt = (B : Int) ∧
    (((A = B ∨ x3.toInt < 0 ∨ scA ad δ ≤ x3.toInt) ∧ v = .inr 2 ∧ csm ad δ d) ∨ (A ≠ B ∧ 0 ≤ x3.toInt ∧ x3.toInt < scA ad δ ∧ ∃ (w : Int32) (p : Nat), v = .inl w ∧ PL (cM ad δ A) (cR ad δ A) x3.toInt p ∧ hS3 ad τ p A B δ w d))
theorem cn_sh {P : Nat → Prop} {p : Nat} : ∀ n k, cn P (p + k) n = cn (fun j => P (p + j)) k n := by
  intro n
  induction n with
  | zero => intro k; rfl
  | succ n ih =>
    intro k
    rw [cn_last, cn_last, ih k, Nat.add_assoc]
theorem hc_split {ad : List Nat} {h : hp} (L : Lay TLx ad h) {δ0 : dp} {N : Nat} (hN : 10000000 ≤ N) {τ : TAU} {x1 x2 x3 : Int32} {δ : dp} (HT : ∀ K, K < 4 → HTc ad N h δ0 δ K τ) (I : CI ad h.1 δ0 δ) (S : ∀ K, K < 4 → SR (cM ad δ K) (cR ad δ K)) (bd : Bd ad δ) : hs (D_X11_split N h.1 (Ad ad 0) x1 x2 x3 δ) (fun r => hCS ad τ x1 x2 x3 δ r.1 r.2) := by
  have z0 : (0 : Int32).toInt = 0 := rfl
  unfold D_X11_split
  refine hs_bxv (hc_needHouse L (x1 := x1)) (fun n d hn => ?_) (fun d hn => ?_)
  · rcases hn with ⟨z, _⟩ | ⟨z1, z2, z3⟩
    · cases z
    · exact Or.inl ⟨by omega, inrc z1, z2⟩
  rcases hn with ⟨_, e, A, hA, hx⟩ | ⟨z, _⟩
  rotate_left
  · cases z
  dsimp only at e
  rw [e]
  refine hs_bxv (hc_needHouse L (x1 := x2)) (fun n d hn => ?_) (fun d hn => ?_)
  · rcases hn with ⟨z, _⟩ | ⟨z1, z2, z3⟩
    · cases z
    · exact Or.inl ⟨by omega, inrc z1, z2⟩
  rcases hn with ⟨_, e, B, hB, hy⟩ | ⟨z, _⟩
  rotate_left
  · cases z
  dsimp only at e
  rw [e]
  have no : (A = B ∨ x3.toInt < 0 ∨ scA ad δ ≤ x3.toInt) → hs (J_X11_split_28 N h.1 (Ad ad 0) x1 x2 x3 (Ad ad 0) δ) (fun r => hCS ad τ x1 x2 x3 δ r.1 r.2) := fun hh => by
    unfold J_X11_split_28 J_X11_split_29
    refine hs_bxv (hc_need L (x1 := 0)) (fun n d hn => ?_) (fun d hn => ?_)
    · rcases hn with ⟨z, _⟩ | ⟨z1, z2, z3⟩
      · cases z
      · exact Or.inr ⟨A, B, hA, hB, hx, hy, Or.inl ⟨hh, inrc z1, z2⟩⟩
    · rcases hn with ⟨_, _, z⟩ | ⟨z, _⟩
      · exact absurd rfl z
      · cases z
  refine hs_ite (fun c => no (Or.inl (by have := o_eq c; omega))) (fun c => ?_)
  have c1 := o_ne c
  have ne : A ≠ B := fun z => by omega
  refine hs_bind (hc_isNumber L (x1 := x3) I) (fun r hr => ?_)
  obtain ⟨e, hq⟩ := hr
  rw [e]
  rcases hq with ⟨q1, q2, q3⟩ | ⟨q1, q2⟩
  rotate_left
  · rw [q1]
    exact hs_ite (fun _ => no (Or.inr q2)) (fun z => absurd rfl z)
  rw [q1]
  refine hs_ite (fun z => absurd z (by decide)) (fun _ => ?_)
  have mA := cM_b L I hA
  have mB := cM_b L I hB
  have nA := cN_b L I hA
  have nB := cN_b L I hB
  unfold J_X11_split_29
  refine hs_bxv (hc_need L (x1 := 1)) (fun n d hn => ?_) (fun d hn => ?_)
  · rcases hn with ⟨z, _⟩ | ⟨_, _, z⟩
    · cases z
    · exact absurd z (by decide)
  rcases hn with ⟨_, e, _⟩ | ⟨z, _⟩
  rotate_left
  · cases z
  dsimp only at e
  rw [e]
  refine hs_at (fO_0_6 L) (hs_gd (fun _ => ?_))
  rw [tnH hx]
  refine hs_at (lk_e L hA) (hs_at (fO_0_6 L) (hs_gd (fun _ => ?_)))
  rw [tnH hy]
  refine hs_at (lk_e L hB) (hs_at (lk_0 L hA) ?_)
  refine hs_bind (h3_first L hN (x := x3) (kk_3 L hA) (lk_r L hA) I (S A hA)) (fun r hr => ?_)
  obtain ⟨e, p, hp, P⟩ := hr
  change PL (cM ad δ A) (cR ad δ A) x3.toInt p at P
  rw [e]
  have pA := P.1
  have hmA : (q_I δ 3 1 (Ad ad (76 + 6 * A))).toInt = cM ad δ A := rfl
  refine hs_at (lk_0 L hA) (hs_biv (fun x7 e7 => ?_))
  have t1 := te_sub (q_I δ 3 1 (Ad ad (76 + 6 * A))) r.1 (by omega) (by omega)
  rw [← e7] at t1
  generalize hnn : (cM ad δ A).toNat - p = n
  have h7 : x7.toInt = (n : Int) := by omega
  refine hs_at (lk_0 L hA) (hs_at (lk_0 L hB) ?_)
  unfold D_X3_commonFrom
  refine hs_bind (h3_common L hN (m := (cM ad δ A).toNat) (lk_r L hA) (kk_3 L hB) (lk_r L hB) I (S B hB) (by show cM ad δ A = _; omega) (by omega) N p 0 0 r.1 rfl (by omega) hp (by omega) (Nat.zero_le _)) (fun r3 hr3 => ?_)
  obtain ⟨e3, hc⟩ := hr3
  rw [e3]
  change r3.1.toInt = ((0 : Nat) : Int) + ((cn (fun j => ME (cM ad δ B) (cR ad δ B) (cR ad δ A j)) p ((cM ad δ A).toNat - p) : Nat) : Int) at hc
  rw [hnn] at hc
  have sh := cn_sh (P := fun j => ME (cM ad δ B) (cR ad δ B) (cR ad δ A j)) (p := p) n 0
  rw [Nat.add_zero] at sh
  rw [sh] at hc
  have nn := cn_not (P := fun j => ME (cM ad δ B) (cR ad δ B) (cR ad δ A (p + j))) n 0
  generalize hfr : cn (fun j => ¬ ME (cM ad δ B) (cR ad δ B) (cR ad δ A (p + j))) 0 n = fr at nn
  have t2 := te_sub x7 r3.1 (by omega) (by omega)
  have fin : ∀ (w : Int32) (d : dp), hS3 ad τ p A B δ w d → hCS ad τ x1 x2 x3 δ (.inl w) d := fun w d hq => Or.inr ⟨A, B, hA, hB, hx, hy, Or.inr ⟨ne, q2, q3, w, p, rfl, P, hq⟩⟩
  have un : ∀ (w : Int32) (d : dp), hS3 ad τ p A B δ w d ↔ ((2000 < cM ad δ B + (fr : Int) ∧ w = -1 ∧ csm ad δ d) ∨ (cM ad δ B + (fr : Int) ≤ 2000 ∧ (1000 < cN ad δ A + (n : Int) ∨ 1000 < cN ad δ B + (fr : Int)) ∧ w = -2 ∧ csm ad δ d) ∨ (cM ad δ B + (fr : Int) ≤ 2000 ∧ cN ad δ A + (n : Int) ≤ 1000 ∧ cN ad δ B + (fr : Int) ≤ 1000 ∧ mf2 ad A B δ d ∧ ∃ ts us, chn (stC τ) (lst 1 (fun j => cR ad δ A (p + j)) n 0) (sCl ad δ A) (sCl ad d A) ts ∧ chn (stC τ) (lst 0 (fun j => cR ad δ A (p + j)) n 0) (sCl ad δ B) (sCl ad d B) us ∧ w = smt2 0 ts us)) := fun w d => by
    unfold hS3
    dsimp only
    rw [hnn, hfr]
  refine hs_bind (h2_refusal L hB (x1 := x7 - r3.1) (x2 := 0) I (by omega) (by omega) (by omega) (by omega)) (fun r4 hr4 => ?_)
  obtain ⟨e4, hq4⟩ := hr4
  rw [e4]
  rcases hq4 with ⟨k1, k2, k3⟩ | ⟨k1, k2, k3⟩ | ⟨k1, k3⟩
  · rw [k3]
    refine hs_ite (fun _ => ?_) (fun z => absurd rfl z)
    refine hs_bind (h2_refusal L hA (x1 := 0) (x2 := x7) I (by omega) (by omega) (by omega) (by omega)) (fun r5 hr5 => ?_)
    obtain ⟨e5, hq5⟩ := hr5
    rw [e5]
    unfold J_X11_split_113
    rcases hq5 with ⟨l1, l2, l3⟩ | ⟨l1, l2, l3⟩ | ⟨l1, l3⟩
    · rw [l3]
      refine hs_ite (fun _ => ?_) (fun z => absurd (by decide) z)
      refine hs_at (fO_0_8 L) (hs_bind (hs_and (csm_forget (ad := ad)) (ok_h (k_X4_forget L hN (a0 := Ad ad 13) ((lay_knd L (by decide)).trans (by decide)) I))) (fun d0 h0 => ?_))
      obtain ⟨c0, I0, _⟩ := h0
      have k0 := csk_m L c0
      obtain ⟨a1, a2, a3, a4, _⟩ := k0.1 A hA
      obtain ⟨b1, b2, b3, b4, _⟩ := k0.1 B hB
      have F0 : f5 ad δ d0 := fun k => c0.1 5 k _ (by decide) (by decide)
      have jc : cn (fun j => chg 0 (cM ad d0 B) (cR ad d0 B) (cR ad δ A (p + j))) 0 (n - 0) = fr := by
        rw [← hfr, b1, b2]
        exact cn_congr _ 0 (fun j _ _ => ⟨fun z => z.mp rfl, fun z => ⟨fun _ => z, fun _ => rfl⟩⟩)
      refine hs_mono (h2_134 L hN hA hB ne (HT A hA) (HT B hB) (Y := fun j => cR ad δ A (p + j)) hp h7 (by omega) (fun j hj => bd A hA (p + j) (by omega)) (fun i j a b => S A hA (p + i) (p + j) (by omega) (by omega)) N 0 0 0 d0 rfl (Nat.zero_le _) I0 F0 (by rw [a1, a2]; exact S A hA) (by rw [b1, b2]; exact S B hB) (by rw [a1]; omega) (fun j _ hj => by rw [a2]; rfl) (by rw [a3]; omega) (by rw [jc, b1]; omega) (by rw [jc, b3]; omega)) (fun q hq => ?_)
      obtain ⟨m, ts, us, t3, t4, t5⟩ := hq
      obtain ⟨q0, qd⟩ := q
      dsimp only at m t3 t4 t5 ⊢
      rw [t5]
      refine fin _ _ ((un _ _).mpr (Or.inr (Or.inr ⟨by omega, by omega, by omega, (mf2.A (csm_mf c0)).t m, ts, us, ?_, ?_, rfl⟩)))
      · rw [← csm_s L c0 hA]; exact t3
      · rw [← csm_s L c0 hB]; exact t4
    · rw [l3]
      exact hs_ite (fun z => absurd z (by decide)) (fun _ => hs_some (fin _ _ ((un _ _).mpr (Or.inr (Or.inl ⟨by omega, Or.inl (by omega), rfl, csm.r⟩)))))
    · exfalso; omega
  · rw [k3]
    refine hs_ite (fun z => absurd z (by decide)) (fun _ => ?_)
    unfold J_X11_split_113
    exact hs_ite (fun z => absurd z (by decide)) (fun _ => hs_some (fin _ _ ((un _ _).mpr (Or.inr (Or.inl ⟨by omega, Or.inr (by omega), rfl, csm.r⟩)))))
  · rw [k3]
    refine hs_ite (fun z => absurd z (by decide)) (fun _ => ?_)
    unfold J_X11_split_113
    exact hs_ite (fun z => absurd z (by decide)) (fun _ => hs_some (fin _ _ ((un _ _).mpr (Or.inl ⟨by omega, rfl, csm.r⟩))))
