/-! the class's rows: what is asked of them, what comes and goes -/
theorem h3_first {ad : List Nat} {h : hp} (L : Lay TLx ad h) {δ0 : dp} {N : Nat} (hN : 10000000 ≤ N) {a b : Nat} {x : Int32} (ka : q_K h.1 a = 3) (hb : q_O h.1 3 0 a = some b) {δ : dp} (I : CI ad h.1 δ0 δ) (S : SR (mM δ a) (mR δ b)) : hs (D_X3_firstFrom N h.1 a x δ) (fun r => r.2 = δ ∧ ∃ p : Nat, r.1.toInt = (p : Int) ∧ PL (mM δ a) (mR δ b) x.toInt p) := ok_h (f_firstFrom L hN ka hb I S)
theorem h3_at {N : Nat} {g : gp} {a b : Nat} {x : Int32} (hb : q_O g 3 0 a = some b) {δ : dp} : hs (D_X3_at N g a x δ) (fun r => r.2 = δ ∧ AT (mM δ a) (mR δ b) x.toInt r.1.toInt) := by
  have z0 : (0 : Int32).toInt = 0 := rfl
  unfold D_X3_at J_X3_at_12 J_X3_at_22
  refine hs_ite (fun c => ?_) (fun c => ?_)
  · have c1 := o_lt c
    exact hs_some ⟨rfl, Or.inr ⟨Or.inl (by omega), rfl⟩⟩
  · have c1 := o_nlt c
    refine hs_ite (fun d => ?_) (fun d => ?_)
    · have d1 := o_lt d
      have tx := ti_tn x
      exact hs_at hb (hs_gd (fun _ => hs_some ⟨rfl, Or.inl ⟨x.toNatClampNeg, by omega, by unfold mM; omega, rfl⟩⟩))
    · exact hs_some ⟨rfl, Or.inr ⟨Or.inr (o_nlt d), rfl⟩⟩
theorem h3_holds {ad : List Nat} {h : hp} (L : Lay TLx ad h) {δ0 : dp} {N : Nat} (hN : 10000000 ≤ N) {a b : Nat} {x : Int32} (ka : q_K h.1 a = 3) (hb : q_O h.1 3 0 a = some b) {δ : dp} (I : CI ad h.1 δ0 δ) (S : SR (mM δ a) (mR δ b)) : hs (D_X3_holds N h.1 a x δ) (fun r => r.2 = δ ∧ ((r.1 = 1 ∧ ME (mM δ a) (mR δ b) x.toInt) ∨ (r.1 = 0 ∧ ¬ ME (mM δ a) (mR δ b) x.toInt))) := by
  unfold D_X3_holds
  refine hs_bind (h3_first L hN (x := x) ka hb I S) (fun r hr => ?_)
  obtain ⟨e, p, hp, P⟩ := hr
  rw [e]
  have PM := PL_m S P
  have tp := ti_tn r.1
  refine hs_ite (fun c => ?_) (fun c => ?_)
  · have c1 := o_le c
    unfold J_X3_holds_28 J_X3_holds_29
    exact hs_gp (fun _ => hs_some ⟨rfl, Or.inr ⟨rfl, fun z => by have := (PM.mp z).1; unfold mM at this; omega⟩⟩)
  · have c1 := o_nle c
    refine hs_at hb (hs_gd (fun _ => ?_))
    have ep : r.1.toNatClampNeg = p := by omega
    rw [ep]
    refine hs_ite (fun z => ?_) (fun z => ?_)
    · unfold J_X3_holds_29
      exact hs_gp (fun _ => hs_some ⟨rfl, Or.inl ⟨rfl, PM.mpr ⟨by unfold mM; omega, congrArg Int32.toInt z⟩⟩⟩)
    · unfold J_X3_holds_28 J_X3_holds_29
      exact hs_gp (fun _ => hs_some ⟨rfl, Or.inr ⟨rfl, fun y => z (i_eq (PM.mp y).2)⟩⟩)
theorem h3_above {ad : List Nat} {h : hp} (L : Lay TLx ad h) {δ0 : dp} {N : Nat} (hN : 10000000 ≤ N) {a b : Nat} {x : Int32} (ka : q_K h.1 a = 3) (hb : q_O h.1 3 0 a = some b) {δ : dp} (I : CI ad h.1 δ0 δ) (S : SR (mM δ a) (mR δ b)) (h1 : x.toInt < 2147483647) : hs (D_X3_above N h.1 a x δ) (fun r => r.2 = δ ∧ aAb (mM δ a) (mR δ b) x.toInt r.1.toInt) := by
  have bx := ti_b x
  have t := te_addc (c := 1) (n := 1) rfl x (by omega) (by omega)
  unfold D_X3_above
  refine hs_bind (h3_first L hN (x := x + 1) ka hb I S) (fun r hr => ?_)
  obtain ⟨e, p, hp, P⟩ := hr
  rw [e]
  refine hs_bind (h3_at (x := r.1) hb) (fun r2 h2 => hs_some ⟨h2.1, p, ?_, ?_⟩)
  · rw [t.1] at P; exact P
  · rw [← hp]; exact h2.2
theorem h3_below {ad : List Nat} {h : hp} (L : Lay TLx ad h) {δ0 : dp} {N : Nat} (hN : 10000000 ≤ N) {a b : Nat} {x : Int32} (ka : q_K h.1 a = 3) (hb : q_O h.1 3 0 a = some b) {δ : dp} (I : CI ad h.1 δ0 δ) (S : SR (mM δ a) (mR δ b)) : hs (D_X3_below N h.1 a x δ) (fun r => r.2 = δ ∧ aBe (mM δ a) (mR δ b) x.toInt r.1.toInt) := by
  unfold D_X3_below
  refine hs_bind (h3_first L hN (x := x) ka hb I S) (fun r hr => ?_)
  obtain ⟨e, p, hp, P⟩ := hr
  rw [e]
  have br := ti_b r.1
  have t := te_subc (c := 1) (n := 1) rfl r.1 (by omega) (by omega)
  refine hs_bind (h3_at (x := r.1 - 1) hb) (fun r2 h2 => hs_some ⟨h2.1, p, P, ?_⟩)
  rw [← hp, ← t.1]; exact h2.2
theorem h3_tell {ad : List Nat} {h : hp} {δ0 : dp} {N : Nat} {a b : Nat} {x : Int32} (ka : q_K h.1 a = 3) (hb : q_O h.1 3 0 a = some b) {δ : dp} (I : CI ad h.1 δ0 δ) : hs (D_X3_tell N h.1 a x δ) (fun r => r.2 = δ ∧ aTe (mM δ a) (mR δ b) x.toInt r.1.toInt) := by
  have z0 : (0 : Int32).toInt = 0 := rfl
  have z1 : (1 : Int32).toInt = 1 := rfl
  have hB := cb_3_1 I ka hb
  have bm := ti_b (q_I δ 3 1 a)
  have t := te_subc (c := 1) (n := 1) rfl (q_I δ 3 1 a) (by omega) (by omega)
  unfold D_X3_tell J_X3_tell_34
  refine hs_ite (fun c => ?_) (fun c => ?_)
  · exact hs_some ⟨rfl, Or.inl ⟨by rw [c]; rfl, rfl⟩⟩
  · have c1 := o_ne c
    refine hs_ite (fun d => ?_) (fun d => ?_)
    · exact hs_bind (h3_at (x := 0) hb) (fun r2 h2 => hs_some ⟨h2.1, Or.inr (Or.inl ⟨by rw [d]; rfl, h2.2⟩)⟩)
    · have d1 := o_ne d
      refine hs_bind (h3_at (x := q_I δ 3 1 a - 1) hb) (fun r2 h2 => hs_some ⟨h2.1, Or.inr (Or.inr ⟨by omega, by omega, ?_⟩)⟩)
      have h3 := h2.2
      rw [t.1] at h3
      exact h3
/-- what add and remove leave -/
def fr3 (a b : Nat) (δ δ1 : dp) : Prop := (∀ c k a', ¬ (c = 3 ∧ k = 1 ∧ a' = a) → q_I δ1 c k a' = q_I δ c k a') ∧ ∀ b', b' ≠ b → q_R δ1 b' = q_R δ b'
theorem fr3.r {a b : Nat} {δ : dp} : fr3 a b δ δ := ⟨fun _ _ _ _ => rfl, fun _ _ => rfl⟩
theorem fr3.t {a b : Nat} {δ δ1 δ2 : dp} (h : fr3 a b δ δ1) (k : fr3 a b δ1 δ2) : fr3 a b δ δ2 := ⟨fun c q a' n => (k.1 c q a' n).trans (h.1 c q a' n), fun b' n => (k.2 b' n).trans (h.2 b' n)⟩
theorem fr3.M {a b : Nat} {δ δ1 : dp} {v : Int32} (e : δ1 = s_I δ 3 1 a v) : fr3 a b δ δ1 := ⟨fun c k a' n => by rw [e, qI_sI, if_neg n], fun _ _ => by rw [e]; rfl⟩
theorem fr3.R {a b : Nat} {δ δ1 : dp} {i : Nat} {v : Int32} (e : δ1 = s_R δ b i v) : fr3 a b δ δ1 := ⟨fun c k a' n => by rw [e]; rfl, fun b' n => by rw [e]; exact rR_o n⟩
theorem fr3.C {a b c0 : Nat} {δ δ1 : dp} {i j n : Nat} (e : δ1 = s_C δ c0 b i j n) : fr3 a b δ δ1 := ⟨fun c k a' n => by rw [e]; rfl, fun b' n => by rw [e]; exact va_up_ne _ _ n⟩
theorem g3_add {ad : List Nat} {h : hp} (L : Lay TLx ad h) {δ0 : dp} {N : Nat} (hN : 10000000 ≤ N) {a b : Nat} {x : Int32} (ka : q_K h.1 a = 3) (hb : q_O h.1 3 0 a = some b) {δ : dp} (I : CI ad h.1 δ0 δ) : hs (D_X3_add N h.1 a x δ) (fun r => fr3 a b δ r.2) := by
  have J : ∀ y, hs (J_X3_add_24 N h.1 a x y δ) (fun r => fr3 a b δ r.2) := by
    intro y
    unfold J_X3_add_24
    refine hs_at hb (hs_ite (fun c => ?_) (fun c => ?_))
    · refine hs_at hb (hs_at hb (hs_gd (fun _ => hs_bdv (fun d1 e1 => hs_at hb (hs_gd (fun _ => hs_bdv (fun d2 e2 => hs_bdv (fun d3 e3 => ?_))))))))
      exact hs_gp (fun _ => hs_some (((fr3.C e1).t (fr3.R e2)).t (fr3.M e3)))
    · unfold J_X3_add_36
      exact hs_gp (fun _ => hs_some fr3.r)
  unfold D_X3_add
  refine hs_bind (ok_h (k_X3_firstFrom L hN (x1 := x) ka I)) (fun r hr => ?_)
  rw [hr.1]
  refine hs_ite (fun c => J _) (fun c => hs_at hb (hs_gd (fun _ => hs_ite (fun _ => ?_) (fun _ => J _))))
  unfold J_X3_add_36
  exact hs_gp (fun _ => hs_some fr3.r)
theorem g3_remove {ad : List Nat} {h : hp} (L : Lay TLx ad h) {δ0 : dp} {N : Nat} (hN : 10000000 ≤ N) {a b : Nat} {x : Int32} (ka : q_K h.1 a = 3) (hb : q_O h.1 3 0 a = some b) {δ : dp} (I : CI ad h.1 δ0 δ) : hs (D_X3_remove N h.1 a x δ) (fun r => fr3 a b δ r.2) := by
  have J : hs (J_X3_remove_24 N h.1 a x δ) (fun r => fr3 a b δ r.2) := by
    unfold J_X3_remove_24
    exact hs_gp (fun _ => hs_some fr3.r)
  unfold D_X3_remove
  refine hs_bind (ok_h (k_X3_firstFrom L hN (x1 := x) ka I)) (fun r hr => ?_)
  rw [hr.1]
  refine hs_ite (fun c => J) (fun c => hs_at hb (hs_gd (fun _ => hs_ite (fun _ => ?_) (fun _ => J))))
  refine hs_bdv (fun d1 e1 => hs_at hb (hs_at hb (hs_gd (fun _ => hs_bdv (fun d2 e2 => ?_)))))
  exact hs_gp (fun _ => hs_some ((fr3.M e1).t (fr3.C e2)))
theorem IN_of {δ δ1 : dp} {a b p : Nat} {x : Int32} (H : ins δ δ1 a b x p) : IN (mM δ a) (mR δ b) x.toInt p (mM δ1 a) (mR δ1 b) := ⟨H.1, fun i hi => by
  show (q_R δ1 b i).toInt = _
  rw [H.2 i hi]
  by_cases c : i < p
  · rw [if_pos c, if_pos c]; rfl
  · rw [if_neg c, if_neg c]
    by_cases c2 : i = p
    · rw [if_pos c2, if_pos c2]
    · rw [if_neg c2, if_neg c2]; rfl⟩
theorem DE_of {δ δ1 : dp} {a b p : Nat} (H : del δ δ1 a b p) : DE (mM δ a) (mR δ b) p (mM δ1 a) (mR δ1 b) := ⟨H.1, fun i hi => by
  show (q_R δ1 b i).toInt = _
  rw [H.2 i hi]
  by_cases c : i < p
  · rw [if_pos c, if_pos c]; rfl
  · rw [if_neg c, if_neg c]; rfl⟩
/-- add: it was there (or there is no place), or it comes -/
theorem h3_add {ad : List Nat} {h : hp} (L : Lay TLx ad h) {δ0 : dp} {N : Nat} (hN : 10000000 ≤ N) {a b : Nat} {x : Int32} (ka : q_K h.1 a = 3) (hb : q_O h.1 3 0 a = some b) {δ : dp} (I : CI ad h.1 δ0 δ) (S : SR (mM δ a) (mR δ b)) : hs (D_X3_add N h.1 a x δ) (fun r => fr3 a b δ r.2 ∧ CI ad h.1 δ0 r.2 ∧ q_V r.2 = q_V δ ∧ ((r.1 = 0 ∧ r.2 = δ ∧ ((q_N h.1 b : Int) ≤ mM δ a ∨ ME (mM δ a) (mR δ b) x.toInt)) ∨ (r.1 = 1 ∧ ¬ ME (mM δ a) (mR δ b) x.toInt ∧ ∃ p : Nat, PL (mM δ a) (mR δ b) x.toInt p ∧ IN (mM δ a) (mR δ b) x.toInt p (mM r.2 a) (mR r.2 b)))) := by
  refine hs_mono (hs_and (hs_and (g3_add L hN (x := x) ka hb I) (ok_h (k_X3_add L hN (x1 := x) ka I))) (ok_h (f_add L hN (x := x) ka hb I S))) (fun r hr => ?_)
  obtain ⟨⟨h1, h2, ⟨_, h3⟩, _⟩, h4⟩ := hr
  refine ⟨h1, h2, h3, ?_⟩
  rcases h4 with ⟨e1, e2, e3⟩ | ⟨e1, p, P, ne, H⟩
  · refine Or.inl ⟨e1, e2, ?_⟩
    rcases e3 with e3 | ⟨p, P, e4, e5⟩
    · exact Or.inl e3
    · exact Or.inr ⟨p, e4, congrArg Int32.toInt e5⟩
  · refine Or.inr ⟨e1, fun z => ?_, p, P, IN_of H⟩
    obtain ⟨z1, z2⟩ := (PL_m S P).mp z
    exact ne z1 (i_eq z2)
theorem h3_remove {ad : List Nat} {h : hp} (L : Lay TLx ad h) {δ0 : dp} {N : Nat} (hN : 10000000 ≤ N) {a b : Nat} {x : Int32} (ka : q_K h.1 a = 3) (hb : q_O h.1 3 0 a = some b) {δ : dp} (I : CI ad h.1 δ0 δ) (S : SR (mM δ a) (mR δ b)) : hs (D_X3_remove N h.1 a x δ) (fun r => fr3 a b δ r.2 ∧ CI ad h.1 δ0 r.2 ∧ q_V r.2 = q_V δ ∧ ((r.1 = 0 ∧ r.2 = δ ∧ ¬ ME (mM δ a) (mR δ b) x.toInt) ∨ (r.1 = 1 ∧ ∃ p : Nat, (p : Int) < mM δ a ∧ mR δ b p = x.toInt ∧ DE (mM δ a) (mR δ b) p (mM r.2 a) (mR r.2 b)))) := by
  refine hs_mono (hs_and (hs_and (g3_remove L hN (x := x) ka hb I) (ok_h (k_X3_remove L hN (x1 := x) ka I))) (ok_h (f_remove L hN (x := x) ka hb I S))) (fun r hr => ?_)
  obtain ⟨⟨h1, h2, ⟨_, h3⟩, _⟩, h4⟩ := hr
  refine ⟨h1, h2, h3, ?_⟩
  rcases h4 with ⟨e1, e2, p, P, ne⟩ | ⟨e1, p, P, e4, e5, H⟩
  · refine Or.inl ⟨e1, e2, fun z => ?_⟩
    obtain ⟨z1, z2⟩ := (PL_m S P).mp z
    exact ne z1 (i_eq z2)
  · exact Or.inr ⟨e1, p, e4, congrArg Int32.toInt e5, DE_of H⟩
/-- answers of has, next, before -/
theorem h3_answer {ad : List Nat} {h : hp} (L : Lay TLx ad h) {δ0 : dp} {N : Nat} (hN : 10000000 ≤ N) {a b : Nat} {c x : Int32} (ka : q_K h.1 a = 3) (hb : q_O h.1 3 0 a = some b) {δ : dp} (I : CI ad h.1 δ0 δ) (S : SR (mM δ a) (mR δ b)) (h1 : x.toInt < 2147483647) (h2 : 2 ≤ c.toInt) : hs (D_X3_answer N h.1 a c x δ) (fun r => r.2 = δ ∧ aAn (mM δ a) (mR δ b) c.toInt x.toInt r.1.toInt) := by
  have z0 : (0 : Int32).toInt = 0 := rfl
  have z1 : (1 : Int32).toInt = 1 := rfl
  have z3 : (3 : Int32).toInt = 3 := rfl
  have z4 : (4 : Int32).toInt = 4 := rfl
  unfold D_X3_answer
  refine hs_ite (fun e => ?_) (fun e => ?_)
  · have e1 := o_eq e
    exact hs_bind (h3_above L hN (x := x) ka hb I S h1) (fun r hr => hs_some ⟨hr.1, Or.inl ⟨by omega, hr.2⟩⟩)
  · have e1 := o_ne e
    refine hs_ite (fun f => ?_) (fun f => ?_)
    · have f1 := o_eq f
      exact hs_bind (h3_below L hN (x := x) ka hb I S) (fun r hr => hs_some ⟨hr.1, Or.inr (Or.inl ⟨by omega, hr.2⟩)⟩)
    · have f1 := o_ne f
      refine hs_ite (fun k => by have := o_eq k; omega) (fun _ => hs_ite (fun k => by have := o_eq k; omega) (fun _ => ?_))
      refine hs_bind (h3_holds L hN (x := x) ka hb I S) (fun r hr => ?_)
      obtain ⟨q, hm⟩ := hr
      unfold J_X3_answer_52 J_X3_answer_62
      rcases hm with ⟨w, hm⟩ | ⟨w, hm⟩
      · rw [w]
        refine hs_ite (fun z => absurd z (by decide)) (fun _ => ?_)
        exact hs_some ⟨q, Or.inr (Or.inr ⟨by omega, by omega, Or.inl ⟨rfl, hm⟩⟩)⟩
      · rw [w]
        refine hs_ite (fun _ => ?_) (fun z => absurd rfl z)
        exact hs_some ⟨q, Or.inr (Or.inr ⟨by omega, by omega, Or.inr ⟨rfl, hm⟩⟩)⟩
