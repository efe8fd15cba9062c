/-! the reference: refusals, what is asked, put and drop -/
theorem hr_within {ad : List Nat} {h : hp} (L : Lay TLx ad h) {δ0 : dp} {N : Nat} (hNN : 10000000 ≤ N) {x0 x1 x2 : Int32} {δ : dp} (I : RI ad h.1 δ0 δ) : hs (D_X12_within N h.1 x0 x1 x2 δ) (fun r => r.2 = δ ∧ ((r.1 = 1 ∧ x1.toInt ≤ x0.toInt ∧ x0.toInt ≤ x2.toInt) ∨ (r.1 = 0 ∧ (x0.toInt < x1.toInt ∨ x2.toInt < x0.toInt)))) := by
  refine hs_mono (ok_h (k_X12_within L hNN (x0 := x0) (x1 := x1) (x2 := x2) I)) (fun r hr => ?_)
  obtain ⟨e, b, g1, g2⟩ := hr
  refine ⟨e, ?_⟩
  rcases b with b | b
  · exact Or.inr ⟨b, g2 (by rw [b]; rfl)⟩
  · exact Or.inl ⟨b, g1 (by rw [b]; rfl)⟩
theorem hr_may {ad : List Nat} {h : hp} (L : Lay TLx ad h) {N : Nat} {a0 : Nat} {x1 x2 x3 : Int32} (ka : q_K h.1 a0 = 12) {δ : dp} (t0 : q_I δ 12 0 a0 = 0) (c0 : x2 ≠ 0) : hs (D_X12_may N h.1 a0 x1 x2 x3 δ) (fun r => (x1 ≠ 0 ∧ r.1 = 1 ∧ r.2 = δ) ∨ (x1 = 0 ∧ r.1 = 0 ∧ q_I r.2 12 0 a0 = x2 ∧ kr ad [100] δ r.2)) := by
  obtain ⟨b1, o1, _⟩ := gO_12_1 L ka
  obtain rfl := gS_12_1 L ka o1
  unfold D_X12_may
  refine hs_ite (fun c => ?_) (fun c => ?_)
  · refine hs_ite (fun _ => ?_) (fun z => absurd t0 z)
    refine hs_bdv (fun d1 e1 => hs_at o1 (hs_gd (fun _ => hs_gd (fun _ => hs_bdv (fun d2 e2 => ?_)))))
    have t2 : q_I d2 12 0 a0 = x2 := by rw [e2]; show q_I d1 12 0 a0 = x2; rw [e1, rI_s]
    unfold J_X12_may_26 J_X12_may_38
    refine hs_ite (fun z => absurd (t2.symm.trans z) c0) (fun _ => hs_gp (fun _ => hs_some (Or.inr ⟨c, rfl, t2, fun i h1 h2 h3 => ?_⟩)))
    rw [e2, rR_o (ad_ne L (by omega) (by decide) (fun z => h3 (by rw [z]; exact List.mem_cons_self))), e1]; rfl
  · unfold J_X12_may_26 J_X12_may_38
    refine hs_ite (fun _ => hs_gp (fun _ => hs_some (Or.inl ⟨c, rfl, rfl⟩))) (fun z => absurd t0 z)
theorem hr_isHouse {ad : List Nat} {h : hp} (L : Lay TLx ad h) {δ0 : dp} {N : Nat} (hNN : 10000000 ≤ N) {a0 : Nat} {x1 x2 : Int32} (ka : q_K h.1 a0 = 12) {δ : dp} (I : RI ad h.1 δ0 δ) (t0 : q_I δ 12 0 a0 = 0) (c0 : x2 ≠ 0) : hs (D_X12_isHouse N h.1 a0 x1 x2 δ) (fun r => (r.1 = 1 ∧ r.2 = δ ∧ ∃ H : Nat, H < 4 ∧ x1.toInt = (H : Int)) ∨ (r.1 = 0 ∧ (x1.toInt < 0 ∨ 3 < x1.toInt) ∧ q_I r.2 12 0 a0 = x2 ∧ kr ad [100] δ r.2)) := by
  have z3 : (3 : Int32).toInt = 3 := rfl
  have z0 : (0 : Int32).toInt = 0 := rfl
  unfold D_X12_isHouse
  refine hs_bind (hr_within L hNN (x0 := x1) (x1 := 0) (x2 := 3) I) (fun r hr => ?_)
  obtain ⟨e, hq⟩ := hr
  rw [e]
  refine hs_bind (hr_may L (x1 := r.1) (x2 := x2) (x3 := 0) ka t0 c0) (fun r2 h2 => hs_gp (fun _ => hs_some ?_))
  rcases h2 with ⟨n, e1, e2⟩ | ⟨n, e1, e2, e3⟩
  · rcases hq with ⟨_, q2, q3⟩ | ⟨q1, _⟩
    · exact Or.inl ⟨e1, e2, x1.toInt.toNat, by omega, by omega⟩
    · exact absurd q1 n
  · rcases hq with ⟨q1, _⟩ | ⟨_, q2⟩
    · rw [q1] at n; exact absurd n (by decide)
    · exact Or.inr ⟨e1, by omega, e2, e3⟩
theorem hr_isNumber {ad : List Nat} {h : hp} (L : Lay TLx ad h) {δ0 : dp} {N : Nat} (hNN : 10000000 ≤ N) {a0 : Nat} {x1 : Int32} (ka : q_K h.1 a0 = 12) {δ : dp} (I : RI ad h.1 δ0 δ) : hs (D_X12_isNumber N h.1 a0 x1 δ) (fun r => r.2 = δ ∧ ((r.1 = 1 ∧ 0 ≤ x1.toInt ∧ x1.toInt < shA a0 δ) ∨ (r.1 = 0 ∧ (x1.toInt < 0 ∨ shA a0 δ ≤ x1.toInt)))) := by
  have e0 : (0 : Int32).toInt = 0 := rfl
  have ab := all_b ka I
  unfold D_X12_isNumber
  rw [e_all, Option.bind_some]
  have t1 := te_subc (c := 1) (n := 1) rfl ((1 : Int32) <<< ((q_I δ 12 10 a0) &&& 31)) (by omega) (by omega)
  refine hs_bind (hr_within L hNN (x0 := x1) (x1 := 0) (x2 := (1 : Int32) <<< ((q_I δ 12 10 a0) &&& 31) - 1) I) (fun r hr => ?_)
  obtain ⟨e, hq⟩ := hr
  rw [e]
  refine hs_gp (fun _ => hs_some ⟨rfl, ?_⟩)
  rcases hq with ⟨q1, q2, q3⟩ | ⟨q1, q2⟩
  · exact Or.inl ⟨q1, by omega, by show _ < ((1 : Int32) <<< (q_I δ 12 10 a0 &&& 31)).toInt; omega⟩
  · exact Or.inr ⟨q1, by show _ ∨ ((1 : Int32) <<< (q_I δ 12 10 a0 &&& 31)).toInt ≤ _; omega⟩
/-- which x may be asked -/
def okA (A call x : Int) : Prop := (0 ≤ x ∧ x < A) ∨ (call = 3 ∧ x = -1) ∨ (call = 4 ∧ x = A)
theorem hr_mayAsk {ad : List Nat} {h : hp} (L : Lay TLx ad h) {δ0 : dp} {N : Nat} (hNN : 10000000 ≤ N) {a0 : Nat} {x1 x2 : Int32} (ka : q_K h.1 a0 = 12) {δ : dp} (I : RI ad h.1 δ0 δ) : hs (D_X12_mayAsk N h.1 a0 x1 x2 δ) (fun r => r.2 = δ ∧ ((r.1 = 1 ∧ okA (shA a0 δ) x1.toInt x2.toInt) ∨ (r.1 = 0 ∧ ¬ okA (shA a0 δ) x1.toInt x2.toInt))) := by
  have e0 : (0 : Int32).toInt = 0 := rfl
  have e3 : (3 : Int32).toInt = 3 := rfl
  have e4 : (4 : Int32).toInt = 4 := rfl
  have em : (-1 : Int32).toInt = -1 := by decide
  have ab := all_b ka I
  have eA : shA a0 δ = ((1 : Int32) <<< ((q_I δ 12 10 a0) &&& 31)).toInt := rfl
  unfold okA
  rw [eA]
  unfold D_X12_mayAsk J_X12_mayAsk_41
  refine hs_ite (fun c => ?_) (fun c => ?_)
  · have c1 := o_eq c
    rw [e_all, Option.bind_some]
    have t1 := te_subc (c := 1) (n := 1) rfl ((1 : Int32) <<< ((q_I δ 12 10 a0) &&& 31)) (by omega) (by omega)
    refine hs_bind (hr_within L hNN (x0 := x2) (x1 := -1) (x2 := (1 : Int32) <<< ((q_I δ 12 10 a0) &&& 31) - 1) I) (fun r hr => ?_)
    obtain ⟨e, hq⟩ := hr
    rw [e]
    refine hs_gp (fun _ => hs_some ⟨rfl, ?_⟩)
    rcases hq with ⟨q1, q2, q3⟩ | ⟨q1, q2⟩
    · exact Or.inl ⟨q1, by omega⟩
    · exact Or.inr ⟨q1, by omega⟩
  · have c1 := o_ne c
    refine hs_ite (fun d => ?_) (fun d => ?_)
    · have d1 := o_eq d
      rw [e_all, Option.bind_some]
      refine hs_bind (hr_within L hNN (x0 := x2) (x1 := 0) (x2 := (1 : Int32) <<< ((q_I δ 12 10 a0) &&& 31)) I) (fun r hr => ?_)
      obtain ⟨e, hq⟩ := hr
      rw [e]
      refine hs_gp (fun _ => hs_some ⟨rfl, ?_⟩)
      rcases hq with ⟨q1, q2, q3⟩ | ⟨q1, q2⟩
      · exact Or.inl ⟨q1, by omega⟩
      · exact Or.inr ⟨q1, by omega⟩
    · have d1 := o_ne d
      refine hs_bind (hr_isNumber L hNN (x1 := x2) ka I) (fun r hr => ?_)
      obtain ⟨e, hq⟩ := hr
      rw [e]
      rw [eA] at hq
      refine hs_gp (fun _ => hs_some ⟨rfl, ?_⟩)
      rcases hq with ⟨q1, q2, q3⟩ | ⟨q1, q2⟩
      · exact Or.inl ⟨q1, by omega⟩
      · exact Or.inr ⟨q1, by omega⟩
theorem hr_isThere {ad : List Nat} {h : hp} (L : Lay TLx ad h) {δ0 : dp} {N : Nat} (hNN : 10000000 ≤ N) {a0 H : Nat} {x1 x : Int32} (ka : q_K h.1 a0 = 12) (hx : x1.toInt = (H : Int)) (hh : H < 4) {δ : dp} (I : RI ad h.1 δ0 δ) (S : hsr ad δ H) : hs (D_X12_isThere N h.1 a0 x1 x δ) (fun r => r.2 = δ ∧ ((r.1 = 1 ∧ ME (hM ad δ H) (hR ad δ H) x.toInt) ∨ (r.1 = 0 ∧ ¬ ME (hM ad δ H) (hR ad δ H) x.toInt))) := ok_h (f12_isThere L hNN (x := x) ka hx hh I S)
theorem hr_place {ad : List Nat} {h : hp} (L : Lay TLx ad h) {δ0 : dp} {N : Nat} (hNN : 10000000 ≤ N) {a0 H : Nat} {x1 x : Int32} (ka : q_K h.1 a0 = 12) (hx : x1.toInt = (H : Int)) (hh : H < 4) {δ : dp} (I : RI ad h.1 δ0 δ) (S : hsr ad δ H) : hs (D_X12_place N h.1 a0 x1 x δ) (fun r => r.2 = δ ∧ ∃ p : Nat, r.1.toInt = (p : Int) ∧ PL (hM ad δ H) (hR ad δ H) x.toInt p) := ok_h (f12_place L hNN (x := x) ka hx hh I S)
theorem hr_numberAt {ad : List Nat} {h : hp} (L : Lay TLx ad h) {δ0 : dp} {N : Nat} (hNN : 10000000 ≤ N) {a0 H : Nat} {x1 x2 : Int32} (ka : q_K h.1 a0 = 12) (hx : x1.toInt = (H : Int)) (hh : H < 4) {δ : dp} (I : RI ad h.1 δ0 δ) : hs (D_X12_numberAt N h.1 a0 x1 x2 δ) (fun r => r.2 = δ ∧ AT (hM ad δ H) (hR ad δ H) x2.toInt r.1.toInt) := by
  have e0 : (0 : Int32).toInt = 0 := rfl
  have tn := tnH hx
  have hB := rb_103 L I H
  obtain ⟨bm, om, _⟩ := gO_12_14 L ka
  obtain rfl := gS_12_14 L ka om
  obtain ⟨br, ob, _⟩ := gO_12_13 L ka
  obtain rfl := gS_12_13 L ka ob
  have t1 := te_subc (c := 1) (n := 1) rfl (q_R δ (Ad ad 103) H) (by omega) (by omega)
  unfold D_X12_numberAt J_X12_numberAt_32
  refine hs_at om (hs_gd (fun _ => ?_))
  rw [tn]
  refine hs_bind (hr_within L hNN (x0 := x2) (x1 := 0) (x2 := q_R δ (Ad ad 103) H - 1) I) (fun r hr => ?_)
  obtain ⟨e, hq⟩ := hr
  rw [e]
  rcases hq with ⟨q1, q2, q3⟩ | ⟨q1, q2⟩
  · rw [q1]
    refine hs_ite (fun z => absurd z (by decide)) (fun _ => hs_at ob (hs_gd (fun _ => hs_some ⟨rfl, Or.inl ⟨x2.toInt.toNat, by omega, by unfold hM; omega, ?_⟩⟩)))
    have ix := (ix2 hx hh (m := x2) (k := x2.toInt.toNat) (by omega) (by omega)).2
    rw [ix]; rfl
  · rw [q1]
    refine hs_ite (fun _ => hs_some ⟨rfl, Or.inr ⟨by unfold hM; omega, rfl⟩⟩) (fun z => absurd rfl z)
theorem hr_answer {ad : List Nat} {h : hp} (L : Lay TLx ad h) {δ0 : dp} {N : Nat} (hNN : 10000000 ≤ N) {a0 H : Nat} {x1 c x : Int32} (ka : q_K h.1 a0 = 12) (hx : x1.toInt = (H : Int)) (hh : H < 4) {δ : dp} (I : RI ad h.1 δ0 δ) (S : hsr ad δ H) (h1 : x.toInt < 2147483647) : hs (D_X12_answer N h.1 a0 x1 c x δ) (fun r => r.2 = δ ∧ aAn (hM ad δ H) (hR ad δ H) c.toInt x.toInt r.1.toInt) := by
  have z3 : (3 : Int32).toInt = 3 := rfl
  have z4 : (4 : Int32).toInt = 4 := rfl
  unfold D_X12_answer J_X12_answer_52
  refine hs_ite (fun e => ?_) (fun e => ?_)
  · have e1 := o_eq e
    have bx := ti_b x
    have t := te_addc (c := 1) (n := 1) rfl x (by omega) (by omega)
    refine hs_bind (hr_place L hNN (x := x + 1) ka hx hh I S) (fun r hr => ?_)
    obtain ⟨q, p, hp, P⟩ := hr
    rw [q]
    refine hs_bind (hr_numberAt L hNN (x2 := r.1) ka hx hh I) (fun r2 h2 => hs_some ⟨h2.1, Or.inl ⟨by omega, p, ?_, ?_⟩⟩)
    · rw [t.1] at P; exact P
    · rw [← hp]; exact h2.2
  · have e1 := o_ne e
    refine hs_ite (fun f => ?_) (fun f => ?_)
    · have f1 := o_eq f
      refine hs_bind (hr_place L hNN (x := x) ka hx hh I S) (fun r hr => ?_)
      obtain ⟨q, p, hp, P⟩ := hr
      rw [q]
      have br := ti_b r.1
      have t := te_subc (c := 1) (n := 1) rfl r.1 (by omega) (by omega)
      refine hs_bind (hr_numberAt L hNN (x2 := r.1 - 1) ka hx hh I) (fun r2 h2 => hs_some ⟨h2.1, Or.inr (Or.inl ⟨by omega, p, P, ?_⟩)⟩)
      rw [← hp, ← t.1]; exact h2.2
    · have f1 := o_ne f
      refine hs_bind (hr_isThere L hNN (x := x) ka hx hh I S) (fun r hr => ?_)
      obtain ⟨q, hm⟩ := hr
      rcases hm with ⟨w, hm⟩ | ⟨w, hm⟩
      · rw [w]
        exact hs_ite (fun z => absurd z (by decide)) (fun _ => hs_some ⟨q, Or.inr (Or.inr ⟨by omega, by omega, Or.inl ⟨rfl, hm⟩⟩)⟩)
      · rw [w]
        exact hs_ite (fun _ => hs_some ⟨q, Or.inr (Or.inr ⟨by omega, by omega, Or.inr ⟨rfl, hm⟩⟩)⟩) (fun z => absurd rfl z)
/-- a NUMBER comes and is noted -/
theorem hr_come {ad : List Nat} {h : hp} (L : Lay TLx ad h) {δ0 : dp} {N : Nat} (hNN : 10000000 ≤ N) {a0 H : Nat} {x1 x : Int32} (ka : q_K h.1 a0 = 12) (hx : x1.toInt = (H : Int)) (hh : H < 4) {δ : dp} (I : RI ad h.1 δ0 δ) (S : hsr ad δ H) (m2 : hM ad δ H < 2000) (hn : hN ad δ H < 1000) (nm : ¬ ME (hM ad δ H) (hR ad δ H) x.toInt) {ρ : Type} {f : dp → Option ρ} {Q : ρ → Prop} (k : ∀ d, mr ad H 0 x.toInt δ d → mfr ad H δ d → (∀ c k a, q_I d c k a = q_I δ c k a) → kr ad [102, 103, 104, 105, 106] δ d → hs (f d) Q) : hs ((D_X12_comes N h.1 a0 x1 x δ).bind fun r => (D_X12_notesDown N h.1 a0 x1 x 1 r).bind f) Q := by
  have m0 := S.1
  have n0 : 0 ≤ hN ad δ H := (rb_106 L I H).1
  obtain ⟨M, hM1⟩ : ∃ M : Nat, hM ad δ H = (M : Int) := ⟨(hM ad δ H).toNat, by omega⟩
  obtain ⟨T, hT⟩ : ∃ T : Nat, hN ad δ H = (T : Int) := ⟨(hN ad δ H).toNat, by omega⟩
  have tn := tnH hx
  have vM : (q_R δ (Ad ad 103) x1.toNatClampNeg).toInt = hM ad δ H := by rw [tn]; rfl
  refine hs_bind (hs_and (ok_h (f12_comes L hNN (x := x) ka hx hh I S hM1 (by omega))) (ok_h (g_X12_comes L hNN (x2 := x) ka (by omega) (by omega) (by omega) I))) (fun d hd => ?_)
  obtain ⟨⟨p, P, D⟩, _, ⟨u, _, w, _⟩, _⟩ := hd
  have hTd : hN ad d H = (T : Int) := by unfold hN; rw [w 106 (by decide) (by decide) (by decide)]; exact hT
  refine hs_bind (hr_notes L (x2 := x) (x3 := 1) ka hx hh hTd (by omega)) (fun e he => ?_)
  obtain ⟨e4, e5, e6, eo, eI⟩ := he
  have p1 := P.1
  have n2 : ∀ i, i < 127 → 100 ≤ i → i ≠ 104 → i ≠ 105 → i ≠ 106 → q_R e (Ad ad i) = q_R d (Ad ad i) := fun i a b c1 c2 c3 => eo _ (ad_ne L (by omega) (by decide) c1) (ad_ne L (by omega) (by decide) c2) (ad_ne L (by omega) (by decide) c3)
  have r2 := n2 102 (by decide) (by decide) (by decide) (by decide) (by decide)
  have r3 := n2 103 (by decide) (by decide) (by decide) (by decide) (by decide)
  have d4 := w 104 (by decide) (by decide) (by decide)
  have d5 := w 105 (by decide) (by decide) (by decide)
  have d6 := w 106 (by decide) (by decide) (by decide)
  have hMe : ∀ J, hM ad e J = hM ad d J := fun J => by unfold hM; rw [r3]
  have hRe : ∀ J, hR ad e J = hR ad d J := fun J => by funext i; unfold hR; rw [r2]
  refine k e (Or.inr (Or.inl ⟨rfl, nm, ⟨p, P, ?_⟩, ?_, fun i hi => ⟨?_, ?_⟩⟩)) (fun J nJ => ⟨?_, ?_, fun i hi => ?_, fun i hi => ⟨?_, ?_⟩⟩) (fun c q a => by rw [eI]; exact u c q a (by simp)) (fun i a b c => ?_)
  · rw [hMe, hRe]; exact IN_h hM1 (by omega) D
  · show (q_R e (Ad ad 106) H).toInt = _
    rw [e6, if_pos rfl, hT]
  · show (q_R e (Ad ad 104) _).toInt = _
    rw [e4, d4]
    by_cases z : (i : Int) = hN ad δ H
    · rw [if_pos z, if_pos (by omega)]
    · rw [if_neg z, if_neg (by omega)]; rfl
  · show (q_R e (Ad ad 105) _).toInt = _
    rw [e5, d5]
    by_cases z : (i : Int) = hN ad δ H
    · rw [if_pos z, if_pos (by omega)]; rfl
    · rw [if_neg z, if_neg (by omega)]; rfl
  · rw [hMe]
    show (q_R d (Ad ad 103) J).toInt = _
    rw [D.2 J, if_neg nJ]; rfl
  · show (q_R e (Ad ad 106) J).toInt = _
    rw [e6, if_neg nJ, d6]; rfl
  · rw [hRe]
    show (q_R d (Ad ad 102) _).toInt = _
    rw [D.1, if_neg (by omega), if_neg (by omega)]; rfl
  · show (q_R e (Ad ad 104) _).toInt = _
    rw [e4, d4, if_neg (by omega)]; rfl
  · show (q_R e (Ad ad 105) _).toInt = _
    rw [e5, d5, if_neg (by omega)]; rfl
  · simp only [List.mem_cons, List.not_mem_nil, or_false] at c
    rw [n2 i b a (by omega) (by omega) (by omega)]
    exact w i a b (by simp only [List.mem_cons, List.not_mem_nil, or_false]; omega)
theorem hr_leave {ad : List Nat} {h : hp} (L : Lay TLx ad h) {δ0 : dp} {N : Nat} (hNN : 10000000 ≤ N) {a0 H : Nat} {x1 x : Int32} (ka : q_K h.1 a0 = 12) (hx : x1.toInt = (H : Int)) (hh : H < 4) {δ : dp} (I : RI ad h.1 δ0 δ) (S : hsr ad δ H) (hn : hN ad δ H < 1000) (mm : ME (hM ad δ H) (hR ad δ H) x.toInt) {ρ : Type} {f : dp → Option ρ} {Q : ρ → Prop} (k : ∀ d, mr ad H 1 x.toInt δ d → mfr ad H δ d → (∀ c k a, q_I d c k a = q_I δ c k a) → kr ad [102, 103, 104, 105, 106] δ d → hs (f d) Q) : hs ((D_X12_leaves N h.1 a0 x1 x δ).bind fun r => (D_X12_notesDown N h.1 a0 x1 x 0 r).bind f) Q := by
  have m0 := S.1
  have n0 : 0 ≤ hN ad δ H := (rb_106 L I H).1
  have m2 : hM ad δ H ≤ 2000 := (rb_103 L I H).2
  obtain ⟨M, hM1⟩ : ∃ M : Nat, hM ad δ H = (M : Int) := ⟨(hM ad δ H).toNat, by omega⟩
  obtain ⟨T, hT⟩ : ∃ T : Nat, hN ad δ H = (T : Int) := ⟨(hN ad δ H).toNat, by omega⟩
  have tn := tnH hx
  have vM : (q_R δ (Ad ad 103) x1.toNatClampNeg).toInt = hM ad δ H := by rw [tn]; rfl
  refine hs_bind (hs_and (ok_h (f12_leaves L hNN (x := x) ka hx hh I S hM1 mm)) (ok_h (g_X12_leaves L hNN (x2 := x) ka (by omega) (by omega) (by omega) I))) (fun d hd => ?_)
  obtain ⟨⟨p, P, P2, D⟩, _, ⟨u, _, w, _⟩, _⟩ := hd
  have hTd : hN ad d H = (T : Int) := by unfold hN; rw [w 106 (by decide) (by decide) (by decide)]; exact hT
  refine hs_bind (hr_notes L (x2 := x) (x3 := 0) ka hx hh hTd (by omega)) (fun e he => ?_)
  obtain ⟨e4, e5, e6, eo, eI⟩ := he
  have n2 : ∀ i, i < 127 → 100 ≤ i → i ≠ 104 → i ≠ 105 → i ≠ 106 → q_R e (Ad ad i) = q_R d (Ad ad i) := fun i a b c1 c2 c3 => eo _ (ad_ne L (by omega) (by decide) c1) (ad_ne L (by omega) (by decide) c2) (ad_ne L (by omega) (by decide) c3)
  have r2 := n2 102 (by decide) (by decide) (by decide) (by decide) (by decide)
  have r3 := n2 103 (by decide) (by decide) (by decide) (by decide) (by decide)
  have d4 := w 104 (by decide) (by decide) (by decide)
  have d5 := w 105 (by decide) (by decide) (by decide)
  have d6 := w 106 (by decide) (by decide) (by decide)
  have hMe : ∀ J, hM ad e J = hM ad d J := fun J => by unfold hM; rw [r3]
  have hRe : ∀ J, hR ad e J = hR ad d J := fun J => by funext i; unfold hR; rw [r2]
  refine k e (Or.inr (Or.inr (Or.inr ⟨rfl, mm, ⟨p, by omega, P2, ?_⟩, ?_, fun i hi => ⟨?_, ?_⟩⟩))) (fun J nJ => ⟨?_, ?_, fun i hi => ?_, fun i hi => ⟨?_, ?_⟩⟩) (fun c q a => by rw [eI]; exact u c q a (by simp)) (fun i a b c => ?_)
  · rw [hMe, hRe]; exact DE_h hM1 D
  · show (q_R e (Ad ad 106) H).toInt = _
    rw [e6, if_pos rfl, hT]
  · show (q_R e (Ad ad 104) _).toInt = _
    rw [e4, d4]
    by_cases z : (i : Int) = hN ad δ H
    · rw [if_pos z, if_pos (by omega)]
    · rw [if_neg z, if_neg (by omega)]; rfl
  · show (q_R e (Ad ad 105) _).toInt = _
    rw [e5, d5]
    by_cases z : (i : Int) = hN ad δ H
    · rw [if_pos z, if_pos (by omega)]; rfl
    · rw [if_neg z, if_neg (by omega)]; rfl
  · rw [hMe]
    show (q_R d (Ad ad 103) J).toInt = _
    rw [D.2 J, if_neg nJ]; rfl
  · show (q_R e (Ad ad 106) J).toInt = _
    rw [e6, if_neg nJ, d6]; rfl
  · rw [hRe]
    show (q_R d (Ad ad 102) _).toInt = _
    rw [D.1, if_neg (by omega)]; rfl
  · show (q_R e (Ad ad 104) _).toInt = _
    rw [e4, d4, if_neg (by omega)]; rfl
  · show (q_R e (Ad ad 105) _).toInt = _
    rw [e5, d5, if_neg (by omega)]; rfl
  · simp only [List.mem_cons, List.not_mem_nil, or_false] at c
    rw [n2 i b a (by omega) (by omega) (by omega)]
    exact w i a b (by simp only [List.mem_cons, List.not_mem_nil, or_false]; omega)
/-- what put (0) and drop (1) of the reference leave: what is thrown, answered, changed -/
def hRP (ad : List Nat) (a0 : Nat) (call : Int) (x1 x2 : Int32) (δ : dp) (b : Int32) (d : dp) : Prop :=
  ((x1.toInt < 0 ∨ 3 < x1.toInt) ∧ q_I d 12 0 a0 = 1 ∧ kr ad [100] δ d) ∨
  ∃ H : Nat, H < 4 ∧ x1.toInt = (H : Int) ∧
    (((x2.toInt < 0 ∨ shA a0 δ ≤ x2.toInt) ∧ q_I d 12 0 a0 = 2 ∧ kr ad [100] δ d) ∨
    (0 ≤ x2.toInt ∧ x2.toInt < shA a0 δ ∧ q_I d 12 0 a0 = 0 ∧ chA (hM ad δ H) (hR ad δ H) (hN ad δ H) call x2.toInt b.toInt ∧
      ((b.toInt ≠ 1 ∧ kr ad [100] δ d) ∨ (b.toInt = 1 ∧ mr ad H call x2.toInt δ d ∧ mfr ad H δ d))))
theorem hr_put {ad : List Nat} {h : hp} (L : Lay TLx ad h) {δ0 : dp} {N : Nat} (hNN : 10000000 ≤ N) {a0 : Nat} {x1 x2 : Int32} (ka : q_K h.1 a0 = 12) {δ : dp} (I : RI ad h.1 δ0 δ) (S : ∀ K, K < 4 → hsr ad δ K) : hs (D_X12_put N h.1 a0 x1 x2 δ) (fun r => hRP ad a0 0 x1 x2 δ r.1 r.2) := by
  have f1000 : (1000 : Int32).toInt = 1000 := rfl
  have f2000 : (2000 : Int32).toInt = 2000 := rfl
  obtain ⟨bm, om, _⟩ := gO_12_14 L ka
  obtain rfl := gS_12_14 L ka om
  obtain ⟨bt, ot, _⟩ := gO_12_17 L ka
  obtain rfl := gS_12_17 L ka ot
  unfold D_X12_put
  refine hs_bdv (fun d1 e1 => ?_)
  have i1 : RI ad h.1 δ0 d1 := by rw [e1]; exact cs_12_0 L I
  have t0 : q_I d1 12 0 a0 = 0 := by rw [e1]; exact rI_s
  have w1 : q_R d1 = q_R δ := by rw [e1]; rfl
  have kr1 : ∀ {d}, kr ad [100] d1 d → kr ad [100] δ d := fun k i a b c => by rw [k i a b c, w1]
  have A1 : shA a0 d1 = shA a0 δ := by unfold shA; rw [e1, rI_o (by decide)]
  have M1 : ∀ J, hM ad d1 J = hM ad δ J := fun J => by unfold hM; rw [w1]
  have R1 : ∀ J, hR ad d1 J = hR ad δ J := fun J => by funext i; unfold hR; rw [w1]
  have N1 : ∀ J, hN ad d1 J = hN ad δ J := fun J => by unfold hN; rw [w1]
  have T1 : ∀ J, nT ad d1 J = nT ad δ J := fun J => by funext i; unfold nT; rw [w1]
  have F1 : ∀ J, cF ad d1 J = cF ad δ J := fun J => by funext i; unfold cF; rw [w1]
  refine hs_bind (hr_isHouse L hNN (x1 := x1) (x2 := 1) ka i1 t0 (by decide)) (fun r hr => ?_)
  rcases hr with ⟨q1, q2, H, hH, hx⟩ | ⟨q1, q2, q3, q4⟩
  · rw [q1, q2]
    refine hs_ite (fun z => absurd z (by decide)) (fun _ => ?_)
    refine hs_bind (hr_isNumber L hNN (x1 := x2) ka i1) (fun r3 h3 => ?_)
    obtain ⟨e3, hq⟩ := h3
    rw [e3]
    refine hs_bind (hr_may L (x1 := r3.1) (x2 := 2) (x3 := 2) ka t0 (by decide)) (fun r4 h4 => ?_)
    rcases h4 with ⟨n4, g1, g2⟩ | ⟨n4, g1, g2, g3⟩
    · rcases hq with ⟨_, v1, v2⟩ | ⟨z, _⟩
      · rw [g1, g2]
        rw [A1] at v2
        have SA : hsr ad d1 H := by
          have := S H hH
          exact ⟨by rw [M1]; exact this.1, by rw [M1, R1]; exact this.2⟩
        have bM := rb_103 L i1 H
        have bN := rb_106 L i1 H
        have vM : (q_R d1 (Ad ad 103) H).toInt = hM ad δ H := M1 H
        have vN : (q_R d1 (Ad ad 106) H).toInt = hN ad δ H := N1 H
        have tn := tnH hx
        refine hs_ite (fun z => absurd z (by decide)) (fun _ => ?_)
        refine hs_bind (hr_isThere L hNN (x := x2) ka hx hH i1 SA) (fun r5 h5 => ?_)
        obtain ⟨e5, h5⟩ := h5
        rw [e5]
        rw [M1, R1] at h5
        rcases h5 with ⟨y1, y2⟩ | ⟨y1, y2⟩
        · rw [y1]
          refine hs_ite (fun z => absurd z (by decide)) (fun _ => hs_some ?_)
          exact Or.inr ⟨H, hH, hx, Or.inr ⟨v1, v2, t0, Or.inl ⟨rfl, y2, rfl⟩, Or.inl ⟨(by decide : (0 : Int32).toInt ≠ 1), kr1 (fun _ _ _ _ => rfl)⟩⟩⟩
        · rw [y1]
          refine hs_ite (fun _ => ?_) (fun z => absurd rfl z)
          refine hs_at om (hs_gd (fun _ => ?_))
          rw [tn]
          refine hs_ite (fun c => hs_some ?_) (fun c => ?_)
          · have c1 := o_eq c
            exact Or.inr ⟨H, hH, hx, Or.inr ⟨v1, v2, t0, Or.inr (Or.inr ⟨⟨fun _ => y2, fun _ => rfl⟩, Or.inl ⟨rfl, by omega, rfl⟩⟩), Or.inl ⟨(by decide : (-1 : Int32).toInt ≠ 1), kr1 (fun _ _ _ _ => rfl)⟩⟩⟩
          · have c1 := o_ne c
            refine hs_at ot (hs_gd (fun _ => ?_))
            refine hs_ite (fun c => hs_some ?_) (fun c => ?_)
            · have c2 := o_eq c
              exact Or.inr ⟨H, hH, hx, Or.inr ⟨v1, v2, t0, Or.inr (Or.inr ⟨⟨fun _ => y2, fun _ => rfl⟩, Or.inr (Or.inl ⟨by omega, by omega, rfl⟩)⟩), Or.inl ⟨(by decide : (-2 : Int32).toInt ≠ 1), kr1 (fun _ _ _ _ => rfl)⟩⟩⟩
            · have c2 := o_ne c
              refine hr_come L hNN ka hx hH i1 SA (by rw [M1]; omega) (by rw [N1]; omega) (by rw [M1, R1]; exact y2) (fun d m1 m2 m3 m4 => hs_some ?_)
              refine Or.inr ⟨H, hH, hx, Or.inr ⟨v1, v2, (m3 12 0 a0).trans t0, Or.inr (Or.inr ⟨⟨fun _ => y2, fun _ => rfl⟩, Or.inr (Or.inr ⟨by omega, by omega, rfl⟩)⟩), Or.inr ⟨rfl, ?_, fun J nJ => ?_⟩⟩⟩
              · unfold mr at m1 ⊢
                rw [M1, R1, N1, T1, F1] at m1; exact m1
              · have := m2 J nJ
                rw [M1, R1, N1, T1, F1] at this; exact this
      · exact absurd z n4
    · rw [g1]
      refine hs_ite (fun _ => ?_) (fun z => absurd rfl z)
      unfold J_X12_put_28
      rcases hq with ⟨z, _⟩ | ⟨_, v1⟩
      · rw [z] at n4; exact absurd n4 (by decide)
      · rw [A1] at v1
        exact hs_some (Or.inr ⟨H, hH, hx, Or.inl ⟨v1, g2, kr1 g3⟩⟩)
  · rw [q1]
    refine hs_ite (fun _ => ?_) (fun z => absurd rfl z)
    unfold J_X12_put_28
    exact hs_some (Or.inl ⟨q2, q3, kr1 q4⟩)
theorem hr_drop {ad : List Nat} {h : hp} (L : Lay TLx ad h) {δ0 : dp} {N : Nat} (hNN : 10000000 ≤ N) {a0 : Nat} {x1 x2 : Int32} (ka : q_K h.1 a0 = 12) {δ : dp} (I : RI ad h.1 δ0 δ) (S : ∀ K, K < 4 → hsr ad δ K) : hs (D_X12_drop N h.1 a0 x1 x2 δ) (fun r => hRP ad a0 1 x1 x2 δ r.1 r.2) := by
  have f1000 : (1000 : Int32).toInt = 1000 := rfl
  obtain ⟨bt, ot, _⟩ := gO_12_17 L ka
  obtain rfl := gS_12_17 L ka ot
  unfold D_X12_drop
  refine hs_bdv (fun d1 e1 => ?_)
  have i1 : RI ad h.1 δ0 d1 := by rw [e1]; exact cs_12_0 L I
  have t0 : q_I d1 12 0 a0 = 0 := by rw [e1]; exact rI_s
  have w1 : q_R d1 = q_R δ := by rw [e1]; rfl
  have kr1 : ∀ {d}, kr ad [100] d1 d → kr ad [100] δ d := fun k i a b c => by rw [k i a b c, w1]
  have A1 : shA a0 d1 = shA a0 δ := by unfold shA; rw [e1, rI_o (by decide)]
  have M1 : ∀ J, hM ad d1 J = hM ad δ J := fun J => by unfold hM; rw [w1]
  have R1 : ∀ J, hR ad d1 J = hR ad δ J := fun J => by funext i; unfold hR; rw [w1]
  have N1 : ∀ J, hN ad d1 J = hN ad δ J := fun J => by unfold hN; rw [w1]
  have T1 : ∀ J, nT ad d1 J = nT ad δ J := fun J => by funext i; unfold nT; rw [w1]
  have F1 : ∀ J, cF ad d1 J = cF ad δ J := fun J => by funext i; unfold cF; rw [w1]
  refine hs_bind (hr_isHouse L hNN (x1 := x1) (x2 := 1) ka i1 t0 (by decide)) (fun r hr => ?_)
  rcases hr with ⟨q1, q2, H, hH, hx⟩ | ⟨q1, q2, q3, q4⟩
  · rw [q1, q2]
    refine hs_ite (fun z => absurd z (by decide)) (fun _ => ?_)
    refine hs_bind (hr_isNumber L hNN (x1 := x2) ka i1) (fun r3 h3 => ?_)
    obtain ⟨e3, hq⟩ := h3
    rw [e3]
    refine hs_bind (hr_may L (x1 := r3.1) (x2 := 2) (x3 := 2) ka t0 (by decide)) (fun r4 h4 => ?_)
    rcases h4 with ⟨n4, g1, g2⟩ | ⟨n4, g1, g2, g3⟩
    · rcases hq with ⟨_, v1, v2⟩ | ⟨z, _⟩
      · rw [g1, g2]
        rw [A1] at v2
        have SA : hsr ad d1 H := by
          have := S H hH
          exact ⟨by rw [M1]; exact this.1, by rw [M1, R1]; exact this.2⟩
        have bN := rb_106 L i1 H
        have vN : (q_R d1 (Ad ad 106) H).toInt = hN ad δ H := N1 H
        have tn := tnH hx
        refine hs_ite (fun z => absurd z (by decide)) (fun _ => ?_)
        refine hs_bind (hr_isThere L hNN (x := x2) ka hx hH i1 SA) (fun r5 h5 => ?_)
        obtain ⟨e5, h5⟩ := h5
        rw [e5]
        rw [M1, R1] at h5
        rcases h5 with ⟨y1, y2⟩ | ⟨y1, y2⟩
        · rw [y1]
          refine hs_ite (fun z => absurd z (by decide)) (fun _ => ?_)
          refine hs_at ot (hs_gd (fun _ => ?_))
          rw [tn]
          refine hs_ite (fun c => hs_some ?_) (fun c => ?_)
          · have c2 := o_eq c
            exact Or.inr ⟨H, hH, hx, Or.inr ⟨v1, v2, t0, Or.inr (Or.inr ⟨⟨fun z => by omega, fun z => absurd y2 z⟩, Or.inr (Or.inl ⟨by omega, by omega, rfl⟩)⟩), Or.inl ⟨(by decide : (-2 : Int32).toInt ≠ 1), kr1 (fun _ _ _ _ => rfl)⟩⟩⟩
          · have c2 := o_ne c
            refine hr_leave L hNN ka hx hH i1 SA (by rw [N1]; omega) (by rw [M1, R1]; exact y2) (fun d m1 m2 m3 m4 => hs_some ?_)
            refine Or.inr ⟨H, hH, hx, Or.inr ⟨v1, v2, (m3 12 0 a0).trans t0, Or.inr (Or.inr ⟨⟨fun z => by omega, fun z => absurd y2 z⟩, Or.inr (Or.inr ⟨by omega, by omega, rfl⟩)⟩), Or.inr ⟨rfl, ?_, fun J nJ => ?_⟩⟩⟩
            · unfold mr at m1 ⊢
              rw [M1, R1, N1, T1, F1] at m1; exact m1
            · have := m2 J nJ
              rw [M1, R1, N1, T1, F1] at this; exact this
        · rw [y1]
          refine hs_ite (fun _ => hs_some ?_) (fun z => absurd rfl z)
          exact Or.inr ⟨H, hH, hx, Or.inr ⟨v1, v2, t0, Or.inr (Or.inl ⟨rfl, y2, rfl⟩), Or.inl ⟨(by decide : (0 : Int32).toInt ≠ 1), kr1 (fun _ _ _ _ => rfl)⟩⟩⟩
      · exact absurd z n4
    · rw [g1]
      refine hs_ite (fun _ => ?_) (fun z => absurd rfl z)
      unfold J_X12_drop_28
      rcases hq with ⟨z, _⟩ | ⟨_, v1⟩
      · rw [z] at n4; exact absurd n4 (by decide)
      · rw [A1] at v1
        exact hs_some (Or.inr ⟨H, hH, hx, Or.inl ⟨v1, g2, kr1 g3⟩⟩)
  · rw [q1]
    refine hs_ite (fun _ => ?_) (fun z => absurd rfl z)
    unfold J_X12_drop_28
    exact hs_some (Or.inl ⟨q2, q3, kr1 q4⟩)
