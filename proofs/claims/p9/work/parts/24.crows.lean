/-! makings: constructors -/
def n_obj (h : hp) (ci q : Nat) : hp := ((fun c k => if c = ci then va_up (q_O h.1 c k) q none else q_O h.1 c k, q_E h.1, va_up (q_K h.1) q ci, q_N h.1), (fun c k => if c = ci then va_up (q_I h.2 c k) q 0 else q_I h.2 c k, q_R h.2, q_J h.2, fun c k => if c = ci then va_up (q_V h.2 c k) q none else q_V h.2 c k))
def n_arr (h : hp) (t q n : Nat) : hp := ((q_O h.1, va_up (q_E h.1) q (fun _ => none), va_up (q_K h.1) q (t + 13), va_up (q_N h.1) q n), (q_I h.2, va_up (q_R h.2) q (fun _ => 0), va_up (q_J h.2) q (fun _ => 0), q_V h.2))
theorem cel_full {cy : Nat → ClassId} {h h' : hp} {b : Nat} (hK : q_K h'.1 b = q_K h.1 b) (hN : q_N h'.1 b = q_N h.1 b) (hE : q_E h'.1 b = q_E h.1 b) (hO : ∀ c k, q_O h'.1 c k b = q_O h.1 c k b) (hI : ∀ c k, q_I h'.2 c k b = q_I h.2 c k b) (hV : ∀ c k, q_V h'.2 c k b = q_V h.2 c k b) (hR : q_R h'.2 b = q_R h.2 b) (hJ : q_J h'.2 b = q_J h.2 b) : cel cy h' b = cel cy h b := by
  unfold cel
  rw [hK, hN, hE, hR, hJ, f_s_eq (h' := h') (h := h) (fun j => by unfold f_v; rw [hO, hI, hV])]
theorem cel_nobj {cy : Nat → ClassId} {h : hp} {ci q b : Nat} (hb : b ≠ q) : cel cy (n_obj h ci q) b = cel cy h b := by
  refine cel_full (va_up_ne _ _ hb) rfl rfl (fun c k => ?_) (fun c k => ?_) (fun c k => ?_) rfl rfl
  · show (if c = ci then va_up (q_O h.1 c k) q none else q_O h.1 c k) b = _
    split
    · exact va_up_ne _ _ hb
    · rfl
  · show (if c = ci then va_up (q_I h.2 c k) q 0 else q_I h.2 c k) b = _
    split
    · exact va_up_ne _ _ hb
    · rfl
  · show (if c = ci then va_up (q_V h.2 c k) q none else q_V h.2 c k) b = _
    split
    · exact va_up_ne _ _ hb
    · rfl
def dfl (ci : Nat) : List Value := (List.range (n_f ci)).map (fun k => if i_r ci k = true then .null else .int 0)
theorem cel_nobj_self {cy : Nat → ClassId} {h : hp} {ci q : Nat} (hci : ci < 13) : cel cy (n_obj h ci q) q = .inr (ci, dfl ci) := by
  rw [cel_o (h := n_obj h ci q) (ci := ci) (va_up_self _ _ _) hci]
  refine congrArg (fun z => Sum.inr (ci, z)) ?_
  unfold f_s dfl
  apply List.map_congr_left
  intro k _
  have e1 : q_O (n_obj h ci q).1 ci k q = none := by show (if ci = ci then va_up (q_O h.1 ci k) q none else q_O h.1 ci k) q = none; rw [if_pos rfl, va_up_self]
  have e2 : q_V (n_obj h ci q).2 ci k q = none := by show (if ci = ci then va_up (q_V h.2 ci k) q none else q_V h.2 ci k) q = none; rw [if_pos rfl, va_up_self]
  have e3 : q_I (n_obj h ci q).2 ci k q = 0 := by show (if ci = ci then va_up (q_I h.2 ci k) q 0 else q_I h.2 ci k) q = 0; rw [if_pos rfl, va_up_self]
  unfold f_v
  rw [e1, e2, e3]
  split
  · split <;> rfl
  · rfl
theorem cel_narr {cy : Nat → ClassId} {h : hp} {t q n b : Nat} (hb : b ≠ q) : cel cy (n_arr h t q n) b = cel cy h b := cel_full (va_up_ne _ _ hb) (va_up_ne _ _ hb) (va_up_ne _ _ hb) (fun _ _ => rfl) (fun _ _ => rfl) (fun _ _ => rfl) (va_up_ne _ _ hb) (va_up_ne _ _ hb)
theorem rp_push {D : va_G} {cy : Nat → ClassId} {A : Nat → Prop} {L : List Nat} {h h' : hp} {H H1 : Heap} {q : Nat} {x : va_E} (r : rp D cy A L h H) (hx : cel cy h' q = x) (ho : ∀ b, b ≠ q → cel cy h' b = cel cy h b) (hK : ∀ b, b ≠ q → q_K h'.1 b = q_K h.1 b) (hP : va_P D vwCl (va_pl L (cel cy h) ++ [(q, x)]) H1) (hD : va_D A (va_pl L (cel cy h) ++ [(q, x)])) : q_K h.1 q = 99 ∧ rp D cy A (L ++ [q]) h' H1 := by
  have hq : q ∉ L := va_pl_fresh2 (X := []) hD
  have e : va_pl L (cel cy h) ++ [(q, x)] = va_pl (L ++ [q]) (cel cy h') := by
    rw [va_pl_push hq, cel_up hx.symm ho]
  rw [e] at hP hD
  refine ⟨r.2.2 q hq, hP, hD, fun a ha => ?_⟩
  have h1 : a ∉ L := fun z => ha (List.mem_append_left _ z)
  have h2 : a ≠ q := fun z => ha (List.mem_append_right _ (by rw [z]; exact List.mem_singleton.mpr rfl))
  rw [hK a h2]
  exact r.2.2 a h1
def nw (own : String) (index ci : Nat) : Prop := ∃ (q : vw_C) (ty0 : Nat → FieldType), vwCl[ci]? = some q ∧ ci < 13 ∧ (∀ w ∈ u_ws q.1 q.2.1 q.2.2, w ∈ TT) ∧ (∀ j, j < q.2.2 → parseFieldDescriptor (q.2.1 j).2.2.1 = some (ty0 j)) ∧ Cond.classLink own index q.1 ∈ TT ∧ Cond.instantiable q.1 q.2.2 ∈ TT ∧ Cond.initialized q.1 ∈ TT ∧ ∀ j, j < q.2.2 → defaultValue (ty0 j) = if i_r ci j = true then .null else .int 0
section CW
variable {l : Launch} {D : va_G} {cy : Nat → ClassId} {μ : mth} {d rc rs : Nat} {P : Option Value → hp → Prop} {X : String → hp → Prop} {pc : Nat} {lv : List (Nat × Value)} {st : List Value} {h : hp} {g : gp} {δ : dp}
theorem a_objI {a idx : Nat} (hdg : decode μ.2.1 pc = .ok (.invokespecial idx, 3)) (h1 : Cond.methodLink μ.1.cls idx objectInit ∈ TT) (h2 : Cond.instanceMethod objectInit ∈ TT) (h3 : Cond.code objectInit ⟨#[0xb1]⟩ 1 none ∈ TT) (hst : (st.map fun v => v.category).sum ≤ 8) (hd : 1 ≤ d) (kk : AW l D cy μ d rc rs P X (pc + 3) lv st h) : AW l D cy μ d rc rs P X pc lv (.ref a :: st) h := by
  intro p e R s m args below meth c L A H locs cells slots mc ms ls F r1 r2 r3 r4 r5 r6 r7 r8 hl
  obtain ⟨g1, g2, g3, g4, g5, g6, g7, g8, g9, g10, g11, g12, g13⟩ := id F
  exact W.objInit g1 g2 g5 (g6 _ h1) (g6 _ h2) (g6 _ h3) rfl (by rw [g4]; exact hl.1) rfl hdg (by omega) (by show 2 * 0 + (st.map fun v => v.category).sum + 12 ≤ _; omega) (kk p e R s m args below meth c L A H locs cells slots mc ms ls F r1 r2 r3 r4 r5 r6 r7 r8 hl)
theorem a_new {ci index rc' rs' : Nat} (hdg : decode μ.2.1 pc = .ok (.new index, 3)) (hn : nw μ.1.cls index ci) (hrc : rc' + 1 ≤ rc) (hrs : rs' + n_f ci ≤ rs) (kk : ∀ q : Nat, q_K h.1 q = 99 → AW l D cy μ d rc' rs' P X (pc + 3) lv (.ref q :: st) (n_obj h ci q)) : AW l D cy μ d rc rs P X pc lv st h := by
  intro p e R s m args below meth c L A H locs cells slots mc ms ls F r1 r2 r3 r4 r5 r6 r7 r8 hl
  obtain ⟨⟨C, T, N⟩, ty0, h1, h2, h3, h4, h5, h6, h7, h8⟩ := hn
  dsimp only at h3 h4 h5 h6 h7 h8
  obtain ⟨g1, g2, g3, g4, g5, g6, g7, g8⟩ := id F
  have hnf : n_f ci = N := by simp [n_f, h1]
  refine va_new (ci := ci) (fs := dfl ci) g1 g2 g6 h3 ty0 h4 g5 (g6 _ h5) (g6 _ h6) (g6 _ h7) g7 r1.1 r1.2.1 r2 r3 h1 (fun j hj => ?_) (by omega) (by omega) hdg (fun q H1 hP hD hS => ?_)
  · rw [h8 j hj]
    have e : (dfl ci)[j]? = some (if i_r ci j = true then .null else .int 0) := by
      unfold dfl
      rw [List.getElem?_map, List.getElem?_range (by omega)]
      rfl
    simp [vp_V, e]
  · obtain ⟨hf, r9⟩ := rp_push (h' := n_obj h ci q) r1 (cel_nobj_self h2) (fun b hb => cel_nobj hb) (fun b hb => va_up_ne _ _ hb) hP hD
    exact kk q hf p e R s m args below meth c (L ++ [q]) A H1 locs (cells + 1) (slots + N) mc ms ls F r9 hS r3 r4 (by omega) (by omega) r7 r8 hl
theorem ra_eq {s : State} {a b : ClassId} {ty : FieldType} (h1 : va_RA s a ty) (h2 : va_RA s b ty) : a = b := by
  cases ty <;> first
    | exact Option.some.inj (h1.symm.trans h2)
    | (obtain ⟨_, _, _, _, _, q1⟩ := h1
       obtain ⟨_, _, _, _, _, q2⟩ := h2
       exact Option.some.inj (q1.symm.trans q2))
theorem a_newI {atype : ArrayType} (t : Nat) {ty : FieldType} {n : Int32} {rc' rs' : Nat} (hdg : decode μ.2.1 pc = .ok (.newarray atype, 2)) (hty : newarray.typeOf atype = ty) (ht : t = 0 ∧ ty = .int ∨ t = 1 ∧ ty = .long ∨ t = 2 ∧ ty = .boolean) (hw : Cond.arrayClass ty ∈ TT) (hn : ¬ n < 0) (hby : n.toNatClampNeg ≤ 1000000) (hrc : rc' + 1 ≤ rc) (hrs : rs' + n.toNatClampNeg ≤ rs) (kk : ∀ q : Nat, q_K h.1 q = 99 → AW l D cy μ d rc' rs' P X (pc + 2) lv (.ref q :: st) (n_arr h t q n.toNatClampNeg)) : AW l D cy μ d rc rs P X pc lv (.int n :: st) h := by
  intro p e R s m args below meth c L A H locs cells slots mc ms ls F r1 r2 r3 r4 r5 r6 r7 r8 hl
  obtain ⟨g1, g2, g3, g4, g5, g6, g7, g8⟩ := id F
  have go : ∀ (q : Nat) (cA : ClassId) (H1 : Heap) (a0 : vp_A), (tys cy)[t]? = some (cy t, ty) → (∀ h' : hp, h' = n_arr h t q n.toNatClampNeg → cel cy h' q = .inl (cy t, a0)) → va_K D vwCl (tys cy ++ [(cA, ty)]) s → va_P D vwCl (va_pl L (cel cy h) ++ [(q, .inl (cA, a0))]) H1 → va_D A (va_pl L (cel cy h) ++ [(q, .inl (cA, a0))]) → va_S A s.heap H1 locs → W p l e R s m args below meth c H1 locs (cells + 1) (slots + n.toNatClampNeg) (vx_MQ below (qc D cy P A) (xc D cy X A) args s mc ms A) (F0 m (pc + 2) ls (.ref q :: st)) := by
    intro q cA H1 a0 ht0 hcel hK2 hP hD hS
    have hA2 := (hK2.2 (tys cy).length (cA, ty) (by rw [List.getElem?_append_right (Nat.le_refl _)]; simp)).2
    have e9 : cA = cy t := ra_eq hA2 (g7.2 t _ ht0).2
    subst e9
    obtain ⟨hf, r9⟩ := rp_push (h' := n_arr h t q n.toNatClampNeg) r1 (hcel _ rfl) (fun b hb => cel_narr hb) (fun b hb => va_up_ne _ _ hb) hP hD
    exact kk q hf p e R s m args below meth c (L ++ [q]) A H1 locs (cells + 1) (slots + n.toNatClampNeg) mc ms ls F r9 hS r3 r4 (by omega) (by omega) r7 r8 hl
  subst hty
  rcases ht with ⟨rfl, ht⟩ | ⟨rfl, ht⟩ | ⟨rfl, ht⟩
  · refine va_newa (a0 := (n.toNatClampNeg, .inl (fun _ => 0))) g1 g2 (g6 _ hw) rfl g7 r1.1 r1.2.1 r2 r3 (fun cA => by rw [ht]; rfl) hn rfl (by rw [ht]; show _ * 4 ≤ _; omega) (by omega) (by omega) hdg (fun q cA H1 => go q cA H1 _ (by rw [ht]; rfl) (fun h' e => by rw [e, cel_i (h := n_arr h 0 q n.toNatClampNeg) (va_up_self _ _ _)]; simp [n_arr, q_N, q_R, va_up]))
  · refine va_newa (a0 := (n.toNatClampNeg, .inr (.inl (fun _ => 0)))) g1 g2 (g6 _ hw) rfl g7 r1.1 r1.2.1 r2 r3 (fun cA => by rw [ht]; rfl) hn rfl (by rw [ht]; show _ * 8 ≤ _; omega) (by omega) (by omega) hdg (fun q cA H1 => go q cA H1 _ (by rw [ht]; rfl) (fun h' e => by rw [e, cel_j (h := n_arr h 1 q n.toNatClampNeg) (va_up_self _ _ _)]; simp [n_arr, q_N, q_J, va_up]))
  · refine va_newa (a0 := (n.toNatClampNeg, .inl (fun _ => 0))) g1 g2 (g6 _ hw) rfl g7 r1.1 r1.2.1 r2 r3 (fun cA => by rw [ht]; rfl) hn rfl (by rw [ht]; show _ * 1 ≤ _; omega) (by omega) (by omega) hdg (fun q cA H1 => go q cA H1 _ (by rw [ht]; rfl) (fun h' e => by rw [e, cel_z (h := n_arr h 2 q n.toNatClampNeg) (va_up_self _ _ _)]; simp [n_arr, q_N, q_R, va_up]))
theorem cel_O {ci k a : Nat} {v : Option Nat} (hK : q_K g a = ci) (hci : ci < 13) (hk : k < n_f ci) (hr : i_r ci k = true) (hd : i_d ci k = false) : va_up (cel cy (g, δ)) a (.inr (ci, (f_s (g, δ) ci a).set k (va_rf v))) = cel cy (s_O g ci k a v, δ) := by
  refine cel_up ?_ (fun b hb => cel_full rfl rfl rfl (fun c j => ?_) (fun _ _ => rfl) (fun _ _ => rfl) rfl rfl)
  · rw [cel_o (h := (s_O g ci k a v, δ)) hK hci, f_set (h' := (s_O g ci k a v, δ)) hk]
    intro j _
    unfold f_v
    by_cases e : j = k
    · subst e; simp [hr, hd, s_O, q_O, va_up]
    · simp [e, s_O, q_O]
  · simp only [s_O, q_O]
    split
    · rename_i e
      rw [va_up_ne _ _ hb, e.1, e.2]
    · rfl
theorem cel_E {a t i : Nat} {v : Option Nat} (hK : q_K g a = t + 13) (ht : 3 ≤ t) : va_up (cel cy (g, δ)) a (.inl (cy t, q_N g a, .inr (.inr (.inr (.inr (va_up (q_E g a) i v)))))) = cel cy (s_E g a i v, δ) := by
  refine cel_up ?_ (fun b hb => cel_full rfl rfl ?_ (fun _ _ => rfl) (fun _ _ => rfl) (fun _ _ => rfl) rfl rfl)
  · rw [cel_e (h := (s_E g a i v, δ)) (t := t) hK ht]
    simp [s_E, q_E, q_N, va_up]
  · simp only [s_E, q_E, va_up_ne _ _ hb]
def flF (ci k : Nat) (ty : FieldType) : Prop := ∃ (q : vw_C) (ty0 : Nat → FieldType), vwCl[ci]? = some q ∧ (∀ j, j < q.2.2 → parseFieldDescriptor (q.2.1 j).2.2.1 = some (ty0 j)) ∧ (∀ a, a < q.2.2 → ∀ b, b < q.2.2 → a ≠ b → (q.2.1 a).2.1 ≠ (q.2.1 b).2.1) ∧ (q.2.1 k).2.2.2 = true ∧ parseFieldDescriptor (q.2.1 k).2.2.1 = some ty
theorem a_putF {ci k a b index : Nat} {ty : FieldType} (hdg : decode μ.2.1 pc = .ok (.putfield index, 3)) (hf : fld μ.1.cls index ci k) (hfl : ∀ q : vw_C, vwCl[ci]? = some q → Cond.fieldLink μ.1.cls index q.1 (q.2.1 k).2.1 (q.2.1 k).2.2.1 ∈ TT ∧ q.1 = μ.1.cls) (hw : flF ci k ty) (hin : μ.1.name = "<init>") (hr : i_r ci k = true) (hd : i_d ci k = false) (hn : narrow ty (.ref b) = .ref b) (hfit : fits ty (.ref b) = true) (hK : q_K g a = ci) (kk : AW l D cy μ d rc rs P X (pc + 3) lv st (s_O g ci k a (some b), δ)) : AW l D cy μ d rc rs P X pc lv (.ref b :: .ref a :: st) (g, δ) := by
  intro p e R s m args below meth c L A H locs cells slots mc ms ls F r1 r2 r3 r4 r5 r6 r7 r8 hl
  obtain ⟨⟨C, T, N⟩, h1, h2, h3, h4, h5, -⟩ := id hf
  dsimp only at h2 h4 h5
  obtain ⟨h6, h7⟩ := hfl _ h1
  dsimp only at h6 h7
  obtain ⟨q', ty0, w1, w2, w3, w4, w5⟩ := hw
  have hq' : q' = (C, T, N) := Option.some.inj (w1.symm.trans h1)
  subst hq'
  dsimp only at w2 w3 w4 w5
  obtain ⟨q0, hq⟩ := rp_in r1 (a := a) (by show q_K g a ≠ 99; omega)
  have hL := rp_mem r1 (a := a) (by show q_K g a ≠ 99; omega)
  have hq9 := hq
  rw [cel_o (h := (g, δ)) hK h3] at hq
  have hnf : n_f ci = N := by simp [n_f, h1]
  have hsame : ∀ x, s.fieldFound? (T k).1 (T k).2.1 (T k).2.2.1 = some x → s.fieldFound? C (T k).2.1 (T k).2.2.1 = some x := fun x hx => by rw [h5] at hx; exact hx
  obtain ⟨g1, g2, g3, g4, g5, g6, g7, g8, g9, g10, g11⟩ := id F
  exact va_putF g1 g2 g6 h4 ty0 w2 w3 g5 g7 r1.1 r1.2.1 r2 q0 hq h1 k h2 (g6 _ h6) hsame w4 (g10.trans hin) (h5.trans h7) w5 hn hfit (by rw [f_len]; omega) hdg (fun H1 locs1 hP hD hS => kk p e R s m args below meth c L A H1 locs1 cells slots mc ms ls F (rp_up r1 hL hq9 (cel_O (v := some b) hK h3 (by omega) hr hd) rfl hP hD) hS r3 r4 r5 r6 r7 r8 hl)
theorem a_newQ {C : String} (t : Nat) {n : Int32} {index rc' rs' : Nat} (hdg : decode μ.2.1 pc = .ok (.anewarray index, 3)) (ht : 3 ≤ t) (hty : (tys cy)[t]? = some (cy t, .object C)) (hcl : Cond.classLink μ.1.cls index C ∈ TT) (hC : C = RX2 ∨ C = RX8) (hn : ¬ n < 0) (hby : n.toNatClampNeg ≤ 1000000) (hrc : rc' + 1 ≤ rc) (hrs : rs' + n.toNatClampNeg ≤ rs) (kk : ∀ q : Nat, q_K h.1 q = 99 → AW l D cy μ d rc' rs' P X (pc + 3) lv (.ref q :: st) (n_arr h t q n.toNatClampNeg)) : AW l D cy μ d rc rs P X pc lv (.int n :: st) h := by
  intro p e R s m args below meth c L A H locs cells slots mc ms ls F r1 r2 r3 r4 r5 r6 r7 r8 hl
  obtain ⟨g1, g2, g3, g4, g5, g6, g7, g8⟩ := id F
  have hov : va_AO C s := by
    rcases hC with e | e
    · rw [e]; exact F.2.2.2.2.2.2.2.2.2.2.2.2.2.2.2.1
    · rw [e]; exact F.2.2.2.2.2.2.2.2.2.2.2.2.2.2.2.2.1
  refine va_newq g1 g2 g5 (g6 _ hcl) hov g7 r1.1 r1.2.1 r2 r3 hn rfl (by omega) (by omega) (by omega) hdg (fun q cA H1 hK2 hP hD hS => ?_)
  have hA2 := (hK2.2 (tys cy).length (cA, .object C) (by rw [List.getElem?_append_right (Nat.le_refl _)]; simp)).2
  have e9 : cA = cy t := ra_eq hA2 (g7.2 t _ hty).2
  subst e9
  obtain ⟨hf, r9⟩ := rp_push (h' := n_arr h t q n.toNatClampNeg) r1 (by rw [cel_e (h := n_arr h t q n.toNatClampNeg) (t := t) (va_up_self _ _ _) ht]; simp [n_arr, q_N, q_E, va_up]) (fun b hb => cel_narr hb) (fun b hb => va_up_ne _ _ hb) hP hD
  exact kk q hf p e R s m args below meth c (L ++ [q]) A H1 locs (cells + 1) (slots + n.toNatClampNeg) mc ms ls F r9 hS r3 r4 (by omega) (by omega) r7 r8 hl
theorem a_aast {a v ci t : Nat} {i : Int32} {r : vw_C} (hdg : decode μ.2.1 pc = .ok (.aastore, 1)) (hK : q_K g a = t + 13) (ht : 3 ≤ t) (h9 : t < 20) (hty : (tys cy)[t]? = some (cy t, .object r.1)) (hc : vwCl[ci]? = some r) (hci : ci < 13) (hKv : q_K g v = ci) (hi : vp_in i (q_N g a)) (kk : AW l D cy μ d rc rs P X (pc + 1) lv st (s_E g a i.toNatClampNeg (some v), δ)) : AW l D cy μ d rc rs P X pc lv (.ref v :: .int i :: .ref a :: st) (g, δ) := by
  intro p e R s m args below meth c L A H locs cells slots mc ms ls F r1 r2 r3 r4 r5 r6 r7 r8 hl
  obtain ⟨q0, hq⟩ := rp_in r1 (a := a) (by show q_K g a ≠ 99; omega)
  obtain ⟨q1, hv⟩ := rp_in r1 (a := v) (by show q_K g v ≠ 99; omega)
  have hq9 := hq
  rw [cel_e (h := (g, δ)) hK ht] at hq
  rw [cel_o (h := (g, δ)) hKv hci] at hv
  exact va_astq F.1 F.2.1 F.2.2.2.2.2.2.1 r1.1 r1.2.1 r2 q0 t q1 ci hq hty hv hc hi hdg (fun H1 locs1 hP hD hS => kk p e R s m args below meth c L A H1 locs1 cells slots mc ms ls F (rp_up r1 (rp_mem r1 (by show q_K g a ≠ 99; omega)) hq9 (cel_E hK ht) rfl hP hD) hS r3 r4 r5 r6 r7 r8 hl)
theorem met_of {y : MethodName} {ws : List Cond} {rm : Room} {Pc : Array Value → State → Prop} {Qc : Array Value → State → Outcome → State → Prop} {A : Nat → Prop} {mc ms : Nat} {free : Addr → Prop} (hM : vx_Met l y ws rm Pc Qc (xc D cy (fun _ _ => False) A) mc ms free) : Met l y ws rm Pc Qc mc ms free := by
  intro p e h1 h2 h3 s m args below hf happ hP hK
  obtain ⟨n, o, a1, a2, a3, a4⟩ := hM p e h1 h2 h3 s m args below hf happ hP hK
  rcases a4 with a4 | ⟨q, -, E, ce, L, hx, -⟩
  · exact ⟨n, o, a1, a2, a3, a4⟩
  · obtain ⟨⟨h', hF, -⟩, -⟩ := hx
    exact hF.elim
def clI (own : String) (index : Nat) (y : mth) (n : Nat) : Prop := y.1.name = "<init>" ∧ y.2.2.2 = none ∧ Cond.instanceMethod y.1 ∈ TT ∧ Cond.initialized y.1.cls ∈ TT ∧ Cond.code y.1 y.2.1 y.2.2.1 y.2.2.2 ∈ TT ∧ (y.1.cls ≠ "java/lang/invoke/MethodHandle" ∧ y.1.cls ≠ "java/lang/invoke/VarHandle" ∧ (parseMethodDescriptor y.1.desc).map (fun d => d.parameters.length) = some n) ∧ y.2.2.1 ≤ 41 ∧ (Cond.methodLink own index y.1 ∈ TT ∨ ∃ host, Cond.methodLinkNest own index y.1 host ∈ NW)
theorem a_callI {b index n d' mc' ms' rc' rs' : Nat} {As rest : List Value} {y : mth} (hdg : decode μ.2.1 pc = .ok (.invokespecial index, 3)) (hc : clI μ.1.cls index y n) (hn : As.length = n) (hst : (rest.map fun v => v.category).sum ≤ 8) (hd : d' + 1 ≤ d) (hrc : rc' + mc' ≤ rc) (hrs : rs' + ms' ≤ rs)
    (k : Cal l D cy y d' mc' ms' (.ref b :: As) h (fun v h' => AW l D cy μ d rc' rs' P X (pc + 3) lv (v.toList ++ rest) h') (fun _ _ => False)) : AW l D cy μ d rc rs P X pc lv (As.reverse ++ .ref b :: rest) h := by
  intro p e R s m args below meth c L A H locs cells slots mc ms ls F r1 r2 r3 r4 r5 r6 r7 r8 hl
  obtain ⟨c0, c1, c2, c4, c5, c6, c7, c8⟩ := hc
  obtain ⟨g1, g2, g3, g4, g5, g6, g7, g8, g9, g10, g11, g12, g13, g14⟩ := id F
  obtain ⟨y1, yc, yn, yr⟩ := y
  dsimp only at c0 c1 c2 c4 c5 c6 c7 c8
  subst c1
  refine run_on (h := h) (rest := rest) (mc' := mc') (ms' := ms') (rc' := rc') (rs' := rs') (a := (Value.ref b :: As).toArray) hrc hrs F r1 r2 r3 r4 r5 r6 r7 r8 hl ?_
  have hM := met_of (k H.size L)
  have hR : ({ frames := d', cells := mc', slots := ms', locals := 60 * d' } : Room).frames + 1 ≤ R.frames ∧ 8 + (yn + 11) + ({ frames := d', cells := mc', slots := ms', locals := 60 * d' } : Room).locals ≤ R.locals := ⟨by show d' + 1 ≤ _; omega, by show 8 + (yn + 11) + 60 * d' ≤ _; omega⟩
  rcases c8 with c8 | ⟨host, c8⟩
  · exact fun T hT XX => Or.inl (va_runI (n := n) (As := As) (rest := rest) (g := F0 m pc ls (As.reverse ++ .ref b :: rest)) ⟨g1, g2, g4, g5, g6⟩ hM ⟨callB_of n g6 (good_cons (y := (y1, yc, yn, none)) c5) rfl rfl rfl (g6 _ c4) (g6 _ c8) c6 hR, c0, g6 _ c2⟩ ⟨pre_blind, fun U hU hW => ⟨rfl, pre_of F r1 r2 r3 r4 U hU hW⟩⟩ rfl hn hl.1 rfl (lv_room hst) hdg ⟨by omega, by omega⟩ T hT XX)
  · exact fun T hT XX => Or.inl (va_runIN (n := n) (As := As) (rest := rest) (host := host) (g := F0 m pc ls (As.reverse ++ .ref b :: rest)) ⟨g1, g2, g4, g5, g6⟩ hM ⟨va_cnB n g6 (good_cons (y := (y1, yc, yn, none)) c5) rfl rfl rfl (g13 _ c8) (g6 _ c4) c6 hR, c0, g6 _ c2⟩ ⟨pre_blind, fun U hU hW => ⟨rfl, pre_of F r1 r2 r3 r4 U hU hW⟩⟩ rfl hn hl.1 rfl (lv_room hst) hdg ⟨by omega, by omega⟩ T hT XX)
end CW
