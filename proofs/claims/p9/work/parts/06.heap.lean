/-! rows of the heap: fields and arrays -/
theorem f_at {h : hp} {c a k : Nat} (hk : k < n_f c) : (f_s h c a)[k]? = some (f_v h c a k) := by
  unfold f_s
  rw [List.getElem?_map, List.getElem?_range hk]
  rfl
theorem f_len {h : hp} {c a : Nat} : (f_s h c a).length = n_f c := by simp [f_s]
theorem f_set {h h' : hp} {c a k : Nat} {v : Value} (hk : k < n_f c) (he : ∀ j, j < n_f c → f_v h' c a j = if j = k then v else f_v h c a j) : (f_s h c a).set k v = f_s h' c a := by
  apply List.ext_getElem?
  intro j
  rw [List.getElem?_set]
  by_cases hj : j < n_f c
  · rw [f_at hj, f_at hj, he j hj, f_len]
    by_cases e : k = j
    · subst e; simp [hk]
    · simp [e, Ne.symm e]
  · have h1 : (f_s h c a)[j]? = none := List.getElem?_eq_none (by rw [f_len]; omega)
    have h2 : (f_s h' c a)[j]? = none := List.getElem?_eq_none (by rw [f_len]; omega)
    rw [h1, h2]
    by_cases e : k = j
    · subst e; omega
    · simp [e]
theorem cel_o {cy : Nat → ClassId} {h : hp} {a ci : Nat} (hK : q_K h.1 a = ci) (hci : ci < 13) : cel cy h a = .inr (ci, f_s h ci a) := by
  unfold cel
  rw [hK, if_pos hci]
theorem cel_i {cy : Nat → ClassId} {h : hp} {a : Nat} (hK : q_K h.1 a = 13) : cel cy h a = .inl (cy 0, q_N h.1 a, .inl (q_R h.2 a)) := by
  unfold cel
  rw [hK]
  rfl
theorem cel_j {cy : Nat → ClassId} {h : hp} {a : Nat} (hK : q_K h.1 a = 14) : cel cy h a = .inl (cy 1, q_N h.1 a, .inr (.inl (q_J h.2 a))) := by
  unfold cel
  rw [hK]
  rfl
theorem cel_z {cy : Nat → ClassId} {h : hp} {a : Nat} (hK : q_K h.1 a = 15) : cel cy h a = .inl (cy 2, q_N h.1 a, .inl (q_R h.2 a)) := by
  unfold cel
  rw [hK]
  rfl
theorem cel_e {cy : Nat → ClassId} {h : hp} {a t : Nat} (hK : q_K h.1 a = t + 13) (ht : 3 ≤ t) : cel cy h a = .inl (cy t, q_N h.1 a, .inr (.inr (.inr (.inr (q_E h.1 a))))) := by
  unfold cel
  rw [hK, if_neg (by omega), if_neg (by omega), if_neg (by omega), if_neg (by omega), Nat.add_sub_cancel]
theorem cel_up {cy : Nat → ClassId} {h h' : hp} {a : Nat} {x : va_E} (h0 : x = cel cy h' a) (h1 : ∀ b, b ≠ a → cel cy h' b = cel cy h b) : va_up (cel cy h) a x = cel cy h' := by
  funext b
  by_cases hb : b = a
  · subst hb
    rw [va_up_self, h0]
  · rw [va_up_ne _ _ hb, h1 b hb]
theorem f_s_eq {h h' : hp} {c a : Nat} (he : ∀ j, f_v h' c a j = f_v h c a j) : f_s h' c a = f_s h c a := by
  unfold f_s
  exact List.map_congr_left (fun j _ => he j)
theorem cel_eq {cy : Nat → ClassId} {h h' : hp} {b : Nat} (h1 : h'.1 = h.1) (hI : ∀ c k, q_I h'.2 c k b = q_I h.2 c k b) (hV : ∀ c k, q_V h'.2 c k b = q_V h.2 c k b) (hR : q_R h'.2 b = q_R h.2 b) (hJ : q_J h'.2 b = q_J h.2 b) : cel cy h' b = cel cy h b := by
  unfold cel
  rw [h1, hR, hJ, f_s_eq (h' := h') (h := h) (fun j => by unfold f_v; rw [h1, hI, hV])]
theorem cel_I {cy : Nat → ClassId} {g : gp} {h : dp} {ci k a : Nat} {v : Int32} (hK : q_K g a = ci) (hci : ci < 13) (hk : k < n_f ci) (hr : i_r ci k = false) : va_up (cel cy (g, h)) a (.inr (ci, (f_s (g, h) ci a).set k (.int v))) = cel cy (g, s_I h ci k a v) := by
  refine cel_up ?_ (fun b hb => cel_eq rfl (fun c j => ?_) (fun _ _ => rfl) rfl rfl)
  · rw [cel_o (h := (g, s_I h ci k a v)) hK hci, f_set (h' := (g, s_I h ci k a v)) hk]
    intro j _
    unfold f_v
    by_cases e : j = k
    · subst e; simp [hr, s_I, q_I, va_up]
    · simp [e, s_I, q_I, q_V]
  · simp only [s_I, q_I]
    split
    · rename_i e
      rw [va_up_ne _ _ hb, e.1, e.2]
    · rfl
theorem cel_V {cy : Nat → ClassId} {g : gp} {h : dp} {ci k a : Nat} {v : Option Nat} (hK : q_K g a = ci) (hci : ci < 13) (hk : k < n_f ci) (hr : i_r ci k = true) (hd : i_d ci k = true) : va_up (cel cy (g, h)) a (.inr (ci, (f_s (g, h) ci a).set k (va_rf v))) = cel cy (g, s_V h ci k a v) := by
  refine cel_up ?_ (fun b hb => cel_eq rfl (fun _ _ => rfl) (fun c j => ?_) rfl rfl)
  · rw [cel_o (h := (g, s_V h ci k a v)) hK hci, f_set (h' := (g, s_V h ci k a v)) hk]
    intro j _
    unfold f_v
    by_cases e : j = k
    · subst e; simp [hr, hd, s_V, q_V, va_up]
    · simp [e, s_V, q_I, q_V]
  · simp only [s_V, q_V]
    split
    · rename_i e
      rw [va_up_ne _ _ hb, e.1, e.2]
    · rfl
theorem cel_R {cy : Nat → ClassId} {g : gp} {h : dp} {a i : Nat} {v : Int32} (hK : q_K g a = 13) : va_up (cel cy (g, h)) a (.inl (cy 0, q_N g a, .inl (upd (q_R h a) i v))) = cel cy (g, s_R h a i v) := by
  refine cel_up ?_ (fun b hb => cel_eq rfl (fun _ _ => rfl) (fun _ _ => rfl) ?_ rfl)
  · rw [cel_i (h := (g, s_R h a i v)) hK]
    simp [s_R, q_R, va_up]
  · simp only [s_R, q_R, va_up_ne _ _ hb]
theorem cel_Z {cy : Nat → ClassId} {g : gp} {h : dp} {a i : Nat} {v : Int32} (hK : q_K g a = 15) : va_up (cel cy (g, h)) a (.inl (cy 2, q_N g a, .inl (upd (q_R h a) i v))) = cel cy (g, s_R h a i v) := by
  refine cel_up ?_ (fun b hb => cel_eq rfl (fun _ _ => rfl) (fun _ _ => rfl) ?_ rfl)
  · rw [cel_z (h := (g, s_R h a i v)) hK]
    simp [s_R, q_R, va_up]
  · simp only [s_R, q_R, va_up_ne _ _ hb]
theorem cel_C {cy : Nat → ClassId} {g : gp} {h : dp} {a b i j n : Nat} (hK : q_K g b = 13) : va_up (cel cy (g, h)) b (.inl (cy 0, q_N g b, .inl (va_cpy (q_R h a) (q_R h b) i j n))) = cel cy (g, s_C h a b i j n) := by
  refine cel_up ?_ (fun b' hb => cel_eq rfl (fun _ _ => rfl) (fun _ _ => rfl) ?_ rfl)
  · rw [cel_i (h := (g, s_C h a b i j n)) hK]
    simp [s_C, q_R, va_up]
  · simp only [s_C, q_R, va_up_ne _ _ hb]
theorem cel_J {cy : Nat → ClassId} {g : gp} {h : dp} {a i : Nat} {v : Int64} (hK : q_K g a = 14) : va_up (cel cy (g, h)) a (.inl (cy 1, q_N g a, .inr (.inl (vp_updL (q_J h a) i v)))) = cel cy (g, s_J h a i v) := by
  refine cel_up ?_ (fun b hb => cel_eq rfl (fun _ _ => rfl) (fun _ _ => rfl) rfl ?_)
  · rw [cel_j (h := (g, s_J h a i v)) hK]
    simp [s_J, q_J, va_up]
  · simp only [s_J, q_J, va_up_ne _ _ hb]
theorem rp_mem {D : va_G} {cy : Nat → ClassId} {A : Nat → Prop} {L : List Nat} {h : hp} {H : Heap} {a : Nat} (r : rp D cy A L h H) (hk : q_K h.1 a ≠ 99) : a ∈ L := Classical.byContradiction (fun n => hk (r.2.2 a n))
theorem rp_in {D : va_G} {cy : Nat → ClassId} {A : Nat → Prop} {L : List Nat} {h : hp} {H : Heap} {a : Nat} (r : rp D cy A L h H) (hk : q_K h.1 a ≠ 99) : ∃ k : Nat, (va_pl L (cel cy h))[k]? = some (a, cel cy h a) := va_pl_get (X := []) (rp_mem r hk)
theorem rp_up {D : va_G} {cy : Nat → ClassId} {A : Nat → Prop} {L : List Nat} {h h' : hp} {H H1 : Heap} {a k : Nat} {x : va_E} (r : rp D cy A L h H) (hL : a ∈ L) (hk : (va_pl L (cel cy h))[k]? = some (a, cel cy h a)) (he : va_up (cel cy h) a x = cel cy h') (hKK : q_K h'.1 = q_K h.1) (hP : va_P D vwCl ((va_pl L (cel cy h)).set k (a, x)) H1) (hD : va_D A ((va_pl L (cel cy h)).set k (a, x))) : rp D cy A L h' H1 := by
  have e := va_pl_set (X := []) (e := x) r.2.1 hL hk
  rw [he] at e
  have e' : (va_pl L (cel cy h)).set k (a, x) = va_pl L (cel cy h') := e
  rw [e'] at hP hD
  exact ⟨hP, hD, by rw [hKK]; exact r.2.2⟩
/-- the field k of the class ci is what the row 'index' of the class own's pool names -/
def fld (own : String) (index ci k : Nat) : Prop := ∃ q : vw_C, vwCl[ci]? = some q ∧ k < q.2.2 ∧ ci < 13 ∧ (∀ w ∈ u_ws q.1 q.2.1 q.2.2, w ∈ TT) ∧ (q.2.1 k).1 = q.1 ∧ (Cond.fieldLink own index q.1 (q.2.1 k).2.1 (q.2.1 k).2.2.1 ∈ TT ∨ ∃ host, Cond.fieldLinkNest own index q.1 (q.2.1 k).2.1 (q.2.1 k).2.2.1 host ∈ NW)
/-- and it may be written, its type ty -/
def flw (ci k : Nat) (ty : FieldType) : Prop := ∃ (q : vw_C) (ty0 : Nat → FieldType), vwCl[ci]? = some q ∧ (∀ j, j < q.2.2 → parseFieldDescriptor (q.2.1 j).2.2.1 = some (ty0 j)) ∧ (∀ a, a < q.2.2 → ∀ b, b < q.2.2 → a ≠ b → (q.2.1 a).2.1 ≠ (q.2.1 b).2.1) ∧ (q.2.1 k).2.2.2 = false ∧ parseFieldDescriptor (q.2.1 k).2.2.1 = some ty
theorem fld_n {own : String} {index ci k : Nat} (hf : fld own index ci k) : k < n_f ci ∧ ci < 13 := by
  obtain ⟨⟨C, T, N⟩, h1, h2, h3, -⟩ := hf
  exact ⟨by simp [n_f, h1]; exact h2, h3⟩
section HR
variable {l : Launch} {D : va_G} {cy : Nat → ClassId} {μ : mth} {d rc rs : Nat} {P : Option Value → hp → Prop} {X : String → hp → Prop} {pc : Nat} {lv : List (Nat × Value)} {st : List Value} {g : gp} {h : dp}
theorem a_get {ci k a index : Nat} (hdg : decode μ.2.1 pc = .ok (.getfield index, 3)) (hf : fld μ.1.cls index ci k) (hK : q_K g a = ci) (kk : AW l D cy μ d rc rs P X (pc + 3) lv (f_v (g, h) ci a k :: st) (g, h)) : AW l D cy μ d rc rs P X pc lv (.ref a :: st) (g, h) := by
  intro p e R s m args below meth c L A H locs cells slots mc ms ls F r1 r2 r3 r4 r5 r6 r7 r8 hl
  obtain ⟨⟨C, T, N⟩, h1, h2, h3, h4, h5, h6⟩ := hf
  dsimp only at h2 h4 h5 h6
  obtain ⟨q0, hq⟩ := rp_in r1 (a := a) (by show q_K g a ≠ 99; omega)
  rw [cel_o (h := (g, h)) hK h3] at hq
  have hn : n_f ci = N := by simp [n_f, h1]
  have hsame : ∀ x, s.fieldFound? (T k).1 (T k).2.1 (T k).2.2.1 = some x → s.fieldFound? C (T k).2.1 (T k).2.2.1 = some x := fun x hx => by rw [h5] at hx; exact hx
  obtain ⟨g1, g2, g3, g4, g5, g6, g7, g8⟩ := id F
  rcases h6 with h6 | ⟨host, h6⟩
  · exact va_get g1 g2 g6 h4 g5 g7 r1.1 q0 hq h1 k h2 (g6 _ h6) hsame (f_at (by omega)) hdg (kk p e R s m args below meth c L A H locs cells slots mc ms ls F r1 r2 r3 r4 r5 r6 r7 r8 hl)
  · exact va_getN g1 g2 g6 h4 g5 g7 r1.1 q0 hq h1 k h2 (va_Nw.use rfl (g8.2.2.2.2.2.1 _ h6)) hsame (f_at (by omega)) hdg (kk p e R s m args below meth c L A H locs cells slots mc ms ls F r1 r2 r3 r4 r5 r6 r7 r8 hl)
theorem a_put {ci k a index : Nat} {v : Value} {ty : FieldType} {h' : hp} (hdg : decode μ.2.1 pc = .ok (.putfield index, 3)) (hf : fld μ.1.cls index ci k) (hw : flw ci k ty) (hn : narrow ty v = v) (hfit : fits ty v = true) (hK : q_K g a = ci) (he : va_up (cel cy (g, h)) a (.inr (ci, (f_s (g, h) ci a).set k v)) = cel cy h') (hKK : q_K h'.1 = q_K g) (kk : AW l D cy μ d rc rs P X (pc + 3) lv st h') : AW l D cy μ d rc rs P X pc lv (v :: .ref a :: st) (g, h) := by
  intro p e R s m args below meth c L A H locs cells slots mc ms ls F r1 r2 r3 r4 r5 r6 r7 r8 hl
  obtain ⟨⟨C, T, N⟩, h1, h2, h3, h4, h5, h6⟩ := hf
  dsimp only at h2 h4 h5 h6
  obtain ⟨q', ty0, w1, w2, w3, w4, w5⟩ := hw
  have hq' : q' = (C, T, N) := Option.some.inj (w1.symm.trans h1)
  subst hq'
  dsimp only at w2 w3 w4 w5
  obtain ⟨q0, hq⟩ := rp_in r1 (a := a) (by show q_K g a ≠ 99; omega)
  have hL := rp_mem r1 (a := a) (by show q_K g a ≠ 99; omega)
  have hq9 := hq
  rw [cel_o (h := (g, h)) hK h3] at hq
  have hnf : n_f ci = N := by simp [n_f, h1]
  have hsame : ∀ x, s.fieldFound? (T k).1 (T k).2.1 (T k).2.2.1 = some x → s.fieldFound? C (T k).2.1 (T k).2.2.1 = some x := fun x hx => by rw [h5] at hx; exact hx
  obtain ⟨g1, g2, g3, g4, g5, g6, g7, g8⟩ := id F
  have go : ∀ (H1 : Heap) (locs1 : List Loc), va_P D vwCl ((va_pl L (cel cy (g, h))).set q0 (a, .inr (ci, (f_s (g, h) ci a).set k v))) H1 → va_D A ((va_pl L (cel cy (g, h))).set q0 (a, .inr (ci, (f_s (g, h) ci a).set k v))) → va_S A s.heap H1 locs1 → W p l e R s m args below meth c H1 locs1 cells slots (vx_MQ below (qc D cy P A) (xc D cy X A) args s mc ms A) (F0 m (pc + 3) ls st) := fun H1 locs1 hP hD hS => kk p e R s m args below meth c L A H1 locs1 cells slots mc ms ls F (rp_up r1 hL hq9 he hKK hP hD) hS r3 r4 r5 r6 r7 r8 hl
  rcases h6 with h6 | ⟨host, h6⟩
  · exact va_put g1 g2 g6 h4 ty0 w2 w3 g5 g7 r1.1 r1.2.1 r2 q0 hq h1 k h2 (g6 _ h6) hsame w4 w5 hn hfit (by rw [f_len]; omega) hdg go
  · exact va_putN g1 g2 g6 h4 ty0 w2 w3 g5 g7 r1.1 r1.2.1 r2 q0 hq h1 k h2 (va_Nw.use rfl (g8.2.2.2.2.2.1 _ h6)) hsame w4 w5 hn hfit (by rw [f_len]; omega) hdg go
theorem a_ald {a : Nat} {i : Int32} (hdg : decode μ.2.1 pc = .ok (.iaload, 1)) (hK : q_K g a = 13) (hi : vp_in i (q_N g a)) (kk : AW l D cy μ d rc rs P X (pc + 1) lv (.int (q_R h a i.toNatClampNeg) :: st) (g, h)) : AW l D cy μ d rc rs P X pc lv (.int i :: .ref a :: st) (g, h) := by
  intro p e R s m args below meth c L A H locs cells slots mc ms ls F r1 r2 r3 r4 r5 r6 r7 r8 hl
  obtain ⟨q0, hq⟩ := rp_in r1 (a := a) (by show q_K g a ≠ 99; omega)
  rw [cel_i (h := (g, h)) hK] at hq
  exact va_iald F.1 F.2.1 F.2.2.2.2.2.2.1 r1.1 q0 0 hq rfl hi hdg (kk p e R s m args below meth c L A H locs cells slots mc ms ls F r1 r2 r3 r4 r5 r6 r7 r8 hl)
theorem a_zald {a : Nat} {i : Int32} (hdg : decode μ.2.1 pc = .ok (.baload, 1)) (hK : q_K g a = 15) (hi : vp_in i (q_N g a)) (kk : AW l D cy μ d rc rs P X (pc + 1) lv (.int (q_R h a i.toNatClampNeg) :: st) (g, h)) : AW l D cy μ d rc rs P X pc lv (.int i :: .ref a :: st) (g, h) := by
  intro p e R s m args below meth c L A H locs cells slots mc ms ls F r1 r2 r3 r4 r5 r6 r7 r8 hl
  obtain ⟨q0, hq⟩ := rp_in r1 (a := a) (by show q_K g a ≠ 99; omega)
  rw [cel_z (h := (g, h)) hK] at hq
  exact va_zald F.1 F.2.1 F.2.2.2.2.2.2.1 r1.1 q0 2 hq rfl hi hdg (kk p e R s m args below meth c L A H locs cells slots mc ms ls F r1 r2 r3 r4 r5 r6 r7 r8 hl)
theorem a_lald {a : Nat} {i : Int32} (hdg : decode μ.2.1 pc = .ok (.laload, 1)) (hK : q_K g a = 14) (hi : vp_in i (q_N g a)) (kk : AW l D cy μ d rc rs P X (pc + 1) lv (.long (q_J h a i.toNatClampNeg) :: st) (g, h)) : AW l D cy μ d rc rs P X pc lv (.int i :: .ref a :: st) (g, h) := by
  intro p e R s m args below meth c L A H locs cells slots mc ms ls F r1 r2 r3 r4 r5 r6 r7 r8 hl
  obtain ⟨q0, hq⟩ := rp_in r1 (a := a) (by show q_K g a ≠ 99; omega)
  rw [cel_j (h := (g, h)) hK] at hq
  exact va_lald F.1 F.2.1 F.2.2.2.2.2.2.1 r1.1 q0 1 hq rfl hi hdg (kk p e R s m args below meth c L A H locs cells slots mc ms ls F r1 r2 r3 r4 r5 r6 r7 r8 hl)
theorem a_aald {a t : Nat} {i : Int32} {ty : FieldType} (hdg : decode μ.2.1 pc = .ok (.aaload, 1)) (hK : q_K g a = t + 13) (ht : 3 ≤ t) (hty : (tys cy)[t]? = some (cy t, ty)) (hr : ty.isReference = true) (hi : vp_in i (q_N g a)) (kk : AW l D cy μ d rc rs P X (pc + 1) lv (va_rf (q_E g a i.toNatClampNeg) :: st) (g, h)) (h9 : t < 20) : AW l D cy μ d rc rs P X pc lv (.int i :: .ref a :: st) (g, h) := by
  intro p e R s m args below meth c L A H locs cells slots mc ms ls F r1 r2 r3 r4 r5 r6 r7 r8 hl
  obtain ⟨q0, hq⟩ := rp_in r1 (a := a) (by show q_K g a ≠ 99; omega)
  rw [cel_e (h := (g, h)) hK ht] at hq
  have hlt : i.toNatClampNeg < q_N g a := Nat.not_le.mp fun q => hi (Or.inr q)
  exact W.aald (v := va_rf (q_E g a i.toNatClampNeg)) (ty := ty) F.1 F.2.1 (r1.1 q0 _ hq) ((F.2.2.2.2.2.2.1.2 t _ hty).1 (q_N g a) (fun j => va_rf (q_E g a j))) hr (fun q => by cases q) (by show ¬ (i < 0 ∨ (arrV _ _ _).slots.size ≤ _); rw [arrV_size]; exact hi) (by show (arrV _ _ _).slots[_]? = _; rw [arrV_read _ _ hlt]) rfl rfl hdg (kk p e R s m args below meth c L A H locs cells slots mc ms ls F r1 r2 r3 r4 r5 r6 r7 r8 hl)
theorem a_ast {a : Nat} {i x : Int32} (hdg : decode μ.2.1 pc = .ok (.iastore, 1)) (hK : q_K g a = 13) (hi : vp_in i (q_N g a)) (kk : AW l D cy μ d rc rs P X (pc + 1) lv st (g, s_R h a i.toNatClampNeg x)) : AW l D cy μ d rc rs P X pc lv (.int x :: .int i :: .ref a :: st) (g, h) := by
  intro p e R s m args below meth c L A H locs cells slots mc ms ls F r1 r2 r3 r4 r5 r6 r7 r8 hl
  obtain ⟨q0, hq⟩ := rp_in r1 (a := a) (by show q_K g a ≠ 99; omega)
  have hq9 := hq
  rw [cel_i (h := (g, h)) hK] at hq
  exact va_iast F.1 F.2.1 F.2.2.2.2.2.2.1 r1.1 r1.2.1 r2 q0 0 hq rfl hi hdg (fun H1 locs1 hP hD hS => kk p e R s m args below meth c L A H1 locs1 cells slots mc ms ls F (rp_up r1 (rp_mem r1 (by show q_K g a ≠ 99; omega)) hq9 (cel_R hK) rfl hP hD) hS r3 r4 r5 r6 r7 r8 hl)
theorem a_zast {a : Nat} {i x : Int32} (hdg : decode μ.2.1 pc = .ok (.bastore, 1)) (hK : q_K g a = 15) (hi : vp_in i (q_N g a)) (kk : AW l D cy μ d rc rs P X (pc + 1) lv st (g, s_R h a i.toNatClampNeg (vp_nar .boolean x))) : AW l D cy μ d rc rs P X pc lv (.int x :: .int i :: .ref a :: st) (g, h) := by
  intro p e R s m args below meth c L A H locs cells slots mc ms ls F r1 r2 r3 r4 r5 r6 r7 r8 hl
  obtain ⟨q0, hq⟩ := rp_in r1 (a := a) (by show q_K g a ≠ 99; omega)
  have hq9 := hq
  rw [cel_z (h := (g, h)) hK] at hq
  exact va_zast F.1 F.2.1 F.2.2.2.2.2.2.1 r1.1 r1.2.1 r2 q0 2 hq rfl hi hdg (fun H1 locs1 hP hD hS => kk p e R s m args below meth c L A H1 locs1 cells slots mc ms ls F (rp_up r1 (rp_mem r1 (by show q_K g a ≠ 99; omega)) hq9 (cel_Z hK) rfl hP hD) hS r3 r4 r5 r6 r7 r8 hl)
theorem a_last {a : Nat} {i : Int32} {x : Int64} (hdg : decode μ.2.1 pc = .ok (.lastore, 1)) (hK : q_K g a = 14) (hi : vp_in i (q_N g a)) (kk : AW l D cy μ d rc rs P X (pc + 1) lv st (g, s_J h a i.toNatClampNeg x)) : AW l D cy μ d rc rs P X pc lv (.long x :: .int i :: .ref a :: st) (g, h) := by
  intro p e R s m args below meth c L A H locs cells slots mc ms ls F r1 r2 r3 r4 r5 r6 r7 r8 hl
  obtain ⟨q0, hq⟩ := rp_in r1 (a := a) (by show q_K g a ≠ 99; omega)
  have hq9 := hq
  rw [cel_j (h := (g, h)) hK] at hq
  exact va_last F.1 F.2.1 F.2.2.2.2.2.2.1 r1.1 r1.2.1 r2 q0 1 hq rfl hi hdg (fun H1 locs1 hP hD hS => kk p e R s m args below meth c L A H1 locs1 cells slots mc ms ls F (rp_up r1 (rp_mem r1 (by show q_K g a ≠ 99; omega)) hq9 (cel_J hK) rfl hP hD) hS r3 r4 r5 r6 r7 r8 hl)
theorem a_alen {a t : Nat} {ty : FieldType} (hdg : decode μ.2.1 pc = .ok (.arraylength, 1)) (hK : q_K g a = t + 13) (hty : (tys cy)[t]? = some (cy t, ty)) (h9 : t < 20) (kk : AW l D cy μ d rc rs P X (pc + 1) lv (.int (Int32.ofNat (q_N g a)) :: st) (g, h)) : AW l D cy μ d rc rs P X pc lv (.ref a :: st) (g, h) := by
  intro p e R s m args below meth c L A H locs cells slots mc ms ls F r1 r2 r3 r4 r5 r6 r7 r8 hl
  obtain ⟨q0, hq⟩ := rp_in r1 (a := a) (by show q_K g a ≠ 99; omega)
  have hc : ∃ z : vp_A, cel cy (g, h) a = .inl (cy t, z) ∧ z.1 = q_N g a := by
    rcases Nat.lt_or_ge t 3 with q | q
    · rcases (show t = 0 ∨ t = 1 ∨ t = 2 by omega) with rfl | rfl | rfl
      · exact ⟨_, cel_i (h := (g, h)) hK, rfl⟩
      · exact ⟨_, cel_j (h := (g, h)) hK, rfl⟩
      · exact ⟨_, cel_z (h := (g, h)) hK, rfl⟩
    · exact ⟨_, cel_e (h := (g, h)) hK q, rfl⟩
  obtain ⟨z, hz, hz1⟩ := hc
  rw [hz] at hq
  exact va_alen F.1 F.2.1 F.2.2.2.2.2.2.1 r1.1 q0 t hq hty (by rw [hz1]) hdg (kk p e R s m args below meth c L A H locs cells slots mc ms ls F r1 r2 r3 r4 r5 r6 r7 r8 hl)
end HR
