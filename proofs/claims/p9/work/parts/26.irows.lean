/-! heaps of constructors, stage by stage -/
def pO (h : hp) (c k a : Nat) (v : Option Nat) : hp := (s_O h.1 c k a v, h.2)
def pI (h : hp) (c k a : Nat) (v : Int32) : hp := (h.1, s_I h.2 c k a v)
theorem nK_obj {h : hp} {ci q a c : Nat} (f : q_K h.1 q = 99) (k : q_K h.1 a = c) (hc : c ≠ 99) : q_K (n_obj h ci q).1 a = c := by
  show va_up (q_K h.1) q ci a = c
  rw [va_up_ne _ _ (fun e => hc (by rw [← k, e, f]))]
  exact k
theorem nK_new {h : hp} {ci q : Nat} : q_K (n_obj h ci q).1 q = ci := va_up_self _ _ _
theorem nK_arr {h : hp} {t q n a c : Nat} (f : q_K h.1 q = 99) (k : q_K h.1 a = c) (hc : c ≠ 99) : q_K (n_arr h t q n).1 a = c := by
  show va_up (q_K h.1) q (t + 13) a = c
  rw [va_up_ne _ _ (fun e => hc (by rw [← k, e, f]))]
  exact k
theorem nK_arn {h : hp} {t q n : Nat} : q_K (n_arr h t q n).1 q = t + 13 := va_up_self _ _ _
def frR (h : hp) (q n : Nat) (r : Nat → Nat) : Prop := q_K h.1 q = 99 ∧ (∀ i, i < n → q_K h.1 (r i) = 99 ∧ r i ≠ q) ∧ ∀ i j, i < n → j < n → r i = r j → i = j
theorem nK_ar2 {h : hp} {t t' q n m a c : Nat} {r : Nat → Nat} (f : frR h q n r) (k : q_K h.1 a = c) (hc : c ≠ 99) : q_K (n_ar2 h t t' q n m r).1 a = c := by
  show va_up (vr_up (q_K h.1) ((List.range n).map r) (t' + 13)) q (t + 13) a = c
  rw [va_up_ne _ _ (fun e => hc (by rw [← k, e, f.1])), vr_up_ne]
  · exact k
  · intro hm
    obtain ⟨i, hi, e⟩ := List.mem_map.mp hm
    exact hc (by rw [← k, ← e]; exact (f.2.1 i (List.mem_range.mp hi)).1)
theorem nK_ar2n {h : hp} {t t' q n m : Nat} {r : Nat → Nat} : q_K (n_ar2 h t t' q n m r).1 q = t + 13 := va_up_self _ _ _
section IR
variable {l : Launch} {D : va_G} {cy : Nat → ClassId} {μ : mth} {d rc rs : Nat} {P : Option Value → hp → Prop} {X : String → hp → Prop} {pc : Nat} {lv : List (Nat × Value)} {st : List Value} {h : hp}
theorem i_putF {ci k a b index : Nat} {ty : FieldType} (hdg : decode μ.2.1 pc = .ok (.putfield index, 3)) (hf : fld μ.1.cls index ci k) (hfl : ∀ q : vw_C, vwCl[ci]? = some q → Cond.fieldLink μ.1.cls index q.1 (q.2.1 k).2.1 (q.2.1 k).2.2.1 ∈ TT ∧ q.1 = μ.1.cls) (hw : flF ci k ty) (hin : μ.1.name = "<init>") (hr : i_r ci k = true) (hd : i_d ci k = false) (hn : narrow ty (.ref b) = .ref b) (hfit : fits ty (.ref b) = true) (hK : q_K h.1 a = ci) (kk : AW l D cy μ d rc rs P X (pc + 3) lv st (pO h ci k a (some b))) : AW l D cy μ d rc rs P X pc lv (.ref b :: .ref a :: st) h := a_putF (g := h.1) (δ := h.2) hdg hf hfl hw hin hr hd hn hfit hK kk
theorem i_putI {ci k a index : Nat} {v : Int32} {ty : FieldType} (hdg : decode μ.2.1 pc = .ok (.putfield index, 3)) (hf : fld μ.1.cls index ci k) (hw : flw ci k ty) (hn : narrow ty (.int v) = .int v) (hfit : fits ty (.int v) = true) (hr : i_r ci k = false) (hK : q_K h.1 a = ci) (kk : AW l D cy μ d rc rs P X (pc + 3) lv st (pI h ci k a v)) : AW l D cy μ d rc rs P X pc lv (.int v :: .ref a :: st) h := a_put (g := h.1) (h := h.2) hdg hf hw hn hfit hK (cel_I hK (fld_n hf).2 (fld_n hf).1 hr) rfl kk
theorem i_get {ci k a b index : Nat} (hdg : decode μ.2.1 pc = .ok (.getfield index, 3)) (hf : fld μ.1.cls index ci k) (hr : i_r ci k = true) (hd : i_d ci k = false) (hK : q_K h.1 a = ci) (hb : q_O h.1 ci k a = some b) (kk : AW l D cy μ d rc rs P X (pc + 3) lv (.ref b :: st) h) : AW l D cy μ d rc rs P X pc lv (.ref a :: st) h := a_get (g := h.1) (h := h.2) hdg hf hK (by
  have e : f_v (h.1, h.2) ci a k = .ref b := by simp [f_v, hr, hd, hb, va_rf]
  rw [e]
  exact kk)
end IR
theorem so_eq {h : hp} {c k a : Nat} {v : Option Nat} : q_O (pO h c k a v).1 c k a = v := by simp [pO, s_O, q_O, va_up]
theorem so_ne {h : hp} {c k a c' k' a' : Nat} {v : Option Nat} (e : ¬ (c' = c ∧ k' = k)) : q_O (pO h c k a v).1 c' k' a' = q_O h.1 c' k' a' := by
  show (if c' = c ∧ k' = k then va_up (q_O h.1 c k) a v else q_O h.1 c' k') a' = _
  rw [if_neg e]
theorem so_na {h : hp} {c k a c' k' a' : Nat} {v : Option Nat} (e : a' ≠ a) : q_O (pO h c k a v).1 c' k' a' = q_O h.1 c' k' a' := by
  show (if c' = c ∧ k' = k then va_up (q_O h.1 c k) a v else q_O h.1 c' k') a' = _
  split
  · rename_i z
    rw [va_up_ne _ _ e, z.1, z.2]
  · rfl
theorem nO_obj {h : hp} {ci q a c k d : Nat} (f : q_K h.1 q = 99) (kk : q_K h.1 a = d) (hd : d ≠ 99) : q_O (n_obj h ci q).1 c k a = q_O h.1 c k a := by
  show (if c = ci then va_up (q_O h.1 c k) q none else q_O h.1 c k) a = _
  split
  · rw [va_up_ne _ _ (fun e => hd (by rw [← kk, e, f]))]
  · rfl
theorem Cal.mono {l : Launch} {D : va_G} {cy : Nat → ClassId} {μ : mth} {d mc ms : Nat} {av : List Value} {h : hp} {P P' : Option Value → hp → Prop} {X X' : String → hp → Prop} (k : Cal l D cy μ d mc ms av h P X) (hP : ∀ v h', P v h' → P' v h') (hX : ∀ E h', X E h' → X' E h') : Cal l D cy μ d mc ms av h P' X' := by
  intro sz L p e h1 h2 h3 s m args below hf happ hPc hK
  obtain ⟨n, o, a1, a2, a3, a4⟩ := k sz L p e h1 h2 h3 s m args below hf happ hPc hK
  refine ⟨n, o, a1, a2, a3, ?_⟩
  rcases a4 with ⟨⟨⟨v, h', q1, q2, q3⟩, q4⟩, q5⟩ | ⟨q, q0, E, ce, L, ⟨⟨h', x1, x2⟩, x3⟩, x4⟩
  · exact Or.inl ⟨⟨⟨v, h', q1, hP _ _ q2, q3⟩, q4⟩, q5⟩
  · exact Or.inr ⟨q, q0, E, ce, L, ⟨⟨h', hX _ _ x1, x2⟩, x3⟩, x4⟩
theorem nO_arr {h : hp} {t q n c k a : Nat} : q_O (n_arr h t q n).1 c k a = q_O h.1 c k a := rfl
theorem nO_ar2 {h : hp} {t t' q n m c k a : Nat} {r : Nat → Nat} : q_O (n_ar2 h t t' q n m r).1 c k a = q_O h.1 c k a := rfl
theorem nO_pI {h : hp} {c' k' a' c k a : Nat} {v : Int32} : q_O (pI h c' k' a' v).1 c k a = q_O h.1 c k a := rfl
