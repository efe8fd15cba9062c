/-! the rows of values: fields, arrays, ends, calls -/
def ei (r : Int32 × dp) : (Option Value ⊕ String) × dp := (.inl (some (.int r.1)), r.2)
def el (r : Int64 × dp) : (Option Value ⊕ String) × dp := (.inl (some (.long r.1)), r.2)
def ev (r : dp) : (Option Value ⊕ String) × dp := (.inl none, r)
def exn (n : Nat) : String := if n = 0 then "java/lang/IndexOutOfBoundsException" else if n = 1 then "java/util/NoSuchElementException" else "java/lang/IllegalArgumentException"
def ex (r : (Int32 ⊕ Nat) × dp) : (Option Value ⊕ String) × dp := (match r.1 with | .inl v => .inl (some (.int v)) | .inr n => .inr (exn n), r.2)
def exv (r : (Unit ⊕ Nat) × dp) : (Option Value ⊕ String) × dp := (match r.1 with | .inl _ => .inl none | .inr n => .inr (exn n), r.2)
def CalD (l : Launch) (D : va_G) (cy : Nat → ClassId) (y : mth) (d mc ms : Nat) {ρ : Type} (em : ρ → (Option Value ⊕ String) × dp) (g : gp) (av : List Value) (δ : dp) (o : Option ρ) : Prop :=
  ∀ r : ρ, o = some r → ∀ (P : Option Value → hp → Prop) (X : String → hp → Prop), emk (em r) P X g → Cal l D cy y d mc ms av (g, δ) P X
/-- a value that is named -/
def bd {ρ : Type} (v : dp) (f : dp → Option ρ) : Option ρ := f v
def bi {ρ : Type} (v : Int32) (f : Int32 → Option ρ) : Option ρ := f v
def bl {ρ : Type} (v : Int64) (f : Int64 → Option ρ) : Option ρ := f v
section WR
variable {l : Launch} {D : va_G} {cy : Nat → ClassId} {μ : mth} {d rc rs : Nat} {pc : Nat} {lv : List (Nat × Value)} {st : List Value} {g : gp} {δ : dp} {ρ : Type} {em : ρ → (Option Value ⊕ String) × dp} {o o2 : Option ρ}
theorem CalD.of {av : List Value} (hy : plainFor μ.1 = true) (hn : (lg_sl av).length ≤ μ.2.2.1) (hl : l.stackTraces = false) (k : AWD l D cy μ d rc rs em g 0 (lv_args 0 av) [] δ o) : CalD l D cy μ d rc rs em g av δ o := fun r hr P X hP => Cal.of hy hn hl (k r hr P X hP)
theorem w_none : AWD l D cy μ d rc rs em g pc lv st δ none := fun r hr => by cases hr
theorem w_by {q : Prop} {i : Decidable q} (k : q → AWD l D cy μ d rc rs em g pc lv st δ o) (k2 : ¬ q → AWD l D cy μ d rc rs em g pc lv st δ o2) : AWD l D cy μ d rc rs em g pc lv st δ (if q then o else o2) := by
  intro r hr
  by_cases z : q
  · rw [if_pos z] at hr; exact k z r hr
  · rw [if_neg z] at hr; exact k2 z r hr
theorem w_bd {f : dp → Option ρ} (k : ∀ δ1 : dp, δ1 = δ → AWD l D cy μ d rc rs em g pc lv st δ1 (f δ1)) : AWD l D cy μ d rc rs em g pc lv st δ (bd δ f) := k δ rfl
theorem w_bi {x : Int32} {f : Int32 → Option ρ} (k : ∀ x1 : Int32, x1 = x → AWD l D cy μ d rc rs em g pc lv (.int x1 :: st) δ (f x1)) : AWD l D cy μ d rc rs em g pc lv (.int x :: st) δ (bi x f) := k x rfl
theorem w_inb {x : Int32} {f : Int32 → Option ρ} (k : ∀ x1 : Int32, x1 = x → AWD l D cy μ d rc rs em g pc lv st δ (f x1)) : AWD l D cy μ d rc rs em g pc lv st δ (bi x f) := k x rfl
theorem w_bl {x : Int64} {f : Int64 → Option ρ} (k : ∀ x1 : Int64, x1 = x → AWD l D cy μ d rc rs em g pc lv (.long x1 :: st) δ (f x1)) : AWD l D cy μ d rc rs em g pc lv (.long x :: st) δ (bl x f) := k x rfl
theorem w_gd {q : Prop} {i : Decidable q} (k : q → AWD l D cy μ d rc rs em g pc lv st δ o) : AWD l D cy μ d rc rs em g pc lv st δ (if q then o else none) := by
  intro r hr
  by_cases z : q
  · rw [if_pos z] at hr; exact k z r hr
  · rw [if_neg z] at hr; cases hr
theorem w_gn {q : Prop} {i : Decidable q} (k : ¬ q → AWD l D cy μ d rc rs em g pc lv st δ o) : AWD l D cy μ d rc rs em g pc lv st δ (if q then none else o) := by
  intro r hr
  by_cases z : q
  · rw [if_pos z] at hr; cases hr
  · rw [if_neg z] at hr; exact k z r hr
theorem w_getI {ci k a index : Nat} (hdg : decode μ.2.1 pc = .ok (.getfield index, 3)) (hf : fld μ.1.cls index ci k) (hr : i_r ci k = false) (hK : q_K g a = ci) (kk : AWD l D cy μ d rc rs em g (pc + 3) lv (.int (q_I δ ci k a) :: st) δ o) : AWD l D cy μ d rc rs em g pc lv (.ref a :: st) δ o := fun r h P X hP => a_get hdg hf hK (by
  have e : f_v (g, δ) ci a k = .int (q_I δ ci k a) := by simp [f_v, hr]
  rw [e]
  exact kk r h P X hP)
theorem w_getO {ci k a index : Nat} {o' : Nat → Option ρ} (hdg : decode μ.2.1 pc = .ok (.getfield index, 3)) (hf : fld μ.1.cls index ci k) (hr : i_r ci k = true) (hd : i_d ci k = false) (hK : q_K g a = ci) (kk : ∀ b : Nat, q_O g ci k a = some b → AWD l D cy μ d rc rs em g (pc + 3) lv (.ref b :: st) δ (o' b)) : AWD l D cy μ d rc rs em g pc lv (.ref a :: st) δ ((q_O g ci k a).bind o') := fun r h P X hP => a_get hdg hf hK (by
  have e : f_v (g, δ) ci a k = va_rf (q_O g ci k a) := by simp [f_v, hr, hd]
  obtain ⟨b, hb, h2⟩ := Option.bind_eq_some_iff.mp h
  rw [e, hb]
  exact kk b hb r h2 P X hP)
theorem w_getV {ci k a index : Nat} {o' : Nat → Option ρ} (hdg : decode μ.2.1 pc = .ok (.getfield index, 3)) (hf : fld μ.1.cls index ci k) (hr : i_r ci k = true) (hd : i_d ci k = true) (hK : q_K g a = ci) (kk : ∀ b : Nat, q_V δ ci k a = some b → AWD l D cy μ d rc rs em g (pc + 3) lv (.ref b :: st) δ (o' b)) : AWD l D cy μ d rc rs em g pc lv (.ref a :: st) δ ((q_V δ ci k a).bind o') := fun r h P X hP => a_get hdg hf hK (by
  have e : f_v (g, δ) ci a k = va_rf (q_V δ ci k a) := by simp [f_v, hr, hd]
  obtain ⟨b, hb, h2⟩ := Option.bind_eq_some_iff.mp h
  rw [e, hb]
  exact kk b hb r h2 P X hP)
theorem w_getR {ci k a index : Nat} (hdg : decode μ.2.1 pc = .ok (.getfield index, 3)) (hf : fld μ.1.cls index ci k) (hr : i_r ci k = true) (hd : i_d ci k = true) (hK : q_K g a = ci) (kk : AWD l D cy μ d rc rs em g (pc + 3) lv (va_rf (q_V δ ci k a) :: st) δ o) : AWD l D cy μ d rc rs em g pc lv (.ref a :: st) δ o := fun r h P X hP => a_get hdg hf hK (by
  have e : f_v (g, δ) ci a k = va_rf (q_V δ ci k a) := by simp [f_v, hr, hd]
  rw [e]
  exact kk r h P X hP)
theorem w_putI {ci k a index : Nat} {v : Int32} (hdg : decode μ.2.1 pc = .ok (.putfield index, 3)) (hf : fld μ.1.cls index ci k) (hw : flw ci k .int) (hr : i_r ci k = false) (hK : q_K g a = ci) (kk : AWD l D cy μ d rc rs em g (pc + 3) lv st (s_I δ ci k a v) o) : AWD l D cy μ d rc rs em g pc lv (.int v :: .ref a :: st) δ o := fun r h P X hP => a_put hdg hf hw rfl rfl hK (cel_I hK (fld_n hf).2 (fld_n hf).1 hr) rfl (kk r h P X hP)
theorem nar_z {v : Int32} (hv : v = 0 ∨ v = 1) : narrow .boolean (.int v) = .int v := by
  rcases hv with rfl | rfl <;> rfl
theorem w_putZ {ci k a index : Nat} {v : Int32} (hdg : decode μ.2.1 pc = .ok (.putfield index, 3)) (hf : fld μ.1.cls index ci k) (hw : flw ci k .boolean) (hr : i_r ci k = false) (hK : q_K g a = ci) (hv : v = 0 ∨ v = 1) (kk : AWD l D cy μ d rc rs em g (pc + 3) lv st (s_I δ ci k a v) o) : AWD l D cy μ d rc rs em g pc lv (.int v :: .ref a :: st) δ o := fun r h P X hP => a_put hdg hf hw (nar_z hv) (by rcases hv with rfl | rfl <;> rfl) hK (cel_I hK (fld_n hf).2 (fld_n hf).1 hr) rfl (kk r h P X hP)
theorem w_putV {ci k a index b : Nat} {C : String} (hdg : decode μ.2.1 pc = .ok (.putfield index, 3)) (hf : fld μ.1.cls index ci k) (hw : flw ci k (.object C)) (hr : i_r ci k = true) (hd : i_d ci k = true) (hK : q_K g a = ci) (kk : AWD l D cy μ d rc rs em g (pc + 3) lv st (s_V δ ci k a (some b)) o) : AWD l D cy μ d rc rs em g pc lv (.ref b :: .ref a :: st) δ o := fun r h P X hP => a_put hdg hf hw rfl rfl hK (cel_V (v := some b) hK (fld_n hf).2 (fld_n hf).1 hr hd) rfl (kk r h P X hP)
theorem vp_n {i : Int32} {n : Nat} (h : ¬ (i < 0 ∨ n ≤ i.toNatClampNeg)) : vp_in i n := h
theorem w_ald {a : Nat} {i : Int32} (hdg : decode μ.2.1 pc = .ok (.iaload, 1)) (hK : q_K g a = 13) (kk : AWD l D cy μ d rc rs em g (pc + 1) lv (.int (q_R δ a i.toNatClampNeg) :: st) δ o) : AWD l D cy μ d rc rs em g pc lv (.int i :: .ref a :: st) δ (if i < 0 ∨ q_N g a ≤ i.toNatClampNeg then none else o) := w_gn (fun z r h P X hP => a_ald hdg hK z (kk r h P X hP))
theorem w_zald {a : Nat} {i : Int32} (hdg : decode μ.2.1 pc = .ok (.baload, 1)) (hK : q_K g a = 15) (kk : AWD l D cy μ d rc rs em g (pc + 1) lv (.int (q_R δ a i.toNatClampNeg) :: st) δ o) : AWD l D cy μ d rc rs em g pc lv (.int i :: .ref a :: st) δ (if i < 0 ∨ q_N g a ≤ i.toNatClampNeg then none else o) := w_gn (fun z r h P X hP => a_zald hdg hK z (kk r h P X hP))
theorem w_lald {a : Nat} {i : Int32} (hdg : decode μ.2.1 pc = .ok (.laload, 1)) (hK : q_K g a = 14) (kk : AWD l D cy μ d rc rs em g (pc + 1) lv (.long (q_J δ a i.toNatClampNeg) :: st) δ o) : AWD l D cy μ d rc rs em g pc lv (.int i :: .ref a :: st) δ (if i < 0 ∨ q_N g a ≤ i.toNatClampNeg then none else o) := w_gn (fun z r h P X hP => a_lald hdg hK z (kk r h P X hP))
theorem w_aald {a : Nat} (t : Nat) {i : Int32} {ty : FieldType} {o' : Nat → Option ρ} (hdg : decode μ.2.1 pc = .ok (.aaload, 1)) (hK : q_K g a = t + 13) (ht : 3 ≤ t) (hty : (tys cy)[t]? = some (cy t, ty)) (hr : ty.isReference = true) (h9 : t < 20) (kk : ∀ b : Nat, q_E g a i.toNatClampNeg = some b → AWD l D cy μ d rc rs em g (pc + 1) lv (.ref b :: st) δ (o' b)) : AWD l D cy μ d rc rs em g pc lv (.int i :: .ref a :: st) δ (if i < 0 ∨ q_N g a ≤ i.toNatClampNeg then none else (q_E g a i.toNatClampNeg).bind o') := w_gn (fun z r h P X hP => a_aald hdg hK ht hty hr z (by
  obtain ⟨b, hb, h2⟩ := Option.bind_eq_some_iff.mp h
  rw [hb]
  exact kk b hb r h2 P X hP) h9)
theorem w_ast {a : Nat} {i x : Int32} (hdg : decode μ.2.1 pc = .ok (.iastore, 1)) (hK : q_K g a = 13) (kk : AWD l D cy μ d rc rs em g (pc + 1) lv st (s_R δ a i.toNatClampNeg x) o) : AWD l D cy μ d rc rs em g pc lv (.int x :: .int i :: .ref a :: st) δ (if i < 0 ∨ q_N g a ≤ i.toNatClampNeg then none else o) := w_gn (fun z r h P X hP => a_ast hdg hK z (kk r h P X hP))
theorem w_zast {a : Nat} {i x : Int32} (hdg : decode μ.2.1 pc = .ok (.bastore, 1)) (hK : q_K g a = 15) (kk : AWD l D cy μ d rc rs em g (pc + 1) lv st (s_R δ a i.toNatClampNeg (vp_nar .boolean x)) o) : AWD l D cy μ d rc rs em g pc lv (.int x :: .int i :: .ref a :: st) δ (if i < 0 ∨ q_N g a ≤ i.toNatClampNeg then none else o) := w_gn (fun z r h P X hP => a_zast hdg hK z (kk r h P X hP))
theorem w_last {a : Nat} {i : Int32} {x : Int64} (hdg : decode μ.2.1 pc = .ok (.lastore, 1)) (hK : q_K g a = 14) (kk : AWD l D cy μ d rc rs em g (pc + 1) lv st (s_J δ a i.toNatClampNeg x) o) : AWD l D cy μ d rc rs em g pc lv (.long x :: .int i :: .ref a :: st) δ (if i < 0 ∨ q_N g a ≤ i.toNatClampNeg then none else o) := w_gn (fun z r h P X hP => a_last hdg hK z (kk r h P X hP))
theorem w_alen {a : Nat} (t : Nat) {ty : FieldType} (hdg : decode μ.2.1 pc = .ok (.arraylength, 1)) (hK : q_K g a = t + 13) (hty : (tys cy)[t]? = some (cy t, ty)) (h9 : t < 20) (kk : AWD l D cy μ d rc rs em g (pc + 1) lv (.int (Int32.ofNat (q_N g a)) :: st) δ o) : AWD l D cy μ d rc rs em g pc lv (.ref a :: st) δ o := fun r h P X hP => a_alen hdg hK hty h9 (kk r h P X hP)
theorem w_iret {v : Int32} (hdg : decode μ.2.1 pc = .ok (.ireturn, 1)) (hr : μ.2.2.2 = some .int) {q : ρ} (hq : em q = (.inl (some (.int v)), δ)) : AWD l D cy μ d rc rs em g pc lv [.int v] δ (some q) := fun r h P X hP => by
  cases h
  rw [hq] at hP
  exact a_iret hdg hr rfl hP
theorem w_zret {v : Int32} (hdg : decode μ.2.1 pc = .ok (.ireturn, 1)) (hr : μ.2.2.2 = some .boolean) {q : ρ} (hq : em q = (.inl (some (.int v)), δ)) : AWD l D cy μ d rc rs em g pc lv [.int v] δ (if v = 0 ∨ v = 1 then some q else none) := w_gd (fun z r h P X hP => by
  cases h
  rw [hq] at hP
  exact a_iret hdg hr (nar_z z) hP)
theorem w_lret {v : Int64} (hdg : decode μ.2.1 pc = .ok (.lreturn, 1)) (hr : μ.2.2.2 = some .long) {q : ρ} (hq : em q = (.inl (some (.long v)), δ)) : AWD l D cy μ d rc rs em g pc lv [.long v] δ (some q) := fun r h P X hP => by
  cases h
  rw [hq] at hP
  exact a_lret hdg hr hP
theorem w_vret (hdg : decode μ.2.1 pc = .ok (.return_, 1)) (hr : μ.2.2.2 = none) {q : ρ} (hq : em q = (.inl none, δ)) : AWD l D cy μ d rc rs em g pc lv [] δ (some q) := fun r h P X hP => by
  cases h
  rw [hq] at hP
  exact a_vret hdg hr hP
/-- a call of a method that answers σ (by em') and throws nothing -/
theorem w_callV {σ : Type} {em' : σ → (Option Value ⊕ String) × dp} {vs : σ → List Value} {ds : σ → dp} {b ci index n d' : Nat} {As rest st0 : List Value} {y : mth} {F : Option σ} {o' : σ → Option ρ} (hdg : decode μ.2.1 pc = .ok (.invokevirtual index, 3)) (hc : clV μ.1.cls index y n) (hs : st0 = As.reverse ++ .ref b :: rest) (hn : As.length = n) (hK : q_K g b = ci) (hci : ci < 13) (hC : (vwCl[ci]?).map (fun q => q.1) = some y.1.cls) (hst : (rest.map fun v => v.category).sum ≤ 8) (hd : d' + 1 ≤ d) (hem : ∀ q : σ, ∃ v : Option Value, em' q = (.inl v, ds q) ∧ v.toList = vs q)
    (hF : CalD l D cy y d' 0 0 em' g (.ref b :: As) δ F) (k : ∀ q : σ, AWD l D cy μ d rc rs em g (pc + 3) lv (vs q ++ rest) (ds q) (o' q)) : AWD l D cy μ d rc rs em g pc lv st0 δ (F.bind o') := by
  intro r hr P X hP
  obtain ⟨q, hq, h2⟩ := Option.bind_eq_some_iff.mp hr
  obtain ⟨v, hv, hv2⟩ := hem q
  rw [hs]
  refine a_callV (h := (g, δ)) (rc' := rc) (rs' := rs) (mc' := 0) (ms' := 0) hdg hc hn hK hci hC hst hd (by omega) (by omega) (hF q hq _ _ ?_)
  rw [hv]
  show AW l D cy μ d rc rs P X (pc + 3) lv (v.toList ++ rest) (g, ds q)
  rw [hv2]
  exact k q r h2 P X hP
theorem w_callS {σ : Type} {em' : σ → (Option Value ⊕ String) × dp} {vs : σ → List Value} {ds : σ → dp} {index n d' : Nat} {As rest st0 : List Value} {y : mth} {F : Option σ} {o' : σ → Option ρ} (hdg : decode μ.2.1 pc = .ok (.invokestatic index, 3)) (hc : clS μ.1.cls index y n) (hs : st0 = As.reverse ++ rest) (hn : As.length = n) (hst : (rest.map fun v => v.category).sum ≤ 8) (hd : d' + 1 ≤ d) (hem : ∀ q : σ, ∃ v : Option Value, em' q = (.inl v, ds q) ∧ v.toList = vs q)
    (hF : CalD l D cy y d' 0 0 em' g As δ F) (k : ∀ q : σ, AWD l D cy μ d rc rs em g (pc + 3) lv (vs q ++ rest) (ds q) (o' q)) : AWD l D cy μ d rc rs em g pc lv st0 δ (F.bind o') := by
  intro r hr P X hP
  obtain ⟨q, hq, h2⟩ := Option.bind_eq_some_iff.mp hr
  obtain ⟨v, hv, hv2⟩ := hem q
  rw [hs]
  refine a_callS (h := (g, δ)) (rc' := rc) (rs' := rs) (mc' := 0) (ms' := 0) hdg hc hn hst hd (by omega) (by omega) (hF q hq _ _ ?_)
  rw [hv]
  show AW l D cy μ d rc rs P X (pc + 3) lv (v.toList ++ rest) (g, ds q)
  rw [hv2]
  exact k q r h2 P X hP
theorem he_i : ∀ q : Int32 × dp, ∃ v : Option Value, ei q = (.inl v, q.2) ∧ v.toList = [.int q.1] := fun q => ⟨_, rfl, rfl⟩
theorem he_l : ∀ q : Int64 × dp, ∃ v : Option Value, el q = (.inl v, q.2) ∧ v.toList = [.long q.1] := fun q => ⟨_, rfl, rfl⟩
theorem he_v : ∀ q : dp, ∃ v : Option Value, ev q = (.inl v, q) ∧ v.toList = [] := fun q => ⟨_, rfl, rfl⟩
end WR
