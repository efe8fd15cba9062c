/-! The words, the heap as a value, and the judgement over it -/
def TT : List Cond := lw_tbl.filter goodWord
theorem TT_good : GoodIn TT TT := fun w h => ⟨h, good_of_word (List.mem_filter.mp h).2⟩
theorem TT_at {w : Cond} (i : Nat) (h : lw_tbl[i]? = some w) (g : goodWord w = true) : w ∈ TT := List.mem_filter.mpr ⟨List.mem_of_getElem? h, g⟩
/-- what stays once it is made: references of final fields (class, field, cell), references of arrays, kinds, lengths -/
abbrev gp : Type := (Nat → Nat → Nat → Option Nat) × (Nat → Nat → Option Nat) × (Nat → Nat) × (Nat → Nat)
/-- what changes: ints of fields, ints of arrays, longs of arrays, references of other fields -/
abbrev dp : Type := (Nat → Nat → Nat → Int32) × (Nat → Nat → Int32) × (Nat → Nat → Int64) × (Nat → Nat → Nat → Option Nat)
abbrev hp : Type := gp × dp
def q_O (g : gp) : Nat → Nat → Nat → Option Nat := g.1
def q_E (g : gp) : Nat → Nat → Option Nat := g.2.1
def q_K (g : gp) : Nat → Nat := g.2.2.1
def q_N (g : gp) : Nat → Nat := g.2.2.2
def q_I (h : dp) : Nat → Nat → Nat → Int32 := h.1
def q_R (h : dp) : Nat → Nat → Int32 := h.2.1
def q_J (h : dp) : Nat → Nat → Int64 := h.2.2.1
def q_V (h : dp) : Nat → Nat → Nat → Option Nat := h.2.2.2
def s_I (h : dp) (c k a : Nat) (v : Int32) : dp := (fun c' k' => if c' = c ∧ k' = k then va_up (q_I h c k) a v else q_I h c' k', h.2)
def s_R (h : dp) (a i : Nat) (v : Int32) : dp := (h.1, va_up (q_R h) a (upd (q_R h a) i v), h.2.2)
def s_J (h : dp) (a i : Nat) (v : Int64) : dp := (h.1, h.2.1, va_up (q_J h) a (vp_updL (q_J h a) i v), h.2.2.2)
def s_V (h : dp) (c k a : Nat) (v : Option Nat) : dp := (h.1, h.2.1, h.2.2.1, fun c' k' => if c' = c ∧ k' = k then va_up (q_V h c k) a v else q_V h c' k')
/-- a row of ints copied into another -/
def s_C (h : dp) (a b i j n : Nat) : dp := (h.1, va_up (q_R h) b (va_cpy (q_R h a) (q_R h b) i j n), h.2.2)
def s_O (g : gp) (c k a : Nat) (v : Option Nat) : gp := (fun c' k' => if c' = c ∧ k' = k then va_up (q_O g c k) a v else q_O g c' k', g.2)
def s_E (g : gp) (a i : Nat) (v : Option Nat) : gp := (g.1, va_up (q_E g) a (va_up (q_E g a) i v), g.2.2)
/-- which fields hold references, and which of them may change: by their types -/
def n_f (c : Nat) : Nat := match vwCl[c]? with
  | some q => q.2.2
  | none => 0
def i_r (c k : Nat) : Bool := match vwCl[c]? with
  | some q => (match parseFieldDescriptor (q.2.1 k).2.2.1 with | some (.object _) => true | some (.array _) => true | _ => false)
  | none => false
def i_d (c k : Nat) : Bool := match vwCl[c]? with
  | some q => !(q.2.1 k).2.2.2
  | none => false
def f_v (h : hp) (c a k : Nat) : Value := if i_r c k = true then (if i_d c k = true then va_rf (q_V h.2 c k a) else va_rf (q_O h.1 c k a)) else .int (q_I h.2 c k a)
def f_s (h : hp) (c a : Nat) : List Value := (List.range (n_f c)).map (f_v h c a)
def cel (cy : Nat → ClassId) (h : hp) (a : Nat) : va_E :=
  if q_K h.1 a < 13 then .inr (q_K h.1 a, f_s h (q_K h.1 a) a)
  else if q_K h.1 a = 13 then .inl (cy 0, q_N h.1 a, .inl (q_R h.2 a))
  else if q_K h.1 a = 14 then .inl (cy 1, q_N h.1 a, .inr (.inl (q_J h.2 a)))
  else if q_K h.1 a = 15 then .inl (cy 2, q_N h.1 a, .inl (q_R h.2 a))
  else .inl (cy (q_K h.1 a - 13), q_N h.1 a, .inr (.inr (.inr (.inr (q_E h.1 a)))))
def tys (cy : Nat → ClassId) : List (ClassId × FieldType) := [(cy 0, .int), (cy 1, .long), (cy 2, .boolean), (cy 3, .object RX2), (cy 4, .object RX8), (cy 5, .array .int), (cy 6, .array .long)]
def rp (D : va_G) (cy : Nat → ClassId) (A : Nat → Prop) (L : List Nat) (h : hp) (H : Heap) : Prop := va_P D vwCl (va_pl L (cel cy h)) H ∧ va_D A (va_pl L (cel cy h)) ∧ ∀ a, a ∉ L → q_K h.1 a = 99
/-- words that a state keeps, and that are not the tables' alone -/
def nst0 (w : Cond) : Bool := match w with | .fieldLinkNest .. => true | .methodLinkNest .. => true | _ => false
def NW : List Cond := lw_tbl.filter nst0
abbrev mth : Type := MethodName × ByteArray × Nat × Option FieldType
def stz (A : Nat → Prop) (U : State) (H : Heap) : Prop := vx_Zq Bundle.tN "UNASSIGNED_STACK" Bundle.steD A U H ∧ vx_Zq Bundle.tN "SUPPRESSED_SENTINEL" Bundle.listD A U H
def fr (l : Launch) (D : va_G) (cy : Nat → ClassId) (μ : mth) (d : Nat) (p : Program) (R : Room) (s : State) (m : MethodId) (args : Array Value) (meth : Method) (c : Code) : Prop :=
  p.tables.exec = Jvm.exec ∧ c.code = μ.2.1 ∧ meth.sig.returnType = μ.2.2.2 ∧ c.maxLocals = μ.2.2.1 ∧ s.vm.findClass μ.1.cls = some m.cls ∧ (∀ w ∈ TT, w.before args s = true) ∧ va_K D vwCl (tys cy) s ∧ meth.locks = false ∧ (∀ x ∈ c.exceptionTable.toList, False) ∧ meth.name = μ.1.name ∧ d ≤ R.frames ∧ 60 * d ≤ R.locals ∧ (∀ w ∈ NW, va_Nw w s) ∧ l.stackTraces = false
def qc (D : va_G) (cy : Nat → ClassId) (P : Option Value → hp → Prop) (A : Nat → Prop) : Array Value → State → Outcome → State → Prop := fun _ st oc t => (∃ (v : Option Value) (h : hp), oc = .returned v ∧ P v h ∧ (∃ L, rp D cy A L h t.heap) ∧ va_K D vwCl (tys cy) t) ∧ va_F A st t
def xc (D : va_G) (cy : Nat → ClassId) (X : String → hp → Prop) (A : Nat → Prop) : String → State → State → Prop := fun E st t => (∃ h : hp, X E h ∧ (∃ L, rp D cy A L h t.heap) ∧ va_K D vwCl (tys cy) t) ∧ va_F A st t
def AW (l : Launch) (D : va_G) (cy : Nat → ClassId) (μ : mth) (d rc rs : Nat) (P : Option Value → hp → Prop) (X : String → hp → Prop) (pc : Nat) (lv : List (Nat × Value)) (st : List Value) (h : hp) : Prop :=
  ∀ (p : Program) (e : Env) (R : Room) (s : State) (m : MethodId) (args : Array Value) (below : List Frame) (meth : Method) (c : Code) (L : List Nat) (A : Nat → Prop) (H : Heap) (locs : List Loc) (cells slots mc ms : Nat) (ls : Array Slot),
    fr l D cy μ d p R s m args meth c → rp D cy A L h H → va_S A s.heap H locs → (∀ q, s.heap.size ≤ q → A q) → stz A s s.heap → cells + rc ≤ mc → slots + rs ≤ ms → mc ≤ R.cells → ms ≤ R.slots → lv_has ls μ.2.2.1 lv →
    W p l e R s m args below meth c H locs cells slots (vx_MQ below (qc D cy P A) (xc D cy X A) args s mc ms A) (F0 m pc ls st)
/-- a method's contract at one heap: it returns with P, or throws with X -/
def Cal (l : Launch) (D : va_G) (cy : Nat → ClassId) (μ : mth) (d mc ms : Nat) (av : List Value) (h : hp) (P : Option Value → hp → Prop) (X : String → hp → Prop) : Prop :=
  ∀ (sz : Nat) (L : List Nat), vx_Met l μ.1 (.code μ.1 μ.2.1 μ.2.2.1 μ.2.2.2 :: TT) { frames := d, cells := mc, slots := ms, locals := 60 * d }
    (va_Pc av (fun U => U.heap.size = sz ∧ rp D cy (fun _ => True) L h U.heap ∧ va_K D vwCl (tys cy) U ∧ (∀ w ∈ NW, va_Nw w U) ∧ stz (va_A (va_pl L (cel cy h)) sz) U U.heap))
    (qc D cy P (va_A (va_pl L (cel cy h)) sz)) (xc D cy X (va_A (va_pl L (cel cy h)) sz)) mc ms (va_A (va_pl L (cel cy h)) sz)
theorem Cal.of {l : Launch} {D : va_G} {cy : Nat → ClassId} {μ : mth} {d mc ms : Nat} {av : List Value} {h : hp} {P : Option Value → hp → Prop} {X : String → hp → Prop} (hy : plainName μ.1.cls = true) (hn : (lg_sl av).length ≤ μ.2.2.1) (hl : l.stackTraces = false)
    (k : AW l D cy μ d mc ms P X 0 (lv_args 0 av) [] h) : Cal l D cy μ d mc ms av h P X := by
  intro sz L
  refine vx_ofW (cc := μ.2.1) (maxL := μ.2.2.1) (ret := μ.2.2.2) hy rfl ?_
  intro p e s m args below meth c s₁ B hml hex hv
  obtain ⟨rfl, hsz, ⟨hP, hD0, hdom⟩, hK, hN, hZ⟩ := hv
  have hts := atoms_spec (ws := .code μ.1 μ.2.1 μ.2.2.1 μ.2.2.2 :: TT) B.pre
  subst hsz
  have hown : s.vm.findClass μ.1.cls = some m.cls := findClass_of_methodNamed B.named
  have hD := hD0.self (sz := s.heap.size)
  have hle := lv_entry av (n := μ.2.2.1) hn
  rw [lg_entry_eq]
  exact k p e _ s m _ below meth c L _ s.heap [] 0 0 mc ms _ ⟨B.exec, B.bytes, B.returns, hml, hown, fun w h => hts w (List.mem_cons_of_mem _ h), hK, B.notSynchronized, hex, (name_of_methodNamed B.named B.method).1, Nat.le_refl _, Nat.le_refl _, hN, hl⟩ ⟨hP, hD, hdom⟩ va_S.rf (fun q h => Or.inr h) hZ (by omega) (by omega) (Nat.le_refl _) (Nat.le_refl _) hle
