/-! The words, the heap as a value, and the judgement over it -/
def TT : List Cond := lw_tbl.filter goodWord
theorem TT_good : GoodIn TT TT := fun w h => ⟨h, good_of_word (List.mem_filter.mp h).2⟩
theorem TT_at {w : Cond} (i : Nat) (h : lw_tbl[i]? = some w) (g : goodWord w = true) : w ∈ TT := List.mem_filter.mpr ⟨List.mem_of_getElem? h, g⟩
/-- what stays once it is made: references of final fields (class, field, cell), references of arrays, kinds, lengths -/
abbrev gp : Type := (Nat → Nat → Nat → Option Nat) × (Nat → Nat → Option Nat) × (Nat → Nat) × (Nat → Nat)
/-- what changes: ints of fields, ints of arrays, longs of arrays, references of other fields -/
abbrev dp : Type := (Nat → Nat → Nat → Int32) × (Nat → Nat → Int32) × (Nat → Nat → Int64) × (Nat → Nat → Nat → Option Nat)
abbrev hp : Type := gp × dp
def q_O (g : gp) : Nat → Nat → Nat → Option Nat := g.1
def q_E (g : gp) : Nat → Nat → Option Nat := g.2.1
def q_K (g : gp) : Nat → Nat := g.2.2.1
def q_N (g : gp) : Nat → Nat := g.2.2.2
def q_I (h : dp) : Nat → Nat → Nat → Int32 := h.1
def q_R (h : dp) : Nat → Nat → Int32 := h.2.1
def q_J (h : dp) : Nat → Nat → Int64 := h.2.2.1
def q_V (h : dp) : Nat → Nat → Nat → Option Nat := h.2.2.2
def s_I (h : dp) (c k a : Nat) (v : Int32) : dp := (fun c' k' => if c' = c ∧ k' = k then va_up (q_I h c k) a v else q_I h c' k', h.2)
def s_R (h : dp) (a i : Nat) (v : Int32) : dp := (h.1, va_up (q_R h) a (upd (q_R h a) i v), h.2.2)
def s_J (h : dp) (a i : Nat) (v : Int64) : dp := (h.1, h.2.1, va_up (q_J h) a (vp_updL (q_J h a) i v), h.2.2.2)
def s_V (h : dp) (c k a : Nat) (v : Option Nat) : dp := (h.1, h.2.1, h.2.2.1, fun c' k' => if c' = c ∧ k' = k then va_up (q_V h c k) a v else q_V h c' k')
/-- a row of ints copied into another -/
def s_C (h : dp) (a b i j n : Nat) : dp := (h.1, va_up (q_R h) b (va_cpy (q_R h a) (q_R h b) i j n), h.2.2)
def s_O (g : gp) (c k a : Nat) (v : Option Nat) : gp := (fun c' k' => if c' = c ∧ k' = k then va_up (q_O g c k) a v else q_O g c' k', g.2)
def s_E (g : gp) (a i : Nat) (v : Option Nat) : gp := (g.1, va_up (q_E g) a (va_up (q_E g a) i v), g.2.2)
/-- which fields hold references, and which of them may change: by their types -/
def n_f (c : Nat) : Nat := match vwCl[c]? with
  | some q => q.2.2
  | none => 0
def i_r (c k : Nat) : Bool := match vwCl[c]? with
  | some q => (match parseFieldDescriptor (q.2.1 k).2.2.1 with | some (.object _) => true | some (.array _) => true | _ => false)
  | none => false
def i_d (c k : Nat) : Bool := match vwCl[c]? with
  | some q => !(q.2.1 k).2.2.2
  | none => false
def f_v (h : hp) (c a k : Nat) : Value := if i_r c k = true then (if i_d c k = true then va_rf (q_V h.2 c k a) else va_rf (q_O h.1 c k a)) else .int (q_I h.2 c k a)
def f_s (h : hp) (c a : Nat) : List Value := (List.range (n_f c)).map (f_v h c a)
def cel (cy : Nat → ClassId) (h : hp) (a : Nat) : va_E :=
  if q_K h.1 a < 13 then .inr (q_K h.1 a, f_s h (q_K h.1 a) a)
  else if q_K h.1 a = 13 then .inl (cy 0, q_N h.1 a, .inl (q_R h.2 a))
  else if q_K h.1 a = 14 then .inl (cy 1, q_N h.1 a, .inr (.inl (q_J h.2 a)))
  else if q_K h.1 a = 15 then .inl (cy 2, q_N h.1 a, .inl (q_R h.2 a))
  else .inl (cy (q_K h.1 a - 13), q_N h.1 a, .inr (.inr (.inr (.inr (q_E h.1 a)))))
def tys (cy : Nat → ClassId) : List (ClassId × FieldType) := [(cy 0, .int), (cy 1, .long), (cy 2, .boolean), (cy 3, .object RX2), (cy 4, .object RX8), (cy 5, .array .int), (cy 6, .array .long)]
def rp (D : va_G) (cy : Nat → ClassId) (A : Nat → Prop) (L : List Nat) (h : hp) (H : Heap) : Prop := va_P D vwCl (va_pl L (cel cy h)) H ∧ va_D A (va_pl L (cel cy h)) ∧ ∀ a, a ∉ L → q_K h.1 a = 99
/-- words that a state keeps, and that are not the tables' alone -/
def nst0 (w : Cond) : Bool := match w with | .fieldLinkNest .. => true | .methodLinkNest .. => true | .declares _ => true | .castable _ _ => true | _ => false
def NW : List Cond := lw_tbl.filter nst0
abbrev mth : Type := MethodName × ByteArray × Nat × Option FieldType
/-- the texts of the claim's constants, as bytes -/
def txs : List (List Int32) := [[119, 105, 100, 101], [117, 112, 112, 101, 114], [101, 110, 100, 115], [109, 111, 114, 101], [108, 101, 115, 115], [112, 117, 116], [100, 114, 111, 112], [104, 97, 115], [110, 101, 120, 116], [98, 101, 102, 111, 114, 101], [116, 105, 109, 101, 115], [105], [111], [108, 97, 115, 116], [109, 97, 110, 121], [100, 114, 97, 119]]
def tx_n (i : Nat) : Nat := (txs.getD i []).length
def tx_b (i j : Nat) : Int32 := (txs.getD i []).getD j 0
def sts (D : va_G) (A : Nat → Prop) (U : State) (H : Heap) : Prop := ∀ i : Nat, i < 16 → va_O "java/lang/String" (D.2 100 i) A U H ∧ va_OF "java/lang/String" "coder" "B" (.int 0) (D.2 100 i) A U H ∧ va_OF "java/lang/String" "value" "[B" (.ref (D.2 101 i)) (D.2 100 i) A U H ∧ va_T .byte (D.2 101 i) (tx_n i) (fun j => .int (tx_b i j)) A U H
/-- what stays outside the pool: statics, texts, and the law's script (its cell, its length, its numbers stand in D.2 102, D.2 103) -/
def stz (D : va_G) (A : Nat → Prop) (U : State) (H : Heap) : Prop := vx_Zq Bundle.tN "UNASSIGNED_STACK" Bundle.steD A U H ∧ vx_Zq Bundle.tN "SUPPRESSED_SENTINEL" Bundle.listD A U H ∧ sts D A U H ∧ va_Z "java/lang/String" "COMPACT_STRINGS" "Z" (.int 1) A U H ∧ va_Zq "jdk/internal/util/Preconditions" "SIOOBE_FORMATTER" "Ljava/util/function/BiFunction;" A U H ∧ va_T .int (D.2 102 0) (D.2 102 1) (fun j => .int (Int32.ofNat (D.2 103 j))) A U H
theorem stz.moved {D : va_G} {A : Nat → Prop} {u U : State} {H : Heap} (hvm : u.vm.Alike U.vm) (h : stz D A u H) : stz D A U H := ⟨h.1.moved hvm, h.2.1.moved hvm, fun i hi => ⟨va_O.moved hvm (h.2.2.1 i hi).1, va_OF.moved hvm (h.2.2.1 i hi).2.1, va_OF.moved hvm (h.2.2.1 i hi).2.2.1, va_T.moved hvm (h.2.2.1 i hi).2.2.2⟩, va_Z.moved hvm h.2.2.2.1, va_Zq.moved hvm h.2.2.2.2.1, va_T.moved hvm h.2.2.2.2.2⟩
theorem stz.kept {D : va_G} {A : Nat → Prop} {U : State} {H H1 : Heap} (h : stz D A U H) (hq : ∀ a : Nat, a < H.size → ¬ A a → H1[a]? = H[a]?) : stz D A U H1 := ⟨h.1.kept hq, h.2.1.kept hq, fun i hi => ⟨(h.2.2.1 i hi).1.kept hq, (h.2.2.1 i hi).2.1.kept hq, (h.2.2.1 i hi).2.2.1.kept hq, (h.2.2.1 i hi).2.2.2.kept hq⟩, h.2.2.2.1.kept hq, h.2.2.2.2.1.kept hq, h.2.2.2.2.2.kept hq⟩
theorem stz.narrow {D : va_G} {A B : Nat → Prop} {U : State} {H : Heap} (h : stz D A U H) (hAB : ∀ q, B q → A q) : stz D B U H := ⟨h.1.narrow hAB, h.2.1.narrow hAB, fun i hi => ⟨(h.2.2.1 i hi).1.narrow hAB, (h.2.2.1 i hi).2.1.narrow hAB, (h.2.2.1 i hi).2.2.1.narrow hAB, (h.2.2.1 i hi).2.2.2.narrow hAB⟩, h.2.2.2.1.narrow hAB, h.2.2.2.2.1.narrow hAB, h.2.2.2.2.2.narrow hAB⟩
/-- where the claim's classes name these texts: class, place of its pool, text, which -/
def srl : List (String × Nat × String × Nat) := [("HalvingHouse$ShapeText", 43, "wide", 0), ("HalvingHouse$ShapeText", 48, "upper", 1), ("HalvingHouse$ShapeText", 50, "ends", 2), ("HalvingHouse$ShapeText", 66, "more", 3), ("HalvingHouse$ShapeText", 68, "less", 4), ("HalvingHouse$ThiefText", 93, "put", 5), ("HalvingHouse$ThiefText", 95, "drop", 6), ("HalvingHouse$ThiefText", 97, "has", 7), ("HalvingHouse$ThiefText", 99, "next", 8), ("HalvingHouse$ThiefText", 101, "before", 9), ("HalvingHouse$ThiefText", 74, "times", 10), ("HalvingHouse$ThiefText", 120, "i", 11), ("HalvingHouse$ThiefText", 122, "o", 12), ("HalvingHouse$ThiefText", 129, "last", 13), ("HalvingHouse$ThiefText", 131, "many", 14), ("HalvingHouse$ThiefText", 133, "draw", 15), ("HalvingHouseModel", 171, "wide", 0), ("HalvingHouseModel", 176, "upper", 1), ("HalvingHouseModel", 178, "ends", 2), ("HalvingHouseModel", 186, "more", 3), ("HalvingHouseModel", 187, "less", 4), ("HalvingHouseModel", 226, "put", 5), ("HalvingHouseModel", 228, "drop", 6), ("HalvingHouseModel", 230, "has", 7), ("HalvingHouseModel", 232, "next", 8), ("HalvingHouseModel", 234, "before", 9), ("HalvingHouseModel", 236, "times", 10), ("HalvingHouseModel", 211, "i", 11), ("HalvingHouseModel", 213, "o", 12), ("HalvingHouseModel", 215, "last", 13), ("HalvingHouseModel", 217, "many", 14), ("HalvingHouseModel", 218, "draw", 15)]
theorem aoa_moved {t : FieldType} {u U : State} (hvm : u.vm.Alike U.vm) (h : va_AOA t u) : va_AOA t U := by
  have h0 : (Cond.arrayOver (.array t)).before #[] u = true := h
  unfold va_AOA
  unfold Cond.before Cond.holds at h0 ⊢
  simp only [Cond.value] at h0 ⊢
  cases hc : u.vm.findClass (FieldType.array t).toString with
  | none => rw [hc] at h0; simp at h0
  | some comp =>
    have f1 : U.vm.findClass (FieldType.array t).toString = some comp := by rw [hvm.findClass]; exact hc
    rw [hc, Option.bind_some, beq_iff_eq, Option.bind_eq_some_iff] at h0
    rw [f1, Option.bind_some, beq_iff_eq, Option.bind_eq_some_iff]
    obtain ⟨c, hc1, hc2⟩ := h0
    rw [Option.map_eq_some_iff] at hc2
    obtain ⟨k, hk, hm⟩ := hc2
    obtain ⟨k', hk', he⟩ := hvm.2.2 _ _ hk
    have hb := congrArg (fun v : Vm => v.classes.findIdx? (fun (x : Class) => match x.kind with | .array component _ => component == comp | _ => false)) hvm.bare_eq
    have hi := (va_idx_bare U.vm comp).symm.trans (Eq.trans hb (va_idx_bare u.vm comp))
    refine ⟨c, hi.trans hc1, ?_⟩
    rw [Option.map_eq_some_iff]
    refine ⟨k', hk', ?_⟩
    rw [he]
    simp only [hvm.findClass]
    exact hm
def ncl : List (String × String) := [("java/util/NoSuchElementException", "java/lang/IndexOutOfBoundsException"), ("java/lang/IllegalArgumentException", "java/lang/IndexOutOfBoundsException"), ("java/lang/IllegalArgumentException", "java/util/NoSuchElementException")]
def srs (D : va_G) (U : State) : Prop := (∀ t ∈ srl, vk_R t.1 t.2.1 t.2.2.1 (D.2 100 t.2.2.2) U) ∧ va_AO RX2 U ∧ va_AO RX8 U ∧ va_AOA .int U ∧ va_AOA .long U ∧ ∀ t ∈ ncl, va_Nc t.1 t.2 U
theorem srs.same {D : va_G} {u U : State} (hv : U.vm = u.vm) (hal : u.vm.Alike U.vm) (h : srs D u) : srs D U := ⟨fun t ht => vk_R.same hv (h.1 t ht), va_AO.moved hal h.2.1, va_AO.moved hal h.2.2.1, aoa_moved hal h.2.2.2.1, aoa_moved hal h.2.2.2.2.1, fun t ht => va_Nc.moved hal (h.2.2.2.2.2 t ht)⟩
theorem srs.warm {D : va_G} {s U : State} (hW : s.WarmedH U.vm) (h : srs D s) : srs D U := ⟨fun t ht => vk_R.warm hW (h.1 t ht), va_AO.moved hW.alike h.2.1, va_AO.moved hW.alike h.2.2.1, aoa_moved hW.alike h.2.2.2.1, aoa_moved hW.alike h.2.2.2.2.1, fun t ht => va_Nc.moved hW.alike (h.2.2.2.2.2 t ht)⟩
def fr (l : Launch) (D : va_G) (cy : Nat → ClassId) (μ : mth) (d : Nat) (p : Program) (R : Room) (s : State) (m : MethodId) (args : Array Value) (meth : Method) (c : Code) : Prop :=
  p.tables.exec = Jvm.exec ∧ c.code = μ.2.1 ∧ meth.sig.returnType = μ.2.2.2 ∧ c.maxLocals = μ.2.2.1 ∧ s.vm.findClass μ.1.cls = some m.cls ∧ (∀ w ∈ TT, w.before args s = true) ∧ va_K D vwCl (tys cy) s ∧ meth.locks = false ∧ (∀ x ∈ c.exceptionTable.toList, False) ∧ meth.name = μ.1.name ∧ d ≤ R.frames ∧ 60 * d ≤ R.locals ∧ (∀ w ∈ NW, va_Nw w s) ∧ l.stackTraces = false ∧ srs D s
def qc (D : va_G) (cy : Nat → ClassId) (P : Option Value → hp → Prop) (A : Nat → Prop) : Array Value → State → Outcome → State → Prop := fun _ st oc t => (∃ (v : Option Value) (h : hp), oc = .returned v ∧ P v h ∧ (∃ L, rp D cy A L h t.heap) ∧ va_K D vwCl (tys cy) t) ∧ va_F A st t
def xc (D : va_G) (cy : Nat → ClassId) (X : String → hp → Prop) (A : Nat → Prop) : String → State → State → Prop := fun E st t => (∃ h : hp, X E h ∧ (∃ L, rp D cy A L h t.heap) ∧ va_K D vwCl (tys cy) t) ∧ va_F A st t
def AW (l : Launch) (D : va_G) (cy : Nat → ClassId) (μ : mth) (d rc rs : Nat) (P : Option Value → hp → Prop) (X : String → hp → Prop) (pc : Nat) (lv : List (Nat × Value)) (st : List Value) (h : hp) : Prop :=
  ∀ (p : Program) (e : Env) (R : Room) (s : State) (m : MethodId) (args : Array Value) (below : List Frame) (meth : Method) (c : Code) (L : List Nat) (A : Nat → Prop) (H : Heap) (locs : List Loc) (cells slots mc ms : Nat) (ls : Array Slot),
    fr l D cy μ d p R s m args meth c → rp D cy A L h H → va_S A s.heap H locs → (∀ q, s.heap.size ≤ q → A q) → stz D A s s.heap → cells + rc ≤ mc → slots + rs ≤ ms → mc ≤ R.cells → ms ≤ R.slots → lv_has ls μ.2.2.1 lv →
    W p l e R s m args below meth c H locs cells slots (vx_MQ below (qc D cy P A) (xc D cy X A) args s mc ms A) (F0 m pc ls st)
/-- a method's contract at one heap: it returns with P, or throws with X -/
def Cal (l : Launch) (D : va_G) (cy : Nat → ClassId) (μ : mth) (d mc ms : Nat) (av : List Value) (h : hp) (P : Option Value → hp → Prop) (X : String → hp → Prop) : Prop :=
  ∀ (sz : Nat) (L : List Nat), vx_Met l μ.1 (.code μ.1 μ.2.1 μ.2.2.1 μ.2.2.2 :: TT) { frames := d, cells := mc, slots := ms, locals := 60 * d }
    (va_Pc av (fun U => U.heap.size = sz ∧ rp D cy (fun _ => True) L h U.heap ∧ va_K D vwCl (tys cy) U ∧ (∀ w ∈ NW, va_Nw w U) ∧ stz D (va_A (va_pl L (cel cy h)) sz) U U.heap ∧ srs D U))
    (qc D cy P (va_A (va_pl L (cel cy h)) sz)) (xc D cy X (va_A (va_pl L (cel cy h)) sz)) mc ms (va_A (va_pl L (cel cy h)) sz)
theorem vxF {l : Launch} {y : MethodName} {ws ws' : List Cond} {rm : Room} {Pc : Array Value → State → Prop} {Qc : Array Value → State → Outcome → State → Prop} {XC : String → State → State → Prop} {mc ms : Nat} {free : Addr → Prop} {cc : ByteArray} {maxL : Nat} {ret : Option FieldType}
    (hy : plainFor y = true) (hw : ws = Cond.code y cc maxL ret :: ws')
    (body : ∀ p e s m args below meth c s₁, BodyLoose p l y (headSpec ws rm) cc maxL ret e s m args below meth c s₁ → c.maxLocals = maxL → (∀ x ∈ c.exceptionTable.toList, False) → Pc args s →
      W p l e (headSpec ws rm).room s m args below meth c s.heap [] 0 0 (vx_MQ below Qc XC args s mc ms free) (entryFrame m args maxL)) : vx_Met l y ws rm Pc Qc XC mc ms free := by
  refine MetFree.of_bodySF (code := cc) (maxLocals := maxL) (ret := ret) hy ?_ ?_
  · intro args s m h hn
    obtain ⟨meth, c, h1, h2, h3, h4, h5, h6, -, -⟩ := Cond.code_spec hn (atoms_spec (ws := ws) h _ (by rw [hw]; exact List.mem_cons_self))
    exact ⟨meth, c, h1, h2, h3, h4, h5, h6⟩
  · intro p e s m args below meth c s₁ B hml hP _
    have hh0 : s₁.heap = s.heap := by rw [B.state]; rfl
    have ht : ∀ x ∈ c.exceptionTable.toList, False := by
      obtain ⟨meth9, c9, q1, q2, -, -, -, -, q7, -⟩ := Cond.code_spec B.named (atoms_spec (ws := ws) B.pre _ (by rw [hw]; exact List.mem_cons_self))
      cases Option.some.inj (q1.symm.trans B.method)
      cases Option.some.inj (q2.symm.trans (Stand.of_body B).code)
      intro x hx
      rw [Array.isEmpty_iff.mp q7] at hx
      cases hx
    obtain ⟨t, a1, o, b1, b2, b3⟩ := body p e s m args below meth c s₁ B hml ht hP s₁ hh0 (Stand.of_body B)
    exact ⟨t, o, a1, b1, b2, b3⟩
theorem Cal.of {l : Launch} {D : va_G} {cy : Nat → ClassId} {μ : mth} {d mc ms : Nat} {av : List Value} {h : hp} {P : Option Value → hp → Prop} {X : String → hp → Prop} (hy : plainFor μ.1 = true) (hn : (lg_sl av).length ≤ μ.2.2.1) (hl : l.stackTraces = false)
    (k : AW l D cy μ d mc ms P X 0 (lv_args 0 av) [] h) : Cal l D cy μ d mc ms av h P X := by
  intro sz L
  refine vxF (cc := μ.2.1) (maxL := μ.2.2.1) (ret := μ.2.2.2) hy rfl ?_
  intro p e s m args below meth c s₁ B hml hex hv
  obtain ⟨rfl, hsz, ⟨hP, hD0, hdom⟩, hK, hN, hZ, hZs⟩ := hv
  have hts := atoms_spec (ws := .code μ.1 μ.2.1 μ.2.2.1 μ.2.2.2 :: TT) B.pre
  subst hsz
  have hown : s.vm.findClass μ.1.cls = some m.cls := findClass_of_methodNamed B.named
  have hD := hD0.self (sz := s.heap.size)
  have hle := lv_entry av (n := μ.2.2.1) hn
  rw [lg_entry_eq]
  exact k p e _ s m _ below meth c L _ s.heap [] 0 0 mc ms _ ⟨B.exec, B.bytes, B.returns, hml, hown, fun w h => hts w (List.mem_cons_of_mem _ h), hK, B.notSynchronized, hex, (name_of_methodNamed B.named B.method).1, Nat.le_refl _, Nat.le_refl _, hN, hl, hZs⟩ ⟨hP, hD, hdom⟩ va_S.rf (fun q h => Or.inr h) hZ (by omega) (by omega) (Nat.le_refl _) (Nat.le_refl _) hle
